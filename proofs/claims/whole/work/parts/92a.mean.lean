/-! OWN: the mean height: a sum of doubles that are whole numbers -/
theorem dsum_ok (s : Nat) (hs : s < 2305) (v : Nat) (hv : v < 10) : FP.dadd (FP.i2d (nI s)) (FP.i2d (nI v)) = FP.i2d (nI (s + v)) := by
  by_cases h0 : s + v = 0
  · have h1 : s = 0 := by omega
    have h2 : v = 0 := by omega
    subst h1; subst h2; decide +kernel
  · have e1 := FP.Core.i2d_int (nI s)
    have e2 := FP.Core.i2d_int (nI v)
    have e3 := FP.Core.i2d_int (nI (s + v))
    rw [nI_toInt (by omega)] at e1 e2 e3
    have e4 := FP.Core.dadd_int e1 e2 (by omega)
    exact FP.Core.dint_unique (i := ((s + v : Nat) : Int)) (by omega) (by rw [show ((s + v : Nat) : Int) = (s : Int) + (v : Int) by omega]; exact e4) e3
theorem dsum_n : ∀ n, n < 2305 → vf_n64 (FP.i2d (nI n)) := by
  unfold vf_n64; decide +kernel
theorem d0_ok : (0 : UInt64) = FP.i2d (nI 0) := by decide +kernel
theorem mean_cmp : ∀ n, n < 2305 → Op.cmpValue (FP.dcmp (FP.ddiv (FP.i2d (nI n)) 4643211215818981376) (FP.ddiv (FP.i2d (nI n)) 4643211215818981376)) CmpOp.l = 0 := by
  decide +kernel

set_option maxHeartbeats 4000000 in
set_option maxRecDepth 100000 in
theorem c_X4_meanHeight (l : Launch) (G : gG) (mq : Nat) (an : Nat) (ap : Nat) (st : Nat) (ak : Nat) (ai : Nat) (ad : Nat) (ac : Nat) (aw : Nat) (mn : Nat) (at_ : Nat) (le : Nat) (th : Nat) (sp : Nat) (ao : Nat) (tm : Nat) (nw : Nat → Nat) (hhe : ∀ k, k < 256 → nw (256 + k) < 10) : gMd (S := Unit) l yX4_meanHeight wsX4_meanHeight { frames := 0, cells := 0, slots := 0, locals := 0 } G [.ref mq] [(mq, .inr (4, [.ref an, .ref ap, .int (nI st), .ref ak, .ref ai, .ref ad, .ref ac, .ref aw, .int (nI mn), .ref at_, .int (nI le), .int (nI th), .int (nI sp), .ref ao, .int (nI tm)])), (an, .inl (G.2.1, 525, .inl (gn nw)))] (fun (r : UInt64) (u : Unit) => (r = FP.ddiv (FP.i2d (nI (sSumH (hM nw) 256))) 4643211215818981376)) (fun u => [(mq, .inr (4, [.ref an, .ref ap, .int (nI st), .ref ak, .ref ai, .ref ad, .ref ac, .ref aw, .int (nI mn), .ref at_, .int (nI le), .int (nI 0), .int (nI sp), .ref ao, .int (nI tm)])), (an, .inl (G.2.1, 525, .inl (gn nw)))]) 0 0 := by
  refine gMet_mk (cc := cX4_meanHeight) (nL := 4) (ret := (some .double)) (Qc := fun A => va_Qd (S := Unit) (fun (r : UInt64) (u : Unit) => (r = FP.ddiv (FP.i2d (nI (sSumH (hM nw) 256))) 4643211215818981376)) (gB G A (fun (u : Unit) => [(mq, .inr (4, [.ref an, .ref ap, .int (nI st), .ref ak, .ref ai, .ref ad, .ref ac, .ref aw, .int (nI mn), .ref at_, .int (nI le), .int (nI 0), .int (nI sp), .ref ao, .int (nI tm)])), (an, .inl (G.2.1, 525, .inl (gn nw)))])) A) (by decide) rfl (Nat.le_of_ble_eq_true rfl) ?_
  intro p e s m args below meth c A F ls hl hP hD hS
  have hx := F.1
  have hb := F.2.1
  have hts := F.2.2.2.2.2.2.1
  have hown : s.vm.findClass RX4 = some m.cls := F.2.2.2.2.2.1
  have hKK := F.2.2.2.2.2.2.2.2.1
  have hK := hKK.1
  have hin0 := F.2.2.2.2.2.2.2.1
  have hi4 : ∀ w ∈ u_ws RX4 TX4 15, w ∈ wsX4_meanHeight := by decide +kernel
  have hl : lv_has ls 4 [(0, .ref mq)] := hl
  generalize hH : s.heap = H at hP ⊢
  have hS : va_S A s.heap H [] := by rw [← hH]; exact va_S.rf
  generalize hLo : ([] : List Loc) = locs at hS ⊢
  refine lv_aload_n hx hb dX4_meanHeight_0 rfl (lv_at hl 0 rfl) ?_
  refine lv_iconst (v := nI 0) hx hb dX4_meanHeight_1 (by decide) ?_
  refine va_put (D := G.1) (ci := 4) (v := .int (nI 0)) (ty := .int) (C := RX4) (T := TX4) (N := 15) hx hb hts hi4 tyX4 tyX4_ok nmX4 hown hK hP hD hS 0 rfl rfl 11 (by decide) (hts (.fieldLink RX4 37 "LandQuartersModel" "thrown" "I") (by decide +kernel)) (fun _ h9 => h9) rfl (by decide +kernel) (rfl) (rfl) (Nat.le_of_ble_eq_true rfl) dX4_meanHeight_2 (fun H locs hP hD hS => ?_)
  have hP : va_P G.1 vwCl [(mq, .inr (4, [.ref an, .ref ap, .int (nI st), .ref ak, .ref ai, .ref ad, .ref ac, .ref aw, .int (nI mn), .ref at_, .int (nI le), .int (nI 0), .int (nI sp), .ref ao, .int (nI tm)])), (an, .inl (G.2.1, 525, .inl (gn nw)))] H := hP
  have hD : va_D A [(mq, .inr (4, [.ref an, .ref ap, .int (nI st), .ref ak, .ref ai, .ref ad, .ref ac, .ref aw, .int (nI mn), .ref at_, .int (nI le), .int (nI 0), .int (nI sp), .ref ao, .int (nI tm)])), (an, .inl (G.2.1, 525, .inl (gn nw)))] := hD
  refine lv_dconst0 hx hb dX4_meanHeight_5 ?_
  refine W.eq (g2 := F0 m 6 ls [.double 0]) (by rfl) ?_
  refine lv_dstore_n (lv' := [(1, .double 0), (0, .ref mq)]) hx hb dX4_meanHeight_6 rfl hl (by decide) rfl (fun ls hl => ?_)
  refine lv_iconst (v := nI 0) hx hb dX4_meanHeight_7 (by decide) ?_
  refine lv_istore_n (lv' := [(3, .int (nI 0)), (1, .double 0), (0, .ref mq)]) hx hb dX4_meanHeight_8 rfl hl (by decide) rfl (fun ls hl => ?_)
  have L9 : ∀ (fuel : Nat) (k : Nat), 256 - k < fuel → (k ≤ 256) → ∀ (H : Heap) (locs : List Loc), va_P G.1 vwCl [(mq, .inr (4, [.ref an, .ref ap, .int (nI st), .ref ak, .ref ai, .ref ad, .ref ac, .ref aw, .int (nI mn), .ref at_, .int (nI le), .int (nI 0), .int (nI sp), .ref ao, .int (nI tm)])), (an, .inl (G.2.1, 525, .inl (gn nw)))] H → va_D A [(mq, .inr (4, [.ref an, .ref ap, .int (nI st), .ref ak, .ref ai, .ref ad, .ref ac, .ref aw, .int (nI mn), .ref at_, .int (nI le), .int (nI 0), .int (nI sp), .ref ao, .int (nI tm)])), (an, .inl (G.2.1, 525, .inl (gn nw)))] → va_S A s.heap H locs → ∀ (ls : Array Slot), lv_has ls 4 [(3, .int (nI k)), (1, .double (FP.i2d (nI (sSumH (hM nw) k)))), (0, .ref mq)] → W p l e ({ frames := 0, cells := 0, slots := 0, locals := 0 } : Room) s m args below meth c H locs 0 0 (MQ below (va_Qd (S := Unit) (fun (r : UInt64) (u : Unit) => (r = FP.ddiv (FP.i2d (nI (sSumH (hM nw) 256))) 4643211215818981376)) (gB G A (fun (u : Unit) => [(mq, .inr (4, [.ref an, .ref ap, .int (nI st), .ref ak, .ref ai, .ref ad, .ref ac, .ref aw, .int (nI mn), .ref at_, .int (nI le), .int (nI 0), .int (nI sp), .ref ao, .int (nI tm)])), (an, .inl (G.2.1, 525, .inl (gn nw)))])) A) args s 0 0 A) (F0 m 9 ls []) := by
    intro fuel
    induction fuel with
    | zero => intro k hme; exact absurd hme (Nat.not_lt_zero _)
    | succ fuel ih9 =>
      intro k hme hk H locs hP hD hS ls hl
      refine lv_iload_n hx hb dX4_meanHeight_9 rfl (lv_at hl 0 rfl) ?_
      refine lv_sipush (v := nI 256) hx hb dX4_meanHeight_10 (by decide) ?_
      refine gIcmp_ge (a := k) (b := 256) (tgt := 36) hx hb dX4_meanHeight_13 (by decide) (by omega) (by omega) (fun c13 => ?_) (fun c13 => ?_)
      · skip
        refine lv_dload_n hx hb dX4_meanHeight_36 rfl (lv_at hl 1 rfl) ?_
        refine lv_ldc2d (own := RX4) (v := 4643211215818981376) hx hb hown (hts (.constantDouble RX4 191 (4643211215818981376)) (by decide +kernel)) dX4_meanHeight_37 ?_
        refine lv_ddiv hx hb dX4_meanHeight_40 (by exact mean_n _ (by have := sSumM_le hhe k (by omega); omega)) ?_
        exact gRd F dX4_meanHeight_41 () (by rw [show k = 256 by omega]) hP hD hS (Nat.le_refl _) (Nat.le_refl _)
      refine lv_dload_n hx hb dX4_meanHeight_16 rfl (lv_at hl 1 rfl) ?_
      refine lv_aload_n hx hb dX4_meanHeight_17 rfl (lv_at hl 2 rfl) ?_
      refine va_get (D := G.1) (ci := 4) (v := .ref an) (C := RX4) (T := TX4) (N := 15) hx hb hts hi4 hown hK hP 0 rfl rfl 0 (by decide) (hts (.fieldLink RX4 7 "LandQuartersModel" "now" "[I") (by decide +kernel)) (fun _ h9 => h9) rfl dX4_meanHeight_18 ?_
      refine lv_sipush (v := nI 256) hx hb dX4_meanHeight_21 (by decide) ?_
      refine lv_iload_n hx hb dX4_meanHeight_24 rfl (lv_at hl 0 rfl) ?_
      refine gIadd (a := 256) (b := k) hx hb dX4_meanHeight_25 ?_
      refine gNald (k := 256 + k) hx hb hK hP 1 0 rfl rfl (by omega) (by first | decide | omega) dX4_meanHeight_26 ?_
      refine lv_i2d hx hb dX4_meanHeight_27 ?_
      refine lv_dadd hx hb dX4_meanHeight_28 (by rw [dsum_ok _ (by have := sSumM_le hhe k (by omega); omega) _ (hhe k (by omega))]; exact dsum_n _ (by have := sSumM_le hhe k (by omega); have := hhe k (by omega); omega)) ?_
      refine W.eq (g2 := F0 m 29 ls [.double (FP.i2d (nI (sSumH (hM nw) (k + 1))))]) (by rw [show (FP.dadd (FP.i2d (nI (sSumH (hM nw) k))) (FP.i2d (nI (nw (256 + k)))) : UInt64) = FP.i2d (nI (sSumH (hM nw) (k + 1))) from by exact dsum_ok _ (by have := sSumM_le hhe k (by omega); omega) _ (hhe k (by omega))]) ?_
      refine lv_dstore_n (lv' := [(1, .double (FP.i2d (nI (sSumH (hM nw) (k + 1))))), (3, .int (nI k)), (0, .ref mq)]) hx hb dX4_meanHeight_29 rfl hl (by decide) rfl (fun ls hl => ?_)
      refine lv_iinc (v := nI (k + 1)) (lv' := [(3, .int (nI (k + 1))), (1, .double (FP.i2d (nI (sSumH (hM nw) (k + 1))))), (0, .ref mq)]) hx hb dX4_meanHeight_30 hl (k := 1) rfl (gInc_p _ rfl) (by decide) rfl (fun ls hl => ?_)
      refine lv_goto (tgt := 9) hx hb dX4_meanHeight_33 (by decide) ?_
      have hl : lv_has ls 4 [(3, .int (nI (k + 1))), (1, .double (FP.i2d (nI (sSumH (hM nw) (k + 1))))), (0, .ref mq)] := lv_sub hl [0, 1, 2] rfl
      have hy_1 : (k + 1) ≤ 256 := by omega
      exact ih9 (k + 1) (by omega) hy_1 H locs hP hD hS ls hl
  have hl : lv_has ls 4 [(3, .int (nI 0)), (1, .double 0), (0, .ref mq)] := lv_sub hl [0, 1, 2] rfl
  have hle : (.double 0 : Value) = .double (FP.i2d (nI (sSumH (hM nw) 0))) := by first | exact congrArg Value.double d0_ok | rfl
  rw [hle] at hl
  have hy_2 : 0 ≤ 256 := by omega
  exact L9 _ 0 (Nat.lt_succ_self _) hy_2 H locs hP hD hS ls hl

set_option maxHeartbeats 4000000 in
set_option maxRecDepth 100000 in
theorem r_meanHeight (l : Launch) (G : gG) (mq : Nat) {V : va_W} {ow : Nat → Nat} {he : Nat → Nat} {co : Nat → Nat} {pr : Nat} {tx : Nat} {sa : Nat} {fl : Nat} {lo : Nat} {SL : List LdS} {K : Nat → Option LdS} {bu : Nat → Nat} {bl : Nat} {th : Nat}  (hI : rfI G mq V ow he co pr tx sa fl lo SL K bu bl th) (hS : spI ow he co pr tx SL K bu bl)  : gMd (S := va_W) l yX4_meanHeight wsX4_meanHeight { frames := 0, cells := 0, slots := 0, locals := 0 } G [.ref mq] V (fun (r : UInt64) (u : va_W) => r = FP.ddiv (FP.i2d (nI (sSumH he 256))) 4643211215818981376 ∧ rfI G mq u ow he co pr tx sa fl lo SL K bu bl 0) (fun u => u) 0 0 := by
  obtain ⟨rd, rs, nw, pa, ke, ik, as_, pC, pW, to, hW, hp, hpa9, hke⟩ := hI
  subst hW
  have hf := rw_f hp ⟨hS.1.1, hS.1.2.1, hS.1.2.2.1⟩ hS.1.2.2.2.1 hS.1.2.2.2.2
  have hc := c_X4_meanHeight l G mq (rd 0) (rd 1) SL.length (rd 2) (rd 3) (rd 4) (rd 5) (rd 6) (rs 0) (rd 7) bl th (rs 1) (rd 8) (rs 2) nw (hf.2.1)
  refine gMd_fr (wr := [(rd 1, .inl (G.2.1, 3150, .inl (gn pa))), (rd 2, .inl (G.2.1, 1050, .inl (gn ke))), (rd 3, .inl (G.2.1, 2, .inl (gn ik))), (rd 4, .inl (G.2.1, 525, .inl (gn as_))), (rd 5, .inl (G.2.1, 256, .inl (gn pC))), (rd 6, .inl (G.2.1, 256, .inl (gn pW))), (rd 7, .inl (G.2.1, 60, .inl (gn bu))), (rd 8, .inl (G.2.1, 186, .inl (fun k => zI (to k))))]) hc (gPx (ws := [(mq, .inr (4, [.ref (rd 0), .ref (rd 1), .int (nI SL.length), .ref (rd 2), .ref (rd 3), .ref (rd 4), .ref (rd 5), .ref (rd 6), .int (nI (rs 0)), .ref (rd 7), .int (nI bl), .int (nI th), .int (nI (rs 1)), .ref (rd 8), .int (nI (rs 2))])), (rd 0, .inl (G.2.1, 525, .inl (gn nw))), (rd 1, .inl (G.2.1, 3150, .inl (gn pa))), (rd 2, .inl (G.2.1, 1050, .inl (gn ke))), (rd 3, .inl (G.2.1, 2, .inl (gn ik))), (rd 4, .inl (G.2.1, 525, .inl (gn as_))), (rd 5, .inl (G.2.1, 256, .inl (gn pC))), (rd 6, .inl (G.2.1, 256, .inl (gn pW))), (rd 7, .inl (G.2.1, 60, .inl (gn bu))), (rd 8, .inl (G.2.1, 186, .inl (fun k => zI (to k))))]) (ws' := ([(mq, .inr (4, [.ref (rd 0), .ref (rd 1), .int (nI SL.length), .ref (rd 2), .ref (rd 3), .ref (rd 4), .ref (rd 5), .ref (rd 6), .int (nI (rs 0)), .ref (rd 7), .int (nI bl), .int (nI th), .int (nI (rs 1)), .ref (rd 8), .int (nI (rs 2))])), ((rd 0), .inl (G.2.1, 525, .inl (gn nw)))] ++ [(rd 1, .inl (G.2.1, 3150, .inl (gn pa))), (rd 2, .inl (G.2.1, 1050, .inl (gn ke))), (rd 3, .inl (G.2.1, 2, .inl (gn ik))), (rd 4, .inl (G.2.1, 525, .inl (gn as_))), (rd 5, .inl (G.2.1, 256, .inl (gn pC))), (rd 6, .inl (G.2.1, 256, .inl (gn pW))), (rd 7, .inl (G.2.1, 60, .inl (gn bu))), (rd 8, .inl (G.2.1, 186, .inl (fun k => zI (to k))))] : va_W)) [0, 1, 2, 3, 4, 5, 6, 7, 8, 9] rfl (n := 10) rfl (by decide)) ?_
  rintro r _ hr
  exact ⟨([(mq, .inr (4, [.ref (rd 0), .ref (rd 1), .int (nI SL.length), .ref (rd 2), .ref (rd 3), .ref (rd 4), .ref (rd 5), .ref (rd 6), .int (nI (rs 0)), .ref (rd 7), .int (nI bl), .int (nI 0), .int (nI (rs 1)), .ref (rd 8), .int (nI (rs 2))])), (rd 0, .inl (G.2.1, 525, .inl (gn nw))), (rd 1, .inl (G.2.1, 3150, .inl (gn pa))), (rd 2, .inl (G.2.1, 1050, .inl (gn ke))), (rd 3, .inl (G.2.1, 2, .inl (gn ik))), (rd 4, .inl (G.2.1, 525, .inl (gn as_))), (rd 5, .inl (G.2.1, 256, .inl (gn pC))), (rd 6, .inl (G.2.1, 256, .inl (gn pW))), (rd 7, .inl (G.2.1, 60, .inl (gn bu))), (rd 8, .inl (G.2.1, 186, .inl (fun k => zI (to k))))] : va_W), ⟨hr.trans (by rw [sSumH_cg (he := he) (he' := hM nw) hp.2.1 256 (Nat.le_refl _)]), ⟨rd, (fun i_ => [(rs 0), (rs 1), (rs 2)].getD i_ (rs 0)), nw, pa, ke, ik, as_, pC, pW, to, rfl, (hp), (hpa9), (hke)⟩⟩, gPx (ws := [(mq, .inr (4, [.ref (rd 0), .ref (rd 1), .int (nI SL.length), .ref (rd 2), .ref (rd 3), .ref (rd 4), .ref (rd 5), .ref (rd 6), .int (nI (rs 0)), .ref (rd 7), .int (nI bl), .int (nI 0), .int (nI (rs 1)), .ref (rd 8), .int (nI (rs 2))])), (rd 0, .inl (G.2.1, 525, .inl (gn nw))), (rd 1, .inl (G.2.1, 3150, .inl (gn pa))), (rd 2, .inl (G.2.1, 1050, .inl (gn ke))), (rd 3, .inl (G.2.1, 2, .inl (gn ik))), (rd 4, .inl (G.2.1, 525, .inl (gn as_))), (rd 5, .inl (G.2.1, 256, .inl (gn pC))), (rd 6, .inl (G.2.1, 256, .inl (gn pW))), (rd 7, .inl (G.2.1, 60, .inl (gn bu))), (rd 8, .inl (G.2.1, 186, .inl (fun k => zI (to k))))]) (ws' := ([(mq, .inr (4, [.ref (rd 0), .ref (rd 1), .int (nI SL.length), .ref (rd 2), .ref (rd 3), .ref (rd 4), .ref (rd 5), .ref (rd 6), .int (nI (rs 0)), .ref (rd 7), .int (nI bl), .int (nI 0), .int (nI (rs 1)), .ref (rd 8), .int (nI (rs 2))])), ((rd 0), .inl (G.2.1, 525, .inl (gn nw)))] ++ [(rd 1, .inl (G.2.1, 3150, .inl (gn pa))), (rd 2, .inl (G.2.1, 1050, .inl (gn ke))), (rd 3, .inl (G.2.1, 2, .inl (gn ik))), (rd 4, .inl (G.2.1, 525, .inl (gn as_))), (rd 5, .inl (G.2.1, 256, .inl (gn pC))), (rd 6, .inl (G.2.1, 256, .inl (gn pW))), (rd 7, .inl (G.2.1, 60, .inl (gn bu))), (rd 8, .inl (G.2.1, 186, .inl (fun k => zI (to k))))] : va_W)) [0, 1, 2, 3, 4, 5, 6, 7, 8, 9] rfl (n := 10) rfl (by decide)⟩

set_option maxHeartbeats 4000000 in
set_option maxRecDepth 100000 in
theorem cs_meanHeight {p : Program} {l : Launch} {e : Env} {s : State} {m : MethodId} {args : Array Value} {below : List Frame} {meth : Method} {c : Code} {H : Heap} {locs : List Loc} {cells slots : Nat} {Q : State → Prop} {G : gG} {A : Nat → Prop} {b L i lq mq ol : Nat} {xs : Nat → Int32} {ls : Array Slot} (F : lwF p l s m args meth c G A b L xs) (hi : i + 5 ≤ L) (hc : cells + 4 ≤ 601024) (hs : slots + 528 ≤ 7293034) (hI : lwI s G A lq mq ol b i H locs ls)
    (kk : ∀ (H : Heap) (locs : List Loc) (ls : Array Slot), lwI s G A lq mq ol b i H locs ls → W p l e room_1 s m args below meth c H locs (cells + 4) (slots + 528) Q (F0 m 2516 ls [])) : W p l e room_1 s m args below meth c H locs cells slots Q (F0 m 2475 ls []) := by
  obtain ⟨F1, hZ, hX, hbl, hbA, hL, hl9⟩ := F
  obtain ⟨wv, vv, f, S, th, hC, hR, hSp, hP, hD, hS, hl⟩ := hI
  have hx := F1.1
  have hb := F1.2.1
  have hKK := F1.2.2.2.2.2.2.2.2.1
  have hw := k_meanHeight l G lq hC hSp
  have hm := r_meanHeight l G mq hR hSp
  have hsum := sSumH_le S.1.2.1 hSp.1.2.1 256
  refine lv_aload_n hx hb dL_law_2475 rfl (lv_at hl 1 rfl) ?_
  obtain ⟨fs1, hcl⟩ := cl_recv hC
  obtain ⟨fs2, hrf⟩ := rf_recv hR
  have hP : va_P G.1 vwCl (wv ++ ([outc G ol f] ++ vv)) H := by rw [← List.append_assoc]; exact hP
  have hD : va_D A (wv ++ ([outc G ol f] ++ vv)) := by rw [← List.append_assoc]; exact hD
  refine gCd F1 (gRunV (own := RL) (C := RX3) (ci := 3) (bytes := cX3_meanHeight) (n := 0) (As := []) (rest := []) F1 (hw H.size) gL_law_X3_meanHeight rfl rfl rfl rfl (by decide +kernel) rfl ⟨Nat.le_of_ble_eq_true rfl, Nat.le_of_ble_eq_true rfl⟩ hP hD (lit := wv) (wt := [outc G ol f] ++ vv) (wc := wv) (isC := List.range wv.length) (gRange _) (gRange_nd _) rfl hcl rfl hl.1 (Nat.le_of_ble_eq_true rfl) dL_law_2476 ⟨by show cells + 0 ≤ 601024; omega, by show slots + 0 ≤ 7293034; omega⟩) hP hD hS (lit := wv) (wt := [outc G ol f] ++ vv) (wc := wv) (isC := List.range wv.length) (wr := []) (isR := []) (gRange _) rfl rfl (fun _ h_ => by cases h_) (fun r u H locs hp hP hD hS => ?_)
  obtain ⟨hr1, hC2⟩ := hp
  have hP : va_P G.1 vwCl ((u ++ [outc G ol f]) ++ vv) H := by rw [List.append_assoc]; exact hP
  have hD : va_D A ((u ++ [outc G ol f]) ++ vv) := by rw [List.append_assoc]; exact hD
  have hP := gPperm List.perm_append_comm hP
  have hD := gDperm List.perm_append_comm hD
  refine lv_dstore (lv' := [(5, .double r), (0, .ref b), (1, .ref lq), (2, .ref mq), (3, .ref ol), (4, .int (nI i))]) hx hb dL_law_2479 hl (by decide) rfl (fun ls hl => ?_)
  refine lv_aload_n hx hb dL_law_2481 rfl (lv_at hl 3 rfl) ?_
  refine gCd F1 (gRunV (own := RL) (C := RX4) (ci := 4) (bytes := cX4_meanHeight) (n := 0) (As := []) (rest := []) F1 (hm H.size) gL_law_X4_meanHeight rfl rfl rfl rfl (by decide +kernel) rfl ⟨Nat.le_of_ble_eq_true rfl, Nat.le_of_ble_eq_true rfl⟩ hP hD (lit := vv) (wt := u ++ [outc G ol f]) (wc := vv) (isC := List.range vv.length) (gRange _) (gRange_nd _) rfl hrf rfl hl.1 (Nat.le_of_ble_eq_true rfl) dL_law_2482 ⟨by show cells + 0 + 0 ≤ 601024; omega, by show slots + 0 + 0 ≤ 7293034; omega⟩) hP hD hS (lit := vv) (wt := u ++ [outc G ol f]) (wc := vv) (isC := List.range vv.length) (wr := []) (isR := []) (gRange _) rfl rfl (fun _ h_ => by cases h_) (fun r2 u2 H locs hp2 hP hD hS => ?_)
  obtain ⟨hr2, hR2⟩ := hp2
  have hP : va_P G.1 vwCl (u2 ++ (u ++ [outc G ol f])) H := hP
  have hD : va_D A (u2 ++ (u ++ [outc G ol f])) := hD
  refine lv_dstore (lv' := [(7, .double r2), (5, .double r), (0, .ref b), (1, .ref lq), (2, .ref mq), (3, .ref ol), (4, .int (nI i))]) hx hb dL_law_2485 hl (by decide) rfl (fun ls hl => ?_)
  refine lv_dload hx hb dL_law_2487 (lv_at hl 1 rfl) ?_
  refine lv_dload hx hb dL_law_2489 (lv_at hl 0 rfl) ?_
  refine lv_dcmp hx hb dL_law_2491 ?_
  have hc9 : Op.cmpValue (FP.dcmp r r2) CmpOp.l = 0 := by rw [hr1, hr2]; exact mean_cmp _ (by omega)
  rw [hc9]
  refine lv_if_eq (tgt := 2513) hx hb dL_law_2492 (by decide) (fun _ => ?_) (fun c8 => absurd rfl c8)
  refine lv_goto (tgt := 2516) hx hb dL_law_2513 (by decide) ?_
  refine W.widen (k := cells + 4) (n := slots + 528) (by omega) (by omega) ?_
  exact kk H locs ls ⟨u, u2, f, S, 0, hC2, hR2, hSp, gPperm List.perm_append_comm hP, gDperm List.perm_append_comm hD, hS, lv_sub hl [2, 3, 4, 5, 6] rfl⟩
