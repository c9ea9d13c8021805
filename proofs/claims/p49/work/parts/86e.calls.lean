set_option maxRecDepth 100000 in
set_option maxHeartbeats 4000000 in
theorem x_0_9_0_0_0_0 (l : Launch) (G : gG) (lq : Nat) (SL : List LdS) (K : Nat → Option LdS) (bu : Nat → Nat) (bl : Nat) (hS9 : spS (LN0, SL, K, bu, bl)) (hSL : SL = []) (hl9 : l.stackTraces = false) : LW l G lq yL_call wsL_call { frames := 9, cells := 4, slots := 528, locals := 230 } [.int (nI 9), .int (nI 0), .int (nI 0), .int (nI 0), .int (nI 0)] (LN0, SL, K, bu, bl) (zI (-2013)) (LN0, SL, K, bu, bl) 4 528 :=
  call_9 l G lq (LN0, SL, K, bu, bl) (LN0, SL, K, bu, bl) (nI 0) (nI 0) (nI 0) (nI 0) (-2013) (DoV.x (KX_undo l G lq (LN0, SL, K, bu, bl)  hS9 hSL hl9) ⟨rfl, rfl, by decide, by decide, by decide, by decide⟩ exS)
set_option maxRecDepth 100000 in
set_option maxHeartbeats 4000000 in
theorem x_0_11_1_0_0_0 (l : Launch) (G : gG) (lq : Nat) (SL : List LdS) (K : Nat → Option LdS) (bu : Nat → Nat) (bl : Nat) (hS9 : spS (LN0, SL, K, bu, bl)) (hK : K 1 = none) (hl9 : l.stackTraces = false) : LW l G lq yL_call wsL_call { frames := 9, cells := 4, slots := 528, locals := 230 } [.int (nI 11), .int (nI 1), .int (nI 0), .int (nI 0), .int (nI 0)] (LN0, SL, K, bu, bl) (zI (-2013)) (LN0, SL, K, bu, bl) 4 528 :=
  call_11 l G lq (LN0, SL, K, bu, bl) (LN0, SL, K, bu, bl) (nI 1) (nI 0) (nI 0) (nI 0) (-2013) (DoV.x (KX2_goBack l G lq (LN0, SL, K, bu, bl) 1 hS9 (by decide) hK hl9) ⟨rfl, rfl, by decide, by decide, by decide, by decide⟩ exS)
set_option maxRecDepth 100000 in
set_option maxHeartbeats 4000000 in
theorem q_0_plots (l : Launch) (G : gG) (lq : Nat) (SL : List LdS) (K : Nat → Option LdS) (bu : Nat → Nat) (bl : Nat) (hS9 : spS (LN0, SL, K, bu, bl)) : LQ l G lq yX3_plots wsX3_plots { frames := 1, cells := 0, slots := 0, locals := 20 } [] (LN0, SL, K, bu, bl) (nI 1) (LN0, SL, K, bu, bl) 0 0 :=
  (K_plots l G lq (LN0, SL, K, bu, bl)  hS9 ).r (congrArg nI (pl_tT0.1))
set_option maxRecDepth 100000 in
set_option maxHeartbeats 4000000 in
theorem i_0_0 (l : Launch) (G : gG) (lq : Nat) (SL : List LdS) (K : Nat → Option LdS) (bu : Nat → Nat) (bl : Nat) (hS9 : spS (LN0, SL, K, bu, bl)) : LW l G lq yL_is wsL_is { frames := 3, cells := 0, slots := 0, locals := 65 } [.int (nI 0), .int (nI 0), .int (nI 0), .int (nI 16), .int (nI 0)] (LN0, SL, K, bu, bl) (nI 1) (LN0, SL, K, bu, bl) 0 0 :=
  c_is l G lq (LN0, SL, K, bu, bl) 0 0 0 16 0 hS9 (show 0 < cnt (tb tT0) from by rw [pl_tT0.1]; decide) (((pl_tT0.2 0 (by decide)).2.1).trans (by decide)) (((pl_tT0.2 0 (by decide)).2.2.1).trans (by decide)) (((pl_tT0.2 0 (by decide)).2.2.2.1).trans (by decide)) (((pl_tT0.2 0 (by decide)).2.2.2.2).trans (by decide)) (pl_tT0.rk (x := 0 + 16 - 1) (y := 0) (j := 0) (by decide) (by decide) (by decide)) (by decide) (by decide) (by decide)
set_option maxRecDepth 100000 in
set_option maxHeartbeats 4000000 in
theorem q_0_coinsOf_0 (l : Launch) (G : gG) (lq : Nat) (SL : List LdS) (K : Nat → Option LdS) (bu : Nat → Nat) (bl : Nat) (hS9 : spS (LN0, SL, K, bu, bl)) : LQ l G lq yX3_coinsOf wsX3_coinsOf { frames := 2, cells := 0, slots := 0, locals := 41 } [.int (nI 0)] (LN0, SL, K, bu, bl) (nI 0) (LN0, SL, K, bu, bl) 0 0 :=
  (K_coinsOf l G lq (LN0, SL, K, bu, bl) 0 hS9 (by decide)).r (congrArg nI ((by decide +kernel : tbC tC0 0 = 0)))
set_option maxRecDepth 100000 in
set_option maxHeartbeats 4000000 in
theorem q_0_coinsOf_7 (l : Launch) (G : gG) (lq : Nat) (SL : List LdS) (K : Nat → Option LdS) (bu : Nat → Nat) (bl : Nat) (hS9 : spS (LN0, SL, K, bu, bl)) : LQ l G lq yX3_coinsOf wsX3_coinsOf { frames := 2, cells := 0, slots := 0, locals := 41 } [.int (nI 7)] (LN0, SL, K, bu, bl) (nI 100) (LN0, SL, K, bu, bl) 0 0 :=
  (K_coinsOf l G lq (LN0, SL, K, bu, bl) 7 hS9 (by decide)).r (congrArg nI ((by decide +kernel : tbC tC0 7 = 100)))
set_option maxRecDepth 100000 in
set_option maxHeartbeats 4000000 in
theorem f_0_0 (l : Launch) (G : gG) (lq : Nat) (SL : List LdS) (K : Nat → Option LdS) (bu : Nat → Nat) (bl : Nat) (hS9 : spS (LN0, SL, K, bu, bl)) : LW l G lq yL_fences wsL_fences { frames := 6, cells := 0, slots := 0, locals := 137 } [.int (nI 0), .int (nI 0), .int (zI (-1))] (LN0, SL, K, bu, bl) (nI 1) (LN0, SL, K, bu, bl) 0 0 :=
  c_fences l G lq (LN0, SL, K, bu, bl) 0 0 (-1) hS9 (by decide) ((pl_tT0.fn 0).trans (by decide +kernel)) (by decide +kernel : fbc (tb tT0) 0 8 = 0) (by decide +kernel : (nnb (tb tT0) 0 8).1 = -1)
set_option maxRecDepth 100000 in
set_option maxHeartbeats 4000000 in
theorem q_0_meanHeight (l : Launch) (G : gG) (lq : Nat) (SL : List LdS) (K : Nat → Option LdS) (bu : Nat → Nat) (bl : Nat) (hS9 : spS (LN0, SL, K, bu, bl)) : LD l G lq yX3_meanHeight wsX3_meanHeight { frames := 1, cells := 0, slots := 0, locals := 22 } [] (LN0, SL, K, bu, bl) 4617315517961601024 0 0 :=
  (K_meanHeight l G lq (LN0, SL, K, bu, bl) hS9).r (show FP.ddiv (FP.i2d (nI (sSumH (tbH tH0) 256))) 4643211215818981376 = 4617315517961601024 from by rw [(by decide +kernel : sSumH (tbH tH0) 256 = 1280)]; decide +kernel)
set_option maxRecDepth 100000 in
set_option maxHeartbeats 4000000 in
theorem q_0_largestPlotOf_1 (l : Launch) (G : gG) (lq : Nat) (SL : List LdS) (K : Nat → Option LdS) (bu : Nat → Nat) (bl : Nat) (hS9 : spS (LN0, SL, K, bu, bl)) : LQ l G lq yX3_largestPlotOf wsX3_largestPlotOf { frames := 2, cells := 0, slots := 0, locals := 40 } [.int (nI 1)] (LN0, SL, K, bu, bl) (zI (-1)) (LN0, SL, K, bu, bl) 0 0 :=
  (K_largestPlotOf l G lq (LN0, SL, K, bu, bl) 1 hS9 (by decide)).r (congrArg zI ((pl_tT0.lg 1).trans (by decide +kernel)))
set_option maxRecDepth 100000 in
set_option maxHeartbeats 4000000 in
theorem tx_0 : txN (lf [0]) (lf [0]) (lf [16]) 1 1 (tb tT0, lf [0], tbC tC0, 0, 0) 7 = (tb tT0, lf [0], tbC tC0, 0, 0) := by
  have h0 : txN (lf [0]) (lf [0]) (lf [16]) 1 1 (tb tT0, lf [0], tbC tC0, 0, 0) 0 = (tb tT0, lf [0], tbC tC0, 0, 0) := rfl
  have h1 : txN (lf [0]) (lf [0]) (lf [16]) 1 1 (tb tT0, lf [0], tbC tC0, 0, 0) 1 = (tb tT0, lf [0], tbC tC0, 0, 0) := tx_st (pn := 1) (m := 0) (c := 0) (so' := lf [0]) h0 rfl (by decide +kernel) (rfl) (by decide +kernel) (pay_tb (C' := tC0) (by decide) (by decide) (by decide +kernel)) rfl
  have h2 : txN (lf [0]) (lf [0]) (lf [16]) 1 1 (tb tT0, lf [0], tbC tC0, 0, 0) 2 = (tb tT0, lf [0], tbC tC0, 0, 0) := tx_st (pn := 2) (m := 0) (c := 0) (so' := lf [0]) h1 rfl (by decide +kernel) (rfl) (by decide +kernel) (pay_tb (C' := tC0) (by decide) (by decide) (by decide +kernel)) rfl
  have h3 : txN (lf [0]) (lf [0]) (lf [16]) 1 1 (tb tT0, lf [0], tbC tC0, 0, 0) 3 = (tb tT0, lf [0], tbC tC0, 0, 0) := tx_st (pn := 3) (m := 0) (c := 0) (so' := lf [0]) h2 rfl (by decide +kernel) (rfl) (by decide +kernel) (pay_tb (C' := tC0) (by decide) (by decide) (by decide +kernel)) rfl
  have h4 : txN (lf [0]) (lf [0]) (lf [16]) 1 1 (tb tT0, lf [0], tbC tC0, 0, 0) 4 = (tb tT0, lf [0], tbC tC0, 0, 0) := tx_st (pn := 4) (m := 0) (c := 0) (so' := lf [0]) h3 rfl (by decide +kernel) (rfl) (by decide +kernel) (pay_tb (C' := tC0) (by decide) (by decide) (by decide +kernel)) rfl
  have h5 : txN (lf [0]) (lf [0]) (lf [16]) 1 1 (tb tT0, lf [0], tbC tC0, 0, 0) 5 = (tb tT0, lf [0], tbC tC0, 0, 0) := tx_st (pn := 5) (m := 0) (c := 0) (so' := lf [0]) h4 rfl (by decide +kernel) (rfl) (by decide +kernel) (pay_tb (C' := tC0) (by decide) (by decide) (by decide +kernel)) rfl
  have h6 : txN (lf [0]) (lf [0]) (lf [16]) 1 1 (tb tT0, lf [0], tbC tC0, 0, 0) 6 = (tb tT0, lf [0], tbC tC0, 0, 0) := tx_st (pn := 6) (m := 0) (c := 0) (so' := lf [0]) h5 rfl (by decide +kernel) (rfl) (by decide +kernel) (pay_tb (C' := tC0) (by decide) (by decide) (by decide +kernel)) rfl
  have h7 : txN (lf [0]) (lf [0]) (lf [16]) 1 1 (tb tT0, lf [0], tbC tC0, 0, 0) 7 = (tb tT0, lf [0], tbC tC0, 0, 0) := tx_st (pn := 7) (m := 0) (c := 0) (so' := lf [0]) h6 rfl (by decide +kernel) (rfl) (by decide +kernel) (pay_tb (C' := tC0) (by decide) (by decide) (by decide +kernel)) rfl
  exact h7
set_option maxRecDepth 100000 in
set_option maxHeartbeats 4000000 in
theorem m_0_collectTaxes (l : Launch) (G : gG) (lq : Nat) (SL : List LdS) (K : Nat → Option LdS) (bu : Nat → Nat) (bl : Nat) (hS9 : spS (LN0, SL, K, bu, bl)) : LQ l G lq yX3_collectTaxes wsX3_collectTaxes { frames := 6, cells := 4, slots := 528, locals := 160 } [] (LN0, SL, K, bu, bl) (nI 0) (LN0, pushH SL LN0, K, bu, bl) 4 528 :=
  ((K_collectTaxes l G lq (LN0, SL, K, bu, bl)  hS9 ).r (congrArg nI ((show (txA 1 (tb tT0, tbH tH0, tbC tC0, 0, 0, 0)).2.2.2.2 = 0 from by rw [(pl_tT0.tx (he := tbH tH0) (sa := 0) (fl := 0) tx_0).2])))).s (congrArg (pushS (LN0, SL, K, bu, bl)) (show (((txA 1 (tb tT0, tbH tH0, tbC tC0, 0, 0, 0)).1, tbH tH0, (txA 1 (tb tT0, tbH tH0, tbC tC0, 0, 0, 0)).2.2.1, 2, 1, 0, 0, (txA 1 (tb tT0, tbH tH0, tbC tC0, 0, 0, 0)).2.2.2.1) : LdS) = LN0 from by rw [(pl_tT0.tx (he := tbH tH0) (sa := 0) (fl := 0) tx_0).1, (pl_tT0.tx (he := tbH tH0) (sa := 0) (fl := 0) tx_0).2]; rfl))
set_option maxRecDepth 100000 in
set_option maxHeartbeats 4000000 in
theorem m_0_grant_0_0_8_1 (l : Launch) (G : gG) (lq : Nat) (SL : List LdS) (K : Nat → Option LdS) (bu : Nat → Nat) (bl : Nat) (hS9 : spS (LN0, SL, K, bu, bl)) : LQ l G lq yX3_grant wsX3_grant { frames := 6, cells := 4, slots := 528, locals := 160 } [.int (nI 0), .int (nI 0), .int (nI 8), .int (nI 1)] (LN0, SL, K, bu, bl) (nI 64) (LN1, pushH SL LN0, K, bu, bl) 4 528 :=
  ((K_grant l G lq (LN0, SL, K, bu, bl) 0 0 8 1 hS9 (by decide) (by decide)).r (congrArg nI ((by decide +kernel : sSq (fun a => if tb tT0 a = 1 then 0 else 1) (0 * 16 + 0) 8 (8 * 8) = 64)))).s (congrArg (pushS (LN0, SL, K, bu, bl)) (show ((gvOw (tb tT0) 0 0 8 1, tbH tH0, tbC tC0, 2, 1, 0, 0, 0) : LdS) = LN1 from by rw [gv_tb (T' := tT1) (by decide) (by decide +kernel)]; rfl))
set_option maxRecDepth 100000 in
set_option maxHeartbeats 4000000 in
theorem q_1_plots (l : Launch) (G : gG) (lq : Nat) (SL : List LdS) (K : Nat → Option LdS) (bu : Nat → Nat) (bl : Nat) (hS9 : spS (LN1, SL, K, bu, bl)) : LQ l G lq yX3_plots wsX3_plots { frames := 1, cells := 0, slots := 0, locals := 20 } [] (LN1, SL, K, bu, bl) (nI 4) (LN1, SL, K, bu, bl) 0 0 :=
  (K_plots l G lq (LN1, SL, K, bu, bl)  hS9 ).r (congrArg nI (pl_tT1.1))
set_option maxRecDepth 100000 in
set_option maxHeartbeats 4000000 in
theorem m_1_grant_8_0_4_2 (l : Launch) (G : gG) (lq : Nat) (SL : List LdS) (K : Nat → Option LdS) (bu : Nat → Nat) (bl : Nat) (hS9 : spS (LN1, SL, K, bu, bl)) : LQ l G lq yX3_grant wsX3_grant { frames := 6, cells := 4, slots := 528, locals := 160 } [.int (nI 8), .int (nI 0), .int (nI 4), .int (nI 2)] (LN1, SL, K, bu, bl) (nI 16) (LN2, pushH SL LN1, K, bu, bl) 4 528 :=
  ((K_grant l G lq (LN1, SL, K, bu, bl) 8 0 4 2 hS9 (by decide) (by decide)).r (congrArg nI ((by decide +kernel : sSq (fun a => if tb tT1 a = 2 then 0 else 1) (0 * 16 + 8) 4 (4 * 4) = 16)))).s (congrArg (pushS (LN1, SL, K, bu, bl)) (show ((gvOw (tb tT1) 8 0 4 2, tbH tH0, tbC tC0, 2, 1, 0, 0, 0) : LdS) = LN2 from by rw [gv_tb (T' := tT2) (by decide) (by decide +kernel)]; rfl))
set_option maxRecDepth 100000 in
set_option maxHeartbeats 4000000 in
theorem q_2_plots (l : Launch) (G : gG) (lq : Nat) (SL : List LdS) (K : Nat → Option LdS) (bu : Nat → Nat) (bl : Nat) (hS9 : spS (LN2, SL, K, bu, bl)) : LQ l G lq yX3_plots wsX3_plots { frames := 1, cells := 0, slots := 0, locals := 20 } [] (LN2, SL, K, bu, bl) (nI 7) (LN2, SL, K, bu, bl) 0 0 :=
  (K_plots l G lq (LN2, SL, K, bu, bl)  hS9 ).r (congrArg nI (pl_tT2.1))
set_option maxRecDepth 100000 in
set_option maxHeartbeats 4000000 in
theorem i_2_1 (l : Launch) (G : gG) (lq : Nat) (SL : List LdS) (K : Nat → Option LdS) (bu : Nat → Nat) (bl : Nat) (hS9 : spS (LN2, SL, K, bu, bl)) : LW l G lq yL_is wsL_is { frames := 3, cells := 0, slots := 0, locals := 65 } [.int (nI 1), .int (nI 8), .int (nI 0), .int (nI 4), .int (nI 2)] (LN2, SL, K, bu, bl) (nI 1) (LN2, SL, K, bu, bl) 0 0 :=
  c_is l G lq (LN2, SL, K, bu, bl) 1 8 0 4 2 hS9 (show 1 < cnt (tb tT2) from by rw [pl_tT2.1]; decide) (((pl_tT2.2 1 (by decide)).2.1).trans (by decide)) (((pl_tT2.2 1 (by decide)).2.2.1).trans (by decide)) (((pl_tT2.2 1 (by decide)).2.2.2.1).trans (by decide)) (((pl_tT2.2 1 (by decide)).2.2.2.2).trans (by decide)) (pl_tT2.rk (x := 8 + 4 - 1) (y := 0) (j := 1) (by decide) (by decide) (by decide)) (by decide) (by decide) (by decide)
set_option maxRecDepth 100000 in
set_option maxHeartbeats 4000000 in
theorem i_2_2 (l : Launch) (G : gG) (lq : Nat) (SL : List LdS) (K : Nat → Option LdS) (bu : Nat → Nat) (bl : Nat) (hS9 : spS (LN2, SL, K, bu, bl)) : LW l G lq yL_is wsL_is { frames := 3, cells := 0, slots := 0, locals := 65 } [.int (nI 2), .int (nI 12), .int (nI 0), .int (nI 4), .int (nI 0)] (LN2, SL, K, bu, bl) (nI 1) (LN2, SL, K, bu, bl) 0 0 :=
  c_is l G lq (LN2, SL, K, bu, bl) 2 12 0 4 0 hS9 (show 2 < cnt (tb tT2) from by rw [pl_tT2.1]; decide) (((pl_tT2.2 2 (by decide)).2.1).trans (by decide)) (((pl_tT2.2 2 (by decide)).2.2.1).trans (by decide)) (((pl_tT2.2 2 (by decide)).2.2.2.1).trans (by decide)) (((pl_tT2.2 2 (by decide)).2.2.2.2).trans (by decide)) (pl_tT2.rk (x := 12 + 4 - 1) (y := 0) (j := 2) (by decide) (by decide) (by decide)) (by decide) (by decide) (by decide)
set_option maxRecDepth 100000 in
set_option maxHeartbeats 4000000 in
theorem i_2_3 (l : Launch) (G : gG) (lq : Nat) (SL : List LdS) (K : Nat → Option LdS) (bu : Nat → Nat) (bl : Nat) (hS9 : spS (LN2, SL, K, bu, bl)) : LW l G lq yL_is wsL_is { frames := 3, cells := 0, slots := 0, locals := 65 } [.int (nI 3), .int (nI 8), .int (nI 4), .int (nI 4), .int (nI 0)] (LN2, SL, K, bu, bl) (nI 1) (LN2, SL, K, bu, bl) 0 0 :=
  c_is l G lq (LN2, SL, K, bu, bl) 3 8 4 4 0 hS9 (show 3 < cnt (tb tT2) from by rw [pl_tT2.1]; decide) (((pl_tT2.2 3 (by decide)).2.1).trans (by decide)) (((pl_tT2.2 3 (by decide)).2.2.1).trans (by decide)) (((pl_tT2.2 3 (by decide)).2.2.2.1).trans (by decide)) (((pl_tT2.2 3 (by decide)).2.2.2.2).trans (by decide)) (pl_tT2.rk (x := 8 + 4 - 1) (y := 4) (j := 3) (by decide) (by decide) (by decide)) (by decide) (by decide) (by decide)
set_option maxRecDepth 100000 in
set_option maxHeartbeats 4000000 in
theorem i_2_4 (l : Launch) (G : gG) (lq : Nat) (SL : List LdS) (K : Nat → Option LdS) (bu : Nat → Nat) (bl : Nat) (hS9 : spS (LN2, SL, K, bu, bl)) : LW l G lq yL_is wsL_is { frames := 3, cells := 0, slots := 0, locals := 65 } [.int (nI 4), .int (nI 12), .int (nI 4), .int (nI 4), .int (nI 0)] (LN2, SL, K, bu, bl) (nI 1) (LN2, SL, K, bu, bl) 0 0 :=
  c_is l G lq (LN2, SL, K, bu, bl) 4 12 4 4 0 hS9 (show 4 < cnt (tb tT2) from by rw [pl_tT2.1]; decide) (((pl_tT2.2 4 (by decide)).2.1).trans (by decide)) (((pl_tT2.2 4 (by decide)).2.2.1).trans (by decide)) (((pl_tT2.2 4 (by decide)).2.2.2.1).trans (by decide)) (((pl_tT2.2 4 (by decide)).2.2.2.2).trans (by decide)) (pl_tT2.rk (x := 12 + 4 - 1) (y := 4) (j := 4) (by decide) (by decide) (by decide)) (by decide) (by decide) (by decide)
set_option maxRecDepth 100000 in
set_option maxHeartbeats 4000000 in
theorem i_2_5 (l : Launch) (G : gG) (lq : Nat) (SL : List LdS) (K : Nat → Option LdS) (bu : Nat → Nat) (bl : Nat) (hS9 : spS (LN2, SL, K, bu, bl)) : LW l G lq yL_is wsL_is { frames := 3, cells := 0, slots := 0, locals := 65 } [.int (nI 5), .int (nI 0), .int (nI 8), .int (nI 8), .int (nI 0)] (LN2, SL, K, bu, bl) (nI 1) (LN2, SL, K, bu, bl) 0 0 :=
  c_is l G lq (LN2, SL, K, bu, bl) 5 0 8 8 0 hS9 (show 5 < cnt (tb tT2) from by rw [pl_tT2.1]; decide) (((pl_tT2.2 5 (by decide)).2.1).trans (by decide)) (((pl_tT2.2 5 (by decide)).2.2.1).trans (by decide)) (((pl_tT2.2 5 (by decide)).2.2.2.1).trans (by decide)) (((pl_tT2.2 5 (by decide)).2.2.2.2).trans (by decide)) (pl_tT2.rk (x := 0 + 8 - 1) (y := 8) (j := 5) (by decide) (by decide) (by decide)) (by decide) (by decide) (by decide)
set_option maxRecDepth 100000 in
set_option maxHeartbeats 4000000 in
theorem i_2_6 (l : Launch) (G : gG) (lq : Nat) (SL : List LdS) (K : Nat → Option LdS) (bu : Nat → Nat) (bl : Nat) (hS9 : spS (LN2, SL, K, bu, bl)) : LW l G lq yL_is wsL_is { frames := 3, cells := 0, slots := 0, locals := 65 } [.int (nI 6), .int (nI 8), .int (nI 8), .int (nI 8), .int (nI 0)] (LN2, SL, K, bu, bl) (nI 1) (LN2, SL, K, bu, bl) 0 0 :=
  c_is l G lq (LN2, SL, K, bu, bl) 6 8 8 8 0 hS9 (show 6 < cnt (tb tT2) from by rw [pl_tT2.1]; decide) (((pl_tT2.2 6 (by decide)).2.1).trans (by decide)) (((pl_tT2.2 6 (by decide)).2.2.1).trans (by decide)) (((pl_tT2.2 6 (by decide)).2.2.2.1).trans (by decide)) (((pl_tT2.2 6 (by decide)).2.2.2.2).trans (by decide)) (pl_tT2.rk (x := 8 + 8 - 1) (y := 8) (j := 6) (by decide) (by decide) (by decide)) (by decide) (by decide) (by decide)
set_option maxRecDepth 100000 in
set_option maxHeartbeats 4000000 in
theorem q_2_plotsOf_0 (l : Launch) (G : gG) (lq : Nat) (SL : List LdS) (K : Nat → Option LdS) (bu : Nat → Nat) (bl : Nat) (hS9 : spS (LN2, SL, K, bu, bl)) : LQ l G lq yX3_plotsOf wsX3_plotsOf { frames := 2, cells := 0, slots := 0, locals := 40 } [.int (nI 0)] (LN2, SL, K, bu, bl) (nI 5) (LN2, SL, K, bu, bl) 0 0 :=
  (K_plotsOf l G lq (LN2, SL, K, bu, bl) 0 hS9 (by decide)).r (congrArg nI ((pl_tT2.cn 0).trans (by decide +kernel)))
set_option maxRecDepth 100000 in
set_option maxHeartbeats 4000000 in
theorem q_2_areaByPlots_0 (l : Launch) (G : gG) (lq : Nat) (SL : List LdS) (K : Nat → Option LdS) (bu : Nat → Nat) (bl : Nat) (hS9 : spS (LN2, SL, K, bu, bl)) : LQ l G lq yX3_areaByPlots wsX3_areaByPlots { frames := 2, cells := 0, slots := 0, locals := 40 } [.int (nI 0)] (LN2, SL, K, bu, bl) (nI 176) (LN2, SL, K, bu, bl) 0 0 :=
  (K_areaByPlots l G lq (LN2, SL, K, bu, bl) 0 hS9 (by decide)).r (congrArg nI ((pl_tT2.ar 0).trans (by decide +kernel)))
set_option maxRecDepth 100000 in
set_option maxHeartbeats 4000000 in
theorem q_2_areaByCells_0 (l : Launch) (G : gG) (lq : Nat) (SL : List LdS) (K : Nat → Option LdS) (bu : Nat → Nat) (bl : Nat) (hS9 : spS (LN2, SL, K, bu, bl)) : LQ l G lq yX3_areaByCells wsX3_areaByCells { frames := 2, cells := 0, slots := 0, locals := 40 } [.int (nI 0)] (LN2, SL, K, bu, bl) (nI 176) (LN2, SL, K, bu, bl) 0 0 :=
  (K_areaByCells l G lq (LN2, SL, K, bu, bl) 0 hS9 (by decide)).r (congrArg nI ((by decide +kernel : sBelow (tb tT2) (tbH tH0) 0 10 256 = 176)))
set_option maxRecDepth 100000 in
set_option maxHeartbeats 4000000 in
theorem q_2_fenceBetween_1_2 (l : Launch) (G : gG) (lq : Nat) (SL : List LdS) (K : Nat → Option LdS) (bu : Nat → Nat) (bl : Nat) (hS9 : spS (LN2, SL, K, bu, bl)) : LQ l G lq yX3_fenceBetween wsX3_fenceBetween { frames := 4, cells := 0, slots := 0, locals := 92 } [.int (nI 1), .int (nI 2)] (LN2, SL, K, bu, bl) (nI 4) (LN2, SL, K, bu, bl) 0 0 :=
  (K_fenceBetween l G lq (LN2, SL, K, bu, bl) 1 2 hS9 (by decide) (by decide)).r (congrArg nI ((by decide +kernel : (if 1 = 2 then 0 else sFence (tb tT2) 1 2 256) = 4)))
set_option maxRecDepth 100000 in
set_option maxHeartbeats 4000000 in
theorem q_2_fenceBetween_0_1 (l : Launch) (G : gG) (lq : Nat) (SL : List LdS) (K : Nat → Option LdS) (bu : Nat → Nat) (bl : Nat) (hS9 : spS (LN2, SL, K, bu, bl)) : LQ l G lq yX3_fenceBetween wsX3_fenceBetween { frames := 4, cells := 0, slots := 0, locals := 92 } [.int (nI 0), .int (nI 1)] (LN2, SL, K, bu, bl) (nI 12) (LN2, SL, K, bu, bl) 0 0 :=
  (K_fenceBetween l G lq (LN2, SL, K, bu, bl) 0 1 hS9 (by decide) (by decide)).r (congrArg nI ((by decide +kernel : (if 0 = 1 then 0 else sFence (tb tT2) 0 1 256) = 12)))
set_option maxRecDepth 100000 in
set_option maxHeartbeats 4000000 in
theorem q_2_fenceBetween_2_0 (l : Launch) (G : gG) (lq : Nat) (SL : List LdS) (K : Nat → Option LdS) (bu : Nat → Nat) (bl : Nat) (hS9 : spS (LN2, SL, K, bu, bl)) : LQ l G lq yX3_fenceBetween wsX3_fenceBetween { frames := 4, cells := 0, slots := 0, locals := 92 } [.int (nI 2), .int (nI 0)] (LN2, SL, K, bu, bl) (nI 8) (LN2, SL, K, bu, bl) 0 0 :=
  (K_fenceBetween l G lq (LN2, SL, K, bu, bl) 2 0 hS9 (by decide) (by decide)).r (congrArg nI ((by decide +kernel : (if 2 = 0 then 0 else sFence (tb tT2) 2 0 256) = 8)))
set_option maxRecDepth 100000 in
set_option maxHeartbeats 4000000 in
theorem q_2_fenceBetween_1_1 (l : Launch) (G : gG) (lq : Nat) (SL : List LdS) (K : Nat → Option LdS) (bu : Nat → Nat) (bl : Nat) (hS9 : spS (LN2, SL, K, bu, bl)) : LQ l G lq yX3_fenceBetween wsX3_fenceBetween { frames := 4, cells := 0, slots := 0, locals := 92 } [.int (nI 1), .int (nI 1)] (LN2, SL, K, bu, bl) (nI 0) (LN2, SL, K, bu, bl) 0 0 :=
  (K_fenceBetween l G lq (LN2, SL, K, bu, bl) 1 1 hS9 (by decide) (by decide)).r (congrArg nI ((by decide +kernel : (if 1 = 1 then 0 else sFence (tb tT2) 1 1 256) = 0)))
set_option maxRecDepth 100000 in
set_option maxHeartbeats 4000000 in
theorem f_2_0 (l : Launch) (G : gG) (lq : Nat) (SL : List LdS) (K : Nat → Option LdS) (bu : Nat → Nat) (bl : Nat) (hS9 : spS (LN2, SL, K, bu, bl)) : LW l G lq yL_fences wsL_fences { frames := 6, cells := 0, slots := 0, locals := 137 } [.int (nI 0), .int (nI 20), .int (nI 1)] (LN2, SL, K, bu, bl) (nI 1) (LN2, SL, K, bu, bl) 0 0 :=
  by
  have h := c_fences l G lq (LN2, SL, K, bu, bl) 0 20 ((1 : Nat) : Int) hS9 (by decide) ((pl_tT2.fn 0).trans (by decide +kernel)) (by decide +kernel : fbc (tb tT2) 0 8 = 20) (by decide +kernel : (nnb (tb tT2) 0 8).1 = 1)
  rw [zI_nat] at h; exact h
set_option maxRecDepth 100000 in
set_option maxHeartbeats 4000000 in
theorem f_2_1 (l : Launch) (G : gG) (lq : Nat) (SL : List LdS) (K : Nat → Option LdS) (bu : Nat → Nat) (bl : Nat) (hS9 : spS (LN2, SL, K, bu, bl)) : LW l G lq yL_fences wsL_fences { frames := 6, cells := 0, slots := 0, locals := 137 } [.int (nI 1), .int (nI 16), .int (nI 0)] (LN2, SL, K, bu, bl) (nI 1) (LN2, SL, K, bu, bl) 0 0 :=
  by
  have h := c_fences l G lq (LN2, SL, K, bu, bl) 1 16 ((0 : Nat) : Int) hS9 (by decide) ((pl_tT2.fn 1).trans (by decide +kernel)) (by decide +kernel : fbc (tb tT2) 1 8 = 16) (by decide +kernel : (nnb (tb tT2) 1 8).1 = 0)
  rw [zI_nat] at h; exact h
set_option maxRecDepth 100000 in
set_option maxHeartbeats 4000000 in
theorem f_2_2 (l : Launch) (G : gG) (lq : Nat) (SL : List LdS) (K : Nat → Option LdS) (bu : Nat → Nat) (bl : Nat) (hS9 : spS (LN2, SL, K, bu, bl)) : LW l G lq yL_fences wsL_fences { frames := 6, cells := 0, slots := 0, locals := 137 } [.int (nI 2), .int (nI 12), .int (nI 0)] (LN2, SL, K, bu, bl) (nI 1) (LN2, SL, K, bu, bl) 0 0 :=
  by
  have h := c_fences l G lq (LN2, SL, K, bu, bl) 2 12 ((0 : Nat) : Int) hS9 (by decide) ((pl_tT2.fn 2).trans (by decide +kernel)) (by decide +kernel : fbc (tb tT2) 2 8 = 12) (by decide +kernel : (nnb (tb tT2) 2 8).1 = 0)
  rw [zI_nat] at h; exact h
set_option maxRecDepth 100000 in
set_option maxHeartbeats 4000000 in
theorem q_2_largestPlotOf_0 (l : Launch) (G : gG) (lq : Nat) (SL : List LdS) (K : Nat → Option LdS) (bu : Nat → Nat) (bl : Nat) (hS9 : spS (LN2, SL, K, bu, bl)) : LQ l G lq yX3_largestPlotOf wsX3_largestPlotOf { frames := 2, cells := 0, slots := 0, locals := 40 } [.int (nI 0)] (LN2, SL, K, bu, bl) (nI 5) (LN2, SL, K, bu, bl) 0 0 :=
  (K_largestPlotOf l G lq (LN2, SL, K, bu, bl) 0 hS9 (by decide)).r ((congrArg zI ((pl_tT2.lg 0).trans (by decide +kernel))).trans (by decide : zI 5 = nI 5))
set_option maxRecDepth 100000 in
set_option maxHeartbeats 4000000 in
theorem q_2_firstToLose_1 (l : Launch) (G : gG) (lq : Nat) (SL : List LdS) (K : Nat → Option LdS) (bu : Nat → Nat) (bl : Nat) (hS9 : spS (LN2, SL, K, bu, bl)) : LQ l G lq yX3_firstToLose wsX3_firstToLose { frames := 1, cells := 0, slots := 0, locals := 24 } [.int (nI 1)] (LN2, SL, K, bu, bl) (nI 0) (LN2, SL, K, bu, bl) 0 0 :=
  (K_firstToLose l G lq (LN2, SL, K, bu, bl) 1 hS9 (by decide) (by decide)).r ((congrArg zI ((pl_tT2.sm 1).trans (by decide +kernel))).trans (by decide : zI 0 = nI 0))
set_option maxRecDepth 100000 in
set_option maxHeartbeats 4000000 in
theorem q_2_firstToLose_3 (l : Launch) (G : gG) (lq : Nat) (SL : List LdS) (K : Nat → Option LdS) (bu : Nat → Nat) (bl : Nat) (hS9 : spS (LN2, SL, K, bu, bl)) : LQ l G lq yX3_firstToLose wsX3_firstToLose { frames := 1, cells := 0, slots := 0, locals := 24 } [.int (nI 3)] (LN2, SL, K, bu, bl) (zI (-1)) (LN2, SL, K, bu, bl) 0 0 :=
  (K_firstToLose l G lq (LN2, SL, K, bu, bl) 3 hS9 (by decide) (by decide)).r (congrArg zI ((pl_tT2.sm 3).trans (by decide +kernel)))
set_option maxRecDepth 100000 in
set_option maxHeartbeats 4000000 in
theorem q_2_plotPriceAt_9_9 (l : Launch) (G : gG) (lq : Nat) (SL : List LdS) (K : Nat → Option LdS) (bu : Nat → Nat) (bl : Nat) (hS9 : spS (LN2, SL, K, bu, bl)) : LQ l G lq yX3_plotPriceAt wsX3_plotPriceAt { frames := 2, cells := 0, slots := 0, locals := 43 } [.int (nI 9), .int (nI 9)] (LN2, SL, K, bu, bl) (nI 128) (LN2, SL, K, bu, bl) 0 0 :=
  (K_plotPriceAt l G lq (LN2, SL, K, bu, bl) 9 9 hS9 (by decide) (by decide)).r (congrArg nI ((show 2 * svZ (tb tT2) (rkA (tb tT2) 9 9) * svZ (tb tT2) (rkA (tb tT2) 9 9) = 128 from by rw [(pl_tT2.rk (x := 9) (y := 9) (j := 6) (by decide) (by decide) (by decide)), ((pl_tT2.2 6 (by decide)).2.2.2.1)]; decide)))
set_option maxRecDepth 100000 in
set_option maxHeartbeats 4000000 in
theorem x_2_3_3_9_9_0 (l : Launch) (G : gG) (lq : Nat) (SL : List LdS) (K : Nat → Option LdS) (bu : Nat → Nat) (bl : Nat) (hS9 : spS (LN2, SL, K, bu, bl)) (hl9 : l.stackTraces = false) : LW l G lq yL_call wsL_call { frames := 9, cells := 4, slots := 528, locals := 230 } [.int (nI 3), .int (nI 3), .int (nI 9), .int (nI 9), .int (nI 0)] (LN2, SL, K, bu, bl) (zI (-2013)) (LN2, SL, K, bu, bl) 4 528 :=
  call_3 l G lq (LN2, SL, K, bu, bl) (LN2, SL, K, bu, bl) (nI 3) (nI 9) (nI 9) (nI 0) (-2013) (DoV.x (KX3_buyPlot l G lq (LN2, SL, K, bu, bl) 3 9 9 hS9 (by decide) (by decide) (by decide) (by dsimp only [LN2]; rw [(pl_tT2.rk (x := 9) (y := 9) (j := 6) (by decide) (by decide) (by decide)), ((pl_tT2.2 6 (by decide)).2.1), ((pl_tT2.2 6 (by decide)).2.2.1), ((pl_tT2.2 6 (by decide)).2.2.2.1)]; decide +kernel) hl9) ⟨rfl, rfl, by decide, by decide, by decide, by decide⟩ exS)
set_option maxRecDepth 100000 in
set_option maxHeartbeats 4000000 in
theorem m_2_buyPlot_3_13_1 (l : Launch) (G : gG) (lq : Nat) (SL : List LdS) (K : Nat → Option LdS) (bu : Nat → Nat) (bl : Nat) (hS9 : spS (LN2, SL, K, bu, bl)) : LQ l G lq yX3_buyPlot wsX3_buyPlot { frames := 6, cells := 4, slots := 528, locals := 160 } [.int (nI 3), .int (nI 13), .int (nI 1)] (LN2, SL, K, bu, bl) (nI 32) (LN3, pushH SL LN2, K, bu, bl) 4 528 :=
  ((K_buyPlot l G lq (LN2, SL, K, bu, bl) 3 13 1 hS9 (by decide) (by decide) (by decide) (by dsimp only [LN2]; rw [(pl_tT2.rk (x := 13) (y := 1) (j := 2) (by decide) (by decide) (by decide)), ((pl_tT2.2 2 (by decide)).2.1), ((pl_tT2.2 2 (by decide)).2.2.1), ((pl_tT2.2 2 (by decide)).2.2.2.1)]; decide +kernel)).r (congrArg nI ((show 2 * svZ (tb tT2) (rkA (tb tT2) 13 1) * svZ (tb tT2) (rkA (tb tT2) 13 1) = 32 from by rw [(pl_tT2.rk (x := 13) (y := 1) (j := 2) (by decide) (by decide) (by decide)), ((pl_tT2.2 2 (by decide)).2.2.2.1)]; decide)))).s (congrArg (pushS (LN2, SL, K, bu, bl)) (show _ = LN3 from by dsimp only [LN2]; rw [(pl_tT2.rk (x := 13) (y := 1) (j := 2) (by decide) (by decide) (by decide)), ((pl_tT2.2 2 (by decide)).2.1), ((pl_tT2.2 2 (by decide)).2.2.1), ((pl_tT2.2 2 (by decide)).2.2.2.1), gv_tb (T' := tT3) (by decide) (by decide +kernel), pay_tb (C' := tC1) (by decide) (tb_lt _ _) (by decide +kernel)]; rfl))
set_option maxRecDepth 100000 in
set_option maxHeartbeats 4000000 in
theorem q_3_coinsOf_3 (l : Launch) (G : gG) (lq : Nat) (SL : List LdS) (K : Nat → Option LdS) (bu : Nat → Nat) (bl : Nat) (hS9 : spS (LN3, SL, K, bu, bl)) : LQ l G lq yX3_coinsOf wsX3_coinsOf { frames := 2, cells := 0, slots := 0, locals := 41 } [.int (nI 3)] (LN3, SL, K, bu, bl) (nI 68) (LN3, SL, K, bu, bl) 0 0 :=
  (K_coinsOf l G lq (LN3, SL, K, bu, bl) 3 hS9 (by decide)).r (congrArg nI ((by decide +kernel : tbC tC1 3 = 68)))
set_option maxRecDepth 100000 in
set_option maxHeartbeats 4000000 in
theorem q_3_coinsOf_0 (l : Launch) (G : gG) (lq : Nat) (SL : List LdS) (K : Nat → Option LdS) (bu : Nat → Nat) (bl : Nat) (hS9 : spS (LN3, SL, K, bu, bl)) : LQ l G lq yX3_coinsOf wsX3_coinsOf { frames := 2, cells := 0, slots := 0, locals := 41 } [.int (nI 0)] (LN3, SL, K, bu, bl) (nI 32) (LN3, SL, K, bu, bl) 0 0 :=
  (K_coinsOf l G lq (LN3, SL, K, bu, bl) 0 hS9 (by decide)).r (congrArg nI ((by decide +kernel : tbC tC1 0 = 32)))
set_option maxRecDepth 100000 in
set_option maxHeartbeats 4000000 in
theorem m_3_buySquare_3_8_4_2 (l : Launch) (G : gG) (lq : Nat) (SL : List LdS) (K : Nat → Option LdS) (bu : Nat → Nat) (bl : Nat) (hS9 : spS (LN3, SL, K, bu, bl)) : LQ l G lq yX3_buySquare wsX3_buySquare { frames := 6, cells := 4, slots := 528, locals := 160 } [.int (nI 3), .int (nI 8), .int (nI 4), .int (nI 2)] (LN3, SL, K, bu, bl) (nI 8) (LN4, pushH SL LN3, K, bu, bl) 4 528 :=
  ((K_buySquare l G lq (LN3, SL, K, bu, bl) 3 8 4 2 hS9 (by decide) (by decide) (show canS 2 3 8 4 2 (tb tT3) (tbC tC1) from by decide +kernel)).r (congrArg nI ((by decide : 2 * 2 * 2 = 8)))).s (congrArg (pushS (LN3, SL, K, bu, bl)) (show ((gvOw (tb tT3) 8 4 2 3, tbH tH0, payC (tbC tC1) 3 (tb tT3 (4 * 16 + 8)) (2 * 2 * 2), 2, 1, 1 + 1, 0, 0) : LdS) = LN4 from by rw [gv_tb (T' := tT4) (by decide) (by decide +kernel), pay_tb (C' := tC2) (by decide) (tb_lt _ _) (by decide +kernel)]; rfl))
set_option maxRecDepth 100000 in
set_option maxHeartbeats 4000000 in
theorem q_4_plots (l : Launch) (G : gG) (lq : Nat) (SL : List LdS) (K : Nat → Option LdS) (bu : Nat → Nat) (bl : Nat) (hS9 : spS (LN4, SL, K, bu, bl)) : LQ l G lq yX3_plots wsX3_plots { frames := 1, cells := 0, slots := 0, locals := 20 } [] (LN4, SL, K, bu, bl) (nI 10) (LN4, SL, K, bu, bl) 0 0 :=
  (K_plots l G lq (LN4, SL, K, bu, bl)  hS9 ).r (congrArg nI (pl_tT4.1))
set_option maxRecDepth 100000 in
set_option maxHeartbeats 4000000 in
theorem i_4_3 (l : Launch) (G : gG) (lq : Nat) (SL : List LdS) (K : Nat → Option LdS) (bu : Nat → Nat) (bl : Nat) (hS9 : spS (LN4, SL, K, bu, bl)) : LW l G lq yL_is wsL_is { frames := 3, cells := 0, slots := 0, locals := 65 } [.int (nI 3), .int (nI 8), .int (nI 4), .int (nI 2), .int (nI 3)] (LN4, SL, K, bu, bl) (nI 1) (LN4, SL, K, bu, bl) 0 0 :=
  c_is l G lq (LN4, SL, K, bu, bl) 3 8 4 2 3 hS9 (show 3 < cnt (tb tT4) from by rw [pl_tT4.1]; decide) (((pl_tT4.2 3 (by decide)).2.1).trans (by decide)) (((pl_tT4.2 3 (by decide)).2.2.1).trans (by decide)) (((pl_tT4.2 3 (by decide)).2.2.2.1).trans (by decide)) (((pl_tT4.2 3 (by decide)).2.2.2.2).trans (by decide)) (pl_tT4.rk (x := 8 + 2 - 1) (y := 4) (j := 3) (by decide) (by decide) (by decide)) (by decide) (by decide) (by decide)
set_option maxRecDepth 100000 in
set_option maxHeartbeats 4000000 in
theorem i_4_6 (l : Launch) (G : gG) (lq : Nat) (SL : List LdS) (K : Nat → Option LdS) (bu : Nat → Nat) (bl : Nat) (hS9 : spS (LN4, SL, K, bu, bl)) : LW l G lq yL_is wsL_is { frames := 3, cells := 0, slots := 0, locals := 65 } [.int (nI 6), .int (nI 10), .int (nI 6), .int (nI 2), .int (nI 0)] (LN4, SL, K, bu, bl) (nI 1) (LN4, SL, K, bu, bl) 0 0 :=
  c_is l G lq (LN4, SL, K, bu, bl) 6 10 6 2 0 hS9 (show 6 < cnt (tb tT4) from by rw [pl_tT4.1]; decide) (((pl_tT4.2 6 (by decide)).2.1).trans (by decide)) (((pl_tT4.2 6 (by decide)).2.2.1).trans (by decide)) (((pl_tT4.2 6 (by decide)).2.2.2.1).trans (by decide)) (((pl_tT4.2 6 (by decide)).2.2.2.2).trans (by decide)) (pl_tT4.rk (x := 10 + 2 - 1) (y := 6) (j := 6) (by decide) (by decide) (by decide)) (by decide) (by decide) (by decide)
set_option maxRecDepth 100000 in
set_option maxHeartbeats 4000000 in
theorem i_4_9 (l : Launch) (G : gG) (lq : Nat) (SL : List LdS) (K : Nat → Option LdS) (bu : Nat → Nat) (bl : Nat) (hS9 : spS (LN4, SL, K, bu, bl)) : LW l G lq yL_is wsL_is { frames := 3, cells := 0, slots := 0, locals := 65 } [.int (nI 9), .int (nI 8), .int (nI 8), .int (nI 8), .int (nI 0)] (LN4, SL, K, bu, bl) (nI 1) (LN4, SL, K, bu, bl) 0 0 :=
  c_is l G lq (LN4, SL, K, bu, bl) 9 8 8 8 0 hS9 (show 9 < cnt (tb tT4) from by rw [pl_tT4.1]; decide) (((pl_tT4.2 9 (by decide)).2.1).trans (by decide)) (((pl_tT4.2 9 (by decide)).2.2.1).trans (by decide)) (((pl_tT4.2 9 (by decide)).2.2.2.1).trans (by decide)) (((pl_tT4.2 9 (by decide)).2.2.2.2).trans (by decide)) (pl_tT4.rk (x := 8 + 8 - 1) (y := 8) (j := 9) (by decide) (by decide) (by decide)) (by decide) (by decide) (by decide)
set_option maxRecDepth 100000 in
set_option maxHeartbeats 4000000 in
theorem x_4_4_3_8_4_4 (l : Launch) (G : gG) (lq : Nat) (SL : List LdS) (K : Nat → Option LdS) (bu : Nat → Nat) (bl : Nat) (hS9 : spS (LN4, SL, K, bu, bl)) (hl9 : l.stackTraces = false) : LW l G lq yL_call wsL_call { frames := 9, cells := 4, slots := 528, locals := 230 } [.int (nI 4), .int (nI 3), .int (nI 8), .int (nI 4), .int (nI 4)] (LN4, SL, K, bu, bl) (zI (-2013)) (LN4, SL, K, bu, bl) 4 528 :=
  call_4 l G lq (LN4, SL, K, bu, bl) (LN4, SL, K, bu, bl) (nI 3) (nI 8) (nI 4) (nI 4) (-2013) (DoV.x (KX4_buySquare l G lq (LN4, SL, K, bu, bl) 3 8 4 4 hS9 (by decide) (by decide) (show ¬ (canS 2 3 8 4 4 (tb tT4) (tbC tC2)) from by decide +kernel) hl9) ⟨rfl, rfl, by decide, by decide, by decide, by decide⟩ exS)
set_option maxRecDepth 100000 in
set_option maxHeartbeats 4000000 in
theorem x_4_4_1_0_0_2 (l : Launch) (G : gG) (lq : Nat) (SL : List LdS) (K : Nat → Option LdS) (bu : Nat → Nat) (bl : Nat) (hS9 : spS (LN4, SL, K, bu, bl)) (hl9 : l.stackTraces = false) : LW l G lq yL_call wsL_call { frames := 9, cells := 4, slots := 528, locals := 230 } [.int (nI 4), .int (nI 1), .int (nI 0), .int (nI 0), .int (nI 2)] (LN4, SL, K, bu, bl) (zI (-2013)) (LN4, SL, K, bu, bl) 4 528 :=
  call_4 l G lq (LN4, SL, K, bu, bl) (LN4, SL, K, bu, bl) (nI 1) (nI 0) (nI 0) (nI 2) (-2013) (DoV.x (KX4_buySquare l G lq (LN4, SL, K, bu, bl) 1 0 0 2 hS9 (by decide) (by decide) (show ¬ (canS 2 1 0 0 2 (tb tT4) (tbC tC2)) from by decide +kernel) hl9) ⟨rfl, rfl, by decide, by decide, by decide, by decide⟩ exS)
set_option maxRecDepth 100000 in
set_option maxHeartbeats 4000000 in
theorem x_4_3_1_7_7_0 (l : Launch) (G : gG) (lq : Nat) (SL : List LdS) (K : Nat → Option LdS) (bu : Nat → Nat) (bl : Nat) (hS9 : spS (LN4, SL, K, bu, bl)) (hl9 : l.stackTraces = false) : LW l G lq yL_call wsL_call { frames := 9, cells := 4, slots := 528, locals := 230 } [.int (nI 3), .int (nI 1), .int (nI 7), .int (nI 7), .int (nI 0)] (LN4, SL, K, bu, bl) (zI (-2013)) (LN4, SL, K, bu, bl) 4 528 :=
  call_3 l G lq (LN4, SL, K, bu, bl) (LN4, SL, K, bu, bl) (nI 1) (nI 7) (nI 7) (nI 0) (-2013) (DoV.x (KX3_buyPlot l G lq (LN4, SL, K, bu, bl) 1 7 7 hS9 (by decide) (by decide) (by decide) (by dsimp only [LN4]; rw [(pl_tT4.rk (x := 7) (y := 7) (j := 0) (by decide) (by decide) (by decide)), ((pl_tT4.2 0 (by decide)).2.1), ((pl_tT4.2 0 (by decide)).2.2.1), ((pl_tT4.2 0 (by decide)).2.2.2.1)]; decide +kernel) hl9) ⟨rfl, rfl, by decide, by decide, by decide, by decide⟩ exS)
set_option maxRecDepth 100000 in
set_option maxHeartbeats 4000000 in
theorem m_4_buySquare_1_8_4_2 (l : Launch) (G : gG) (lq : Nat) (SL : List LdS) (K : Nat → Option LdS) (bu : Nat → Nat) (bl : Nat) (hS9 : spS (LN4, SL, K, bu, bl)) : LQ l G lq yX3_buySquare wsX3_buySquare { frames := 6, cells := 4, slots := 528, locals := 160 } [.int (nI 1), .int (nI 8), .int (nI 4), .int (nI 2)] (LN4, SL, K, bu, bl) (nI 8) (LN5, pushH SL LN4, K, bu, bl) 4 528 :=
  ((K_buySquare l G lq (LN4, SL, K, bu, bl) 1 8 4 2 hS9 (by decide) (by decide) (show canS 2 1 8 4 2 (tb tT4) (tbC tC2) from by decide +kernel)).r (congrArg nI ((by decide : 2 * 2 * 2 = 8)))).s (congrArg (pushS (LN4, SL, K, bu, bl)) (show ((gvOw (tb tT4) 8 4 2 1, tbH tH0, payC (tbC tC2) 1 (tb tT4 (4 * 16 + 8)) (2 * 2 * 2), 2, 1, 2 + 1, 0, 0) : LdS) = LN5 from by rw [gv_tb (T' := tT5) (by decide) (by decide +kernel), pay_tb (C' := tC3) (by decide) (tb_lt _ _) (by decide +kernel)]; rfl))
set_option maxRecDepth 100000 in
set_option maxHeartbeats 4000000 in
theorem q_5_coinsOf_1 (l : Launch) (G : gG) (lq : Nat) (SL : List LdS) (K : Nat → Option LdS) (bu : Nat → Nat) (bl : Nat) (hS9 : spS (LN5, SL, K, bu, bl)) : LQ l G lq yX3_coinsOf wsX3_coinsOf { frames := 2, cells := 0, slots := 0, locals := 41 } [.int (nI 1)] (LN5, SL, K, bu, bl) (nI 92) (LN5, SL, K, bu, bl) 0 0 :=
  (K_coinsOf l G lq (LN5, SL, K, bu, bl) 1 hS9 (by decide)).r (congrArg nI ((by decide +kernel : tbC tC3 1 = 92)))
set_option maxRecDepth 100000 in
set_option maxHeartbeats 4000000 in
theorem q_5_coinsOf_3 (l : Launch) (G : gG) (lq : Nat) (SL : List LdS) (K : Nat → Option LdS) (bu : Nat → Nat) (bl : Nat) (hS9 : spS (LN5, SL, K, bu, bl)) : LQ l G lq yX3_coinsOf wsX3_coinsOf { frames := 2, cells := 0, slots := 0, locals := 41 } [.int (nI 3)] (LN5, SL, K, bu, bl) (nI 68) (LN5, SL, K, bu, bl) 0 0 :=
  (K_coinsOf l G lq (LN5, SL, K, bu, bl) 3 hS9 (by decide)).r (congrArg nI ((by decide +kernel : tbC tC3 3 = 68)))
set_option maxRecDepth 100000 in
set_option maxHeartbeats 4000000 in
theorem q_5_sales (l : Launch) (G : gG) (lq : Nat) (SL : List LdS) (K : Nat → Option LdS) (bu : Nat → Nat) (bl : Nat) (hS9 : spS (LN5, SL, K, bu, bl)) : LQ l G lq yX3_sales wsX3_sales { frames := 0, cells := 0, slots := 0, locals := 0 } [] (LN5, SL, K, bu, bl) (nI 3) (LN5, SL, K, bu, bl) 0 0 :=
  (K_sales l G lq (LN5, SL, K, bu, bl)  hS9 ).r (congrArg nI (rfl))
set_option maxRecDepth 100000 in
set_option maxHeartbeats 4000000 in
theorem tx_5 : txN (lf [0, 8, 12, 8, 10, 8, 10, 12, 0, 8]) (lf [0, 0, 0, 4, 4, 6, 6, 4, 8, 8]) (lf [8, 4, 4, 2, 2, 2, 2, 4, 8, 8]) 10 1 (tb tT5, lf [1, 2, 3, 1, 0, 0, 0, 0, 0, 0], tbC tC3, 0, 0) 7 = (tb tT5, lf [1, 2, 3, 1, 0, 0, 0, 0, 0, 0], tbC tC6, 0, 4) := by
  have h0 : txN (lf [0, 8, 12, 8, 10, 8, 10, 12, 0, 8]) (lf [0, 0, 0, 4, 4, 6, 6, 4, 8, 8]) (lf [8, 4, 4, 2, 2, 2, 2, 4, 8, 8]) 10 1 (tb tT5, lf [1, 2, 3, 1, 0, 0, 0, 0, 0, 0], tbC tC3, 0, 0) 0 = (tb tT5, lf [1, 2, 3, 1, 0, 0, 0, 0, 0, 0], tbC tC3, 0, 0) := rfl
  have h1 : txN (lf [0, 8, 12, 8, 10, 8, 10, 12, 0, 8]) (lf [0, 0, 0, 4, 4, 6, 6, 4, 8, 8]) (lf [8, 4, 4, 2, 2, 2, 2, 4, 8, 8]) 10 1 (tb tT5, lf [1, 2, 3, 1, 0, 0, 0, 0, 0, 0], tbC tC3, 0, 0) 1 = (tb tT5, lf [1, 2, 3, 1, 0, 0, 0, 0, 0, 0], tbC tC4, 0, 2) := tx_st (pn := 1) (m := 0) (c := 2) (so' := lf [1, 2, 3, 1, 0, 0, 0, 0, 0, 0]) h0 rfl (by decide +kernel) (rfl) (by decide +kernel) (pay_tb (C' := tC4) (by decide) (by decide) (by decide +kernel)) rfl
  have h2 : txN (lf [0, 8, 12, 8, 10, 8, 10, 12, 0, 8]) (lf [0, 0, 0, 4, 4, 6, 6, 4, 8, 8]) (lf [8, 4, 4, 2, 2, 2, 2, 4, 8, 8]) 10 1 (tb tT5, lf [1, 2, 3, 1, 0, 0, 0, 0, 0, 0], tbC tC3, 0, 0) 2 = (tb tT5, lf [1, 2, 3, 1, 0, 0, 0, 0, 0, 0], tbC tC5, 0, 3) := tx_st (pn := 2) (m := 0) (c := 1) (so' := lf [1, 2, 3, 1, 0, 0, 0, 0, 0, 0]) h1 rfl (by decide +kernel) (rfl) (by decide +kernel) (pay_tb (C' := tC5) (by decide) (by decide) (by decide +kernel)) rfl
  have h3 : txN (lf [0, 8, 12, 8, 10, 8, 10, 12, 0, 8]) (lf [0, 0, 0, 4, 4, 6, 6, 4, 8, 8]) (lf [8, 4, 4, 2, 2, 2, 2, 4, 8, 8]) 10 1 (tb tT5, lf [1, 2, 3, 1, 0, 0, 0, 0, 0, 0], tbC tC3, 0, 0) 3 = (tb tT5, lf [1, 2, 3, 1, 0, 0, 0, 0, 0, 0], tbC tC6, 0, 4) := tx_st (pn := 3) (m := 0) (c := 1) (so' := lf [1, 2, 3, 1, 0, 0, 0, 0, 0, 0]) h2 rfl (by decide +kernel) (rfl) (by decide +kernel) (pay_tb (C' := tC6) (by decide) (by decide) (by decide +kernel)) rfl
  have h4 : txN (lf [0, 8, 12, 8, 10, 8, 10, 12, 0, 8]) (lf [0, 0, 0, 4, 4, 6, 6, 4, 8, 8]) (lf [8, 4, 4, 2, 2, 2, 2, 4, 8, 8]) 10 1 (tb tT5, lf [1, 2, 3, 1, 0, 0, 0, 0, 0, 0], tbC tC3, 0, 0) 4 = (tb tT5, lf [1, 2, 3, 1, 0, 0, 0, 0, 0, 0], tbC tC6, 0, 4) := tx_st (pn := 4) (m := 0) (c := 0) (so' := lf [1, 2, 3, 1, 0, 0, 0, 0, 0, 0]) h3 rfl (by decide +kernel) (rfl) (by decide +kernel) (pay_tb (C' := tC6) (by decide) (by decide) (by decide +kernel)) rfl
  have h5 : txN (lf [0, 8, 12, 8, 10, 8, 10, 12, 0, 8]) (lf [0, 0, 0, 4, 4, 6, 6, 4, 8, 8]) (lf [8, 4, 4, 2, 2, 2, 2, 4, 8, 8]) 10 1 (tb tT5, lf [1, 2, 3, 1, 0, 0, 0, 0, 0, 0], tbC tC3, 0, 0) 5 = (tb tT5, lf [1, 2, 3, 1, 0, 0, 0, 0, 0, 0], tbC tC6, 0, 4) := tx_st (pn := 5) (m := 0) (c := 0) (so' := lf [1, 2, 3, 1, 0, 0, 0, 0, 0, 0]) h4 rfl (by decide +kernel) (rfl) (by decide +kernel) (pay_tb (C' := tC6) (by decide) (by decide) (by decide +kernel)) rfl
  have h6 : txN (lf [0, 8, 12, 8, 10, 8, 10, 12, 0, 8]) (lf [0, 0, 0, 4, 4, 6, 6, 4, 8, 8]) (lf [8, 4, 4, 2, 2, 2, 2, 4, 8, 8]) 10 1 (tb tT5, lf [1, 2, 3, 1, 0, 0, 0, 0, 0, 0], tbC tC3, 0, 0) 6 = (tb tT5, lf [1, 2, 3, 1, 0, 0, 0, 0, 0, 0], tbC tC6, 0, 4) := tx_st (pn := 6) (m := 0) (c := 0) (so' := lf [1, 2, 3, 1, 0, 0, 0, 0, 0, 0]) h5 rfl (by decide +kernel) (rfl) (by decide +kernel) (pay_tb (C' := tC6) (by decide) (by decide) (by decide +kernel)) rfl
  have h7 : txN (lf [0, 8, 12, 8, 10, 8, 10, 12, 0, 8]) (lf [0, 0, 0, 4, 4, 6, 6, 4, 8, 8]) (lf [8, 4, 4, 2, 2, 2, 2, 4, 8, 8]) 10 1 (tb tT5, lf [1, 2, 3, 1, 0, 0, 0, 0, 0, 0], tbC tC3, 0, 0) 7 = (tb tT5, lf [1, 2, 3, 1, 0, 0, 0, 0, 0, 0], tbC tC6, 0, 4) := tx_st (pn := 7) (m := 0) (c := 0) (so' := lf [1, 2, 3, 1, 0, 0, 0, 0, 0, 0]) h6 rfl (by decide +kernel) (rfl) (by decide +kernel) (pay_tb (C' := tC6) (by decide) (by decide) (by decide +kernel)) rfl
  exact h7
set_option maxRecDepth 100000 in
set_option maxHeartbeats 4000000 in
theorem m_5_collectTaxes (l : Launch) (G : gG) (lq : Nat) (SL : List LdS) (K : Nat → Option LdS) (bu : Nat → Nat) (bl : Nat) (hS9 : spS (LN5, SL, K, bu, bl)) : LQ l G lq yX3_collectTaxes wsX3_collectTaxes { frames := 6, cells := 4, slots := 528, locals := 160 } [] (LN5, SL, K, bu, bl) (nI 4) (LN6, pushH SL LN5, K, bu, bl) 4 528 :=
  ((K_collectTaxes l G lq (LN5, SL, K, bu, bl)  hS9 ).r (congrArg nI ((show (txA 1 (tb tT5, tbH tH0, tbC tC3, 3, 0, 0)).2.2.2.2 = 4 from by rw [(pl_tT5.tx (he := tbH tH0) (sa := 3) (fl := 0) tx_5).2])))).s (congrArg (pushS (LN5, SL, K, bu, bl)) (show (((txA 1 (tb tT5, tbH tH0, tbC tC3, 3, 0, 0)).1, tbH tH0, (txA 1 (tb tT5, tbH tH0, tbC tC3, 3, 0, 0)).2.2.1, 2, 1, 3, 0, (txA 1 (tb tT5, tbH tH0, tbC tC3, 3, 0, 0)).2.2.2.1) : LdS) = LN6 from by rw [(pl_tT5.tx (he := tbH tH0) (sa := 3) (fl := 0) tx_5).1, (pl_tT5.tx (he := tbH tH0) (sa := 3) (fl := 0) tx_5).2]; rfl))
