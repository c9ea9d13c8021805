set_option maxRecDepth 100000 in
set_option maxHeartbeats 4000000 in
theorem q_6_coinsOf_1 (l : Launch) (G : gG) (lq : Nat) (SL : List LdS) (K : Nat → Option LdS) (bu : Nat → Nat) (bl : Nat) (hS9 : spS (LN6, SL, K, bu, bl)) : LQ l G lq yX3_coinsOf wsX3_coinsOf { frames := 2, cells := 0, slots := 0, locals := 41 } [.int (nI 1)] (LN6, SL, K, bu, bl) (nI 90) (LN6, SL, K, bu, bl) 0 0 :=
  (K_coinsOf l G lq (LN6, SL, K, bu, bl) 1 hS9 (by decide)).r (congrArg nI ((by decide +kernel : tbC tC6 1 = 90)))
set_option maxRecDepth 100000 in
set_option maxHeartbeats 4000000 in
theorem q_6_coinsOf_2 (l : Launch) (G : gG) (lq : Nat) (SL : List LdS) (K : Nat → Option LdS) (bu : Nat → Nat) (bl : Nat) (hS9 : spS (LN6, SL, K, bu, bl)) : LQ l G lq yX3_coinsOf wsX3_coinsOf { frames := 2, cells := 0, slots := 0, locals := 41 } [.int (nI 2)] (LN6, SL, K, bu, bl) (nI 99) (LN6, SL, K, bu, bl) 0 0 :=
  (K_coinsOf l G lq (LN6, SL, K, bu, bl) 2 hS9 (by decide)).r (congrArg nI ((by decide +kernel : tbC tC6 2 = 99)))
set_option maxRecDepth 100000 in
set_option maxHeartbeats 4000000 in
theorem q_6_coinsOf_3 (l : Launch) (G : gG) (lq : Nat) (SL : List LdS) (K : Nat → Option LdS) (bu : Nat → Nat) (bl : Nat) (hS9 : spS (LN6, SL, K, bu, bl)) : LQ l G lq yX3_coinsOf wsX3_coinsOf { frames := 2, cells := 0, slots := 0, locals := 41 } [.int (nI 3)] (LN6, SL, K, bu, bl) (nI 67) (LN6, SL, K, bu, bl) 0 0 :=
  (K_coinsOf l G lq (LN6, SL, K, bu, bl) 3 hS9 (by decide)).r (congrArg nI ((by decide +kernel : tbC tC6 3 = 67)))
set_option maxRecDepth 100000 in
set_option maxHeartbeats 4000000 in
theorem q_6_coinsOf_0 (l : Launch) (G : gG) (lq : Nat) (SL : List LdS) (K : Nat → Option LdS) (bu : Nat → Nat) (bl : Nat) (hS9 : spS (LN6, SL, K, bu, bl)) : LQ l G lq yX3_coinsOf wsX3_coinsOf { frames := 2, cells := 0, slots := 0, locals := 41 } [.int (nI 0)] (LN6, SL, K, bu, bl) (nI 44) (LN6, SL, K, bu, bl) 0 0 :=
  (K_coinsOf l G lq (LN6, SL, K, bu, bl) 0 hS9 (by decide)).r (congrArg nI ((by decide +kernel : tbC tC6 0 = 44)))
set_option maxRecDepth 100000 in
set_option maxHeartbeats 4000000 in
theorem m_6_raise_0_0_2_n3 (l : Launch) (G : gG) (lq : Nat) (SL : List LdS) (K : Nat → Option LdS) (bu : Nat → Nat) (bl : Nat) (hS9 : spS (LN6, SL, K, bu, bl)) : LQ l G lq yX3_raise wsX3_raise { frames := 6, cells := 4, slots := 528, locals := 160 } [.int (nI 0), .int (nI 0), .int (nI 2), .int (zI (-3))] (LN6, SL, K, bu, bl) (nI 8) (LN7, pushH SL LN6, K, bu, bl) 4 528 :=
  ((K_raise l G lq (LN6, SL, K, bu, bl) 0 0 2 (-3) hS9 (by decide) (by decide)).r (congrArg nI ((by decide +kernel : sSq (fun a => lfV (-3) (tbH tH0 a)) (0 * 16 + 0) 2 (2 * 2) = 8)))).s (congrArg (pushS (LN6, SL, K, bu, bl)) (show ((tb tT5, lfHe (tbH tH0) 0 0 2 (-3), tbC tC6, 2, 1, 3, 0, 0) : LdS) = LN7 from by rw [lf_tb (T' := tH1) (by decide) (by decide +kernel)]; rfl))
set_option maxRecDepth 100000 in
set_option maxHeartbeats 4000000 in
theorem m_7_raise_14_14_2_9 (l : Launch) (G : gG) (lq : Nat) (SL : List LdS) (K : Nat → Option LdS) (bu : Nat → Nat) (bl : Nat) (hS9 : spS (LN7, SL, K, bu, bl)) : LQ l G lq yX3_raise wsX3_raise { frames := 6, cells := 4, slots := 528, locals := 160 } [.int (nI 14), .int (nI 14), .int (nI 2), .int (nI 9)] (LN7, SL, K, bu, bl) (nI 36) (LN8, pushH SL LN7, K, bu, bl) 4 528 :=
  by
  have h := ((K_raise l G lq (LN7, SL, K, bu, bl) 14 14 2 ((9 : Nat) : Int) hS9 (by decide) (by decide)).r (congrArg nI ((by decide +kernel : sSq (fun a => lfV (9) (tbH tH1 a)) (14 * 16 + 14) 2 (2 * 2) = 36)))).s (congrArg (pushS (LN7, SL, K, bu, bl)) (show ((tb tT5, lfHe (tbH tH1) 14 14 2 (9), tbC tC6, 2, 1, 3, 0, 0) : LdS) = LN8 from by rw [lf_tb (T' := tH2) (by decide) (by decide +kernel)]; rfl))
  rw [zI_nat] at h; exact h
set_option maxRecDepth 100000 in
set_option maxHeartbeats 4000000 in
theorem q_8_meanHeight (l : Launch) (G : gG) (lq : Nat) (SL : List LdS) (K : Nat → Option LdS) (bu : Nat → Nat) (bl : Nat) (hS9 : spS (LN8, SL, K, bu, bl)) : LD l G lq yX3_meanHeight wsX3_meanHeight { frames := 1, cells := 0, slots := 0, locals := 22 } [] (LN8, SL, K, bu, bl) 4617333110147645440 0 0 :=
  (K_meanHeight l G lq (LN8, SL, K, bu, bl) hS9).r (show FP.ddiv (FP.i2d (nI (sSumH (tbH tH2) 256))) 4643211215818981376 = 4617333110147645440 from by rw [(by decide +kernel : sSumH (tbH tH2) 256 = 1284)]; decide +kernel)
set_option maxRecDepth 100000 in
set_option maxHeartbeats 4000000 in
theorem q_8_lowCells_1_3 (l : Launch) (G : gG) (lq : Nat) (SL : List LdS) (K : Nat → Option LdS) (bu : Nat → Nat) (bl : Nat) (hS9 : spS (LN8, SL, K, bu, bl)) : LQ l G lq yX3_lowCells wsX3_lowCells { frames := 2, cells := 0, slots := 0, locals := 40 } [.int (nI 1), .int (nI 3)] (LN8, SL, K, bu, bl) (nI 4) (LN8, SL, K, bu, bl) 0 0 :=
  (K_lowCells l G lq (LN8, SL, K, bu, bl) 1 3 hS9 (by decide) (by decide)).r (congrArg nI ((by decide +kernel : sBelow (tb tT5) (tbH tH2) 1 3 256 = 4)))
set_option maxRecDepth 100000 in
set_option maxHeartbeats 4000000 in
theorem q_8_lowCells_1_2 (l : Launch) (G : gG) (lq : Nat) (SL : List LdS) (K : Nat → Option LdS) (bu : Nat → Nat) (bl : Nat) (hS9 : spS (LN8, SL, K, bu, bl)) : LQ l G lq yX3_lowCells wsX3_lowCells { frames := 2, cells := 0, slots := 0, locals := 40 } [.int (nI 1), .int (nI 2)] (LN8, SL, K, bu, bl) (nI 0) (LN8, SL, K, bu, bl) 0 0 :=
  (K_lowCells l G lq (LN8, SL, K, bu, bl) 1 2 hS9 (by decide) (by decide)).r (congrArg nI ((by decide +kernel : sBelow (tb tT5) (tbH tH2) 1 2 256 = 0)))
set_option maxRecDepth 100000 in
set_option maxHeartbeats 4000000 in
theorem q_8_plotsIfFlooded_3 (l : Launch) (G : gG) (lq : Nat) (SL : List LdS) (K : Nat → Option LdS) (bu : Nat → Nat) (bl : Nat) (hS9 : spS (LN8, SL, K, bu, bl)) : LQ l G lq yX3_plotsIfFlooded wsX3_plotsIfFlooded { frames := 4, cells := 0, slots := 0, locals := 97 } [.int (nI 3)] (LN8, SL, K, bu, bl) (nI 16) (LN8, SL, K, bu, bl) 0 0 :=
  (K_plotsIfFlooded l G lq (LN8, SL, K, bu, bl) 3 hS9 (by decide)).r (congrArg nI ((show cnt (drOw (tb tT5) (tbH tH2) 3) = 16 from by rw [dr_tb (T' := tT6) (by decide +kernel)]; exact pl_tT6.1)))
set_option maxRecDepth 100000 in
set_option maxHeartbeats 4000000 in
theorem m_8_flood_3 (l : Launch) (G : gG) (lq : Nat) (SL : List LdS) (K : Nat → Option LdS) (bu : Nat → Nat) (bl : Nat) (hS9 : spS (LN8, SL, K, bu, bl)) : LQ l G lq yX3_flood wsX3_flood { frames := 6, cells := 4, slots := 528, locals := 160 } [.int (nI 3)] (LN8, SL, K, bu, bl) (nI 4) (LN10, pushH SL LN8, K, bu, bl) 4 528 :=
  ((K_flood l G lq (LN8, SL, K, bu, bl) 3 hS9 (by decide)).r (congrArg nI ((by decide +kernel : drLost (tb tT5) (tbH tH2) 3 256 = 4)))).s (congrArg (pushS (LN8, SL, K, bu, bl)) (show ((drOw (tb tT5) (tbH tH2) 3, tbH tH2, tbC tC6, 2, 1, 3, 0 + 1, 0) : LdS) = LN10 from by rw [dr_tb (T' := tT6) (by decide +kernel)]; rfl))
set_option maxRecDepth 100000 in
set_option maxHeartbeats 4000000 in
theorem q_10_plots (l : Launch) (G : gG) (lq : Nat) (SL : List LdS) (K : Nat → Option LdS) (bu : Nat → Nat) (bl : Nat) (hS9 : spS (LN10, SL, K, bu, bl)) : LQ l G lq yX3_plots wsX3_plots { frames := 1, cells := 0, slots := 0, locals := 20 } [] (LN10, SL, K, bu, bl) (nI 16) (LN10, SL, K, bu, bl) 0 0 :=
  (K_plots l G lq (LN10, SL, K, bu, bl)  hS9 ).r (congrArg nI (pl_tT6.1))
set_option maxRecDepth 100000 in
set_option maxHeartbeats 4000000 in
theorem q_10_floods (l : Launch) (G : gG) (lq : Nat) (SL : List LdS) (K : Nat → Option LdS) (bu : Nat → Nat) (bl : Nat) (hS9 : spS (LN10, SL, K, bu, bl)) : LQ l G lq yX3_floods wsX3_floods { frames := 0, cells := 0, slots := 0, locals := 0 } [] (LN10, SL, K, bu, bl) (nI 1) (LN10, SL, K, bu, bl) 0 0 :=
  (K_floods l G lq (LN10, SL, K, bu, bl)  hS9 ).r (congrArg nI (rfl))
set_option maxRecDepth 100000 in
set_option maxHeartbeats 4000000 in
theorem q_10_ownerAt_1_1 (l : Launch) (G : gG) (lq : Nat) (SL : List LdS) (K : Nat → Option LdS) (bu : Nat → Nat) (bl : Nat) (hS9 : spS (LN10, SL, K, bu, bl)) : LQ l G lq yX3_ownerAt wsX3_ownerAt { frames := 2, cells := 0, slots := 0, locals := 43 } [.int (nI 1), .int (nI 1)] (LN10, SL, K, bu, bl) (nI 0) (LN10, SL, K, bu, bl) 0 0 :=
  (K_ownerAt l G lq (LN10, SL, K, bu, bl) 1 1 hS9 (by decide) (by decide)).r (congrArg nI ((by decide +kernel : tb tT6 (1 * 16 + 1) = 0)))
set_option maxRecDepth 100000 in
set_option maxHeartbeats 4000000 in
theorem q_10_plotSizeAt_0_0 (l : Launch) (G : gG) (lq : Nat) (SL : List LdS) (K : Nat → Option LdS) (bu : Nat → Nat) (bl : Nat) (hS9 : spS (LN10, SL, K, bu, bl)) : LQ l G lq yX3_plotSizeAt wsX3_plotSizeAt { frames := 2, cells := 0, slots := 0, locals := 43 } [.int (nI 0), .int (nI 0)] (LN10, SL, K, bu, bl) (nI 2) (LN10, SL, K, bu, bl) 0 0 :=
  (K_plotSizeAt l G lq (LN10, SL, K, bu, bl) 0 0 hS9 (by decide) (by decide)).r (congrArg nI ((show svZ (tb tT6) (rkA (tb tT6) 0 0) = 2 from by rw [(pl_tT6.rk (x := 0) (y := 0) (j := 0) (by decide) (by decide) (by decide)), ((pl_tT6.2 0 (by decide)).2.2.2.1)]; decide)))
set_option maxRecDepth 100000 in
set_option maxHeartbeats 4000000 in
theorem q_10_plotsOf_1 (l : Launch) (G : gG) (lq : Nat) (SL : List LdS) (K : Nat → Option LdS) (bu : Nat → Nat) (bl : Nat) (hS9 : spS (LN10, SL, K, bu, bl)) : LQ l G lq yX3_plotsOf wsX3_plotsOf { frames := 2, cells := 0, slots := 0, locals := 40 } [.int (nI 1)] (LN10, SL, K, bu, bl) (nI 7) (LN10, SL, K, bu, bl) 0 0 :=
  (K_plotsOf l G lq (LN10, SL, K, bu, bl) 1 hS9 (by decide)).r (congrArg nI ((pl_tT6.cn 1).trans (by decide +kernel)))
set_option maxRecDepth 100000 in
set_option maxHeartbeats 4000000 in
theorem m_10_setTax_9 (l : Launch) (G : gG) (lq : Nat) (SL : List LdS) (K : Nat → Option LdS) (bu : Nat → Nat) (bl : Nat) (hS9 : spS (LN10, SL, K, bu, bl)) : LQ l G lq yX3_setTax wsX3_setTax { frames := 6, cells := 4, slots := 528, locals := 160 } [.int (nI 9)] (LN10, SL, K, bu, bl) (nI 1) (LN11, pushH SL LN10, K, bu, bl) 4 528 :=
  ((K_setTax l G lq (LN10, SL, K, bu, bl) 9 hS9 (by decide)).r (congrArg nI (rfl))).s (congrArg (pushS (LN10, SL, K, bu, bl)) (rfl : ((tb tT6, tbH tH2, tbC tC6, 2, 9, 3, 1, 0) : LdS) = LN11))
set_option maxRecDepth 100000 in
set_option maxHeartbeats 4000000 in
theorem q_11_lossesIfTaxed_1 (l : Launch) (G : gG) (lq : Nat) (SL : List LdS) (K : Nat → Option LdS) (bu : Nat → Nat) (bl : Nat) (hS9 : spS (LN11, SL, K, bu, bl)) : LQ l G lq yX3_lossesIfTaxed wsX3_lossesIfTaxed { frames := 3, cells := 0, slots := 0, locals := 64 } [.int (nI 1)] (LN11, SL, K, bu, bl) (nI 0) (LN11, SL, K, bu, bl) 0 0 :=
  (K_lossesIfTaxed l G lq (LN11, SL, K, bu, bl) 1 hS9 (by decide) (by decide)).r (congrArg nI ((pl_tT6.ls (tbC tC6) 9 1).trans (by decide +kernel)))
set_option maxRecDepth 100000 in
set_option maxHeartbeats 4000000 in
theorem m_11_setPrice_9 (l : Launch) (G : gG) (lq : Nat) (SL : List LdS) (K : Nat → Option LdS) (bu : Nat → Nat) (bl : Nat) (hS9 : spS (LN11, SL, K, bu, bl)) : LQ l G lq yX3_setPrice wsX3_setPrice { frames := 6, cells := 4, slots := 528, locals := 160 } [.int (nI 9)] (LN11, SL, K, bu, bl) (nI 2) (LN12, pushH SL LN11, K, bu, bl) 4 528 :=
  ((K_setPrice l G lq (LN11, SL, K, bu, bl) 9 hS9 (by decide)).r (congrArg nI (rfl))).s (congrArg (pushS (LN11, SL, K, bu, bl)) (rfl : ((tb tT6, tbH tH2, tbC tC6, 9, 9, 3, 1, 0) : LdS) = LN12))
set_option maxRecDepth 100000 in
set_option maxHeartbeats 4000000 in
theorem m_12_buySquare_1_8_8_2 (l : Launch) (G : gG) (lq : Nat) (SL : List LdS) (K : Nat → Option LdS) (bu : Nat → Nat) (bl : Nat) (hS9 : spS (LN12, SL, K, bu, bl)) : LQ l G lq yX3_buySquare wsX3_buySquare { frames := 6, cells := 4, slots := 528, locals := 160 } [.int (nI 1), .int (nI 8), .int (nI 8), .int (nI 2)] (LN12, SL, K, bu, bl) (nI 36) (LN13, pushH SL LN12, K, bu, bl) 4 528 :=
  ((K_buySquare l G lq (LN12, SL, K, bu, bl) 1 8 8 2 hS9 (by decide) (by decide) (show canS 9 1 8 8 2 (tb tT6) (tbC tC6) from by decide +kernel)).r (congrArg nI ((by decide : 9 * 2 * 2 = 36)))).s (congrArg (pushS (LN12, SL, K, bu, bl)) (show ((gvOw (tb tT6) 8 8 2 1, tbH tH2, payC (tbC tC6) 1 (tb tT6 (8 * 16 + 8)) (9 * 2 * 2), 9, 9, 3 + 1, 1, 0) : LdS) = LN13 from by rw [gv_tb (T' := tT7) (by decide) (by decide +kernel), pay_tb (C' := tC7) (by decide) (tb_lt _ _) (by decide +kernel)]; rfl))
set_option maxRecDepth 100000 in
set_option maxHeartbeats 4000000 in
theorem q_13_coinsOf_1 (l : Launch) (G : gG) (lq : Nat) (SL : List LdS) (K : Nat → Option LdS) (bu : Nat → Nat) (bl : Nat) (hS9 : spS (LN13, SL, K, bu, bl)) : LQ l G lq yX3_coinsOf wsX3_coinsOf { frames := 2, cells := 0, slots := 0, locals := 41 } [.int (nI 1)] (LN13, SL, K, bu, bl) (nI 54) (LN13, SL, K, bu, bl) 0 0 :=
  (K_coinsOf l G lq (LN13, SL, K, bu, bl) 1 hS9 (by decide)).r (congrArg nI ((by decide +kernel : tbC tC7 1 = 54)))
set_option maxRecDepth 100000 in
set_option maxHeartbeats 4000000 in
theorem q_13_plotsOf_1 (l : Launch) (G : gG) (lq : Nat) (SL : List LdS) (K : Nat → Option LdS) (bu : Nat → Nat) (bl : Nat) (hS9 : spS (LN13, SL, K, bu, bl)) : LQ l G lq yX3_plotsOf wsX3_plotsOf { frames := 2, cells := 0, slots := 0, locals := 40 } [.int (nI 1)] (LN13, SL, K, bu, bl) (nI 8) (LN13, SL, K, bu, bl) 0 0 :=
  (K_plotsOf l G lq (LN13, SL, K, bu, bl) 1 hS9 (by decide)).r (congrArg nI ((pl_tT7.cn 1).trans (by decide +kernel)))
set_option maxRecDepth 100000 in
set_option maxHeartbeats 4000000 in
theorem q_13_lossesIfTaxed_1 (l : Launch) (G : gG) (lq : Nat) (SL : List LdS) (K : Nat → Option LdS) (bu : Nat → Nat) (bl : Nat) (hS9 : spS (LN13, SL, K, bu, bl)) : LQ l G lq yX3_lossesIfTaxed wsX3_lossesIfTaxed { frames := 3, cells := 0, slots := 0, locals := 64 } [.int (nI 1)] (LN13, SL, K, bu, bl) (nI 2) (LN13, SL, K, bu, bl) 0 0 :=
  (K_lossesIfTaxed l G lq (LN13, SL, K, bu, bl) 1 hS9 (by decide) (by decide)).r (congrArg nI ((pl_tT7.ls (tbC tC7) 9 1).trans (by decide +kernel)))
set_option maxRecDepth 100000 in
set_option maxHeartbeats 4000000 in
theorem q_13_firstToLose_1 (l : Launch) (G : gG) (lq : Nat) (SL : List LdS) (K : Nat → Option LdS) (bu : Nat → Nat) (bl : Nat) (hS9 : spS (LN13, SL, K, bu, bl)) : LQ l G lq yX3_firstToLose wsX3_firstToLose { frames := 1, cells := 0, slots := 0, locals := 24 } [.int (nI 1)] (LN13, SL, K, bu, bl) (nI 15) (LN13, SL, K, bu, bl) 0 0 :=
  (K_firstToLose l G lq (LN13, SL, K, bu, bl) 1 hS9 (by decide) (by decide)).r ((congrArg zI ((pl_tT7.sm 1).trans (by decide +kernel))).trans (by decide : zI 15 = nI 15))
set_option maxRecDepth 100000 in
set_option maxHeartbeats 4000000 in
theorem q_13_plotRankAt_8_8 (l : Launch) (G : gG) (lq : Nat) (SL : List LdS) (K : Nat → Option LdS) (bu : Nat → Nat) (bl : Nat) (hS9 : spS (LN13, SL, K, bu, bl)) : LQ l G lq yX3_plotRankAt wsX3_plotRankAt { frames := 2, cells := 0, slots := 0, locals := 43 } [.int (nI 8), .int (nI 8)] (LN13, SL, K, bu, bl) (nI 15) (LN13, SL, K, bu, bl) 0 0 :=
  (K_plotRankAt l G lq (LN13, SL, K, bu, bl) 8 8 hS9 (by decide) (by decide)).r (congrArg nI ((pl_tT7.rk (x := 8) (y := 8) (j := 15) (by decide) (by decide) (by decide))))
set_option maxRecDepth 100000 in
set_option maxHeartbeats 4000000 in
theorem tx_13 : txN (lf [0, 2, 0, 2, 4, 0, 4, 8, 12, 8, 10, 8, 10, 12, 0, 8, 10, 8, 10, 12, 8, 12]) (lf [0, 0, 2, 2, 0, 4, 4, 0, 0, 4, 4, 6, 6, 4, 8, 8, 8, 10, 10, 8, 12, 12]) (lf [2, 2, 2, 2, 4, 4, 4, 4, 4, 2, 2, 2, 2, 4, 8, 2, 2, 2, 2, 4, 4, 4]) 22 9 (tb tT7, lf [0, 1, 1, 1, 1, 1, 1, 2, 3, 1, 0, 0, 0, 0, 0, 1, 0, 0, 0, 0, 0, 0], tbC tC7, 0, 0) 7 = (tb tT8, lf [0, 1, 1, 1, 1, 1, 1, 2, 3, 0, 0, 0, 0, 0, 0, 0, 0, 0, 0, 0, 0, 0], tbC tC10, 2, 72) := by
  have h0 : txN (lf [0, 2, 0, 2, 4, 0, 4, 8, 12, 8, 10, 8, 10, 12, 0, 8, 10, 8, 10, 12, 8, 12]) (lf [0, 0, 2, 2, 0, 4, 4, 0, 0, 4, 4, 6, 6, 4, 8, 8, 8, 10, 10, 8, 12, 12]) (lf [2, 2, 2, 2, 4, 4, 4, 4, 4, 2, 2, 2, 2, 4, 8, 2, 2, 2, 2, 4, 4, 4]) 22 9 (tb tT7, lf [0, 1, 1, 1, 1, 1, 1, 2, 3, 1, 0, 0, 0, 0, 0, 1, 0, 0, 0, 0, 0, 0], tbC tC7, 0, 0) 0 = (tb tT7, lf [0, 1, 1, 1, 1, 1, 1, 2, 3, 1, 0, 0, 0, 0, 0, 1, 0, 0, 0, 0, 0, 0], tbC tC7, 0, 0) := rfl
  have h1 : txN (lf [0, 2, 0, 2, 4, 0, 4, 8, 12, 8, 10, 8, 10, 12, 0, 8, 10, 8, 10, 12, 8, 12]) (lf [0, 0, 2, 2, 0, 4, 4, 0, 0, 4, 4, 6, 6, 4, 8, 8, 8, 10, 10, 8, 12, 12]) (lf [2, 2, 2, 2, 4, 4, 4, 4, 4, 2, 2, 2, 2, 4, 8, 2, 2, 2, 2, 4, 4, 4]) 22 9 (tb tT7, lf [0, 1, 1, 1, 1, 1, 1, 2, 3, 1, 0, 0, 0, 0, 0, 1, 0, 0, 0, 0, 0, 0], tbC tC7, 0, 0) 1 = (tb tT8, lf [0, 1, 1, 1, 1, 1, 1, 2, 3, 0, 0, 0, 0, 0, 0, 0, 0, 0, 0, 0, 0, 0], tbC tC8, 2, 54) := tx_st (pn := 1) (m := 2) (c := 6) (so' := lf [0, 1, 1, 1, 1, 1, 1, 2, 3, 0, 0, 0, 0, 0, 0, 0, 0, 0, 0, 0, 0, 0]) h0 rfl (by decide +kernel) ((lp_st (t1 := (tb tT6, lf [0, 1, 1, 1, 1, 1, 1, 2, 3, 1, 0, 0, 0, 0, 0, 0, 0, 0, 0, 0, 0, 0])) (r := 9) (lp_st (t1 := (tb tT7, lf [0, 1, 1, 1, 1, 1, 1, 2, 3, 1, 0, 0, 0, 0, 0, 1, 0, 0, 0, 0, 0, 0])) (r := 15) rfl (by decide +kernel) (congr (congrArg Prod.mk (gv_tb (T' := tT6) (by decide) (by decide +kernel))) (lf_set (by decide)))) (by decide +kernel) (congr (congrArg Prod.mk (gv_tb (T' := tT8) (by decide) (by decide +kernel))) (lf_set (by decide))))) (by decide +kernel) (pay_tb (C' := tC8) (by decide) (by decide) (by decide +kernel)) rfl
  have h2 : txN (lf [0, 2, 0, 2, 4, 0, 4, 8, 12, 8, 10, 8, 10, 12, 0, 8, 10, 8, 10, 12, 8, 12]) (lf [0, 0, 2, 2, 0, 4, 4, 0, 0, 4, 4, 6, 6, 4, 8, 8, 8, 10, 10, 8, 12, 12]) (lf [2, 2, 2, 2, 4, 4, 4, 4, 4, 2, 2, 2, 2, 4, 8, 2, 2, 2, 2, 4, 4, 4]) 22 9 (tb tT7, lf [0, 1, 1, 1, 1, 1, 1, 2, 3, 1, 0, 0, 0, 0, 0, 1, 0, 0, 0, 0, 0, 0], tbC tC7, 0, 0) 2 = (tb tT8, lf [0, 1, 1, 1, 1, 1, 1, 2, 3, 0, 0, 0, 0, 0, 0, 0, 0, 0, 0, 0, 0, 0], tbC tC9, 2, 63) := tx_st (pn := 2) (m := 0) (c := 1) (so' := lf [0, 1, 1, 1, 1, 1, 1, 2, 3, 0, 0, 0, 0, 0, 0, 0, 0, 0, 0, 0, 0, 0]) h1 rfl (by decide +kernel) (rfl) (by decide +kernel) (pay_tb (C' := tC9) (by decide) (by decide) (by decide +kernel)) rfl
  have h3 : txN (lf [0, 2, 0, 2, 4, 0, 4, 8, 12, 8, 10, 8, 10, 12, 0, 8, 10, 8, 10, 12, 8, 12]) (lf [0, 0, 2, 2, 0, 4, 4, 0, 0, 4, 4, 6, 6, 4, 8, 8, 8, 10, 10, 8, 12, 12]) (lf [2, 2, 2, 2, 4, 4, 4, 4, 4, 2, 2, 2, 2, 4, 8, 2, 2, 2, 2, 4, 4, 4]) 22 9 (tb tT7, lf [0, 1, 1, 1, 1, 1, 1, 2, 3, 1, 0, 0, 0, 0, 0, 1, 0, 0, 0, 0, 0, 0], tbC tC7, 0, 0) 3 = (tb tT8, lf [0, 1, 1, 1, 1, 1, 1, 2, 3, 0, 0, 0, 0, 0, 0, 0, 0, 0, 0, 0, 0, 0], tbC tC10, 2, 72) := tx_st (pn := 3) (m := 0) (c := 1) (so' := lf [0, 1, 1, 1, 1, 1, 1, 2, 3, 0, 0, 0, 0, 0, 0, 0, 0, 0, 0, 0, 0, 0]) h2 rfl (by decide +kernel) (rfl) (by decide +kernel) (pay_tb (C' := tC10) (by decide) (by decide) (by decide +kernel)) rfl
  have h4 : txN (lf [0, 2, 0, 2, 4, 0, 4, 8, 12, 8, 10, 8, 10, 12, 0, 8, 10, 8, 10, 12, 8, 12]) (lf [0, 0, 2, 2, 0, 4, 4, 0, 0, 4, 4, 6, 6, 4, 8, 8, 8, 10, 10, 8, 12, 12]) (lf [2, 2, 2, 2, 4, 4, 4, 4, 4, 2, 2, 2, 2, 4, 8, 2, 2, 2, 2, 4, 4, 4]) 22 9 (tb tT7, lf [0, 1, 1, 1, 1, 1, 1, 2, 3, 1, 0, 0, 0, 0, 0, 1, 0, 0, 0, 0, 0, 0], tbC tC7, 0, 0) 4 = (tb tT8, lf [0, 1, 1, 1, 1, 1, 1, 2, 3, 0, 0, 0, 0, 0, 0, 0, 0, 0, 0, 0, 0, 0], tbC tC10, 2, 72) := tx_st (pn := 4) (m := 0) (c := 0) (so' := lf [0, 1, 1, 1, 1, 1, 1, 2, 3, 0, 0, 0, 0, 0, 0, 0, 0, 0, 0, 0, 0, 0]) h3 rfl (by decide +kernel) (rfl) (by decide +kernel) (pay_tb (C' := tC10) (by decide) (by decide) (by decide +kernel)) rfl
  have h5 : txN (lf [0, 2, 0, 2, 4, 0, 4, 8, 12, 8, 10, 8, 10, 12, 0, 8, 10, 8, 10, 12, 8, 12]) (lf [0, 0, 2, 2, 0, 4, 4, 0, 0, 4, 4, 6, 6, 4, 8, 8, 8, 10, 10, 8, 12, 12]) (lf [2, 2, 2, 2, 4, 4, 4, 4, 4, 2, 2, 2, 2, 4, 8, 2, 2, 2, 2, 4, 4, 4]) 22 9 (tb tT7, lf [0, 1, 1, 1, 1, 1, 1, 2, 3, 1, 0, 0, 0, 0, 0, 1, 0, 0, 0, 0, 0, 0], tbC tC7, 0, 0) 5 = (tb tT8, lf [0, 1, 1, 1, 1, 1, 1, 2, 3, 0, 0, 0, 0, 0, 0, 0, 0, 0, 0, 0, 0, 0], tbC tC10, 2, 72) := tx_st (pn := 5) (m := 0) (c := 0) (so' := lf [0, 1, 1, 1, 1, 1, 1, 2, 3, 0, 0, 0, 0, 0, 0, 0, 0, 0, 0, 0, 0, 0]) h4 rfl (by decide +kernel) (rfl) (by decide +kernel) (pay_tb (C' := tC10) (by decide) (by decide) (by decide +kernel)) rfl
  have h6 : txN (lf [0, 2, 0, 2, 4, 0, 4, 8, 12, 8, 10, 8, 10, 12, 0, 8, 10, 8, 10, 12, 8, 12]) (lf [0, 0, 2, 2, 0, 4, 4, 0, 0, 4, 4, 6, 6, 4, 8, 8, 8, 10, 10, 8, 12, 12]) (lf [2, 2, 2, 2, 4, 4, 4, 4, 4, 2, 2, 2, 2, 4, 8, 2, 2, 2, 2, 4, 4, 4]) 22 9 (tb tT7, lf [0, 1, 1, 1, 1, 1, 1, 2, 3, 1, 0, 0, 0, 0, 0, 1, 0, 0, 0, 0, 0, 0], tbC tC7, 0, 0) 6 = (tb tT8, lf [0, 1, 1, 1, 1, 1, 1, 2, 3, 0, 0, 0, 0, 0, 0, 0, 0, 0, 0, 0, 0, 0], tbC tC10, 2, 72) := tx_st (pn := 6) (m := 0) (c := 0) (so' := lf [0, 1, 1, 1, 1, 1, 1, 2, 3, 0, 0, 0, 0, 0, 0, 0, 0, 0, 0, 0, 0, 0]) h5 rfl (by decide +kernel) (rfl) (by decide +kernel) (pay_tb (C' := tC10) (by decide) (by decide) (by decide +kernel)) rfl
  have h7 : txN (lf [0, 2, 0, 2, 4, 0, 4, 8, 12, 8, 10, 8, 10, 12, 0, 8, 10, 8, 10, 12, 8, 12]) (lf [0, 0, 2, 2, 0, 4, 4, 0, 0, 4, 4, 6, 6, 4, 8, 8, 8, 10, 10, 8, 12, 12]) (lf [2, 2, 2, 2, 4, 4, 4, 4, 4, 2, 2, 2, 2, 4, 8, 2, 2, 2, 2, 4, 4, 4]) 22 9 (tb tT7, lf [0, 1, 1, 1, 1, 1, 1, 2, 3, 1, 0, 0, 0, 0, 0, 1, 0, 0, 0, 0, 0, 0], tbC tC7, 0, 0) 7 = (tb tT8, lf [0, 1, 1, 1, 1, 1, 1, 2, 3, 0, 0, 0, 0, 0, 0, 0, 0, 0, 0, 0, 0, 0], tbC tC10, 2, 72) := tx_st (pn := 7) (m := 0) (c := 0) (so' := lf [0, 1, 1, 1, 1, 1, 1, 2, 3, 0, 0, 0, 0, 0, 0, 0, 0, 0, 0, 0, 0, 0]) h6 rfl (by decide +kernel) (rfl) (by decide +kernel) (pay_tb (C' := tC10) (by decide) (by decide) (by decide +kernel)) rfl
  exact h7
set_option maxRecDepth 100000 in
set_option maxHeartbeats 4000000 in
theorem m_13_collectTaxes (l : Launch) (G : gG) (lq : Nat) (SL : List LdS) (K : Nat → Option LdS) (bu : Nat → Nat) (bl : Nat) (hS9 : spS (LN13, SL, K, bu, bl)) : LQ l G lq yX3_collectTaxes wsX3_collectTaxes { frames := 6, cells := 4, slots := 528, locals := 160 } [] (LN13, SL, K, bu, bl) (nI 72) (LN14, pushH SL LN13, K, bu, bl) 4 528 :=
  ((K_collectTaxes l G lq (LN13, SL, K, bu, bl)  hS9 ).r (congrArg nI ((show (txA 9 (tb tT7, tbH tH2, tbC tC7, 4, 1, 0)).2.2.2.2 = 72 from by rw [(pl_tT7.tx (he := tbH tH2) (sa := 4) (fl := 1) tx_13).2])))).s (congrArg (pushS (LN13, SL, K, bu, bl)) (show (((txA 9 (tb tT7, tbH tH2, tbC tC7, 4, 1, 0)).1, tbH tH2, (txA 9 (tb tT7, tbH tH2, tbC tC7, 4, 1, 0)).2.2.1, 9, 9, 4, 1, (txA 9 (tb tT7, tbH tH2, tbC tC7, 4, 1, 0)).2.2.2.1) : LdS) = LN14 from by rw [(pl_tT7.tx (he := tbH tH2) (sa := 4) (fl := 1) tx_13).1, (pl_tT7.tx (he := tbH tH2) (sa := 4) (fl := 1) tx_13).2]; rfl))
set_option maxRecDepth 100000 in
set_option maxHeartbeats 4000000 in
theorem q_14_plotsLost (l : Launch) (G : gG) (lq : Nat) (SL : List LdS) (K : Nat → Option LdS) (bu : Nat → Nat) (bl : Nat) (hS9 : spS (LN14, SL, K, bu, bl)) : LQ l G lq yX3_plotsLost wsX3_plotsLost { frames := 0, cells := 0, slots := 0, locals := 0 } [] (LN14, SL, K, bu, bl) (nI 2) (LN14, SL, K, bu, bl) 0 0 :=
  (K_plotsLost l G lq (LN14, SL, K, bu, bl)  hS9 ).r (congrArg nI (rfl))
set_option maxRecDepth 100000 in
set_option maxHeartbeats 4000000 in
theorem q_14_coinsOf_1 (l : Launch) (G : gG) (lq : Nat) (SL : List LdS) (K : Nat → Option LdS) (bu : Nat → Nat) (bl : Nat) (hS9 : spS (LN14, SL, K, bu, bl)) : LQ l G lq yX3_coinsOf wsX3_coinsOf { frames := 2, cells := 0, slots := 0, locals := 41 } [.int (nI 1)] (LN14, SL, K, bu, bl) (nI 0) (LN14, SL, K, bu, bl) 0 0 :=
  (K_coinsOf l G lq (LN14, SL, K, bu, bl) 1 hS9 (by decide)).r (congrArg nI ((by decide +kernel : tbC tC10 1 = 0)))
set_option maxRecDepth 100000 in
set_option maxHeartbeats 4000000 in
theorem q_14_coinsOf_2 (l : Launch) (G : gG) (lq : Nat) (SL : List LdS) (K : Nat → Option LdS) (bu : Nat → Nat) (bl : Nat) (hS9 : spS (LN14, SL, K, bu, bl)) : LQ l G lq yX3_coinsOf wsX3_coinsOf { frames := 2, cells := 0, slots := 0, locals := 41 } [.int (nI 2)] (LN14, SL, K, bu, bl) (nI 90) (LN14, SL, K, bu, bl) 0 0 :=
  (K_coinsOf l G lq (LN14, SL, K, bu, bl) 2 hS9 (by decide)).r (congrArg nI ((by decide +kernel : tbC tC10 2 = 90)))
set_option maxRecDepth 100000 in
set_option maxHeartbeats 4000000 in
theorem q_14_coinsOf_3 (l : Launch) (G : gG) (lq : Nat) (SL : List LdS) (K : Nat → Option LdS) (bu : Nat → Nat) (bl : Nat) (hS9 : spS (LN14, SL, K, bu, bl)) : LQ l G lq yX3_coinsOf wsX3_coinsOf { frames := 2, cells := 0, slots := 0, locals := 41 } [.int (nI 3)] (LN14, SL, K, bu, bl) (nI 58) (LN14, SL, K, bu, bl) 0 0 :=
  (K_coinsOf l G lq (LN14, SL, K, bu, bl) 3 hS9 (by decide)).r (congrArg nI ((by decide +kernel : tbC tC10 3 = 58)))
set_option maxRecDepth 100000 in
set_option maxHeartbeats 4000000 in
theorem q_14_coinsOf_0 (l : Launch) (G : gG) (lq : Nat) (SL : List LdS) (K : Nat → Option LdS) (bu : Nat → Nat) (bl : Nat) (hS9 : spS (LN14, SL, K, bu, bl)) : LQ l G lq yX3_coinsOf wsX3_coinsOf { frames := 2, cells := 0, slots := 0, locals := 41 } [.int (nI 0)] (LN14, SL, K, bu, bl) (nI 152) (LN14, SL, K, bu, bl) 0 0 :=
  (K_coinsOf l G lq (LN14, SL, K, bu, bl) 0 hS9 (by decide)).r (congrArg nI ((by decide +kernel : tbC tC10 0 = 152)))
set_option maxRecDepth 100000 in
set_option maxHeartbeats 4000000 in
theorem q_14_ownerAt_8_8 (l : Launch) (G : gG) (lq : Nat) (SL : List LdS) (K : Nat → Option LdS) (bu : Nat → Nat) (bl : Nat) (hS9 : spS (LN14, SL, K, bu, bl)) : LQ l G lq yX3_ownerAt wsX3_ownerAt { frames := 2, cells := 0, slots := 0, locals := 43 } [.int (nI 8), .int (nI 8)] (LN14, SL, K, bu, bl) (nI 0) (LN14, SL, K, bu, bl) 0 0 :=
  (K_ownerAt l G lq (LN14, SL, K, bu, bl) 8 8 hS9 (by decide) (by decide)).r (congrArg nI ((by decide +kernel : tb tT8 (8 * 16 + 8) = 0)))
set_option maxRecDepth 100000 in
set_option maxHeartbeats 4000000 in
theorem q_14_ownerAt_8_4 (l : Launch) (G : gG) (lq : Nat) (SL : List LdS) (K : Nat → Option LdS) (bu : Nat → Nat) (bl : Nat) (hS9 : spS (LN14, SL, K, bu, bl)) : LQ l G lq yX3_ownerAt wsX3_ownerAt { frames := 2, cells := 0, slots := 0, locals := 43 } [.int (nI 8), .int (nI 4)] (LN14, SL, K, bu, bl) (nI 0) (LN14, SL, K, bu, bl) 0 0 :=
  (K_ownerAt l G lq (LN14, SL, K, bu, bl) 8 4 hS9 (by decide) (by decide)).r (congrArg nI ((by decide +kernel : tb tT8 (4 * 16 + 8) = 0)))
set_option maxRecDepth 100000 in
set_option maxHeartbeats 4000000 in
theorem q_14_plotsOf_1 (l : Launch) (G : gG) (lq : Nat) (SL : List LdS) (K : Nat → Option LdS) (bu : Nat → Nat) (bl : Nat) (hS9 : spS (LN14, SL, K, bu, bl)) : LQ l G lq yX3_plotsOf wsX3_plotsOf { frames := 2, cells := 0, slots := 0, locals := 40 } [.int (nI 1)] (LN14, SL, K, bu, bl) (nI 6) (LN14, SL, K, bu, bl) 0 0 :=
  (K_plotsOf l G lq (LN14, SL, K, bu, bl) 1 hS9 (by decide)).r (congrArg nI ((pl_tT8.cn 1).trans (by decide +kernel)))
set_option maxRecDepth 100000 in
set_option maxHeartbeats 4000000 in
theorem tx_14 : txN (lf [0, 2, 0, 2, 4, 0, 4, 8, 12, 8, 12, 0, 8]) (lf [0, 0, 2, 2, 0, 4, 4, 0, 0, 4, 4, 8, 8]) (lf [2, 2, 2, 2, 4, 4, 4, 4, 4, 4, 4, 8, 8]) 13 9 (tb tT8, lf [0, 1, 1, 1, 1, 1, 1, 2, 3, 0, 0, 0, 0], tbC tC10, 2, 0) 7 = (tb tT14, lf [0, 0, 0, 0, 0, 0, 0, 2, 3, 0, 0, 0, 0], tbC tC12, 8, 18) := by
  have h0 : txN (lf [0, 2, 0, 2, 4, 0, 4, 8, 12, 8, 12, 0, 8]) (lf [0, 0, 2, 2, 0, 4, 4, 0, 0, 4, 4, 8, 8]) (lf [2, 2, 2, 2, 4, 4, 4, 4, 4, 4, 4, 8, 8]) 13 9 (tb tT8, lf [0, 1, 1, 1, 1, 1, 1, 2, 3, 0, 0, 0, 0], tbC tC10, 2, 0) 0 = (tb tT8, lf [0, 1, 1, 1, 1, 1, 1, 2, 3, 0, 0, 0, 0], tbC tC10, 2, 0) := rfl
  have h1 : txN (lf [0, 2, 0, 2, 4, 0, 4, 8, 12, 8, 12, 0, 8]) (lf [0, 0, 2, 2, 0, 4, 4, 0, 0, 4, 4, 8, 8]) (lf [2, 2, 2, 2, 4, 4, 4, 4, 4, 4, 4, 8, 8]) 13 9 (tb tT8, lf [0, 1, 1, 1, 1, 1, 1, 2, 3, 0, 0, 0, 0], tbC tC10, 2, 0) 1 = (tb tT14, lf [0, 0, 0, 0, 0, 0, 0, 2, 3, 0, 0, 0, 0], tbC tC10, 8, 0) := tx_st (pn := 1) (m := 6) (c := 0) (so' := lf [0, 0, 0, 0, 0, 0, 0, 2, 3, 0, 0, 0, 0]) h0 rfl (by decide +kernel) ((lp_st (t1 := (tb tT13, lf [0, 0, 0, 0, 1, 0, 0, 2, 3, 0, 0, 0, 0])) (r := 4) (lp_st (t1 := (tb tT12, lf [0, 0, 0, 0, 1, 1, 0, 2, 3, 0, 0, 0, 0])) (r := 5) (lp_st (t1 := (tb tT11, lf [0, 0, 0, 0, 1, 1, 1, 2, 3, 0, 0, 0, 0])) (r := 6) (lp_st (t1 := (tb tT10, lf [0, 1, 0, 0, 1, 1, 1, 2, 3, 0, 0, 0, 0])) (r := 1) (lp_st (t1 := (tb tT9, lf [0, 1, 1, 0, 1, 1, 1, 2, 3, 0, 0, 0, 0])) (r := 2) (lp_st (t1 := (tb tT8, lf [0, 1, 1, 1, 1, 1, 1, 2, 3, 0, 0, 0, 0])) (r := 3) rfl (by decide +kernel) (congr (congrArg Prod.mk (gv_tb (T' := tT9) (by decide) (by decide +kernel))) (lf_set (by decide)))) (by decide +kernel) (congr (congrArg Prod.mk (gv_tb (T' := tT10) (by decide) (by decide +kernel))) (lf_set (by decide)))) (by decide +kernel) (congr (congrArg Prod.mk (gv_tb (T' := tT11) (by decide) (by decide +kernel))) (lf_set (by decide)))) (by decide +kernel) (congr (congrArg Prod.mk (gv_tb (T' := tT12) (by decide) (by decide +kernel))) (lf_set (by decide)))) (by decide +kernel) (congr (congrArg Prod.mk (gv_tb (T' := tT13) (by decide) (by decide +kernel))) (lf_set (by decide)))) (by decide +kernel) (congr (congrArg Prod.mk (gv_tb (T' := tT14) (by decide) (by decide +kernel))) (lf_set (by decide))))) (by decide +kernel) (pay_tb (C' := tC10) (by decide) (by decide) (by decide +kernel)) rfl
  have h2 : txN (lf [0, 2, 0, 2, 4, 0, 4, 8, 12, 8, 12, 0, 8]) (lf [0, 0, 2, 2, 0, 4, 4, 0, 0, 4, 4, 8, 8]) (lf [2, 2, 2, 2, 4, 4, 4, 4, 4, 4, 4, 8, 8]) 13 9 (tb tT8, lf [0, 1, 1, 1, 1, 1, 1, 2, 3, 0, 0, 0, 0], tbC tC10, 2, 0) 2 = (tb tT14, lf [0, 0, 0, 0, 0, 0, 0, 2, 3, 0, 0, 0, 0], tbC tC11, 8, 9) := tx_st (pn := 2) (m := 0) (c := 1) (so' := lf [0, 0, 0, 0, 0, 0, 0, 2, 3, 0, 0, 0, 0]) h1 rfl (by decide +kernel) (rfl) (by decide +kernel) (pay_tb (C' := tC11) (by decide) (by decide) (by decide +kernel)) rfl
  have h3 : txN (lf [0, 2, 0, 2, 4, 0, 4, 8, 12, 8, 12, 0, 8]) (lf [0, 0, 2, 2, 0, 4, 4, 0, 0, 4, 4, 8, 8]) (lf [2, 2, 2, 2, 4, 4, 4, 4, 4, 4, 4, 8, 8]) 13 9 (tb tT8, lf [0, 1, 1, 1, 1, 1, 1, 2, 3, 0, 0, 0, 0], tbC tC10, 2, 0) 3 = (tb tT14, lf [0, 0, 0, 0, 0, 0, 0, 2, 3, 0, 0, 0, 0], tbC tC12, 8, 18) := tx_st (pn := 3) (m := 0) (c := 1) (so' := lf [0, 0, 0, 0, 0, 0, 0, 2, 3, 0, 0, 0, 0]) h2 rfl (by decide +kernel) (rfl) (by decide +kernel) (pay_tb (C' := tC12) (by decide) (by decide) (by decide +kernel)) rfl
  have h4 : txN (lf [0, 2, 0, 2, 4, 0, 4, 8, 12, 8, 12, 0, 8]) (lf [0, 0, 2, 2, 0, 4, 4, 0, 0, 4, 4, 8, 8]) (lf [2, 2, 2, 2, 4, 4, 4, 4, 4, 4, 4, 8, 8]) 13 9 (tb tT8, lf [0, 1, 1, 1, 1, 1, 1, 2, 3, 0, 0, 0, 0], tbC tC10, 2, 0) 4 = (tb tT14, lf [0, 0, 0, 0, 0, 0, 0, 2, 3, 0, 0, 0, 0], tbC tC12, 8, 18) := tx_st (pn := 4) (m := 0) (c := 0) (so' := lf [0, 0, 0, 0, 0, 0, 0, 2, 3, 0, 0, 0, 0]) h3 rfl (by decide +kernel) (rfl) (by decide +kernel) (pay_tb (C' := tC12) (by decide) (by decide) (by decide +kernel)) rfl
  have h5 : txN (lf [0, 2, 0, 2, 4, 0, 4, 8, 12, 8, 12, 0, 8]) (lf [0, 0, 2, 2, 0, 4, 4, 0, 0, 4, 4, 8, 8]) (lf [2, 2, 2, 2, 4, 4, 4, 4, 4, 4, 4, 8, 8]) 13 9 (tb tT8, lf [0, 1, 1, 1, 1, 1, 1, 2, 3, 0, 0, 0, 0], tbC tC10, 2, 0) 5 = (tb tT14, lf [0, 0, 0, 0, 0, 0, 0, 2, 3, 0, 0, 0, 0], tbC tC12, 8, 18) := tx_st (pn := 5) (m := 0) (c := 0) (so' := lf [0, 0, 0, 0, 0, 0, 0, 2, 3, 0, 0, 0, 0]) h4 rfl (by decide +kernel) (rfl) (by decide +kernel) (pay_tb (C' := tC12) (by decide) (by decide) (by decide +kernel)) rfl
  have h6 : txN (lf [0, 2, 0, 2, 4, 0, 4, 8, 12, 8, 12, 0, 8]) (lf [0, 0, 2, 2, 0, 4, 4, 0, 0, 4, 4, 8, 8]) (lf [2, 2, 2, 2, 4, 4, 4, 4, 4, 4, 4, 8, 8]) 13 9 (tb tT8, lf [0, 1, 1, 1, 1, 1, 1, 2, 3, 0, 0, 0, 0], tbC tC10, 2, 0) 6 = (tb tT14, lf [0, 0, 0, 0, 0, 0, 0, 2, 3, 0, 0, 0, 0], tbC tC12, 8, 18) := tx_st (pn := 6) (m := 0) (c := 0) (so' := lf [0, 0, 0, 0, 0, 0, 0, 2, 3, 0, 0, 0, 0]) h5 rfl (by decide +kernel) (rfl) (by decide +kernel) (pay_tb (C' := tC12) (by decide) (by decide) (by decide +kernel)) rfl
  have h7 : txN (lf [0, 2, 0, 2, 4, 0, 4, 8, 12, 8, 12, 0, 8]) (lf [0, 0, 2, 2, 0, 4, 4, 0, 0, 4, 4, 8, 8]) (lf [2, 2, 2, 2, 4, 4, 4, 4, 4, 4, 4, 8, 8]) 13 9 (tb tT8, lf [0, 1, 1, 1, 1, 1, 1, 2, 3, 0, 0, 0, 0], tbC tC10, 2, 0) 7 = (tb tT14, lf [0, 0, 0, 0, 0, 0, 0, 2, 3, 0, 0, 0, 0], tbC tC12, 8, 18) := tx_st (pn := 7) (m := 0) (c := 0) (so' := lf [0, 0, 0, 0, 0, 0, 0, 2, 3, 0, 0, 0, 0]) h6 rfl (by decide +kernel) (rfl) (by decide +kernel) (pay_tb (C' := tC12) (by decide) (by decide) (by decide +kernel)) rfl
  exact h7
set_option maxRecDepth 100000 in
set_option maxHeartbeats 4000000 in
theorem m_14_collectTaxes (l : Launch) (G : gG) (lq : Nat) (SL : List LdS) (K : Nat → Option LdS) (bu : Nat → Nat) (bl : Nat) (hS9 : spS (LN14, SL, K, bu, bl)) : LQ l G lq yX3_collectTaxes wsX3_collectTaxes { frames := 6, cells := 4, slots := 528, locals := 160 } [] (LN14, SL, K, bu, bl) (nI 18) (LN15, pushH SL LN14, K, bu, bl) 4 528 :=
  ((K_collectTaxes l G lq (LN14, SL, K, bu, bl)  hS9 ).r (congrArg nI ((show (txA 9 (tb tT8, tbH tH2, tbC tC10, 4, 1, 2)).2.2.2.2 = 18 from by rw [(pl_tT8.tx (he := tbH tH2) (sa := 4) (fl := 1) tx_14).2])))).s (congrArg (pushS (LN14, SL, K, bu, bl)) (show (((txA 9 (tb tT8, tbH tH2, tbC tC10, 4, 1, 2)).1, tbH tH2, (txA 9 (tb tT8, tbH tH2, tbC tC10, 4, 1, 2)).2.2.1, 9, 9, 4, 1, (txA 9 (tb tT8, tbH tH2, tbC tC10, 4, 1, 2)).2.2.2.1) : LdS) = LN15 from by rw [(pl_tT8.tx (he := tbH tH2) (sa := 4) (fl := 1) tx_14).1, (pl_tT8.tx (he := tbH tH2) (sa := 4) (fl := 1) tx_14).2]; rfl))
set_option maxRecDepth 100000 in
set_option maxHeartbeats 4000000 in
theorem q_15_plotsOf_1 (l : Launch) (G : gG) (lq : Nat) (SL : List LdS) (K : Nat → Option LdS) (bu : Nat → Nat) (bl : Nat) (hS9 : spS (LN15, SL, K, bu, bl)) : LQ l G lq yX3_plotsOf wsX3_plotsOf { frames := 2, cells := 0, slots := 0, locals := 40 } [.int (nI 1)] (LN15, SL, K, bu, bl) (nI 0) (LN15, SL, K, bu, bl) 0 0 :=
  (K_plotsOf l G lq (LN15, SL, K, bu, bl) 1 hS9 (by decide)).r (congrArg nI ((pl_tT14.cn 1).trans (by decide +kernel)))
set_option maxRecDepth 100000 in
set_option maxHeartbeats 4000000 in
theorem q_15_plotsLost (l : Launch) (G : gG) (lq : Nat) (SL : List LdS) (K : Nat → Option LdS) (bu : Nat → Nat) (bl : Nat) (hS9 : spS (LN15, SL, K, bu, bl)) : LQ l G lq yX3_plotsLost wsX3_plotsLost { frames := 0, cells := 0, slots := 0, locals := 0 } [] (LN15, SL, K, bu, bl) (nI 8) (LN15, SL, K, bu, bl) 0 0 :=
  (K_plotsLost l G lq (LN15, SL, K, bu, bl)  hS9 ).r (congrArg nI (rfl))
set_option maxRecDepth 100000 in
set_option maxHeartbeats 4000000 in
theorem q_8_floods (l : Launch) (G : gG) (lq : Nat) (SL : List LdS) (K : Nat → Option LdS) (bu : Nat → Nat) (bl : Nat) (hS9 : spS (LN8, SL, K, bu, bl)) : LQ l G lq yX3_floods wsX3_floods { frames := 0, cells := 0, slots := 0, locals := 0 } [] (LN8, SL, K, bu, bl) (nI 0) (LN8, SL, K, bu, bl) 0 0 :=
  (K_floods l G lq (LN8, SL, K, bu, bl)  hS9 ).r (congrArg nI (rfl))
set_option maxRecDepth 100000 in
set_option maxHeartbeats 4000000 in
theorem q_8_tax (l : Launch) (G : gG) (lq : Nat) (SL : List LdS) (K : Nat → Option LdS) (bu : Nat → Nat) (bl : Nat) (hS9 : spS (LN8, SL, K, bu, bl)) : LQ l G lq yX3_tax wsX3_tax { frames := 0, cells := 0, slots := 0, locals := 0 } [] (LN8, SL, K, bu, bl) (nI 1) (LN8, SL, K, bu, bl) 0 0 :=
  (K_tax l G lq (LN8, SL, K, bu, bl)  hS9 ).r (congrArg nI (rfl))
set_option maxRecDepth 100000 in
set_option maxHeartbeats 4000000 in
theorem m_8_grant_0_0_16_5 (l : Launch) (G : gG) (lq : Nat) (SL : List LdS) (K : Nat → Option LdS) (bu : Nat → Nat) (bl : Nat) (hS9 : spS (LN8, SL, K, bu, bl)) : LQ l G lq yX3_grant wsX3_grant { frames := 6, cells := 4, slots := 528, locals := 160 } [.int (nI 0), .int (nI 0), .int (nI 16), .int (nI 5)] (LN8, SL, K, bu, bl) (nI 256) (LN16, pushH SL LN8, K, bu, bl) 4 528 :=
  ((K_grant l G lq (LN8, SL, K, bu, bl) 0 0 16 5 hS9 (by decide) (by decide)).r (congrArg nI ((by decide +kernel : sSq (fun a => if tb tT5 a = 5 then 0 else 1) (0 * 16 + 0) 16 (16 * 16) = 256)))).s (congrArg (pushS (LN8, SL, K, bu, bl)) (show ((gvOw (tb tT5) 0 0 16 5, tbH tH2, tbC tC6, 2, 1, 3, 0, 0) : LdS) = LN16 from by rw [gv_tb (T' := tT15) (by decide) (by decide +kernel)]; rfl))
set_option maxRecDepth 100000 in
set_option maxHeartbeats 4000000 in
theorem q_16_plots (l : Launch) (G : gG) (lq : Nat) (SL : List LdS) (K : Nat → Option LdS) (bu : Nat → Nat) (bl : Nat) (hS9 : spS (LN16, SL, K, bu, bl)) : LQ l G lq yX3_plots wsX3_plots { frames := 1, cells := 0, slots := 0, locals := 20 } [] (LN16, SL, K, bu, bl) (nI 1) (LN16, SL, K, bu, bl) 0 0 :=
  (K_plots l G lq (LN16, SL, K, bu, bl)  hS9 ).r (congrArg nI (pl_tT15.1))
set_option maxRecDepth 100000 in
set_option maxHeartbeats 4000000 in
theorem q_16_firstToLose_5 (l : Launch) (G : gG) (lq : Nat) (SL : List LdS) (K : Nat → Option LdS) (bu : Nat → Nat) (bl : Nat) (hS9 : spS (LN16, SL, K, bu, bl)) : LQ l G lq yX3_firstToLose wsX3_firstToLose { frames := 1, cells := 0, slots := 0, locals := 24 } [.int (nI 5)] (LN16, SL, K, bu, bl) (nI 0) (LN16, SL, K, bu, bl) 0 0 :=
  (K_firstToLose l G lq (LN16, SL, K, bu, bl) 5 hS9 (by decide) (by decide)).r ((congrArg zI ((pl_tT15.sm 5).trans (by decide +kernel))).trans (by decide : zI 0 = nI 0))
set_option maxRecDepth 100000 in
set_option maxHeartbeats 4000000 in
theorem tx_18 : txN (lf [0]) (lf [0]) (lf [16]) 1 1 (tb tT0, lf [0], tbC tC0, 0, 0) 7 = (tb tT0, lf [0], tbC tC0, 0, 0) := by
  have h0 : txN (lf [0]) (lf [0]) (lf [16]) 1 1 (tb tT0, lf [0], tbC tC0, 0, 0) 0 = (tb tT0, lf [0], tbC tC0, 0, 0) := rfl
  have h1 : txN (lf [0]) (lf [0]) (lf [16]) 1 1 (tb tT0, lf [0], tbC tC0, 0, 0) 1 = (tb tT0, lf [0], tbC tC0, 0, 0) := tx_st (pn := 1) (m := 0) (c := 0) (so' := lf [0]) h0 rfl (by decide +kernel) (rfl) (by decide +kernel) (pay_tb (C' := tC0) (by decide) (by decide) (by decide +kernel)) rfl
  have h2 : txN (lf [0]) (lf [0]) (lf [16]) 1 1 (tb tT0, lf [0], tbC tC0, 0, 0) 2 = (tb tT0, lf [0], tbC tC0, 0, 0) := tx_st (pn := 2) (m := 0) (c := 0) (so' := lf [0]) h1 rfl (by decide +kernel) (rfl) (by decide +kernel) (pay_tb (C' := tC0) (by decide) (by decide) (by decide +kernel)) rfl
  have h3 : txN (lf [0]) (lf [0]) (lf [16]) 1 1 (tb tT0, lf [0], tbC tC0, 0, 0) 3 = (tb tT0, lf [0], tbC tC0, 0, 0) := tx_st (pn := 3) (m := 0) (c := 0) (so' := lf [0]) h2 rfl (by decide +kernel) (rfl) (by decide +kernel) (pay_tb (C' := tC0) (by decide) (by decide) (by decide +kernel)) rfl
  have h4 : txN (lf [0]) (lf [0]) (lf [16]) 1 1 (tb tT0, lf [0], tbC tC0, 0, 0) 4 = (tb tT0, lf [0], tbC tC0, 0, 0) := tx_st (pn := 4) (m := 0) (c := 0) (so' := lf [0]) h3 rfl (by decide +kernel) (rfl) (by decide +kernel) (pay_tb (C' := tC0) (by decide) (by decide) (by decide +kernel)) rfl
  have h5 : txN (lf [0]) (lf [0]) (lf [16]) 1 1 (tb tT0, lf [0], tbC tC0, 0, 0) 5 = (tb tT0, lf [0], tbC tC0, 0, 0) := tx_st (pn := 5) (m := 0) (c := 0) (so' := lf [0]) h4 rfl (by decide +kernel) (rfl) (by decide +kernel) (pay_tb (C' := tC0) (by decide) (by decide) (by decide +kernel)) rfl
  have h6 : txN (lf [0]) (lf [0]) (lf [16]) 1 1 (tb tT0, lf [0], tbC tC0, 0, 0) 6 = (tb tT0, lf [0], tbC tC0, 0, 0) := tx_st (pn := 6) (m := 0) (c := 0) (so' := lf [0]) h5 rfl (by decide +kernel) (rfl) (by decide +kernel) (pay_tb (C' := tC0) (by decide) (by decide) (by decide +kernel)) rfl
  have h7 : txN (lf [0]) (lf [0]) (lf [16]) 1 1 (tb tT0, lf [0], tbC tC0, 0, 0) 7 = (tb tT0, lf [0], tbC tC0, 0, 0) := tx_st (pn := 7) (m := 0) (c := 0) (so' := lf [0]) h6 rfl (by decide +kernel) (rfl) (by decide +kernel) (pay_tb (C' := tC0) (by decide) (by decide) (by decide +kernel)) rfl
  exact h7
set_option maxRecDepth 100000 in
set_option maxHeartbeats 4000000 in
theorem q_18_meanHeight (l : Launch) (G : gG) (lq : Nat) (SL : List LdS) (K : Nat → Option LdS) (bu : Nat → Nat) (bl : Nat) (hS9 : spS (LN18, SL, K, bu, bl)) : LD l G lq yX3_meanHeight wsX3_meanHeight { frames := 1, cells := 0, slots := 0, locals := 22 } [] (LN18, SL, K, bu, bl) 0 0 0 :=
  (K_meanHeight l G lq (LN18, SL, K, bu, bl) hS9).r (show FP.ddiv (FP.i2d (nI (sSumH (tbH tH3) 256))) 4643211215818981376 = 0 from by rw [(by decide +kernel : sSumH (tbH tH3) 256 = 0)]; decide +kernel)
set_option maxRecDepth 100000 in
set_option maxHeartbeats 4000000 in
theorem q_18_floods (l : Launch) (G : gG) (lq : Nat) (SL : List LdS) (K : Nat → Option LdS) (bu : Nat → Nat) (bl : Nat) (hS9 : spS (LN18, SL, K, bu, bl)) : LQ l G lq yX3_floods wsX3_floods { frames := 0, cells := 0, slots := 0, locals := 0 } [] (LN18, SL, K, bu, bl) (nI 1) (LN18, SL, K, bu, bl) 0 0 :=
  (K_floods l G lq (LN18, SL, K, bu, bl)  hS9 ).r (congrArg nI (rfl))
set_option maxRecDepth 100000 in
set_option maxHeartbeats 4000000 in
theorem q_18_plots (l : Launch) (G : gG) (lq : Nat) (SL : List LdS) (K : Nat → Option LdS) (bu : Nat → Nat) (bl : Nat) (hS9 : spS (LN18, SL, K, bu, bl)) : LQ l G lq yX3_plots wsX3_plots { frames := 1, cells := 0, slots := 0, locals := 20 } [] (LN18, SL, K, bu, bl) (nI 1) (LN18, SL, K, bu, bl) 0 0 :=
  (K_plots l G lq (LN18, SL, K, bu, bl)  hS9 ).r (congrArg nI (pl_tT0.1))
set_option maxRecDepth 100000 in
set_option maxHeartbeats 4000000 in
theorem q_1_meanHeight (l : Launch) (G : gG) (lq : Nat) (SL : List LdS) (K : Nat → Option LdS) (bu : Nat → Nat) (bl : Nat) (hS9 : spS (LN1, SL, K, bu, bl)) : LD l G lq yX3_meanHeight wsX3_meanHeight { frames := 1, cells := 0, slots := 0, locals := 22 } [] (LN1, SL, K, bu, bl) 4617315517961601024 0 0 :=
  (K_meanHeight l G lq (LN1, SL, K, bu, bl) hS9).r (show FP.ddiv (FP.i2d (nI (sSumH (tbH tH0) 256))) 4643211215818981376 = 4617315517961601024 from by rw [(by decide +kernel : sSumH (tbH tH0) 256 = 1280)]; decide +kernel)
set_option maxRecDepth 100000 in
set_option maxHeartbeats 4000000 in
theorem m_0_grant_4_4_4_1 (l : Launch) (G : gG) (lq : Nat) (SL : List LdS) (K : Nat → Option LdS) (bu : Nat → Nat) (bl : Nat) (hS9 : spS (LN0, SL, K, bu, bl)) : LQ l G lq yX3_grant wsX3_grant { frames := 6, cells := 4, slots := 528, locals := 160 } [.int (nI 4), .int (nI 4), .int (nI 4), .int (nI 1)] (LN0, SL, K, bu, bl) (nI 16) (LN19, pushH SL LN0, K, bu, bl) 4 528 :=
  ((K_grant l G lq (LN0, SL, K, bu, bl) 4 4 4 1 hS9 (by decide) (by decide)).r (congrArg nI ((by decide +kernel : sSq (fun a => if tb tT0 a = 1 then 0 else 1) (4 * 16 + 4) 4 (4 * 4) = 16)))).s (congrArg (pushS (LN0, SL, K, bu, bl)) (show ((gvOw (tb tT0) 4 4 4 1, tbH tH0, tbC tC0, 2, 1, 0, 0, 0) : LdS) = LN19 from by rw [gv_tb (T' := tT16) (by decide) (by decide +kernel)]; rfl))
set_option maxRecDepth 100000 in
set_option maxHeartbeats 4000000 in
theorem m_19_grant_0_8_8_2 (l : Launch) (G : gG) (lq : Nat) (SL : List LdS) (K : Nat → Option LdS) (bu : Nat → Nat) (bl : Nat) (hS9 : spS (LN19, SL, K, bu, bl)) : LQ l G lq yX3_grant wsX3_grant { frames := 6, cells := 4, slots := 528, locals := 160 } [.int (nI 0), .int (nI 8), .int (nI 8), .int (nI 2)] (LN19, SL, K, bu, bl) (nI 64) (LN20, pushH SL LN19, K, bu, bl) 4 528 :=
  ((K_grant l G lq (LN19, SL, K, bu, bl) 0 8 8 2 hS9 (by decide) (by decide)).r (congrArg nI ((by decide +kernel : sSq (fun a => if tb tT16 a = 2 then 0 else 1) (8 * 16 + 0) 8 (8 * 8) = 64)))).s (congrArg (pushS (LN19, SL, K, bu, bl)) (show ((gvOw (tb tT16) 0 8 8 2, tbH tH0, tbC tC0, 2, 1, 0, 0, 0) : LdS) = LN20 from by rw [gv_tb (T' := tT17) (by decide) (by decide +kernel)]; rfl))
set_option maxRecDepth 100000 in
set_option maxHeartbeats 4000000 in
theorem m_20_raise_0_0_8_n2 (l : Launch) (G : gG) (lq : Nat) (SL : List LdS) (K : Nat → Option LdS) (bu : Nat → Nat) (bl : Nat) (hS9 : spS (LN20, SL, K, bu, bl)) : LQ l G lq yX3_raise wsX3_raise { frames := 6, cells := 4, slots := 528, locals := 160 } [.int (nI 0), .int (nI 0), .int (nI 8), .int (zI (-2))] (LN20, SL, K, bu, bl) (nI 192) (LN21, pushH SL LN20, K, bu, bl) 4 528 :=
  ((K_raise l G lq (LN20, SL, K, bu, bl) 0 0 8 (-2) hS9 (by decide) (by decide)).r (congrArg nI ((by decide +kernel : sSq (fun a => lfV (-2) (tbH tH0 a)) (0 * 16 + 0) 8 (8 * 8) = 192)))).s (congrArg (pushS (LN20, SL, K, bu, bl)) (show ((tb tT17, lfHe (tbH tH0) 0 0 8 (-2), tbC tC0, 2, 1, 0, 0, 0) : LdS) = LN21 from by rw [lf_tb (T' := tH4) (by decide) (by decide +kernel)]; rfl))
set_option maxRecDepth 100000 in
set_option maxHeartbeats 4000000 in
theorem m_21_buySquare_3_2_2_2 (l : Launch) (G : gG) (lq : Nat) (SL : List LdS) (K : Nat → Option LdS) (bu : Nat → Nat) (bl : Nat) (hS9 : spS (LN21, SL, K, bu, bl)) : LQ l G lq yX3_buySquare wsX3_buySquare { frames := 6, cells := 4, slots := 528, locals := 160 } [.int (nI 3), .int (nI 2), .int (nI 2), .int (nI 2)] (LN21, SL, K, bu, bl) (nI 8) (LN22, pushH SL LN21, K, bu, bl) 4 528 :=
  ((K_buySquare l G lq (LN21, SL, K, bu, bl) 3 2 2 2 hS9 (by decide) (by decide) (show canS 2 3 2 2 2 (tb tT17) (tbC tC0) from by decide +kernel)).r (congrArg nI ((by decide : 2 * 2 * 2 = 8)))).s (congrArg (pushS (LN21, SL, K, bu, bl)) (show ((gvOw (tb tT17) 2 2 2 3, tbH tH4, payC (tbC tC0) 3 (tb tT17 (2 * 16 + 2)) (2 * 2 * 2), 2, 1, 0 + 1, 0, 0) : LdS) = LN22 from by rw [gv_tb (T' := tT18) (by decide) (by decide +kernel), pay_tb (C' := tC13) (by decide) (tb_lt _ _) (by decide +kernel)]; rfl))
