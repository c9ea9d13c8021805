set_option maxHeartbeats 8000000 in
set_option maxRecDepth 100000 in
theorem ld_0 {p : Program} {l : Launch} {e : Env} {s : State} {m : MethodId} {args : Array Value} {below : List Frame} {meth : Method} {c : Code} {H : Heap} {locs : List Loc} {Q : State → Prop} {G : gG} {A : Nat → Prop} {lq : Nat} {ls : Array Slot} {wv X : va_W}  (hS9 : spS (LN0, [], KN0, BU0, 0)) (hl9 : l.stackTraces = false) (F : gAt p s m args meth c yL_lands wsL_lands cL_lands 1 (some .boolean) G A) (hZ : gX A s s.heap) (hC : clS G lq wv (LN0, [], KN0, BU0, 0)) (hP : va_P G.1 vwCl (wv ++ X) H) (hD : va_D A (wv ++ X)) (hS : va_S A s.heap H locs) (hl : lv_has ls 1 [(0, .ref lq)])
    (kk : ∀ (SL : List LdS) (hS9 : spS (LN0, SL, KN0, BU0, 0)) (u : va_W) (H : Heap) (locs : List Loc) (ls : Array Slot), clS G lq u (LN0, SL, KN0, BU0, 0) → va_P G.1 vwCl (u ++ X) H → va_D A (u ++ X) → va_S A s.heap H locs → lv_has ls 1 [(0, .ref lq)] → W p l e ({ frames := 12, cells := 3300, slots := 420000, locals := 330 } : Room) s m args below meth c H locs 33 4770 Q (F0 m 110 ls [])) : W p l e ({ frames := 12, cells := 3300, slots := 420000, locals := 330 } : Room) s m args below meth c H locs 25 3714 Q (F0 m 8 ls []) := by
  have hx := F.1
  have hb := F.2.1
  have hts := F.2.2.2.2.2.2.1
  have hown : s.vm.findClass RL = some m.cls := F.2.2.2.2.2.1
  refine lv_aload_n hx hb dL_lands_8 rfl (lv_at hl 0 rfl) ?_
  refine lv_bipush (v := nI 9) hx hb dL_lands_9 (by decide) ?_
  refine lv_iconst (v := nI 0) hx hb dL_lands_11 (by decide) ?_
  refine lv_iconst (v := nI 0) hx hb dL_lands_12 (by decide) ?_
  refine lv_iconst (v := nI 0) hx hb dL_lands_13 (by decide) ?_
  refine lv_iconst (v := nI 0) hx hb dL_lands_14 (by decide) ?_
  refine lqSW (own := RL) (index := 150) (bytes := cL_call) (n := 6) (As := [.int (nI 9), .int (nI 0), .int (nI 0), .int (nI 0), .int (nI 0)]) (rest := []) (c2 := 29) (s2 := 4242) F hZ (x_0_9_0_0_0_0 l G lq ([]) KN0 BU0 0 hS9 rfl hl9) hC gL_lands_L_call rfl rfl rfl rfl (by decide +kernel) rfl ⟨Nat.le_of_ble_eq_true rfl, Nat.le_of_ble_eq_true rfl⟩ hP hD hS rfl hl.1 (Nat.le_of_ble_eq_true rfl) dL_lands_15 ⟨Nat.le_of_ble_eq_true rfl, Nat.le_of_ble_eq_true rfl⟩ ⟨Nat.le_of_ble_eq_true rfl, Nat.le_of_ble_eq_true rfl⟩ (fun u15 H locs hC hP hD hS => ?_)
  refine lv_sipush (v := zI (-2013)) hx hb dL_lands_18 (by decide) ?_
  refine bIF_ne (tgt := 251) hx hb dL_lands_21 (by decide) (by decide) ?_
  refine lv_aload_n hx hb dL_lands_24 rfl (lv_at hl 0 rfl) ?_
  refine lv_bipush (v := nI 11) hx hb dL_lands_25 (by decide) ?_
  refine lv_iconst (v := nI 1) hx hb dL_lands_27 (by decide) ?_
  refine lv_iconst (v := nI 0) hx hb dL_lands_28 (by decide) ?_
  refine lv_iconst (v := nI 0) hx hb dL_lands_29 (by decide) ?_
  refine lv_iconst (v := nI 0) hx hb dL_lands_30 (by decide) ?_
  refine lqSW (own := RL) (index := 150) (bytes := cL_call) (n := 6) (As := [.int (nI 11), .int (nI 1), .int (nI 0), .int (nI 0), .int (nI 0)]) (rest := []) (c2 := 33) (s2 := 4770) F hZ (x_0_11_1_0_0_0 l G lq ([]) KN0 BU0 0 hS9 rfl hl9) hC gL_lands_L_call rfl rfl rfl rfl (by decide +kernel) rfl ⟨Nat.le_of_ble_eq_true rfl, Nat.le_of_ble_eq_true rfl⟩ hP hD hS rfl hl.1 (Nat.le_of_ble_eq_true rfl) dL_lands_31 ⟨Nat.le_of_ble_eq_true rfl, Nat.le_of_ble_eq_true rfl⟩ ⟨Nat.le_of_ble_eq_true rfl, Nat.le_of_ble_eq_true rfl⟩ (fun u31 H locs hC hP hD hS => ?_)
  refine lv_sipush (v := zI (-2013)) hx hb dL_lands_34 (by decide) ?_
  refine bIF_ne (tgt := 251) hx hb dL_lands_37 (by decide) (by decide) ?_
  refine lv_aload_n hx hb dL_lands_40 rfl (lv_at hl 0 rfl) ?_
  refine lqV (own := RL) (index := 128) (bytes := cX3_plots) (n := 0) (As := []) (rest := []) (c2 := 33) (s2 := 4770) F (q_0_plots l G lq ([]) KN0 BU0 0 hS9) hC gL_lands_X3_plots rfl rfl rfl rfl (by decide +kernel) rfl ⟨Nat.le_of_ble_eq_true rfl, Nat.le_of_ble_eq_true rfl⟩ hP hD hS rfl hl.1 (Nat.le_of_ble_eq_true rfl) dL_lands_41 ⟨Nat.le_of_ble_eq_true rfl, Nat.le_of_ble_eq_true rfl⟩ ⟨Nat.le_of_ble_eq_true rfl, Nat.le_of_ble_eq_true rfl⟩ (fun u41 H locs hC hP hD hS => ?_)
  refine lv_iconst (v := nI 1) hx hb dL_lands_44 (by decide) ?_
  refine bIF_ne (tgt := 251) hx hb dL_lands_45 (by decide) (by decide) ?_
  refine lv_aload_n hx hb dL_lands_48 rfl (lv_at hl 0 rfl) ?_
  refine lv_iconst (v := nI 0) hx hb dL_lands_49 (by decide) ?_
  refine lv_iconst (v := nI 0) hx hb dL_lands_50 (by decide) ?_
  refine lv_iconst (v := nI 0) hx hb dL_lands_51 (by decide) ?_
  refine lv_bipush (v := nI 16) hx hb dL_lands_52 (by decide) ?_
  refine lv_iconst (v := nI 0) hx hb dL_lands_54 (by decide) ?_
  refine lqS (own := RL) (index := 182) (bytes := cL_is) (n := 6) (As := [.int (nI 0), .int (nI 0), .int (nI 0), .int (nI 16), .int (nI 0)]) (rest := []) (c2 := 33) (s2 := 4770) F hZ (i_0_0 l G lq ([]) KN0 BU0 0 hS9) hC gL_lands_L_is rfl rfl rfl rfl (by decide +kernel) rfl ⟨Nat.le_of_ble_eq_true rfl, Nat.le_of_ble_eq_true rfl⟩ hP hD hS rfl hl.1 (Nat.le_of_ble_eq_true rfl) dL_lands_55 ⟨Nat.le_of_ble_eq_true rfl, Nat.le_of_ble_eq_true rfl⟩ ⟨Nat.le_of_ble_eq_true rfl, Nat.le_of_ble_eq_true rfl⟩ (fun u55 H locs hC hP hD hS => ?_)
  refine bZF_eq (tgt := 251) hx hb dL_lands_58 (by decide) (by decide) ?_
  refine lv_aload_n hx hb dL_lands_61 rfl (lv_at hl 0 rfl) ?_
  refine lv_iconst (v := nI 0) hx hb dL_lands_62 (by decide) ?_
  refine lqV (own := RL) (index := 112) (bytes := cX3_coinsOf) (n := 1) (As := [.int (nI 0)]) (rest := []) (c2 := 33) (s2 := 4770) F (q_0_coinsOf_0 l G lq ([]) KN0 BU0 0 hS9) hC gL_lands_X3_coinsOf rfl rfl rfl rfl (by decide +kernel) rfl ⟨Nat.le_of_ble_eq_true rfl, Nat.le_of_ble_eq_true rfl⟩ hP hD hS rfl hl.1 (Nat.le_of_ble_eq_true rfl) dL_lands_63 ⟨Nat.le_of_ble_eq_true rfl, Nat.le_of_ble_eq_true rfl⟩ ⟨Nat.le_of_ble_eq_true rfl, Nat.le_of_ble_eq_true rfl⟩ (fun u63 H locs hC hP hD hS => ?_)
  refine bZF_ne (tgt := 251) hx hb dL_lands_66 (by decide) (by decide) ?_
  refine lv_aload_n hx hb dL_lands_69 rfl (lv_at hl 0 rfl) ?_
  refine lv_bipush (v := nI 7) hx hb dL_lands_70 (by decide) ?_
  refine lqV (own := RL) (index := 112) (bytes := cX3_coinsOf) (n := 1) (As := [.int (nI 7)]) (rest := []) (c2 := 33) (s2 := 4770) F (q_0_coinsOf_7 l G lq ([]) KN0 BU0 0 hS9) hC gL_lands_X3_coinsOf rfl rfl rfl rfl (by decide +kernel) rfl ⟨Nat.le_of_ble_eq_true rfl, Nat.le_of_ble_eq_true rfl⟩ hP hD hS rfl hl.1 (Nat.le_of_ble_eq_true rfl) dL_lands_72 ⟨Nat.le_of_ble_eq_true rfl, Nat.le_of_ble_eq_true rfl⟩ ⟨Nat.le_of_ble_eq_true rfl, Nat.le_of_ble_eq_true rfl⟩ (fun u72 H locs hC hP hD hS => ?_)
  refine lv_bipush (v := nI 100) hx hb dL_lands_75 (by decide) ?_
  refine bIF_ne (tgt := 251) hx hb dL_lands_77 (by decide) (by decide) ?_
  refine lv_aload_n hx hb dL_lands_80 rfl (lv_at hl 0 rfl) ?_
  refine lv_iconst (v := nI 0) hx hb dL_lands_81 (by decide) ?_
  refine lv_iconst (v := nI 0) hx hb dL_lands_82 (by decide) ?_
  refine lv_iconst (v := zI (-1)) hx hb dL_lands_83 (by decide) ?_
  refine lqS (own := RL) (index := 186) (bytes := cL_fences) (n := 4) (As := [.int (nI 0), .int (nI 0), .int (zI (-1))]) (rest := []) (c2 := 33) (s2 := 4770) F hZ (f_0_0 l G lq ([]) KN0 BU0 0 hS9) hC gL_lands_L_fences rfl rfl rfl rfl (by decide +kernel) rfl ⟨Nat.le_of_ble_eq_true rfl, Nat.le_of_ble_eq_true rfl⟩ hP hD hS rfl hl.1 (Nat.le_of_ble_eq_true rfl) dL_lands_84 ⟨Nat.le_of_ble_eq_true rfl, Nat.le_of_ble_eq_true rfl⟩ ⟨Nat.le_of_ble_eq_true rfl, Nat.le_of_ble_eq_true rfl⟩ (fun u84 H locs hC hP hD hS => ?_)
  refine bZF_eq (tgt := 251) hx hb dL_lands_87 (by decide) (by decide) ?_
  refine lv_aload_n hx hb dL_lands_90 rfl (lv_at hl 0 rfl) ?_
  refine lqD (own := RL) (index := 190) (bytes := cX3_meanHeight) (n := 0) (As := []) (rest := []) (c2 := 33) (s2 := 4770) F (q_0_meanHeight l G lq ([]) KN0 BU0 0 hS9) hC gL_lands_X3_meanHeight rfl rfl rfl rfl (by decide +kernel) rfl ⟨Nat.le_of_ble_eq_true rfl, Nat.le_of_ble_eq_true rfl⟩ hP hD hS rfl hl.1 (Nat.le_of_ble_eq_true rfl) dL_lands_91 ⟨Nat.le_of_ble_eq_true rfl, Nat.le_of_ble_eq_true rfl⟩ ⟨Nat.le_of_ble_eq_true rfl, Nat.le_of_ble_eq_true rfl⟩ (fun u91 H locs hC hP hD hS => ?_)
  refine lv_ldc2d (own := RL) (v := 4617315517961601024) hx hb hown (hts (.constantDouble RL 194 (4617315517961601024)) (by decide +kernel)) dL_lands_94 ?_
  refine lv_dcmp hx hb dL_lands_97 ?_
  refine W.eq (g2 := F0 m 98 ls [.int (nI 0)]) (congrArg (fun v_ => F0 m 98 ls [v_]) (show (.int (Op.cmpValue (FP.dcmp 4617315517961601024 4617315517961601024) .l) : Value) = .int (nI 0) from congrArg Value.int (by decide +kernel))) ?_
  refine bZF_ne (tgt := 251) hx hb dL_lands_98 (by decide) (by decide) ?_
  refine lv_aload_n hx hb dL_lands_101 rfl (lv_at hl 0 rfl) ?_
  refine lv_iconst (v := nI 1) hx hb dL_lands_102 (by decide) ?_
  refine lqV (own := RL) (index := 106) (bytes := cX3_largestPlotOf) (n := 1) (As := [.int (nI 1)]) (rest := []) (c2 := 33) (s2 := 4770) F (q_0_largestPlotOf_1 l G lq ([]) KN0 BU0 0 hS9) hC gL_lands_X3_largestPlotOf rfl rfl rfl rfl (by decide +kernel) rfl ⟨Nat.le_of_ble_eq_true rfl, Nat.le_of_ble_eq_true rfl⟩ hP hD hS rfl hl.1 (Nat.le_of_ble_eq_true rfl) dL_lands_103 ⟨Nat.le_of_ble_eq_true rfl, Nat.le_of_ble_eq_true rfl⟩ ⟨Nat.le_of_ble_eq_true rfl, Nat.le_of_ble_eq_true rfl⟩ (fun u103 H locs hC hP hD hS => ?_)
  refine lv_iconst (v := zI (-1)) hx hb dL_lands_106 (by decide) ?_
  refine bIF_ne (tgt := 251) hx hb dL_lands_107 (by decide) (by decide) ?_
  exact kk [] hS9 u103 H locs ls hC hP hD hS (lv_sub hl [0] rfl)

set_option maxHeartbeats 8000000 in
set_option maxRecDepth 100000 in
theorem ld_1 {p : Program} {l : Launch} {e : Env} {s : State} {m : MethodId} {args : Array Value} {below : List Frame} {meth : Method} {c : Code} {H : Heap} {locs : List Loc} {Q : State → Prop} {G : gG} {A : Nat → Prop} {lq : Nat} {ls : Array Slot} {wv X : va_W} (SL : List LdS) (hS9 : spS (LN0, SL, KN0, BU0, 0)) (hl9 : l.stackTraces = false) (F : gAt p s m args meth c yL_lands wsL_lands cL_lands 1 (some .boolean) G A) (hZ : gX A s s.heap) (hC : clS G lq wv (LN0, SL, KN0, BU0, 0)) (hP : va_P G.1 vwCl (wv ++ X) H) (hD : va_D A (wv ++ X)) (hS : va_S A s.heap H locs) (hl : lv_has ls 1 [(0, .ref lq)])
    (kk : ∀ (SL : List LdS) (hS9 : spS (LN2, SL, KN0, BU0, 0)) (u : va_W) (H : Heap) (locs : List Loc) (ls : Array Slot), clS G lq u (LN2, SL, KN0, BU0, 0) → va_P G.1 vwCl (u ++ X) H → va_D A (u ++ X) → va_S A s.heap H locs → lv_has ls 1 [(0, .ref lq)] → W p l e ({ frames := 12, cells := 3300, slots := 420000, locals := 330 } : Room) s m args below meth c H locs 1045 126354 Q (F0 m 221 ls [])) : W p l e ({ frames := 12, cells := 3300, slots := 420000, locals := 330 } : Room) s m args below meth c H locs 33 4770 Q (F0 m 110 ls []) := by
  have hx := F.1
  have hb := F.2.1
  have hts := F.2.2.2.2.2.2.1
  have hown : s.vm.findClass RL = some m.cls := F.2.2.2.2.2.1
  refine lv_aload_n hx hb dL_lands_110 rfl (lv_at hl 0 rfl) ?_
  refine lqV (own := RL) (index := 63) (bytes := cX3_collectTaxes) (n := 0) (As := []) (rest := []) (c2 := 37) (s2 := 5298) F (m_0_collectTaxes l G lq SL KN0 BU0 0 hS9) hC gL_lands_X3_collectTaxes rfl rfl rfl rfl (by decide +kernel) rfl ⟨Nat.le_of_ble_eq_true rfl, Nat.le_of_ble_eq_true rfl⟩ hP hD hS rfl hl.1 (Nat.le_of_ble_eq_true rfl) dL_lands_111 ⟨Nat.le_of_ble_eq_true rfl, Nat.le_of_ble_eq_true rfl⟩ ⟨Nat.le_of_ble_eq_true rfl, Nat.le_of_ble_eq_true rfl⟩ (fun u111 H locs hC hP hD hS => ?_)
  have hS9 : spS (LN0, pushH SL LN0, KN0, BU0, 0) := spS_push hS9 ok0
  generalize pushH SL LN0 = SL1 at hC hS9
  refine bZF_ne (tgt := 251) hx hb dL_lands_114 (by decide) (by decide) ?_
  refine lv_aload_n hx hb dL_lands_117 rfl (lv_at hl 0 rfl) ?_
  refine lqS (own := RL) (index := 196) (bytes := cL_refused) (n := 1) (As := []) (rest := []) (c2 := 1037) (s2 := 125298) F hZ (c_refused l G lq (LN0, SL1, KN0, BU0, 0) hS9 rfl hl9) hC gL_lands_L_refused rfl rfl rfl rfl (by decide +kernel) rfl ⟨Nat.le_of_ble_eq_true rfl, Nat.le_of_ble_eq_true rfl⟩ hP hD hS rfl hl.1 (Nat.le_of_ble_eq_true rfl) dL_lands_118 ⟨Nat.le_of_ble_eq_true rfl, Nat.le_of_ble_eq_true rfl⟩ ⟨Nat.le_of_ble_eq_true rfl, Nat.le_of_ble_eq_true rfl⟩ (fun u118 H locs hC hP hD hS => ?_)
  refine bZF_eq (tgt := 251) hx hb dL_lands_121 (by decide) (by decide) ?_
  refine lv_aload_n hx hb dL_lands_124 rfl (lv_at hl 0 rfl) ?_
  refine lv_iconst (v := nI 0) hx hb dL_lands_125 (by decide) ?_
  refine lv_iconst (v := nI 0) hx hb dL_lands_126 (by decide) ?_
  refine lv_bipush (v := nI 8) hx hb dL_lands_127 (by decide) ?_
  refine lv_iconst (v := nI 1) hx hb dL_lands_129 (by decide) ?_
  refine lqV (own := RL) (index := 9) (bytes := cX3_grant) (n := 4) (As := [.int (nI 0), .int (nI 0), .int (nI 8), .int (nI 1)]) (rest := []) (c2 := 1041) (s2 := 125826) F (m_0_grant_0_0_8_1 l G lq SL1 KN0 BU0 0 hS9) hC gL_lands_X3_grant rfl rfl rfl rfl (by decide +kernel) rfl ⟨Nat.le_of_ble_eq_true rfl, Nat.le_of_ble_eq_true rfl⟩ hP hD hS rfl hl.1 (Nat.le_of_ble_eq_true rfl) dL_lands_130 ⟨Nat.le_of_ble_eq_true rfl, Nat.le_of_ble_eq_true rfl⟩ ⟨Nat.le_of_ble_eq_true rfl, Nat.le_of_ble_eq_true rfl⟩ (fun u130 H locs hC hP hD hS => ?_)
  have hS9 : spS (LN1, pushH SL1 LN0, KN0, BU0, 0) := spS_push hS9 ok1
  generalize pushH SL1 LN0 = SL2 at hC hS9
  refine lv_bipush (v := nI 64) hx hb dL_lands_133 (by decide) ?_
  refine bIF_ne (tgt := 251) hx hb dL_lands_135 (by decide) (by decide) ?_
  refine lv_aload_n hx hb dL_lands_138 rfl (lv_at hl 0 rfl) ?_
  refine lqV (own := RL) (index := 128) (bytes := cX3_plots) (n := 0) (As := []) (rest := []) (c2 := 1041) (s2 := 125826) F (q_1_plots l G lq SL2 KN0 BU0 0 hS9) hC gL_lands_X3_plots rfl rfl rfl rfl (by decide +kernel) rfl ⟨Nat.le_of_ble_eq_true rfl, Nat.le_of_ble_eq_true rfl⟩ hP hD hS rfl hl.1 (Nat.le_of_ble_eq_true rfl) dL_lands_139 ⟨Nat.le_of_ble_eq_true rfl, Nat.le_of_ble_eq_true rfl⟩ ⟨Nat.le_of_ble_eq_true rfl, Nat.le_of_ble_eq_true rfl⟩ (fun u139 H locs hC hP hD hS => ?_)
  refine lv_iconst (v := nI 4) hx hb dL_lands_142 (by decide) ?_
  refine bIF_ne (tgt := 251) hx hb dL_lands_143 (by decide) (by decide) ?_
  refine lv_aload_n hx hb dL_lands_146 rfl (lv_at hl 0 rfl) ?_
  refine lv_bipush (v := nI 8) hx hb dL_lands_147 (by decide) ?_
  refine lv_iconst (v := nI 0) hx hb dL_lands_149 (by decide) ?_
  refine lv_iconst (v := nI 4) hx hb dL_lands_150 (by decide) ?_
  refine lv_iconst (v := nI 2) hx hb dL_lands_151 (by decide) ?_
  refine lqV (own := RL) (index := 9) (bytes := cX3_grant) (n := 4) (As := [.int (nI 8), .int (nI 0), .int (nI 4), .int (nI 2)]) (rest := []) (c2 := 1045) (s2 := 126354) F (m_1_grant_8_0_4_2 l G lq SL2 KN0 BU0 0 hS9) hC gL_lands_X3_grant rfl rfl rfl rfl (by decide +kernel) rfl ⟨Nat.le_of_ble_eq_true rfl, Nat.le_of_ble_eq_true rfl⟩ hP hD hS rfl hl.1 (Nat.le_of_ble_eq_true rfl) dL_lands_152 ⟨Nat.le_of_ble_eq_true rfl, Nat.le_of_ble_eq_true rfl⟩ ⟨Nat.le_of_ble_eq_true rfl, Nat.le_of_ble_eq_true rfl⟩ (fun u152 H locs hC hP hD hS => ?_)
  have hS9 : spS (LN2, pushH SL2 LN1, KN0, BU0, 0) := spS_push hS9 ok2
  generalize pushH SL2 LN1 = SL3 at hC hS9
  refine lv_bipush (v := nI 16) hx hb dL_lands_155 (by decide) ?_
  refine bIF_ne (tgt := 251) hx hb dL_lands_157 (by decide) (by decide) ?_
  refine lv_aload_n hx hb dL_lands_160 rfl (lv_at hl 0 rfl) ?_
  refine lqV (own := RL) (index := 128) (bytes := cX3_plots) (n := 0) (As := []) (rest := []) (c2 := 1045) (s2 := 126354) F (q_2_plots l G lq SL3 KN0 BU0 0 hS9) hC gL_lands_X3_plots rfl rfl rfl rfl (by decide +kernel) rfl ⟨Nat.le_of_ble_eq_true rfl, Nat.le_of_ble_eq_true rfl⟩ hP hD hS rfl hl.1 (Nat.le_of_ble_eq_true rfl) dL_lands_161 ⟨Nat.le_of_ble_eq_true rfl, Nat.le_of_ble_eq_true rfl⟩ ⟨Nat.le_of_ble_eq_true rfl, Nat.le_of_ble_eq_true rfl⟩ (fun u161 H locs hC hP hD hS => ?_)
  refine lv_bipush (v := nI 7) hx hb dL_lands_164 (by decide) ?_
  refine bIF_ne (tgt := 251) hx hb dL_lands_166 (by decide) (by decide) ?_
  refine lv_aload_n hx hb dL_lands_169 rfl (lv_at hl 0 rfl) ?_
  refine lv_iconst (v := nI 1) hx hb dL_lands_170 (by decide) ?_
  refine lv_bipush (v := nI 8) hx hb dL_lands_171 (by decide) ?_
  refine lv_iconst (v := nI 0) hx hb dL_lands_173 (by decide) ?_
  refine lv_iconst (v := nI 4) hx hb dL_lands_174 (by decide) ?_
  refine lv_iconst (v := nI 2) hx hb dL_lands_175 (by decide) ?_
  refine lqS (own := RL) (index := 182) (bytes := cL_is) (n := 6) (As := [.int (nI 1), .int (nI 8), .int (nI 0), .int (nI 4), .int (nI 2)]) (rest := []) (c2 := 1045) (s2 := 126354) F hZ (i_2_1 l G lq SL3 KN0 BU0 0 hS9) hC gL_lands_L_is rfl rfl rfl rfl (by decide +kernel) rfl ⟨Nat.le_of_ble_eq_true rfl, Nat.le_of_ble_eq_true rfl⟩ hP hD hS rfl hl.1 (Nat.le_of_ble_eq_true rfl) dL_lands_176 ⟨Nat.le_of_ble_eq_true rfl, Nat.le_of_ble_eq_true rfl⟩ ⟨Nat.le_of_ble_eq_true rfl, Nat.le_of_ble_eq_true rfl⟩ (fun u176 H locs hC hP hD hS => ?_)
  refine bZF_eq (tgt := 251) hx hb dL_lands_179 (by decide) (by decide) ?_
  refine lv_aload_n hx hb dL_lands_182 rfl (lv_at hl 0 rfl) ?_
  refine lv_iconst (v := nI 2) hx hb dL_lands_183 (by decide) ?_
  refine lv_bipush (v := nI 12) hx hb dL_lands_184 (by decide) ?_
  refine lv_iconst (v := nI 0) hx hb dL_lands_186 (by decide) ?_
  refine lv_iconst (v := nI 4) hx hb dL_lands_187 (by decide) ?_
  refine lv_iconst (v := nI 0) hx hb dL_lands_188 (by decide) ?_
  refine lqS (own := RL) (index := 182) (bytes := cL_is) (n := 6) (As := [.int (nI 2), .int (nI 12), .int (nI 0), .int (nI 4), .int (nI 0)]) (rest := []) (c2 := 1045) (s2 := 126354) F hZ (i_2_2 l G lq SL3 KN0 BU0 0 hS9) hC gL_lands_L_is rfl rfl rfl rfl (by decide +kernel) rfl ⟨Nat.le_of_ble_eq_true rfl, Nat.le_of_ble_eq_true rfl⟩ hP hD hS rfl hl.1 (Nat.le_of_ble_eq_true rfl) dL_lands_189 ⟨Nat.le_of_ble_eq_true rfl, Nat.le_of_ble_eq_true rfl⟩ ⟨Nat.le_of_ble_eq_true rfl, Nat.le_of_ble_eq_true rfl⟩ (fun u189 H locs hC hP hD hS => ?_)
  refine bZF_eq (tgt := 251) hx hb dL_lands_192 (by decide) (by decide) ?_
  refine lv_aload_n hx hb dL_lands_195 rfl (lv_at hl 0 rfl) ?_
  refine lv_iconst (v := nI 3) hx hb dL_lands_196 (by decide) ?_
  refine lv_bipush (v := nI 8) hx hb dL_lands_197 (by decide) ?_
  refine lv_iconst (v := nI 4) hx hb dL_lands_199 (by decide) ?_
  refine lv_iconst (v := nI 4) hx hb dL_lands_200 (by decide) ?_
  refine lv_iconst (v := nI 0) hx hb dL_lands_201 (by decide) ?_
  refine lqS (own := RL) (index := 182) (bytes := cL_is) (n := 6) (As := [.int (nI 3), .int (nI 8), .int (nI 4), .int (nI 4), .int (nI 0)]) (rest := []) (c2 := 1045) (s2 := 126354) F hZ (i_2_3 l G lq SL3 KN0 BU0 0 hS9) hC gL_lands_L_is rfl rfl rfl rfl (by decide +kernel) rfl ⟨Nat.le_of_ble_eq_true rfl, Nat.le_of_ble_eq_true rfl⟩ hP hD hS rfl hl.1 (Nat.le_of_ble_eq_true rfl) dL_lands_202 ⟨Nat.le_of_ble_eq_true rfl, Nat.le_of_ble_eq_true rfl⟩ ⟨Nat.le_of_ble_eq_true rfl, Nat.le_of_ble_eq_true rfl⟩ (fun u202 H locs hC hP hD hS => ?_)
  refine bZF_eq (tgt := 251) hx hb dL_lands_205 (by decide) (by decide) ?_
  refine lv_aload_n hx hb dL_lands_208 rfl (lv_at hl 0 rfl) ?_
  refine lv_iconst (v := nI 4) hx hb dL_lands_209 (by decide) ?_
  refine lv_bipush (v := nI 12) hx hb dL_lands_210 (by decide) ?_
  refine lv_iconst (v := nI 4) hx hb dL_lands_212 (by decide) ?_
  refine lv_iconst (v := nI 4) hx hb dL_lands_213 (by decide) ?_
  refine lv_iconst (v := nI 0) hx hb dL_lands_214 (by decide) ?_
  refine lqS (own := RL) (index := 182) (bytes := cL_is) (n := 6) (As := [.int (nI 4), .int (nI 12), .int (nI 4), .int (nI 4), .int (nI 0)]) (rest := []) (c2 := 1045) (s2 := 126354) F hZ (i_2_4 l G lq SL3 KN0 BU0 0 hS9) hC gL_lands_L_is rfl rfl rfl rfl (by decide +kernel) rfl ⟨Nat.le_of_ble_eq_true rfl, Nat.le_of_ble_eq_true rfl⟩ hP hD hS rfl hl.1 (Nat.le_of_ble_eq_true rfl) dL_lands_215 ⟨Nat.le_of_ble_eq_true rfl, Nat.le_of_ble_eq_true rfl⟩ ⟨Nat.le_of_ble_eq_true rfl, Nat.le_of_ble_eq_true rfl⟩ (fun u215 H locs hC hP hD hS => ?_)
  refine bZF_eq (tgt := 251) hx hb dL_lands_218 (by decide) (by decide) ?_
  exact kk SL3 hS9 u215 H locs ls hC hP hD hS (lv_sub hl [0] rfl)

set_option maxHeartbeats 8000000 in
set_option maxRecDepth 100000 in
theorem ld_2 {p : Program} {l : Launch} {e : Env} {s : State} {m : MethodId} {args : Array Value} {below : List Frame} {meth : Method} {c : Code} {H : Heap} {locs : List Loc} {Q : State → Prop} {G : gG} {A : Nat → Prop} {lq : Nat} {ls : Array Slot} {wv X : va_W} (SL : List LdS) (hS9 : spS (LN2, SL, KN0, BU0, 0)) (hl9 : l.stackTraces = false) (F : gAt p s m args meth c yL_lands wsL_lands cL_lands 1 (some .boolean) G A) (hZ : gX A s s.heap) (hC : clS G lq wv (LN2, SL, KN0, BU0, 0)) (hP : va_P G.1 vwCl (wv ++ X) H) (hD : va_D A (wv ++ X)) (hS : va_S A s.heap H locs) (hl : lv_has ls 1 [(0, .ref lq)])
    (kk : ∀ (SL : List LdS) (hS9 : spS (LN2, SL, KN0, BU0, 0)) (u : va_W) (H : Heap) (locs : List Loc) (ls : Array Slot), clS G lq u (LN2, SL, KN0, BU0, 0) → va_P G.1 vwCl (u ++ X) H → va_D A (u ++ X) → va_S A s.heap H locs → lv_has ls 1 [(0, .ref lq)] → W p l e ({ frames := 12, cells := 3300, slots := 420000, locals := 330 } : Room) s m args below meth c H locs 1045 126354 Q (F0 m 336 ls [])) : W p l e ({ frames := 12, cells := 3300, slots := 420000, locals := 330 } : Room) s m args below meth c H locs 1045 126354 Q (F0 m 221 ls []) := by
  have hx := F.1
  have hb := F.2.1
  have hts := F.2.2.2.2.2.2.1
  have hown : s.vm.findClass RL = some m.cls := F.2.2.2.2.2.1
  refine lv_aload_n hx hb dL_lands_221 rfl (lv_at hl 0 rfl) ?_
  refine lv_iconst (v := nI 5) hx hb dL_lands_222 (by decide) ?_
  refine lv_iconst (v := nI 0) hx hb dL_lands_223 (by decide) ?_
  refine lv_bipush (v := nI 8) hx hb dL_lands_224 (by decide) ?_
  refine lv_bipush (v := nI 8) hx hb dL_lands_226 (by decide) ?_
  refine lv_iconst (v := nI 0) hx hb dL_lands_228 (by decide) ?_
  refine lqS (own := RL) (index := 182) (bytes := cL_is) (n := 6) (As := [.int (nI 5), .int (nI 0), .int (nI 8), .int (nI 8), .int (nI 0)]) (rest := []) (c2 := 1045) (s2 := 126354) F hZ (i_2_5 l G lq SL KN0 BU0 0 hS9) hC gL_lands_L_is rfl rfl rfl rfl (by decide +kernel) rfl ⟨Nat.le_of_ble_eq_true rfl, Nat.le_of_ble_eq_true rfl⟩ hP hD hS rfl hl.1 (Nat.le_of_ble_eq_true rfl) dL_lands_229 ⟨Nat.le_of_ble_eq_true rfl, Nat.le_of_ble_eq_true rfl⟩ ⟨Nat.le_of_ble_eq_true rfl, Nat.le_of_ble_eq_true rfl⟩ (fun u229 H locs hC hP hD hS => ?_)
  refine bZF_eq (tgt := 251) hx hb dL_lands_232 (by decide) (by decide) ?_
  refine lv_aload_n hx hb dL_lands_235 rfl (lv_at hl 0 rfl) ?_
  refine lv_bipush (v := nI 6) hx hb dL_lands_236 (by decide) ?_
  refine lv_bipush (v := nI 8) hx hb dL_lands_238 (by decide) ?_
  refine lv_bipush (v := nI 8) hx hb dL_lands_240 (by decide) ?_
  refine lv_bipush (v := nI 8) hx hb dL_lands_242 (by decide) ?_
  refine lv_iconst (v := nI 0) hx hb dL_lands_244 (by decide) ?_
  refine lqS (own := RL) (index := 182) (bytes := cL_is) (n := 6) (As := [.int (nI 6), .int (nI 8), .int (nI 8), .int (nI 8), .int (nI 0)]) (rest := []) (c2 := 1045) (s2 := 126354) F hZ (i_2_6 l G lq SL KN0 BU0 0 hS9) hC gL_lands_L_is rfl rfl rfl rfl (by decide +kernel) rfl ⟨Nat.le_of_ble_eq_true rfl, Nat.le_of_ble_eq_true rfl⟩ hP hD hS rfl hl.1 (Nat.le_of_ble_eq_true rfl) dL_lands_245 ⟨Nat.le_of_ble_eq_true rfl, Nat.le_of_ble_eq_true rfl⟩ ⟨Nat.le_of_ble_eq_true rfl, Nat.le_of_ble_eq_true rfl⟩ (fun u245 H locs hC hP hD hS => ?_)
  refine bZT_ne (tgt := 253) hx hb dL_lands_248 (by decide) (by decide) ?_
  refine lv_aload_n hx hb dL_lands_253 rfl (lv_at hl 0 rfl) ?_
  refine lv_iconst (v := nI 0) hx hb dL_lands_254 (by decide) ?_
  refine lqV (own := RL) (index := 88) (bytes := cX3_plotsOf) (n := 1) (As := [.int (nI 0)]) (rest := []) (c2 := 1045) (s2 := 126354) F (q_2_plotsOf_0 l G lq SL KN0 BU0 0 hS9) hC gL_lands_X3_plotsOf rfl rfl rfl rfl (by decide +kernel) rfl ⟨Nat.le_of_ble_eq_true rfl, Nat.le_of_ble_eq_true rfl⟩ hP hD hS rfl hl.1 (Nat.le_of_ble_eq_true rfl) dL_lands_255 ⟨Nat.le_of_ble_eq_true rfl, Nat.le_of_ble_eq_true rfl⟩ ⟨Nat.le_of_ble_eq_true rfl, Nat.le_of_ble_eq_true rfl⟩ (fun u255 H locs hC hP hD hS => ?_)
  refine lv_iconst (v := nI 5) hx hb dL_lands_258 (by decide) ?_
  refine bIF_ne (tgt := 612) hx hb dL_lands_259 (by decide) (by decide) ?_
  refine lv_aload_n hx hb dL_lands_262 rfl (lv_at hl 0 rfl) ?_
  refine lv_iconst (v := nI 0) hx hb dL_lands_263 (by decide) ?_
  refine lqV (own := RL) (index := 91) (bytes := cX3_areaByPlots) (n := 1) (As := [.int (nI 0)]) (rest := []) (c2 := 1045) (s2 := 126354) F (q_2_areaByPlots_0 l G lq SL KN0 BU0 0 hS9) hC gL_lands_X3_areaByPlots rfl rfl rfl rfl (by decide +kernel) rfl ⟨Nat.le_of_ble_eq_true rfl, Nat.le_of_ble_eq_true rfl⟩ hP hD hS rfl hl.1 (Nat.le_of_ble_eq_true rfl) dL_lands_264 ⟨Nat.le_of_ble_eq_true rfl, Nat.le_of_ble_eq_true rfl⟩ ⟨Nat.le_of_ble_eq_true rfl, Nat.le_of_ble_eq_true rfl⟩ (fun u264 H locs hC hP hD hS => ?_)
  refine lv_sipush (v := nI 176) hx hb dL_lands_267 (by decide) ?_
  refine bIF_ne (tgt := 612) hx hb dL_lands_270 (by decide) (by decide) ?_
  refine lv_aload_n hx hb dL_lands_273 rfl (lv_at hl 0 rfl) ?_
  refine lv_iconst (v := nI 0) hx hb dL_lands_274 (by decide) ?_
  refine lqV (own := RL) (index := 94) (bytes := cX3_areaByCells) (n := 1) (As := [.int (nI 0)]) (rest := []) (c2 := 1045) (s2 := 126354) F (q_2_areaByCells_0 l G lq SL KN0 BU0 0 hS9) hC gL_lands_X3_areaByCells rfl rfl rfl rfl (by decide +kernel) rfl ⟨Nat.le_of_ble_eq_true rfl, Nat.le_of_ble_eq_true rfl⟩ hP hD hS rfl hl.1 (Nat.le_of_ble_eq_true rfl) dL_lands_275 ⟨Nat.le_of_ble_eq_true rfl, Nat.le_of_ble_eq_true rfl⟩ ⟨Nat.le_of_ble_eq_true rfl, Nat.le_of_ble_eq_true rfl⟩ (fun u275 H locs hC hP hD hS => ?_)
  refine lv_sipush (v := nI 176) hx hb dL_lands_278 (by decide) ?_
  refine bIF_ne (tgt := 612) hx hb dL_lands_281 (by decide) (by decide) ?_
  refine lv_aload_n hx hb dL_lands_284 rfl (lv_at hl 0 rfl) ?_
  refine lv_iconst (v := nI 1) hx hb dL_lands_285 (by decide) ?_
  refine lv_iconst (v := nI 2) hx hb dL_lands_286 (by decide) ?_
  refine lqV (own := RL) (index := 103) (bytes := cX3_fenceBetween) (n := 2) (As := [.int (nI 1), .int (nI 2)]) (rest := []) (c2 := 1045) (s2 := 126354) F (q_2_fenceBetween_1_2 l G lq SL KN0 BU0 0 hS9) hC gL_lands_X3_fenceBetween rfl rfl rfl rfl (by decide +kernel) rfl ⟨Nat.le_of_ble_eq_true rfl, Nat.le_of_ble_eq_true rfl⟩ hP hD hS rfl hl.1 (Nat.le_of_ble_eq_true rfl) dL_lands_287 ⟨Nat.le_of_ble_eq_true rfl, Nat.le_of_ble_eq_true rfl⟩ ⟨Nat.le_of_ble_eq_true rfl, Nat.le_of_ble_eq_true rfl⟩ (fun u287 H locs hC hP hD hS => ?_)
  refine lv_iconst (v := nI 4) hx hb dL_lands_290 (by decide) ?_
  refine bIF_ne (tgt := 612) hx hb dL_lands_291 (by decide) (by decide) ?_
  refine lv_aload_n hx hb dL_lands_294 rfl (lv_at hl 0 rfl) ?_
  refine lv_iconst (v := nI 0) hx hb dL_lands_295 (by decide) ?_
  refine lv_iconst (v := nI 1) hx hb dL_lands_296 (by decide) ?_
  refine lqV (own := RL) (index := 103) (bytes := cX3_fenceBetween) (n := 2) (As := [.int (nI 0), .int (nI 1)]) (rest := []) (c2 := 1045) (s2 := 126354) F (q_2_fenceBetween_0_1 l G lq SL KN0 BU0 0 hS9) hC gL_lands_X3_fenceBetween rfl rfl rfl rfl (by decide +kernel) rfl ⟨Nat.le_of_ble_eq_true rfl, Nat.le_of_ble_eq_true rfl⟩ hP hD hS rfl hl.1 (Nat.le_of_ble_eq_true rfl) dL_lands_297 ⟨Nat.le_of_ble_eq_true rfl, Nat.le_of_ble_eq_true rfl⟩ ⟨Nat.le_of_ble_eq_true rfl, Nat.le_of_ble_eq_true rfl⟩ (fun u297 H locs hC hP hD hS => ?_)
  refine lv_bipush (v := nI 12) hx hb dL_lands_300 (by decide) ?_
  refine bIF_ne (tgt := 612) hx hb dL_lands_302 (by decide) (by decide) ?_
  refine lv_aload_n hx hb dL_lands_305 rfl (lv_at hl 0 rfl) ?_
  refine lv_iconst (v := nI 2) hx hb dL_lands_306 (by decide) ?_
  refine lv_iconst (v := nI 0) hx hb dL_lands_307 (by decide) ?_
  refine lqV (own := RL) (index := 103) (bytes := cX3_fenceBetween) (n := 2) (As := [.int (nI 2), .int (nI 0)]) (rest := []) (c2 := 1045) (s2 := 126354) F (q_2_fenceBetween_2_0 l G lq SL KN0 BU0 0 hS9) hC gL_lands_X3_fenceBetween rfl rfl rfl rfl (by decide +kernel) rfl ⟨Nat.le_of_ble_eq_true rfl, Nat.le_of_ble_eq_true rfl⟩ hP hD hS rfl hl.1 (Nat.le_of_ble_eq_true rfl) dL_lands_308 ⟨Nat.le_of_ble_eq_true rfl, Nat.le_of_ble_eq_true rfl⟩ ⟨Nat.le_of_ble_eq_true rfl, Nat.le_of_ble_eq_true rfl⟩ (fun u308 H locs hC hP hD hS => ?_)
  refine lv_bipush (v := nI 8) hx hb dL_lands_311 (by decide) ?_
  refine bIF_ne (tgt := 612) hx hb dL_lands_313 (by decide) (by decide) ?_
  refine lv_aload_n hx hb dL_lands_316 rfl (lv_at hl 0 rfl) ?_
  refine lv_iconst (v := nI 1) hx hb dL_lands_317 (by decide) ?_
  refine lv_iconst (v := nI 1) hx hb dL_lands_318 (by decide) ?_
  refine lqV (own := RL) (index := 103) (bytes := cX3_fenceBetween) (n := 2) (As := [.int (nI 1), .int (nI 1)]) (rest := []) (c2 := 1045) (s2 := 126354) F (q_2_fenceBetween_1_1 l G lq SL KN0 BU0 0 hS9) hC gL_lands_X3_fenceBetween rfl rfl rfl rfl (by decide +kernel) rfl ⟨Nat.le_of_ble_eq_true rfl, Nat.le_of_ble_eq_true rfl⟩ hP hD hS rfl hl.1 (Nat.le_of_ble_eq_true rfl) dL_lands_319 ⟨Nat.le_of_ble_eq_true rfl, Nat.le_of_ble_eq_true rfl⟩ ⟨Nat.le_of_ble_eq_true rfl, Nat.le_of_ble_eq_true rfl⟩ (fun u319 H locs hC hP hD hS => ?_)
  refine bZF_ne (tgt := 612) hx hb dL_lands_322 (by decide) (by decide) ?_
  refine lv_aload_n hx hb dL_lands_325 rfl (lv_at hl 0 rfl) ?_
  refine lv_iconst (v := nI 0) hx hb dL_lands_326 (by decide) ?_
  refine lv_bipush (v := nI 20) hx hb dL_lands_327 (by decide) ?_
  refine lv_iconst (v := nI 1) hx hb dL_lands_329 (by decide) ?_
  refine lqS (own := RL) (index := 186) (bytes := cL_fences) (n := 4) (As := [.int (nI 0), .int (nI 20), .int (nI 1)]) (rest := []) (c2 := 1045) (s2 := 126354) F hZ (f_2_0 l G lq SL KN0 BU0 0 hS9) hC gL_lands_L_fences rfl rfl rfl rfl (by decide +kernel) rfl ⟨Nat.le_of_ble_eq_true rfl, Nat.le_of_ble_eq_true rfl⟩ hP hD hS rfl hl.1 (Nat.le_of_ble_eq_true rfl) dL_lands_330 ⟨Nat.le_of_ble_eq_true rfl, Nat.le_of_ble_eq_true rfl⟩ ⟨Nat.le_of_ble_eq_true rfl, Nat.le_of_ble_eq_true rfl⟩ (fun u330 H locs hC hP hD hS => ?_)
  refine bZF_eq (tgt := 612) hx hb dL_lands_333 (by decide) (by decide) ?_
  exact kk SL hS9 u330 H locs ls hC hP hD hS (lv_sub hl [0] rfl)

set_option maxHeartbeats 8000000 in
set_option maxRecDepth 100000 in
theorem ld_3 {p : Program} {l : Launch} {e : Env} {s : State} {m : MethodId} {args : Array Value} {below : List Frame} {meth : Method} {c : Code} {H : Heap} {locs : List Loc} {Q : State → Prop} {G : gG} {A : Nat → Prop} {lq : Nat} {ls : Array Slot} {wv X : va_W} (SL : List LdS) (hS9 : spS (LN2, SL, KN0, BU0, 0)) (hl9 : l.stackTraces = false) (F : gAt p s m args meth c yL_lands wsL_lands cL_lands 1 (some .boolean) G A) (hZ : gX A s s.heap) (hC : clS G lq wv (LN2, SL, KN0, BU0, 0)) (hP : va_P G.1 vwCl (wv ++ X) H) (hD : va_D A (wv ++ X)) (hS : va_S A s.heap H locs) (hl : lv_has ls 1 [(0, .ref lq)])
    (kk : ∀ (SL : List LdS) (hS9 : spS (LN3, SL, KN0, BU0, 0)) (u : va_W) (H : Heap) (locs : List Loc) (ls : Array Slot), clS G lq u (LN3, SL, KN0, BU0, 0) → va_P G.1 vwCl (u ++ X) H → va_D A (u ++ X) → va_S A s.heap H locs → lv_has ls 1 [(0, .ref lq)] → W p l e ({ frames := 12, cells := 3300, slots := 420000, locals := 330 } : Room) s m args below meth c H locs 1053 127410 Q (F0 m 448 ls [])) : W p l e ({ frames := 12, cells := 3300, slots := 420000, locals := 330 } : Room) s m args below meth c H locs 1045 126354 Q (F0 m 336 ls []) := by
  have hx := F.1
  have hb := F.2.1
  have hts := F.2.2.2.2.2.2.1
  have hown : s.vm.findClass RL = some m.cls := F.2.2.2.2.2.1
  refine lv_aload_n hx hb dL_lands_336 rfl (lv_at hl 0 rfl) ?_
  refine lv_iconst (v := nI 1) hx hb dL_lands_337 (by decide) ?_
  refine lv_bipush (v := nI 16) hx hb dL_lands_338 (by decide) ?_
  refine lv_iconst (v := nI 0) hx hb dL_lands_340 (by decide) ?_
  refine lqS (own := RL) (index := 186) (bytes := cL_fences) (n := 4) (As := [.int (nI 1), .int (nI 16), .int (nI 0)]) (rest := []) (c2 := 1045) (s2 := 126354) F hZ (f_2_1 l G lq SL KN0 BU0 0 hS9) hC gL_lands_L_fences rfl rfl rfl rfl (by decide +kernel) rfl ⟨Nat.le_of_ble_eq_true rfl, Nat.le_of_ble_eq_true rfl⟩ hP hD hS rfl hl.1 (Nat.le_of_ble_eq_true rfl) dL_lands_341 ⟨Nat.le_of_ble_eq_true rfl, Nat.le_of_ble_eq_true rfl⟩ ⟨Nat.le_of_ble_eq_true rfl, Nat.le_of_ble_eq_true rfl⟩ (fun u341 H locs hC hP hD hS => ?_)
  refine bZF_eq (tgt := 612) hx hb dL_lands_344 (by decide) (by decide) ?_
  refine lv_aload_n hx hb dL_lands_347 rfl (lv_at hl 0 rfl) ?_
  refine lv_iconst (v := nI 2) hx hb dL_lands_348 (by decide) ?_
  refine lv_bipush (v := nI 12) hx hb dL_lands_349 (by decide) ?_
  refine lv_iconst (v := nI 0) hx hb dL_lands_351 (by decide) ?_
  refine lqS (own := RL) (index := 186) (bytes := cL_fences) (n := 4) (As := [.int (nI 2), .int (nI 12), .int (nI 0)]) (rest := []) (c2 := 1045) (s2 := 126354) F hZ (f_2_2 l G lq SL KN0 BU0 0 hS9) hC gL_lands_L_fences rfl rfl rfl rfl (by decide +kernel) rfl ⟨Nat.le_of_ble_eq_true rfl, Nat.le_of_ble_eq_true rfl⟩ hP hD hS rfl hl.1 (Nat.le_of_ble_eq_true rfl) dL_lands_352 ⟨Nat.le_of_ble_eq_true rfl, Nat.le_of_ble_eq_true rfl⟩ ⟨Nat.le_of_ble_eq_true rfl, Nat.le_of_ble_eq_true rfl⟩ (fun u352 H locs hC hP hD hS => ?_)
  refine bZF_eq (tgt := 612) hx hb dL_lands_355 (by decide) (by decide) ?_
  refine lv_aload_n hx hb dL_lands_358 rfl (lv_at hl 0 rfl) ?_
  refine lv_iconst (v := nI 0) hx hb dL_lands_359 (by decide) ?_
  refine lqV (own := RL) (index := 106) (bytes := cX3_largestPlotOf) (n := 1) (As := [.int (nI 0)]) (rest := []) (c2 := 1045) (s2 := 126354) F (q_2_largestPlotOf_0 l G lq SL KN0 BU0 0 hS9) hC gL_lands_X3_largestPlotOf rfl rfl rfl rfl (by decide +kernel) rfl ⟨Nat.le_of_ble_eq_true rfl, Nat.le_of_ble_eq_true rfl⟩ hP hD hS rfl hl.1 (Nat.le_of_ble_eq_true rfl) dL_lands_360 ⟨Nat.le_of_ble_eq_true rfl, Nat.le_of_ble_eq_true rfl⟩ ⟨Nat.le_of_ble_eq_true rfl, Nat.le_of_ble_eq_true rfl⟩ (fun u360 H locs hC hP hD hS => ?_)
  refine lv_iconst (v := nI 5) hx hb dL_lands_363 (by decide) ?_
  refine bIF_ne (tgt := 612) hx hb dL_lands_364 (by decide) (by decide) ?_
  refine lv_aload_n hx hb dL_lands_367 rfl (lv_at hl 0 rfl) ?_
  refine lv_iconst (v := nI 1) hx hb dL_lands_368 (by decide) ?_
  refine lqV (own := RL) (index := 109) (bytes := cX3_firstToLose) (n := 1) (As := [.int (nI 1)]) (rest := []) (c2 := 1045) (s2 := 126354) F (q_2_firstToLose_1 l G lq SL KN0 BU0 0 hS9) hC gL_lands_X3_firstToLose rfl rfl rfl rfl (by decide +kernel) rfl ⟨Nat.le_of_ble_eq_true rfl, Nat.le_of_ble_eq_true rfl⟩ hP hD hS rfl hl.1 (Nat.le_of_ble_eq_true rfl) dL_lands_369 ⟨Nat.le_of_ble_eq_true rfl, Nat.le_of_ble_eq_true rfl⟩ ⟨Nat.le_of_ble_eq_true rfl, Nat.le_of_ble_eq_true rfl⟩ (fun u369 H locs hC hP hD hS => ?_)
  refine bZF_ne (tgt := 612) hx hb dL_lands_372 (by decide) (by decide) ?_
  refine lv_aload_n hx hb dL_lands_375 rfl (lv_at hl 0 rfl) ?_
  refine lv_iconst (v := nI 3) hx hb dL_lands_376 (by decide) ?_
  refine lqV (own := RL) (index := 109) (bytes := cX3_firstToLose) (n := 1) (As := [.int (nI 3)]) (rest := []) (c2 := 1045) (s2 := 126354) F (q_2_firstToLose_3 l G lq SL KN0 BU0 0 hS9) hC gL_lands_X3_firstToLose rfl rfl rfl rfl (by decide +kernel) rfl ⟨Nat.le_of_ble_eq_true rfl, Nat.le_of_ble_eq_true rfl⟩ hP hD hS rfl hl.1 (Nat.le_of_ble_eq_true rfl) dL_lands_377 ⟨Nat.le_of_ble_eq_true rfl, Nat.le_of_ble_eq_true rfl⟩ ⟨Nat.le_of_ble_eq_true rfl, Nat.le_of_ble_eq_true rfl⟩ (fun u377 H locs hC hP hD hS => ?_)
  refine lv_iconst (v := zI (-1)) hx hb dL_lands_380 (by decide) ?_
  refine bIF_ne (tgt := 612) hx hb dL_lands_381 (by decide) (by decide) ?_
  refine lv_aload_n hx hb dL_lands_384 rfl (lv_at hl 0 rfl) ?_
  refine lv_bipush (v := nI 9) hx hb dL_lands_385 (by decide) ?_
  refine lv_bipush (v := nI 9) hx hb dL_lands_387 (by decide) ?_
  refine lqV (own := RL) (index := 85) (bytes := cX3_plotPriceAt) (n := 2) (As := [.int (nI 9), .int (nI 9)]) (rest := []) (c2 := 1045) (s2 := 126354) F (q_2_plotPriceAt_9_9 l G lq SL KN0 BU0 0 hS9) hC gL_lands_X3_plotPriceAt rfl rfl rfl rfl (by decide +kernel) rfl ⟨Nat.le_of_ble_eq_true rfl, Nat.le_of_ble_eq_true rfl⟩ hP hD hS rfl hl.1 (Nat.le_of_ble_eq_true rfl) dL_lands_389 ⟨Nat.le_of_ble_eq_true rfl, Nat.le_of_ble_eq_true rfl⟩ ⟨Nat.le_of_ble_eq_true rfl, Nat.le_of_ble_eq_true rfl⟩ (fun u389 H locs hC hP hD hS => ?_)
  refine lv_sipush (v := nI 128) hx hb dL_lands_392 (by decide) ?_
  refine bIF_ne (tgt := 612) hx hb dL_lands_395 (by decide) (by decide) ?_
  refine lv_aload_n hx hb dL_lands_398 rfl (lv_at hl 0 rfl) ?_
  refine lv_iconst (v := nI 3) hx hb dL_lands_399 (by decide) ?_
  refine lv_iconst (v := nI 3) hx hb dL_lands_400 (by decide) ?_
  refine lv_bipush (v := nI 9) hx hb dL_lands_401 (by decide) ?_
  refine lv_bipush (v := nI 9) hx hb dL_lands_403 (by decide) ?_
  refine lv_iconst (v := nI 0) hx hb dL_lands_405 (by decide) ?_
  refine lqSW (own := RL) (index := 150) (bytes := cL_call) (n := 6) (As := [.int (nI 3), .int (nI 3), .int (nI 9), .int (nI 9), .int (nI 0)]) (rest := []) (c2 := 1049) (s2 := 126882) F hZ (x_2_3_3_9_9_0 l G lq SL KN0 BU0 0 hS9 hl9) hC gL_lands_L_call rfl rfl rfl rfl (by decide +kernel) rfl ⟨Nat.le_of_ble_eq_true rfl, Nat.le_of_ble_eq_true rfl⟩ hP hD hS rfl hl.1 (Nat.le_of_ble_eq_true rfl) dL_lands_406 ⟨Nat.le_of_ble_eq_true rfl, Nat.le_of_ble_eq_true rfl⟩ ⟨Nat.le_of_ble_eq_true rfl, Nat.le_of_ble_eq_true rfl⟩ (fun u406 H locs hC hP hD hS => ?_)
  refine lv_sipush (v := zI (-2013)) hx hb dL_lands_409 (by decide) ?_
  refine bIF_ne (tgt := 612) hx hb dL_lands_412 (by decide) (by decide) ?_
  refine lv_aload_n hx hb dL_lands_415 rfl (lv_at hl 0 rfl) ?_
  refine lv_iconst (v := nI 3) hx hb dL_lands_416 (by decide) ?_
  refine lv_bipush (v := nI 13) hx hb dL_lands_417 (by decide) ?_
  refine lv_iconst (v := nI 1) hx hb dL_lands_419 (by decide) ?_
  refine lqV (own := RL) (index := 22) (bytes := cX3_buyPlot) (n := 3) (As := [.int (nI 3), .int (nI 13), .int (nI 1)]) (rest := []) (c2 := 1053) (s2 := 127410) F (m_2_buyPlot_3_13_1 l G lq SL KN0 BU0 0 hS9) hC gL_lands_X3_buyPlot rfl rfl rfl rfl (by decide +kernel) rfl ⟨Nat.le_of_ble_eq_true rfl, Nat.le_of_ble_eq_true rfl⟩ hP hD hS rfl hl.1 (Nat.le_of_ble_eq_true rfl) dL_lands_420 ⟨Nat.le_of_ble_eq_true rfl, Nat.le_of_ble_eq_true rfl⟩ ⟨Nat.le_of_ble_eq_true rfl, Nat.le_of_ble_eq_true rfl⟩ (fun u420 H locs hC hP hD hS => ?_)
  have hS9 : spS (LN3, pushH SL LN2, KN0, BU0, 0) := spS_push hS9 ok3
  generalize pushH SL LN2 = SL1 at hC hS9
  refine lv_bipush (v := nI 32) hx hb dL_lands_423 (by decide) ?_
  refine bIF_ne (tgt := 612) hx hb dL_lands_425 (by decide) (by decide) ?_
  refine lv_aload_n hx hb dL_lands_428 rfl (lv_at hl 0 rfl) ?_
  refine lv_iconst (v := nI 3) hx hb dL_lands_429 (by decide) ?_
  refine lqV (own := RL) (index := 112) (bytes := cX3_coinsOf) (n := 1) (As := [.int (nI 3)]) (rest := []) (c2 := 1053) (s2 := 127410) F (q_3_coinsOf_3 l G lq SL1 KN0 BU0 0 hS9) hC gL_lands_X3_coinsOf rfl rfl rfl rfl (by decide +kernel) rfl ⟨Nat.le_of_ble_eq_true rfl, Nat.le_of_ble_eq_true rfl⟩ hP hD hS rfl hl.1 (Nat.le_of_ble_eq_true rfl) dL_lands_430 ⟨Nat.le_of_ble_eq_true rfl, Nat.le_of_ble_eq_true rfl⟩ ⟨Nat.le_of_ble_eq_true rfl, Nat.le_of_ble_eq_true rfl⟩ (fun u430 H locs hC hP hD hS => ?_)
  refine lv_bipush (v := nI 68) hx hb dL_lands_433 (by decide) ?_
  refine bIF_ne (tgt := 612) hx hb dL_lands_435 (by decide) (by decide) ?_
  refine lv_aload_n hx hb dL_lands_438 rfl (lv_at hl 0 rfl) ?_
  refine lv_iconst (v := nI 0) hx hb dL_lands_439 (by decide) ?_
  refine lqV (own := RL) (index := 112) (bytes := cX3_coinsOf) (n := 1) (As := [.int (nI 0)]) (rest := []) (c2 := 1053) (s2 := 127410) F (q_3_coinsOf_0 l G lq SL1 KN0 BU0 0 hS9) hC gL_lands_X3_coinsOf rfl rfl rfl rfl (by decide +kernel) rfl ⟨Nat.le_of_ble_eq_true rfl, Nat.le_of_ble_eq_true rfl⟩ hP hD hS rfl hl.1 (Nat.le_of_ble_eq_true rfl) dL_lands_440 ⟨Nat.le_of_ble_eq_true rfl, Nat.le_of_ble_eq_true rfl⟩ ⟨Nat.le_of_ble_eq_true rfl, Nat.le_of_ble_eq_true rfl⟩ (fun u440 H locs hC hP hD hS => ?_)
  refine lv_bipush (v := nI 32) hx hb dL_lands_443 (by decide) ?_
  refine bIF_ne (tgt := 612) hx hb dL_lands_445 (by decide) (by decide) ?_
  exact kk SL1 hS9 u440 H locs ls hC hP hD hS (lv_sub hl [0] rfl)

set_option maxHeartbeats 8000000 in
set_option maxRecDepth 100000 in
theorem ld_4 {p : Program} {l : Launch} {e : Env} {s : State} {m : MethodId} {args : Array Value} {below : List Frame} {meth : Method} {c : Code} {H : Heap} {locs : List Loc} {Q : State → Prop} {G : gG} {A : Nat → Prop} {lq : Nat} {ls : Array Slot} {wv X : va_W} (SL : List LdS) (hS9 : spS (LN3, SL, KN0, BU0, 0)) (hl9 : l.stackTraces = false) (F : gAt p s m args meth c yL_lands wsL_lands cL_lands 1 (some .boolean) G A) (hZ : gX A s s.heap) (hC : clS G lq wv (LN3, SL, KN0, BU0, 0)) (hP : va_P G.1 vwCl (wv ++ X) H) (hD : va_D A (wv ++ X)) (hS : va_S A s.heap H locs) (hl : lv_has ls 1 [(0, .ref lq)])
    (kk : ∀ (SL : List LdS) (hS9 : spS (LN5, SL, KN0, BU0, 0)) (u : va_W) (H : Heap) (locs : List Loc) (ls : Array Slot), clS G lq u (LN5, SL, KN0, BU0, 0) → va_P G.1 vwCl (u ++ X) H → va_D A (u ++ X) → va_S A s.heap H locs → lv_has ls 1 [(0, .ref lq)] → W p l e ({ frames := 12, cells := 3300, slots := 420000, locals := 330 } : Room) s m args below meth c H locs 1073 130050 Q (F0 m 587 ls [])) : W p l e ({ frames := 12, cells := 3300, slots := 420000, locals := 330 } : Room) s m args below meth c H locs 1053 127410 Q (F0 m 448 ls []) := by
  have hx := F.1
  have hb := F.2.1
  have hts := F.2.2.2.2.2.2.1
  have hown : s.vm.findClass RL = some m.cls := F.2.2.2.2.2.1
  refine lv_aload_n hx hb dL_lands_448 rfl (lv_at hl 0 rfl) ?_
  refine lv_iconst (v := nI 3) hx hb dL_lands_449 (by decide) ?_
  refine lv_bipush (v := nI 8) hx hb dL_lands_450 (by decide) ?_
  refine lv_iconst (v := nI 4) hx hb dL_lands_452 (by decide) ?_
  refine lv_iconst (v := nI 2) hx hb dL_lands_453 (by decide) ?_
  refine lqV (own := RL) (index := 26) (bytes := cX3_buySquare) (n := 4) (As := [.int (nI 3), .int (nI 8), .int (nI 4), .int (nI 2)]) (rest := []) (c2 := 1057) (s2 := 127938) F (m_3_buySquare_3_8_4_2 l G lq SL KN0 BU0 0 hS9) hC gL_lands_X3_buySquare rfl rfl rfl rfl (by decide +kernel) rfl ⟨Nat.le_of_ble_eq_true rfl, Nat.le_of_ble_eq_true rfl⟩ hP hD hS rfl hl.1 (Nat.le_of_ble_eq_true rfl) dL_lands_454 ⟨Nat.le_of_ble_eq_true rfl, Nat.le_of_ble_eq_true rfl⟩ ⟨Nat.le_of_ble_eq_true rfl, Nat.le_of_ble_eq_true rfl⟩ (fun u454 H locs hC hP hD hS => ?_)
  have hS9 : spS (LN4, pushH SL LN3, KN0, BU0, 0) := spS_push hS9 ok4
  generalize pushH SL LN3 = SL1 at hC hS9
  refine lv_bipush (v := nI 8) hx hb dL_lands_457 (by decide) ?_
  refine bIF_ne (tgt := 612) hx hb dL_lands_459 (by decide) (by decide) ?_
  refine lv_aload_n hx hb dL_lands_462 rfl (lv_at hl 0 rfl) ?_
  refine lqV (own := RL) (index := 128) (bytes := cX3_plots) (n := 0) (As := []) (rest := []) (c2 := 1057) (s2 := 127938) F (q_4_plots l G lq SL1 KN0 BU0 0 hS9) hC gL_lands_X3_plots rfl rfl rfl rfl (by decide +kernel) rfl ⟨Nat.le_of_ble_eq_true rfl, Nat.le_of_ble_eq_true rfl⟩ hP hD hS rfl hl.1 (Nat.le_of_ble_eq_true rfl) dL_lands_463 ⟨Nat.le_of_ble_eq_true rfl, Nat.le_of_ble_eq_true rfl⟩ ⟨Nat.le_of_ble_eq_true rfl, Nat.le_of_ble_eq_true rfl⟩ (fun u463 H locs hC hP hD hS => ?_)
  refine lv_bipush (v := nI 10) hx hb dL_lands_466 (by decide) ?_
  refine bIF_ne (tgt := 612) hx hb dL_lands_468 (by decide) (by decide) ?_
  refine lv_aload_n hx hb dL_lands_471 rfl (lv_at hl 0 rfl) ?_
  refine lv_iconst (v := nI 3) hx hb dL_lands_472 (by decide) ?_
  refine lv_bipush (v := nI 8) hx hb dL_lands_473 (by decide) ?_
  refine lv_iconst (v := nI 4) hx hb dL_lands_475 (by decide) ?_
  refine lv_iconst (v := nI 2) hx hb dL_lands_476 (by decide) ?_
  refine lv_iconst (v := nI 3) hx hb dL_lands_477 (by decide) ?_
  refine lqS (own := RL) (index := 182) (bytes := cL_is) (n := 6) (As := [.int (nI 3), .int (nI 8), .int (nI 4), .int (nI 2), .int (nI 3)]) (rest := []) (c2 := 1057) (s2 := 127938) F hZ (i_4_3 l G lq SL1 KN0 BU0 0 hS9) hC gL_lands_L_is rfl rfl rfl rfl (by decide +kernel) rfl ⟨Nat.le_of_ble_eq_true rfl, Nat.le_of_ble_eq_true rfl⟩ hP hD hS rfl hl.1 (Nat.le_of_ble_eq_true rfl) dL_lands_478 ⟨Nat.le_of_ble_eq_true rfl, Nat.le_of_ble_eq_true rfl⟩ ⟨Nat.le_of_ble_eq_true rfl, Nat.le_of_ble_eq_true rfl⟩ (fun u478 H locs hC hP hD hS => ?_)
  refine bZF_eq (tgt := 612) hx hb dL_lands_481 (by decide) (by decide) ?_
  refine lv_aload_n hx hb dL_lands_484 rfl (lv_at hl 0 rfl) ?_
  refine lv_bipush (v := nI 6) hx hb dL_lands_485 (by decide) ?_
  refine lv_bipush (v := nI 10) hx hb dL_lands_487 (by decide) ?_
  refine lv_bipush (v := nI 6) hx hb dL_lands_489 (by decide) ?_
  refine lv_iconst (v := nI 2) hx hb dL_lands_491 (by decide) ?_
  refine lv_iconst (v := nI 0) hx hb dL_lands_492 (by decide) ?_
  refine lqS (own := RL) (index := 182) (bytes := cL_is) (n := 6) (As := [.int (nI 6), .int (nI 10), .int (nI 6), .int (nI 2), .int (nI 0)]) (rest := []) (c2 := 1057) (s2 := 127938) F hZ (i_4_6 l G lq SL1 KN0 BU0 0 hS9) hC gL_lands_L_is rfl rfl rfl rfl (by decide +kernel) rfl ⟨Nat.le_of_ble_eq_true rfl, Nat.le_of_ble_eq_true rfl⟩ hP hD hS rfl hl.1 (Nat.le_of_ble_eq_true rfl) dL_lands_493 ⟨Nat.le_of_ble_eq_true rfl, Nat.le_of_ble_eq_true rfl⟩ ⟨Nat.le_of_ble_eq_true rfl, Nat.le_of_ble_eq_true rfl⟩ (fun u493 H locs hC hP hD hS => ?_)
  refine bZF_eq (tgt := 612) hx hb dL_lands_496 (by decide) (by decide) ?_
  refine lv_aload_n hx hb dL_lands_499 rfl (lv_at hl 0 rfl) ?_
  refine lv_bipush (v := nI 9) hx hb dL_lands_500 (by decide) ?_
  refine lv_bipush (v := nI 8) hx hb dL_lands_502 (by decide) ?_
  refine lv_bipush (v := nI 8) hx hb dL_lands_504 (by decide) ?_
  refine lv_bipush (v := nI 8) hx hb dL_lands_506 (by decide) ?_
  refine lv_iconst (v := nI 0) hx hb dL_lands_508 (by decide) ?_
  refine lqS (own := RL) (index := 182) (bytes := cL_is) (n := 6) (As := [.int (nI 9), .int (nI 8), .int (nI 8), .int (nI 8), .int (nI 0)]) (rest := []) (c2 := 1057) (s2 := 127938) F hZ (i_4_9 l G lq SL1 KN0 BU0 0 hS9) hC gL_lands_L_is rfl rfl rfl rfl (by decide +kernel) rfl ⟨Nat.le_of_ble_eq_true rfl, Nat.le_of_ble_eq_true rfl⟩ hP hD hS rfl hl.1 (Nat.le_of_ble_eq_true rfl) dL_lands_509 ⟨Nat.le_of_ble_eq_true rfl, Nat.le_of_ble_eq_true rfl⟩ ⟨Nat.le_of_ble_eq_true rfl, Nat.le_of_ble_eq_true rfl⟩ (fun u509 H locs hC hP hD hS => ?_)
  refine bZF_eq (tgt := 612) hx hb dL_lands_512 (by decide) (by decide) ?_
  refine lv_aload_n hx hb dL_lands_515 rfl (lv_at hl 0 rfl) ?_
  refine lv_iconst (v := nI 4) hx hb dL_lands_516 (by decide) ?_
  refine lv_iconst (v := nI 3) hx hb dL_lands_517 (by decide) ?_
  refine lv_bipush (v := nI 8) hx hb dL_lands_518 (by decide) ?_
  refine lv_iconst (v := nI 4) hx hb dL_lands_520 (by decide) ?_
  refine lv_iconst (v := nI 4) hx hb dL_lands_521 (by decide) ?_
  refine lqSW (own := RL) (index := 150) (bytes := cL_call) (n := 6) (As := [.int (nI 4), .int (nI 3), .int (nI 8), .int (nI 4), .int (nI 4)]) (rest := []) (c2 := 1061) (s2 := 128466) F hZ (x_4_4_3_8_4_4 l G lq SL1 KN0 BU0 0 hS9 hl9) hC gL_lands_L_call rfl rfl rfl rfl (by decide +kernel) rfl ⟨Nat.le_of_ble_eq_true rfl, Nat.le_of_ble_eq_true rfl⟩ hP hD hS rfl hl.1 (Nat.le_of_ble_eq_true rfl) dL_lands_522 ⟨Nat.le_of_ble_eq_true rfl, Nat.le_of_ble_eq_true rfl⟩ ⟨Nat.le_of_ble_eq_true rfl, Nat.le_of_ble_eq_true rfl⟩ (fun u522 H locs hC hP hD hS => ?_)
  refine lv_sipush (v := zI (-2013)) hx hb dL_lands_525 (by decide) ?_
  refine bIF_ne (tgt := 612) hx hb dL_lands_528 (by decide) (by decide) ?_
  refine lv_aload_n hx hb dL_lands_531 rfl (lv_at hl 0 rfl) ?_
  refine lv_iconst (v := nI 4) hx hb dL_lands_532 (by decide) ?_
  refine lv_iconst (v := nI 1) hx hb dL_lands_533 (by decide) ?_
  refine lv_iconst (v := nI 0) hx hb dL_lands_534 (by decide) ?_
  refine lv_iconst (v := nI 0) hx hb dL_lands_535 (by decide) ?_
  refine lv_iconst (v := nI 2) hx hb dL_lands_536 (by decide) ?_
  refine lqSW (own := RL) (index := 150) (bytes := cL_call) (n := 6) (As := [.int (nI 4), .int (nI 1), .int (nI 0), .int (nI 0), .int (nI 2)]) (rest := []) (c2 := 1065) (s2 := 128994) F hZ (x_4_4_1_0_0_2 l G lq SL1 KN0 BU0 0 hS9 hl9) hC gL_lands_L_call rfl rfl rfl rfl (by decide +kernel) rfl ⟨Nat.le_of_ble_eq_true rfl, Nat.le_of_ble_eq_true rfl⟩ hP hD hS rfl hl.1 (Nat.le_of_ble_eq_true rfl) dL_lands_537 ⟨Nat.le_of_ble_eq_true rfl, Nat.le_of_ble_eq_true rfl⟩ ⟨Nat.le_of_ble_eq_true rfl, Nat.le_of_ble_eq_true rfl⟩ (fun u537 H locs hC hP hD hS => ?_)
  refine lv_sipush (v := zI (-2013)) hx hb dL_lands_540 (by decide) ?_
  refine bIF_ne (tgt := 612) hx hb dL_lands_543 (by decide) (by decide) ?_
  refine lv_aload_n hx hb dL_lands_546 rfl (lv_at hl 0 rfl) ?_
  refine lv_iconst (v := nI 3) hx hb dL_lands_547 (by decide) ?_
  refine lv_iconst (v := nI 1) hx hb dL_lands_548 (by decide) ?_
  refine lv_bipush (v := nI 7) hx hb dL_lands_549 (by decide) ?_
  refine lv_bipush (v := nI 7) hx hb dL_lands_551 (by decide) ?_
  refine lv_iconst (v := nI 0) hx hb dL_lands_553 (by decide) ?_
  refine lqSW (own := RL) (index := 150) (bytes := cL_call) (n := 6) (As := [.int (nI 3), .int (nI 1), .int (nI 7), .int (nI 7), .int (nI 0)]) (rest := []) (c2 := 1069) (s2 := 129522) F hZ (x_4_3_1_7_7_0 l G lq SL1 KN0 BU0 0 hS9 hl9) hC gL_lands_L_call rfl rfl rfl rfl (by decide +kernel) rfl ⟨Nat.le_of_ble_eq_true rfl, Nat.le_of_ble_eq_true rfl⟩ hP hD hS rfl hl.1 (Nat.le_of_ble_eq_true rfl) dL_lands_554 ⟨Nat.le_of_ble_eq_true rfl, Nat.le_of_ble_eq_true rfl⟩ ⟨Nat.le_of_ble_eq_true rfl, Nat.le_of_ble_eq_true rfl⟩ (fun u554 H locs hC hP hD hS => ?_)
  refine lv_sipush (v := zI (-2013)) hx hb dL_lands_557 (by decide) ?_
  refine bIF_ne (tgt := 612) hx hb dL_lands_560 (by decide) (by decide) ?_
  refine lv_aload_n hx hb dL_lands_563 rfl (lv_at hl 0 rfl) ?_
  refine lv_iconst (v := nI 1) hx hb dL_lands_564 (by decide) ?_
  refine lv_bipush (v := nI 8) hx hb dL_lands_565 (by decide) ?_
  refine lv_iconst (v := nI 4) hx hb dL_lands_567 (by decide) ?_
  refine lv_iconst (v := nI 2) hx hb dL_lands_568 (by decide) ?_
  refine lqV (own := RL) (index := 26) (bytes := cX3_buySquare) (n := 4) (As := [.int (nI 1), .int (nI 8), .int (nI 4), .int (nI 2)]) (rest := []) (c2 := 1073) (s2 := 130050) F (m_4_buySquare_1_8_4_2 l G lq SL1 KN0 BU0 0 hS9) hC gL_lands_X3_buySquare rfl rfl rfl rfl (by decide +kernel) rfl ⟨Nat.le_of_ble_eq_true rfl, Nat.le_of_ble_eq_true rfl⟩ hP hD hS rfl hl.1 (Nat.le_of_ble_eq_true rfl) dL_lands_569 ⟨Nat.le_of_ble_eq_true rfl, Nat.le_of_ble_eq_true rfl⟩ ⟨Nat.le_of_ble_eq_true rfl, Nat.le_of_ble_eq_true rfl⟩ (fun u569 H locs hC hP hD hS => ?_)
  have hS9 : spS (LN5, pushH SL1 LN4, KN0, BU0, 0) := spS_push hS9 ok5
  generalize pushH SL1 LN4 = SL2 at hC hS9
  refine lv_bipush (v := nI 8) hx hb dL_lands_572 (by decide) ?_
  refine bIF_ne (tgt := 612) hx hb dL_lands_574 (by decide) (by decide) ?_
  refine lv_aload_n hx hb dL_lands_577 rfl (lv_at hl 0 rfl) ?_
  refine lv_iconst (v := nI 1) hx hb dL_lands_578 (by decide) ?_
  refine lqV (own := RL) (index := 112) (bytes := cX3_coinsOf) (n := 1) (As := [.int (nI 1)]) (rest := []) (c2 := 1073) (s2 := 130050) F (q_5_coinsOf_1 l G lq SL2 KN0 BU0 0 hS9) hC gL_lands_X3_coinsOf rfl rfl rfl rfl (by decide +kernel) rfl ⟨Nat.le_of_ble_eq_true rfl, Nat.le_of_ble_eq_true rfl⟩ hP hD hS rfl hl.1 (Nat.le_of_ble_eq_true rfl) dL_lands_579 ⟨Nat.le_of_ble_eq_true rfl, Nat.le_of_ble_eq_true rfl⟩ ⟨Nat.le_of_ble_eq_true rfl, Nat.le_of_ble_eq_true rfl⟩ (fun u579 H locs hC hP hD hS => ?_)
  refine lv_bipush (v := nI 92) hx hb dL_lands_582 (by decide) ?_
  refine bIF_ne (tgt := 612) hx hb dL_lands_584 (by decide) (by decide) ?_
  exact kk SL2 hS9 u579 H locs ls hC hP hD hS (lv_sub hl [0] rfl)

set_option maxHeartbeats 8000000 in
set_option maxRecDepth 100000 in
theorem ld_5 {p : Program} {l : Launch} {e : Env} {s : State} {m : MethodId} {args : Array Value} {below : List Frame} {meth : Method} {c : Code} {H : Heap} {locs : List Loc} {Q : State → Prop} {G : gG} {A : Nat → Prop} {lq : Nat} {ls : Array Slot} {wv X : va_W} (SL : List LdS) (hS9 : spS (LN5, SL, KN0, BU0, 0)) (hl9 : l.stackTraces = false) (F : gAt p s m args meth c yL_lands wsL_lands cL_lands 1 (some .boolean) G A) (hZ : gX A s s.heap) (hC : clS G lq wv (LN5, SL, KN0, BU0, 0)) (hP : va_P G.1 vwCl (wv ++ X) H) (hD : va_D A (wv ++ X)) (hS : va_S A s.heap H locs) (hl : lv_has ls 1 [(0, .ref lq)])
    (kk : ∀ (SL : List LdS) (hS9 : spS (LN8, SL, KN0, BU0, 0)) (u : va_W) (H : Heap) (locs : List Loc) (ls : Array Slot), clS G lq u (LN8, SL, KN0, BU0, 0) → va_P G.1 vwCl (u ++ X) H → va_D A (u ++ X) → va_S A s.heap H locs → lv_has ls 1 [(0, .ref lq)] → W p l e ({ frames := 12, cells := 3300, slots := 420000, locals := 330 } : Room) s m args below meth c H locs 2085 251634 Q (F0 m 692 ls [])) : W p l e ({ frames := 12, cells := 3300, slots := 420000, locals := 330 } : Room) s m args below meth c H locs 1073 130050 Q (F0 m 587 ls []) := by
  have hx := F.1
  have hb := F.2.1
  have hts := F.2.2.2.2.2.2.1
  have hown : s.vm.findClass RL = some m.cls := F.2.2.2.2.2.1
  refine lv_aload_n hx hb dL_lands_587 rfl (lv_at hl 0 rfl) ?_
  refine lv_iconst (v := nI 3) hx hb dL_lands_588 (by decide) ?_
  refine lqV (own := RL) (index := 112) (bytes := cX3_coinsOf) (n := 1) (As := [.int (nI 3)]) (rest := []) (c2 := 1073) (s2 := 130050) F (q_5_coinsOf_3 l G lq SL KN0 BU0 0 hS9) hC gL_lands_X3_coinsOf rfl rfl rfl rfl (by decide +kernel) rfl ⟨Nat.le_of_ble_eq_true rfl, Nat.le_of_ble_eq_true rfl⟩ hP hD hS rfl hl.1 (Nat.le_of_ble_eq_true rfl) dL_lands_589 ⟨Nat.le_of_ble_eq_true rfl, Nat.le_of_ble_eq_true rfl⟩ ⟨Nat.le_of_ble_eq_true rfl, Nat.le_of_ble_eq_true rfl⟩ (fun u589 H locs hC hP hD hS => ?_)
  refine lv_bipush (v := nI 68) hx hb dL_lands_592 (by decide) ?_
  refine bIF_ne (tgt := 612) hx hb dL_lands_594 (by decide) (by decide) ?_
  refine lv_aload_n hx hb dL_lands_597 rfl (lv_at hl 0 rfl) ?_
  refine lqV (own := RL) (index := 137) (bytes := cX3_sales) (n := 0) (As := []) (rest := []) (c2 := 1073) (s2 := 130050) F (q_5_sales l G lq SL KN0 BU0 0 hS9) hC gL_lands_X3_sales rfl rfl rfl rfl (by decide +kernel) rfl ⟨Nat.le_of_ble_eq_true rfl, Nat.le_of_ble_eq_true rfl⟩ hP hD hS rfl hl.1 (Nat.le_of_ble_eq_true rfl) dL_lands_598 ⟨Nat.le_of_ble_eq_true rfl, Nat.le_of_ble_eq_true rfl⟩ ⟨Nat.le_of_ble_eq_true rfl, Nat.le_of_ble_eq_true rfl⟩ (fun u598 H locs hC hP hD hS => ?_)
  refine lv_iconst (v := nI 3) hx hb dL_lands_601 (by decide) ?_
  refine bIF_ne (tgt := 612) hx hb dL_lands_602 (by decide) (by decide) ?_
  refine lv_aload_n hx hb dL_lands_605 rfl (lv_at hl 0 rfl) ?_
  refine lqS (own := RL) (index := 196) (bytes := cL_refused) (n := 1) (As := []) (rest := []) (c2 := 2073) (s2 := 250050) F hZ (c_refused l G lq (LN5, SL, KN0, BU0, 0) hS9 rfl hl9) hC gL_lands_L_refused rfl rfl rfl rfl (by decide +kernel) rfl ⟨Nat.le_of_ble_eq_true rfl, Nat.le_of_ble_eq_true rfl⟩ hP hD hS rfl hl.1 (Nat.le_of_ble_eq_true rfl) dL_lands_606 ⟨Nat.le_of_ble_eq_true rfl, Nat.le_of_ble_eq_true rfl⟩ ⟨Nat.le_of_ble_eq_true rfl, Nat.le_of_ble_eq_true rfl⟩ (fun u606 H locs hC hP hD hS => ?_)
  refine bZT_ne (tgt := 614) hx hb dL_lands_609 (by decide) (by decide) ?_
  refine lv_aload_n hx hb dL_lands_614 rfl (lv_at hl 0 rfl) ?_
  refine lqV (own := RL) (index := 63) (bytes := cX3_collectTaxes) (n := 0) (As := []) (rest := []) (c2 := 2077) (s2 := 250578) F (m_5_collectTaxes l G lq SL KN0 BU0 0 hS9) hC gL_lands_X3_collectTaxes rfl rfl rfl rfl (by decide +kernel) rfl ⟨Nat.le_of_ble_eq_true rfl, Nat.le_of_ble_eq_true rfl⟩ hP hD hS rfl hl.1 (Nat.le_of_ble_eq_true rfl) dL_lands_615 ⟨Nat.le_of_ble_eq_true rfl, Nat.le_of_ble_eq_true rfl⟩ ⟨Nat.le_of_ble_eq_true rfl, Nat.le_of_ble_eq_true rfl⟩ (fun u615 H locs hC hP hD hS => ?_)
  have hS9 : spS (LN6, pushH SL LN5, KN0, BU0, 0) := spS_push hS9 ok6
  generalize pushH SL LN5 = SL1 at hC hS9
  refine lv_iconst (v := nI 4) hx hb dL_lands_618 (by decide) ?_
  refine bIF_ne (tgt := 892) hx hb dL_lands_619 (by decide) (by decide) ?_
  refine lv_aload_n hx hb dL_lands_622 rfl (lv_at hl 0 rfl) ?_
  refine lv_iconst (v := nI 1) hx hb dL_lands_623 (by decide) ?_
  refine lqV (own := RL) (index := 112) (bytes := cX3_coinsOf) (n := 1) (As := [.int (nI 1)]) (rest := []) (c2 := 2077) (s2 := 250578) F (q_6_coinsOf_1 l G lq SL1 KN0 BU0 0 hS9) hC gL_lands_X3_coinsOf rfl rfl rfl rfl (by decide +kernel) rfl ⟨Nat.le_of_ble_eq_true rfl, Nat.le_of_ble_eq_true rfl⟩ hP hD hS rfl hl.1 (Nat.le_of_ble_eq_true rfl) dL_lands_624 ⟨Nat.le_of_ble_eq_true rfl, Nat.le_of_ble_eq_true rfl⟩ ⟨Nat.le_of_ble_eq_true rfl, Nat.le_of_ble_eq_true rfl⟩ (fun u624 H locs hC hP hD hS => ?_)
  refine lv_bipush (v := nI 90) hx hb dL_lands_627 (by decide) ?_
  refine bIF_ne (tgt := 892) hx hb dL_lands_629 (by decide) (by decide) ?_
  refine lv_aload_n hx hb dL_lands_632 rfl (lv_at hl 0 rfl) ?_
  refine lv_iconst (v := nI 2) hx hb dL_lands_633 (by decide) ?_
  refine lqV (own := RL) (index := 112) (bytes := cX3_coinsOf) (n := 1) (As := [.int (nI 2)]) (rest := []) (c2 := 2077) (s2 := 250578) F (q_6_coinsOf_2 l G lq SL1 KN0 BU0 0 hS9) hC gL_lands_X3_coinsOf rfl rfl rfl rfl (by decide +kernel) rfl ⟨Nat.le_of_ble_eq_true rfl, Nat.le_of_ble_eq_true rfl⟩ hP hD hS rfl hl.1 (Nat.le_of_ble_eq_true rfl) dL_lands_634 ⟨Nat.le_of_ble_eq_true rfl, Nat.le_of_ble_eq_true rfl⟩ ⟨Nat.le_of_ble_eq_true rfl, Nat.le_of_ble_eq_true rfl⟩ (fun u634 H locs hC hP hD hS => ?_)
  refine lv_bipush (v := nI 99) hx hb dL_lands_637 (by decide) ?_
  refine bIF_ne (tgt := 892) hx hb dL_lands_639 (by decide) (by decide) ?_
  refine lv_aload_n hx hb dL_lands_642 rfl (lv_at hl 0 rfl) ?_
  refine lv_iconst (v := nI 3) hx hb dL_lands_643 (by decide) ?_
  refine lqV (own := RL) (index := 112) (bytes := cX3_coinsOf) (n := 1) (As := [.int (nI 3)]) (rest := []) (c2 := 2077) (s2 := 250578) F (q_6_coinsOf_3 l G lq SL1 KN0 BU0 0 hS9) hC gL_lands_X3_coinsOf rfl rfl rfl rfl (by decide +kernel) rfl ⟨Nat.le_of_ble_eq_true rfl, Nat.le_of_ble_eq_true rfl⟩ hP hD hS rfl hl.1 (Nat.le_of_ble_eq_true rfl) dL_lands_644 ⟨Nat.le_of_ble_eq_true rfl, Nat.le_of_ble_eq_true rfl⟩ ⟨Nat.le_of_ble_eq_true rfl, Nat.le_of_ble_eq_true rfl⟩ (fun u644 H locs hC hP hD hS => ?_)
  refine lv_bipush (v := nI 67) hx hb dL_lands_647 (by decide) ?_
  refine bIF_ne (tgt := 892) hx hb dL_lands_649 (by decide) (by decide) ?_
  refine lv_aload_n hx hb dL_lands_652 rfl (lv_at hl 0 rfl) ?_
  refine lv_iconst (v := nI 0) hx hb dL_lands_653 (by decide) ?_
  refine lqV (own := RL) (index := 112) (bytes := cX3_coinsOf) (n := 1) (As := [.int (nI 0)]) (rest := []) (c2 := 2077) (s2 := 250578) F (q_6_coinsOf_0 l G lq SL1 KN0 BU0 0 hS9) hC gL_lands_X3_coinsOf rfl rfl rfl rfl (by decide +kernel) rfl ⟨Nat.le_of_ble_eq_true rfl, Nat.le_of_ble_eq_true rfl⟩ hP hD hS rfl hl.1 (Nat.le_of_ble_eq_true rfl) dL_lands_654 ⟨Nat.le_of_ble_eq_true rfl, Nat.le_of_ble_eq_true rfl⟩ ⟨Nat.le_of_ble_eq_true rfl, Nat.le_of_ble_eq_true rfl⟩ (fun u654 H locs hC hP hD hS => ?_)
  refine lv_bipush (v := nI 44) hx hb dL_lands_657 (by decide) ?_
  refine bIF_ne (tgt := 892) hx hb dL_lands_659 (by decide) (by decide) ?_
  refine lv_aload_n hx hb dL_lands_662 rfl (lv_at hl 0 rfl) ?_
  refine lv_iconst (v := nI 0) hx hb dL_lands_663 (by decide) ?_
  refine lv_iconst (v := nI 0) hx hb dL_lands_664 (by decide) ?_
  refine lv_iconst (v := nI 2) hx hb dL_lands_665 (by decide) ?_
  refine lv_bipush (v := zI (-3)) hx hb dL_lands_666 (by decide) ?_
  refine lqV (own := RL) (index := 15) (bytes := cX3_raise) (n := 4) (As := [.int (nI 0), .int (nI 0), .int (nI 2), .int (zI (-3))]) (rest := []) (c2 := 2081) (s2 := 251106) F (m_6_raise_0_0_2_n3 l G lq SL1 KN0 BU0 0 hS9) hC gL_lands_X3_raise rfl rfl rfl rfl (by decide +kernel) rfl ⟨Nat.le_of_ble_eq_true rfl, Nat.le_of_ble_eq_true rfl⟩ hP hD hS rfl hl.1 (Nat.le_of_ble_eq_true rfl) dL_lands_668 ⟨Nat.le_of_ble_eq_true rfl, Nat.le_of_ble_eq_true rfl⟩ ⟨Nat.le_of_ble_eq_true rfl, Nat.le_of_ble_eq_true rfl⟩ (fun u668 H locs hC hP hD hS => ?_)
  have hS9 : spS (LN7, pushH SL1 LN6, KN0, BU0, 0) := spS_push hS9 ok7
  generalize pushH SL1 LN6 = SL2 at hC hS9
  refine lv_bipush (v := nI 8) hx hb dL_lands_671 (by decide) ?_
  refine bIF_ne (tgt := 892) hx hb dL_lands_673 (by decide) (by decide) ?_
  refine lv_aload_n hx hb dL_lands_676 rfl (lv_at hl 0 rfl) ?_
  refine lv_bipush (v := nI 14) hx hb dL_lands_677 (by decide) ?_
  refine lv_bipush (v := nI 14) hx hb dL_lands_679 (by decide) ?_
  refine lv_iconst (v := nI 2) hx hb dL_lands_681 (by decide) ?_
  refine lv_bipush (v := nI 9) hx hb dL_lands_682 (by decide) ?_
  refine lqV (own := RL) (index := 15) (bytes := cX3_raise) (n := 4) (As := [.int (nI 14), .int (nI 14), .int (nI 2), .int (nI 9)]) (rest := []) (c2 := 2085) (s2 := 251634) F (m_7_raise_14_14_2_9 l G lq SL2 KN0 BU0 0 hS9) hC gL_lands_X3_raise rfl rfl rfl rfl (by decide +kernel) rfl ⟨Nat.le_of_ble_eq_true rfl, Nat.le_of_ble_eq_true rfl⟩ hP hD hS rfl hl.1 (Nat.le_of_ble_eq_true rfl) dL_lands_684 ⟨Nat.le_of_ble_eq_true rfl, Nat.le_of_ble_eq_true rfl⟩ ⟨Nat.le_of_ble_eq_true rfl, Nat.le_of_ble_eq_true rfl⟩ (fun u684 H locs hC hP hD hS => ?_)
  have hS9 : spS (LN8, pushH SL2 LN7, KN0, BU0, 0) := spS_push hS9 ok8
  generalize pushH SL2 LN7 = SL3 at hC hS9
  refine lv_bipush (v := nI 36) hx hb dL_lands_687 (by decide) ?_
  refine bIF_ne (tgt := 892) hx hb dL_lands_689 (by decide) (by decide) ?_
  exact kk SL3 hS9 u684 H locs ls hC hP hD hS (lv_sub hl [0] rfl)

set_option maxHeartbeats 8000000 in
set_option maxRecDepth 100000 in
theorem ld_6 {p : Program} {l : Launch} {e : Env} {s : State} {m : MethodId} {args : Array Value} {below : List Frame} {meth : Method} {c : Code} {H : Heap} {locs : List Loc} {Q : State → Prop} {G : gG} {A : Nat → Prop} {lq : Nat} {ls : Array Slot} {wv X : va_W} (SL : List LdS) (hS9 : spS (LN8, SL, KN0, BU0, 0)) (hl9 : l.stackTraces = false) (F : gAt p s m args meth c yL_lands wsL_lands cL_lands 1 (some .boolean) G A) (hZ : gX A s s.heap) (hC : clS G lq wv (LN8, SL, KN0, BU0, 0)) (hP : va_P G.1 vwCl (wv ++ X) H) (hD : va_D A (wv ++ X)) (hS : va_S A s.heap H locs) (hl : lv_has ls 1 [(0, .ref lq)])
    (kk : ∀ (SL : List LdS) (hS9 : spS (LN10, SL, va_up KN0 0 (some LN8), BU0, 0)) (u : va_W) (H : Heap) (locs : List Loc) (ls : Array Slot), clS G lq u (LN10, SL, va_up KN0 0 (some LN8), BU0, 0) → va_P G.1 vwCl (u ++ X) H → va_D A (u ++ X) → va_S A s.heap H locs → lv_has ls 1 [(0, .ref lq)] → W p l e ({ frames := 12, cells := 3300, slots := 420000, locals := 330 } : Room) s m args below meth c H locs 2093 252690 Q (F0 m 787 ls [])) : W p l e ({ frames := 12, cells := 3300, slots := 420000, locals := 330 } : Room) s m args below meth c H locs 2085 251634 Q (F0 m 692 ls []) := by
  have hx := F.1
  have hb := F.2.1
  have hts := F.2.2.2.2.2.2.1
  have hown : s.vm.findClass RL = some m.cls := F.2.2.2.2.2.1
  refine lv_aload_n hx hb dL_lands_692 rfl (lv_at hl 0 rfl) ?_
  refine lqD (own := RL) (index := 190) (bytes := cX3_meanHeight) (n := 0) (As := []) (rest := []) (c2 := 2085) (s2 := 251634) F (q_8_meanHeight l G lq SL KN0 BU0 0 hS9) hC gL_lands_X3_meanHeight rfl rfl rfl rfl (by decide +kernel) rfl ⟨Nat.le_of_ble_eq_true rfl, Nat.le_of_ble_eq_true rfl⟩ hP hD hS rfl hl.1 (Nat.le_of_ble_eq_true rfl) dL_lands_693 ⟨Nat.le_of_ble_eq_true rfl, Nat.le_of_ble_eq_true rfl⟩ ⟨Nat.le_of_ble_eq_true rfl, Nat.le_of_ble_eq_true rfl⟩ (fun u693 H locs hC hP hD hS => ?_)
  refine lv_ldc2d (own := RL) (v := 4617333110147645440) hx hb hown (hts (.constantDouble RL 200 (4617333110147645440)) (by decide +kernel)) dL_lands_696 ?_
  refine lv_dcmp hx hb dL_lands_699 ?_
  refine W.eq (g2 := F0 m 700 ls [.int (nI 0)]) (congrArg (fun v_ => F0 m 700 ls [v_]) (show (.int (Op.cmpValue (FP.dcmp 4617333110147645440 4617333110147645440) .l) : Value) = .int (nI 0) from congrArg Value.int (by decide +kernel))) ?_
  refine bZF_ne (tgt := 892) hx hb dL_lands_700 (by decide) (by decide) ?_
  refine lv_aload_n hx hb dL_lands_703 rfl (lv_at hl 0 rfl) ?_
  refine lv_iconst (v := nI 1) hx hb dL_lands_704 (by decide) ?_
  refine lv_iconst (v := nI 3) hx hb dL_lands_705 (by decide) ?_
  refine lqV (own := RL) (index := 115) (bytes := cX3_lowCells) (n := 2) (As := [.int (nI 1), .int (nI 3)]) (rest := []) (c2 := 2085) (s2 := 251634) F (q_8_lowCells_1_3 l G lq SL KN0 BU0 0 hS9) hC gL_lands_X3_lowCells rfl rfl rfl rfl (by decide +kernel) rfl ⟨Nat.le_of_ble_eq_true rfl, Nat.le_of_ble_eq_true rfl⟩ hP hD hS rfl hl.1 (Nat.le_of_ble_eq_true rfl) dL_lands_706 ⟨Nat.le_of_ble_eq_true rfl, Nat.le_of_ble_eq_true rfl⟩ ⟨Nat.le_of_ble_eq_true rfl, Nat.le_of_ble_eq_true rfl⟩ (fun u706 H locs hC hP hD hS => ?_)
  refine lv_iconst (v := nI 4) hx hb dL_lands_709 (by decide) ?_
  refine bIF_ne (tgt := 892) hx hb dL_lands_710 (by decide) (by decide) ?_
  refine lv_aload_n hx hb dL_lands_713 rfl (lv_at hl 0 rfl) ?_
  refine lv_iconst (v := nI 1) hx hb dL_lands_714 (by decide) ?_
  refine lv_iconst (v := nI 2) hx hb dL_lands_715 (by decide) ?_
  refine lqV (own := RL) (index := 115) (bytes := cX3_lowCells) (n := 2) (As := [.int (nI 1), .int (nI 2)]) (rest := []) (c2 := 2085) (s2 := 251634) F (q_8_lowCells_1_2 l G lq SL KN0 BU0 0 hS9) hC gL_lands_X3_lowCells rfl rfl rfl rfl (by decide +kernel) rfl ⟨Nat.le_of_ble_eq_true rfl, Nat.le_of_ble_eq_true rfl⟩ hP hD hS rfl hl.1 (Nat.le_of_ble_eq_true rfl) dL_lands_716 ⟨Nat.le_of_ble_eq_true rfl, Nat.le_of_ble_eq_true rfl⟩ ⟨Nat.le_of_ble_eq_true rfl, Nat.le_of_ble_eq_true rfl⟩ (fun u716 H locs hC hP hD hS => ?_)
  refine bZF_ne (tgt := 892) hx hb dL_lands_719 (by decide) (by decide) ?_
  refine lv_aload_n hx hb dL_lands_722 rfl (lv_at hl 0 rfl) ?_
  refine lv_iconst (v := nI 3) hx hb dL_lands_723 (by decide) ?_
  refine lqV (own := RL) (index := 60) (bytes := cX3_plotsIfFlooded) (n := 1) (As := [.int (nI 3)]) (rest := []) (c2 := 2085) (s2 := 251634) F (q_8_plotsIfFlooded_3 l G lq SL KN0 BU0 0 hS9) hC gL_lands_X3_plotsIfFlooded rfl rfl rfl rfl (by decide +kernel) rfl ⟨Nat.le_of_ble_eq_true rfl, Nat.le_of_ble_eq_true rfl⟩ hP hD hS rfl hl.1 (Nat.le_of_ble_eq_true rfl) dL_lands_724 ⟨Nat.le_of_ble_eq_true rfl, Nat.le_of_ble_eq_true rfl⟩ ⟨Nat.le_of_ble_eq_true rfl, Nat.le_of_ble_eq_true rfl⟩ (fun u724 H locs hC hP hD hS => ?_)
  refine lv_bipush (v := nI 16) hx hb dL_lands_727 (by decide) ?_
  refine bIF_ne (tgt := 892) hx hb dL_lands_729 (by decide) (by decide) ?_
  refine lv_aload_n hx hb dL_lands_732 rfl (lv_at hl 0 rfl) ?_
  refine lv_iconst (v := nI 0) hx hb dL_lands_733 (by decide) ?_
  refine lqV (own := RL) (index := 45) (bytes := cX3_keep) (n := 1) (As := [.int (nI 0)]) (rest := []) (c2 := 2089) (s2 := 252162) F ((K_keep l G lq (LN8, SL, KN0, BU0, 0) 0 hS9 (by decide)).r (congrArg nI pl_tT5.1)) hC gL_lands_X3_keep rfl rfl rfl rfl (by decide +kernel) rfl ⟨Nat.le_of_ble_eq_true rfl, Nat.le_of_ble_eq_true rfl⟩ hP hD hS rfl hl.1 (Nat.le_of_ble_eq_true rfl) dL_lands_734 ⟨Nat.le_of_ble_eq_true rfl, Nat.le_of_ble_eq_true rfl⟩ ⟨Nat.le_of_ble_eq_true rfl, Nat.le_of_ble_eq_true rfl⟩ (fun u734 H locs hC hP hD hS => ?_)
  have hS9 : spS (LN8, SL, va_up KN0 0 (some LN8), BU0, 0) := spS_keep hS9 0
  have hC : clS G lq u734 (LN8, SL, va_up KN0 0 (some LN8), BU0, 0) := hC
  refine lv_bipush (v := nI 10) hx hb dL_lands_737 (by decide) ?_
  refine bIF_ne (tgt := 892) hx hb dL_lands_739 (by decide) (by decide) ?_
  refine lv_aload_n hx hb dL_lands_742 rfl (lv_at hl 0 rfl) ?_
  refine lv_iconst (v := nI 3) hx hb dL_lands_743 (by decide) ?_
  refine lqV (own := RL) (index := 18) (bytes := cX3_flood) (n := 1) (As := [.int (nI 3)]) (rest := []) (c2 := 2093) (s2 := 252690) F (m_8_flood_3 l G lq SL (va_up KN0 0 (some LN8)) BU0 0 hS9) hC gL_lands_X3_flood rfl rfl rfl rfl (by decide +kernel) rfl ⟨Nat.le_of_ble_eq_true rfl, Nat.le_of_ble_eq_true rfl⟩ hP hD hS rfl hl.1 (Nat.le_of_ble_eq_true rfl) dL_lands_744 ⟨Nat.le_of_ble_eq_true rfl, Nat.le_of_ble_eq_true rfl⟩ ⟨Nat.le_of_ble_eq_true rfl, Nat.le_of_ble_eq_true rfl⟩ (fun u744 H locs hC hP hD hS => ?_)
  have hS9 : spS (LN10, pushH SL LN8, va_up KN0 0 (some LN8), BU0, 0) := spS_push hS9 ok10
  generalize pushH SL LN8 = SL1 at hC hS9
  refine lv_iconst (v := nI 4) hx hb dL_lands_747 (by decide) ?_
  refine bIF_ne (tgt := 892) hx hb dL_lands_748 (by decide) (by decide) ?_
  refine lv_aload_n hx hb dL_lands_751 rfl (lv_at hl 0 rfl) ?_
  refine lqV (own := RL) (index := 128) (bytes := cX3_plots) (n := 0) (As := []) (rest := []) (c2 := 2093) (s2 := 252690) F (q_10_plots l G lq SL1 (va_up KN0 0 (some LN8)) BU0 0 hS9) hC gL_lands_X3_plots rfl rfl rfl rfl (by decide +kernel) rfl ⟨Nat.le_of_ble_eq_true rfl, Nat.le_of_ble_eq_true rfl⟩ hP hD hS rfl hl.1 (Nat.le_of_ble_eq_true rfl) dL_lands_752 ⟨Nat.le_of_ble_eq_true rfl, Nat.le_of_ble_eq_true rfl⟩ ⟨Nat.le_of_ble_eq_true rfl, Nat.le_of_ble_eq_true rfl⟩ (fun u752 H locs hC hP hD hS => ?_)
  refine lv_bipush (v := nI 16) hx hb dL_lands_755 (by decide) ?_
  refine bIF_ne (tgt := 892) hx hb dL_lands_757 (by decide) (by decide) ?_
  refine lv_aload_n hx hb dL_lands_760 rfl (lv_at hl 0 rfl) ?_
  refine lqV (own := RL) (index := 140) (bytes := cX3_floods) (n := 0) (As := []) (rest := []) (c2 := 2093) (s2 := 252690) F (q_10_floods l G lq SL1 (va_up KN0 0 (some LN8)) BU0 0 hS9) hC gL_lands_X3_floods rfl rfl rfl rfl (by decide +kernel) rfl ⟨Nat.le_of_ble_eq_true rfl, Nat.le_of_ble_eq_true rfl⟩ hP hD hS rfl hl.1 (Nat.le_of_ble_eq_true rfl) dL_lands_761 ⟨Nat.le_of_ble_eq_true rfl, Nat.le_of_ble_eq_true rfl⟩ ⟨Nat.le_of_ble_eq_true rfl, Nat.le_of_ble_eq_true rfl⟩ (fun u761 H locs hC hP hD hS => ?_)
  refine lv_iconst (v := nI 1) hx hb dL_lands_764 (by decide) ?_
  refine bIF_ne (tgt := 892) hx hb dL_lands_765 (by decide) (by decide) ?_
  refine lv_aload_n hx hb dL_lands_768 rfl (lv_at hl 0 rfl) ?_
  refine lv_iconst (v := nI 1) hx hb dL_lands_769 (by decide) ?_
  refine lv_iconst (v := nI 1) hx hb dL_lands_770 (by decide) ?_
  refine lqV (own := RL) (index := 72) (bytes := cX3_ownerAt) (n := 2) (As := [.int (nI 1), .int (nI 1)]) (rest := []) (c2 := 2093) (s2 := 252690) F (q_10_ownerAt_1_1 l G lq SL1 (va_up KN0 0 (some LN8)) BU0 0 hS9) hC gL_lands_X3_ownerAt rfl rfl rfl rfl (by decide +kernel) rfl ⟨Nat.le_of_ble_eq_true rfl, Nat.le_of_ble_eq_true rfl⟩ hP hD hS rfl hl.1 (Nat.le_of_ble_eq_true rfl) dL_lands_771 ⟨Nat.le_of_ble_eq_true rfl, Nat.le_of_ble_eq_true rfl⟩ ⟨Nat.le_of_ble_eq_true rfl, Nat.le_of_ble_eq_true rfl⟩ (fun u771 H locs hC hP hD hS => ?_)
  refine bZF_ne (tgt := 892) hx hb dL_lands_774 (by decide) (by decide) ?_
  refine lv_aload_n hx hb dL_lands_777 rfl (lv_at hl 0 rfl) ?_
  refine lv_iconst (v := nI 0) hx hb dL_lands_778 (by decide) ?_
  refine lv_iconst (v := nI 0) hx hb dL_lands_779 (by decide) ?_
  refine lqV (own := RL) (index := 79) (bytes := cX3_plotSizeAt) (n := 2) (As := [.int (nI 0), .int (nI 0)]) (rest := []) (c2 := 2093) (s2 := 252690) F (q_10_plotSizeAt_0_0 l G lq SL1 (va_up KN0 0 (some LN8)) BU0 0 hS9) hC gL_lands_X3_plotSizeAt rfl rfl rfl rfl (by decide +kernel) rfl ⟨Nat.le_of_ble_eq_true rfl, Nat.le_of_ble_eq_true rfl⟩ hP hD hS rfl hl.1 (Nat.le_of_ble_eq_true rfl) dL_lands_780 ⟨Nat.le_of_ble_eq_true rfl, Nat.le_of_ble_eq_true rfl⟩ ⟨Nat.le_of_ble_eq_true rfl, Nat.le_of_ble_eq_true rfl⟩ (fun u780 H locs hC hP hD hS => ?_)
  refine lv_iconst (v := nI 2) hx hb dL_lands_783 (by decide) ?_
  refine bIF_ne (tgt := 892) hx hb dL_lands_784 (by decide) (by decide) ?_
  exact kk SL1 hS9 u780 H locs ls hC hP hD hS (lv_sub hl [0] rfl)

set_option maxHeartbeats 8000000 in
set_option maxRecDepth 100000 in
theorem ld_7 {p : Program} {l : Launch} {e : Env} {s : State} {m : MethodId} {args : Array Value} {below : List Frame} {meth : Method} {c : Code} {H : Heap} {locs : List Loc} {Q : State → Prop} {G : gG} {A : Nat → Prop} {lq : Nat} {ls : Array Slot} {wv X : va_W} (SL : List LdS) (hS9 : spS (LN10, SL, va_up KN0 0 (some LN8), BU0, 0)) (hl9 : l.stackTraces = false) (F : gAt p s m args meth c yL_lands wsL_lands cL_lands 1 (some .boolean) G A) (hZ : gX A s s.heap) (hC : clS G lq wv (LN10, SL, va_up KN0 0 (some LN8), BU0, 0)) (hP : va_P G.1 vwCl (wv ++ X) H) (hD : va_D A (wv ++ X)) (hS : va_S A s.heap H locs) (hl : lv_has ls 1 [(0, .ref lq)])
    (kk : ∀ (SL : List LdS) (hS9 : spS (LN13, SL, va_up KN0 0 (some LN8), BU0, 0)) (u : va_W) (H : Heap) (locs : List Loc) (ls : Array Slot), clS G lq u (LN13, SL, va_up KN0 0 (some LN8), BU0, 0) → va_P G.1 vwCl (u ++ X) H → va_D A (u ++ X) → va_S A s.heap H locs → lv_has ls 1 [(0, .ref lq)] → W p l e ({ frames := 12, cells := 3300, slots := 420000, locals := 330 } : Room) s m args below meth c H locs 2105 254274 Q (F0 m 885 ls [])) : W p l e ({ frames := 12, cells := 3300, slots := 420000, locals := 330 } : Room) s m args below meth c H locs 2093 252690 Q (F0 m 787 ls []) := by
  have hx := F.1
  have hb := F.2.1
  have hts := F.2.2.2.2.2.2.1
  have hown : s.vm.findClass RL = some m.cls := F.2.2.2.2.2.1
  refine lv_aload_n hx hb dL_lands_787 rfl (lv_at hl 0 rfl) ?_
  refine lv_iconst (v := nI 1) hx hb dL_lands_788 (by decide) ?_
  refine lqV (own := RL) (index := 88) (bytes := cX3_plotsOf) (n := 1) (As := [.int (nI 1)]) (rest := []) (c2 := 2093) (s2 := 252690) F (q_10_plotsOf_1 l G lq SL (va_up KN0 0 (some LN8)) BU0 0 hS9) hC gL_lands_X3_plotsOf rfl rfl rfl rfl (by decide +kernel) rfl ⟨Nat.le_of_ble_eq_true rfl, Nat.le_of_ble_eq_true rfl⟩ hP hD hS rfl hl.1 (Nat.le_of_ble_eq_true rfl) dL_lands_789 ⟨Nat.le_of_ble_eq_true rfl, Nat.le_of_ble_eq_true rfl⟩ ⟨Nat.le_of_ble_eq_true rfl, Nat.le_of_ble_eq_true rfl⟩ (fun u789 H locs hC hP hD hS => ?_)
  refine lv_bipush (v := nI 7) hx hb dL_lands_792 (by decide) ?_
  refine bIF_ne (tgt := 892) hx hb dL_lands_794 (by decide) (by decide) ?_
  refine lv_aload_n hx hb dL_lands_797 rfl (lv_at hl 0 rfl) ?_
  refine lv_bipush (v := nI 9) hx hb dL_lands_798 (by decide) ?_
  refine lqV (own := RL) (index := 32) (bytes := cX3_setTax) (n := 1) (As := [.int (nI 9)]) (rest := []) (c2 := 2097) (s2 := 253218) F (m_10_setTax_9 l G lq SL (va_up KN0 0 (some LN8)) BU0 0 hS9) hC gL_lands_X3_setTax rfl rfl rfl rfl (by decide +kernel) rfl ⟨Nat.le_of_ble_eq_true rfl, Nat.le_of_ble_eq_true rfl⟩ hP hD hS rfl hl.1 (Nat.le_of_ble_eq_true rfl) dL_lands_800 ⟨Nat.le_of_ble_eq_true rfl, Nat.le_of_ble_eq_true rfl⟩ ⟨Nat.le_of_ble_eq_true rfl, Nat.le_of_ble_eq_true rfl⟩ (fun u800 H locs hC hP hD hS => ?_)
  have hS9 : spS (LN11, pushH SL LN10, va_up KN0 0 (some LN8), BU0, 0) := spS_push hS9 ok11
  generalize pushH SL LN10 = SL1 at hC hS9
  refine lv_iconst (v := nI 1) hx hb dL_lands_803 (by decide) ?_
  refine bIF_ne (tgt := 892) hx hb dL_lands_804 (by decide) (by decide) ?_
  refine lv_aload_n hx hb dL_lands_807 rfl (lv_at hl 0 rfl) ?_
  refine lv_iconst (v := nI 1) hx hb dL_lands_808 (by decide) ?_
  refine lqV (own := RL) (index := 118) (bytes := cX3_lossesIfTaxed) (n := 1) (As := [.int (nI 1)]) (rest := []) (c2 := 2097) (s2 := 253218) F (q_11_lossesIfTaxed_1 l G lq SL1 (va_up KN0 0 (some LN8)) BU0 0 hS9) hC gL_lands_X3_lossesIfTaxed rfl rfl rfl rfl (by decide +kernel) rfl ⟨Nat.le_of_ble_eq_true rfl, Nat.le_of_ble_eq_true rfl⟩ hP hD hS rfl hl.1 (Nat.le_of_ble_eq_true rfl) dL_lands_809 ⟨Nat.le_of_ble_eq_true rfl, Nat.le_of_ble_eq_true rfl⟩ ⟨Nat.le_of_ble_eq_true rfl, Nat.le_of_ble_eq_true rfl⟩ (fun u809 H locs hC hP hD hS => ?_)
  refine bZF_ne (tgt := 892) hx hb dL_lands_812 (by decide) (by decide) ?_
  refine lv_aload_n hx hb dL_lands_815 rfl (lv_at hl 0 rfl) ?_
  refine lv_bipush (v := nI 9) hx hb dL_lands_816 (by decide) ?_
  refine lqV (own := RL) (index := 29) (bytes := cX3_setPrice) (n := 1) (As := [.int (nI 9)]) (rest := []) (c2 := 2101) (s2 := 253746) F (m_11_setPrice_9 l G lq SL1 (va_up KN0 0 (some LN8)) BU0 0 hS9) hC gL_lands_X3_setPrice rfl rfl rfl rfl (by decide +kernel) rfl ⟨Nat.le_of_ble_eq_true rfl, Nat.le_of_ble_eq_true rfl⟩ hP hD hS rfl hl.1 (Nat.le_of_ble_eq_true rfl) dL_lands_818 ⟨Nat.le_of_ble_eq_true rfl, Nat.le_of_ble_eq_true rfl⟩ ⟨Nat.le_of_ble_eq_true rfl, Nat.le_of_ble_eq_true rfl⟩ (fun u818 H locs hC hP hD hS => ?_)
  have hS9 : spS (LN12, pushH SL1 LN11, va_up KN0 0 (some LN8), BU0, 0) := spS_push hS9 ok12
  generalize pushH SL1 LN11 = SL2 at hC hS9
  refine lv_iconst (v := nI 2) hx hb dL_lands_821 (by decide) ?_
  refine bIF_ne (tgt := 892) hx hb dL_lands_822 (by decide) (by decide) ?_
  refine lv_aload_n hx hb dL_lands_825 rfl (lv_at hl 0 rfl) ?_
  refine lv_iconst (v := nI 1) hx hb dL_lands_826 (by decide) ?_
  refine lv_bipush (v := nI 8) hx hb dL_lands_827 (by decide) ?_
  refine lv_bipush (v := nI 8) hx hb dL_lands_829 (by decide) ?_
  refine lv_iconst (v := nI 2) hx hb dL_lands_831 (by decide) ?_
  refine lqV (own := RL) (index := 26) (bytes := cX3_buySquare) (n := 4) (As := [.int (nI 1), .int (nI 8), .int (nI 8), .int (nI 2)]) (rest := []) (c2 := 2105) (s2 := 254274) F (m_12_buySquare_1_8_8_2 l G lq SL2 (va_up KN0 0 (some LN8)) BU0 0 hS9) hC gL_lands_X3_buySquare rfl rfl rfl rfl (by decide +kernel) rfl ⟨Nat.le_of_ble_eq_true rfl, Nat.le_of_ble_eq_true rfl⟩ hP hD hS rfl hl.1 (Nat.le_of_ble_eq_true rfl) dL_lands_832 ⟨Nat.le_of_ble_eq_true rfl, Nat.le_of_ble_eq_true rfl⟩ ⟨Nat.le_of_ble_eq_true rfl, Nat.le_of_ble_eq_true rfl⟩ (fun u832 H locs hC hP hD hS => ?_)
  have hS9 : spS (LN13, pushH SL2 LN12, va_up KN0 0 (some LN8), BU0, 0) := spS_push hS9 ok13
  generalize pushH SL2 LN12 = SL3 at hC hS9
  refine lv_bipush (v := nI 36) hx hb dL_lands_835 (by decide) ?_
  refine bIF_ne (tgt := 892) hx hb dL_lands_837 (by decide) (by decide) ?_
  refine lv_aload_n hx hb dL_lands_840 rfl (lv_at hl 0 rfl) ?_
  refine lv_iconst (v := nI 1) hx hb dL_lands_841 (by decide) ?_
  refine lqV (own := RL) (index := 112) (bytes := cX3_coinsOf) (n := 1) (As := [.int (nI 1)]) (rest := []) (c2 := 2105) (s2 := 254274) F (q_13_coinsOf_1 l G lq SL3 (va_up KN0 0 (some LN8)) BU0 0 hS9) hC gL_lands_X3_coinsOf rfl rfl rfl rfl (by decide +kernel) rfl ⟨Nat.le_of_ble_eq_true rfl, Nat.le_of_ble_eq_true rfl⟩ hP hD hS rfl hl.1 (Nat.le_of_ble_eq_true rfl) dL_lands_842 ⟨Nat.le_of_ble_eq_true rfl, Nat.le_of_ble_eq_true rfl⟩ ⟨Nat.le_of_ble_eq_true rfl, Nat.le_of_ble_eq_true rfl⟩ (fun u842 H locs hC hP hD hS => ?_)
  refine lv_bipush (v := nI 54) hx hb dL_lands_845 (by decide) ?_
  refine bIF_ne (tgt := 892) hx hb dL_lands_847 (by decide) (by decide) ?_
  refine lv_aload_n hx hb dL_lands_850 rfl (lv_at hl 0 rfl) ?_
  refine lv_iconst (v := nI 1) hx hb dL_lands_851 (by decide) ?_
  refine lqV (own := RL) (index := 88) (bytes := cX3_plotsOf) (n := 1) (As := [.int (nI 1)]) (rest := []) (c2 := 2105) (s2 := 254274) F (q_13_plotsOf_1 l G lq SL3 (va_up KN0 0 (some LN8)) BU0 0 hS9) hC gL_lands_X3_plotsOf rfl rfl rfl rfl (by decide +kernel) rfl ⟨Nat.le_of_ble_eq_true rfl, Nat.le_of_ble_eq_true rfl⟩ hP hD hS rfl hl.1 (Nat.le_of_ble_eq_true rfl) dL_lands_852 ⟨Nat.le_of_ble_eq_true rfl, Nat.le_of_ble_eq_true rfl⟩ ⟨Nat.le_of_ble_eq_true rfl, Nat.le_of_ble_eq_true rfl⟩ (fun u852 H locs hC hP hD hS => ?_)
  refine lv_bipush (v := nI 8) hx hb dL_lands_855 (by decide) ?_
  refine bIF_ne (tgt := 892) hx hb dL_lands_857 (by decide) (by decide) ?_
  refine lv_aload_n hx hb dL_lands_860 rfl (lv_at hl 0 rfl) ?_
  refine lv_iconst (v := nI 1) hx hb dL_lands_861 (by decide) ?_
  refine lqV (own := RL) (index := 118) (bytes := cX3_lossesIfTaxed) (n := 1) (As := [.int (nI 1)]) (rest := []) (c2 := 2105) (s2 := 254274) F (q_13_lossesIfTaxed_1 l G lq SL3 (va_up KN0 0 (some LN8)) BU0 0 hS9) hC gL_lands_X3_lossesIfTaxed rfl rfl rfl rfl (by decide +kernel) rfl ⟨Nat.le_of_ble_eq_true rfl, Nat.le_of_ble_eq_true rfl⟩ hP hD hS rfl hl.1 (Nat.le_of_ble_eq_true rfl) dL_lands_862 ⟨Nat.le_of_ble_eq_true rfl, Nat.le_of_ble_eq_true rfl⟩ ⟨Nat.le_of_ble_eq_true rfl, Nat.le_of_ble_eq_true rfl⟩ (fun u862 H locs hC hP hD hS => ?_)
  refine lv_iconst (v := nI 2) hx hb dL_lands_865 (by decide) ?_
  refine bIF_ne (tgt := 892) hx hb dL_lands_866 (by decide) (by decide) ?_
  refine lv_aload_n hx hb dL_lands_869 rfl (lv_at hl 0 rfl) ?_
  refine lv_iconst (v := nI 1) hx hb dL_lands_870 (by decide) ?_
  refine lqV (own := RL) (index := 109) (bytes := cX3_firstToLose) (n := 1) (As := [.int (nI 1)]) (rest := []) (c2 := 2105) (s2 := 254274) F (q_13_firstToLose_1 l G lq SL3 (va_up KN0 0 (some LN8)) BU0 0 hS9) hC gL_lands_X3_firstToLose rfl rfl rfl rfl (by decide +kernel) rfl ⟨Nat.le_of_ble_eq_true rfl, Nat.le_of_ble_eq_true rfl⟩ hP hD hS rfl hl.1 (Nat.le_of_ble_eq_true rfl) dL_lands_871 ⟨Nat.le_of_ble_eq_true rfl, Nat.le_of_ble_eq_true rfl⟩ ⟨Nat.le_of_ble_eq_true rfl, Nat.le_of_ble_eq_true rfl⟩ (fun u871 H locs hC hP hD hS => ?_)
  refine lv_aload_n hx hb dL_lands_874 rfl (lv_at hl 0 rfl) ?_
  refine lv_bipush (v := nI 8) hx hb dL_lands_875 (by decide) ?_
  refine lv_bipush (v := nI 8) hx hb dL_lands_877 (by decide) ?_
  refine lqV (own := RL) (index := 82) (bytes := cX3_plotRankAt) (n := 2) (As := [.int (nI 8), .int (nI 8)]) (rest := [.int (nI 15)]) (c2 := 2105) (s2 := 254274) F (q_13_plotRankAt_8_8 l G lq SL3 (va_up KN0 0 (some LN8)) BU0 0 hS9) hC gL_lands_X3_plotRankAt rfl rfl rfl rfl (by decide +kernel) rfl ⟨Nat.le_of_ble_eq_true rfl, Nat.le_of_ble_eq_true rfl⟩ hP hD hS rfl hl.1 (Nat.le_of_ble_eq_true rfl) dL_lands_879 ⟨Nat.le_of_ble_eq_true rfl, Nat.le_of_ble_eq_true rfl⟩ ⟨Nat.le_of_ble_eq_true rfl, Nat.le_of_ble_eq_true rfl⟩ (fun u879 H locs hC hP hD hS => ?_)
  refine bIF_ne (tgt := 892) hx hb dL_lands_882 (by decide) (by decide) ?_
  exact kk SL3 hS9 u879 H locs ls hC hP hD hS (lv_sub hl [0] rfl)

set_option maxHeartbeats 8000000 in
set_option maxRecDepth 100000 in
theorem ld_8 {p : Program} {l : Launch} {e : Env} {s : State} {m : MethodId} {args : Array Value} {below : List Frame} {meth : Method} {c : Code} {H : Heap} {locs : List Loc} {Q : State → Prop} {G : gG} {A : Nat → Prop} {lq : Nat} {ls : Array Slot} {wv X : va_W} (SL : List LdS) (hS9 : spS (LN13, SL, va_up KN0 0 (some LN8), BU0, 0)) (hl9 : l.stackTraces = false) (F : gAt p s m args meth c yL_lands wsL_lands cL_lands 1 (some .boolean) G A) (hZ : gX A s s.heap) (hC : clS G lq wv (LN13, SL, va_up KN0 0 (some LN8), BU0, 0)) (hP : va_P G.1 vwCl (wv ++ X) H) (hD : va_D A (wv ++ X)) (hS : va_S A s.heap H locs) (hl : lv_has ls 1 [(0, .ref lq)])
    (kk : ∀ (SL : List LdS) (hS9 : spS (LN14, SL, va_up KN0 0 (some LN8), BU0, 0)) (u : va_W) (H : Heap) (locs : List Loc) (ls : Array Slot), clS G lq u (LN14, SL, va_up KN0 0 (some LN8), BU0, 0) → va_P G.1 vwCl (u ++ X) H → va_D A (u ++ X) → va_S A s.heap H locs → lv_has ls 1 [(0, .ref lq)] → W p l e ({ frames := 12, cells := 3300, slots := 420000, locals := 330 } : Room) s m args below meth c H locs 3109 374802 Q (F0 m 981 ls [])) : W p l e ({ frames := 12, cells := 3300, slots := 420000, locals := 330 } : Room) s m args below meth c H locs 2105 254274 Q (F0 m 885 ls []) := by
  have hx := F.1
  have hb := F.2.1
  have hts := F.2.2.2.2.2.2.1
  have hown : s.vm.findClass RL = some m.cls := F.2.2.2.2.2.1
  refine lv_aload_n hx hb dL_lands_885 rfl (lv_at hl 0 rfl) ?_
  refine lqS (own := RL) (index := 196) (bytes := cL_refused) (n := 1) (As := []) (rest := []) (c2 := 3105) (s2 := 374274) F hZ (c_refused l G lq (LN13, SL, va_up KN0 0 (some LN8), BU0, 0) hS9 rfl hl9) hC gL_lands_L_refused rfl rfl rfl rfl (by decide +kernel) rfl ⟨Nat.le_of_ble_eq_true rfl, Nat.le_of_ble_eq_true rfl⟩ hP hD hS rfl hl.1 (Nat.le_of_ble_eq_true rfl) dL_lands_886 ⟨Nat.le_of_ble_eq_true rfl, Nat.le_of_ble_eq_true rfl⟩ ⟨Nat.le_of_ble_eq_true rfl, Nat.le_of_ble_eq_true rfl⟩ (fun u886 H locs hC hP hD hS => ?_)
  refine bZT_ne (tgt := 894) hx hb dL_lands_889 (by decide) (by decide) ?_
  refine lv_aload_n hx hb dL_lands_894 rfl (lv_at hl 0 rfl) ?_
  refine lqV (own := RL) (index := 63) (bytes := cX3_collectTaxes) (n := 0) (As := []) (rest := []) (c2 := 3109) (s2 := 374802) F (m_13_collectTaxes l G lq SL (va_up KN0 0 (some LN8)) BU0 0 hS9) hC gL_lands_X3_collectTaxes rfl rfl rfl rfl (by decide +kernel) rfl ⟨Nat.le_of_ble_eq_true rfl, Nat.le_of_ble_eq_true rfl⟩ hP hD hS rfl hl.1 (Nat.le_of_ble_eq_true rfl) dL_lands_895 ⟨Nat.le_of_ble_eq_true rfl, Nat.le_of_ble_eq_true rfl⟩ ⟨Nat.le_of_ble_eq_true rfl, Nat.le_of_ble_eq_true rfl⟩ (fun u895 H locs hC hP hD hS => ?_)
  have hS9 : spS (LN14, pushH SL LN13, va_up KN0 0 (some LN8), BU0, 0) := spS_push hS9 ok14
  generalize pushH SL LN13 = SL1 at hC hS9
  refine lv_bipush (v := nI 72) hx hb dL_lands_898 (by decide) ?_
  refine bIF_ne (tgt := 1067) hx hb dL_lands_900 (by decide) (by decide) ?_
  refine lv_aload_n hx hb dL_lands_903 rfl (lv_at hl 0 rfl) ?_
  refine lqV (own := RL) (index := 143) (bytes := cX3_plotsLost) (n := 0) (As := []) (rest := []) (c2 := 3109) (s2 := 374802) F (q_14_plotsLost l G lq SL1 (va_up KN0 0 (some LN8)) BU0 0 hS9) hC gL_lands_X3_plotsLost rfl rfl rfl rfl (by decide +kernel) rfl ⟨Nat.le_of_ble_eq_true rfl, Nat.le_of_ble_eq_true rfl⟩ hP hD hS rfl hl.1 (Nat.le_of_ble_eq_true rfl) dL_lands_904 ⟨Nat.le_of_ble_eq_true rfl, Nat.le_of_ble_eq_true rfl⟩ ⟨Nat.le_of_ble_eq_true rfl, Nat.le_of_ble_eq_true rfl⟩ (fun u904 H locs hC hP hD hS => ?_)
  refine lv_iconst (v := nI 2) hx hb dL_lands_907 (by decide) ?_
  refine bIF_ne (tgt := 1067) hx hb dL_lands_908 (by decide) (by decide) ?_
  refine lv_aload_n hx hb dL_lands_911 rfl (lv_at hl 0 rfl) ?_
  refine lv_iconst (v := nI 1) hx hb dL_lands_912 (by decide) ?_
  refine lqV (own := RL) (index := 112) (bytes := cX3_coinsOf) (n := 1) (As := [.int (nI 1)]) (rest := []) (c2 := 3109) (s2 := 374802) F (q_14_coinsOf_1 l G lq SL1 (va_up KN0 0 (some LN8)) BU0 0 hS9) hC gL_lands_X3_coinsOf rfl rfl rfl rfl (by decide +kernel) rfl ⟨Nat.le_of_ble_eq_true rfl, Nat.le_of_ble_eq_true rfl⟩ hP hD hS rfl hl.1 (Nat.le_of_ble_eq_true rfl) dL_lands_913 ⟨Nat.le_of_ble_eq_true rfl, Nat.le_of_ble_eq_true rfl⟩ ⟨Nat.le_of_ble_eq_true rfl, Nat.le_of_ble_eq_true rfl⟩ (fun u913 H locs hC hP hD hS => ?_)
  refine bZF_ne (tgt := 1067) hx hb dL_lands_916 (by decide) (by decide) ?_
  refine lv_aload_n hx hb dL_lands_919 rfl (lv_at hl 0 rfl) ?_
  refine lv_iconst (v := nI 2) hx hb dL_lands_920 (by decide) ?_
  refine lqV (own := RL) (index := 112) (bytes := cX3_coinsOf) (n := 1) (As := [.int (nI 2)]) (rest := []) (c2 := 3109) (s2 := 374802) F (q_14_coinsOf_2 l G lq SL1 (va_up KN0 0 (some LN8)) BU0 0 hS9) hC gL_lands_X3_coinsOf rfl rfl rfl rfl (by decide +kernel) rfl ⟨Nat.le_of_ble_eq_true rfl, Nat.le_of_ble_eq_true rfl⟩ hP hD hS rfl hl.1 (Nat.le_of_ble_eq_true rfl) dL_lands_921 ⟨Nat.le_of_ble_eq_true rfl, Nat.le_of_ble_eq_true rfl⟩ ⟨Nat.le_of_ble_eq_true rfl, Nat.le_of_ble_eq_true rfl⟩ (fun u921 H locs hC hP hD hS => ?_)
  refine lv_bipush (v := nI 90) hx hb dL_lands_924 (by decide) ?_
  refine bIF_ne (tgt := 1067) hx hb dL_lands_926 (by decide) (by decide) ?_
  refine lv_aload_n hx hb dL_lands_929 rfl (lv_at hl 0 rfl) ?_
  refine lv_iconst (v := nI 3) hx hb dL_lands_930 (by decide) ?_
  refine lqV (own := RL) (index := 112) (bytes := cX3_coinsOf) (n := 1) (As := [.int (nI 3)]) (rest := []) (c2 := 3109) (s2 := 374802) F (q_14_coinsOf_3 l G lq SL1 (va_up KN0 0 (some LN8)) BU0 0 hS9) hC gL_lands_X3_coinsOf rfl rfl rfl rfl (by decide +kernel) rfl ⟨Nat.le_of_ble_eq_true rfl, Nat.le_of_ble_eq_true rfl⟩ hP hD hS rfl hl.1 (Nat.le_of_ble_eq_true rfl) dL_lands_931 ⟨Nat.le_of_ble_eq_true rfl, Nat.le_of_ble_eq_true rfl⟩ ⟨Nat.le_of_ble_eq_true rfl, Nat.le_of_ble_eq_true rfl⟩ (fun u931 H locs hC hP hD hS => ?_)
  refine lv_bipush (v := nI 58) hx hb dL_lands_934 (by decide) ?_
  refine bIF_ne (tgt := 1067) hx hb dL_lands_936 (by decide) (by decide) ?_
  refine lv_aload_n hx hb dL_lands_939 rfl (lv_at hl 0 rfl) ?_
  refine lv_iconst (v := nI 0) hx hb dL_lands_940 (by decide) ?_
  refine lqV (own := RL) (index := 112) (bytes := cX3_coinsOf) (n := 1) (As := [.int (nI 0)]) (rest := []) (c2 := 3109) (s2 := 374802) F (q_14_coinsOf_0 l G lq SL1 (va_up KN0 0 (some LN8)) BU0 0 hS9) hC gL_lands_X3_coinsOf rfl rfl rfl rfl (by decide +kernel) rfl ⟨Nat.le_of_ble_eq_true rfl, Nat.le_of_ble_eq_true rfl⟩ hP hD hS rfl hl.1 (Nat.le_of_ble_eq_true rfl) dL_lands_941 ⟨Nat.le_of_ble_eq_true rfl, Nat.le_of_ble_eq_true rfl⟩ ⟨Nat.le_of_ble_eq_true rfl, Nat.le_of_ble_eq_true rfl⟩ (fun u941 H locs hC hP hD hS => ?_)
  refine lv_sipush (v := nI 152) hx hb dL_lands_944 (by decide) ?_
  refine bIF_ne (tgt := 1067) hx hb dL_lands_947 (by decide) (by decide) ?_
  refine lv_aload_n hx hb dL_lands_950 rfl (lv_at hl 0 rfl) ?_
  refine lv_bipush (v := nI 8) hx hb dL_lands_951 (by decide) ?_
  refine lv_bipush (v := nI 8) hx hb dL_lands_953 (by decide) ?_
  refine lqV (own := RL) (index := 72) (bytes := cX3_ownerAt) (n := 2) (As := [.int (nI 8), .int (nI 8)]) (rest := []) (c2 := 3109) (s2 := 374802) F (q_14_ownerAt_8_8 l G lq SL1 (va_up KN0 0 (some LN8)) BU0 0 hS9) hC gL_lands_X3_ownerAt rfl rfl rfl rfl (by decide +kernel) rfl ⟨Nat.le_of_ble_eq_true rfl, Nat.le_of_ble_eq_true rfl⟩ hP hD hS rfl hl.1 (Nat.le_of_ble_eq_true rfl) dL_lands_955 ⟨Nat.le_of_ble_eq_true rfl, Nat.le_of_ble_eq_true rfl⟩ ⟨Nat.le_of_ble_eq_true rfl, Nat.le_of_ble_eq_true rfl⟩ (fun u955 H locs hC hP hD hS => ?_)
  refine bZF_ne (tgt := 1067) hx hb dL_lands_958 (by decide) (by decide) ?_
  refine lv_aload_n hx hb dL_lands_961 rfl (lv_at hl 0 rfl) ?_
  refine lv_bipush (v := nI 8) hx hb dL_lands_962 (by decide) ?_
  refine lv_iconst (v := nI 4) hx hb dL_lands_964 (by decide) ?_
  refine lqV (own := RL) (index := 72) (bytes := cX3_ownerAt) (n := 2) (As := [.int (nI 8), .int (nI 4)]) (rest := []) (c2 := 3109) (s2 := 374802) F (q_14_ownerAt_8_4 l G lq SL1 (va_up KN0 0 (some LN8)) BU0 0 hS9) hC gL_lands_X3_ownerAt rfl rfl rfl rfl (by decide +kernel) rfl ⟨Nat.le_of_ble_eq_true rfl, Nat.le_of_ble_eq_true rfl⟩ hP hD hS rfl hl.1 (Nat.le_of_ble_eq_true rfl) dL_lands_965 ⟨Nat.le_of_ble_eq_true rfl, Nat.le_of_ble_eq_true rfl⟩ ⟨Nat.le_of_ble_eq_true rfl, Nat.le_of_ble_eq_true rfl⟩ (fun u965 H locs hC hP hD hS => ?_)
  refine bZF_ne (tgt := 1067) hx hb dL_lands_968 (by decide) (by decide) ?_
  refine lv_aload_n hx hb dL_lands_971 rfl (lv_at hl 0 rfl) ?_
  refine lv_iconst (v := nI 1) hx hb dL_lands_972 (by decide) ?_
  refine lqV (own := RL) (index := 88) (bytes := cX3_plotsOf) (n := 1) (As := [.int (nI 1)]) (rest := []) (c2 := 3109) (s2 := 374802) F (q_14_plotsOf_1 l G lq SL1 (va_up KN0 0 (some LN8)) BU0 0 hS9) hC gL_lands_X3_plotsOf rfl rfl rfl rfl (by decide +kernel) rfl ⟨Nat.le_of_ble_eq_true rfl, Nat.le_of_ble_eq_true rfl⟩ hP hD hS rfl hl.1 (Nat.le_of_ble_eq_true rfl) dL_lands_973 ⟨Nat.le_of_ble_eq_true rfl, Nat.le_of_ble_eq_true rfl⟩ ⟨Nat.le_of_ble_eq_true rfl, Nat.le_of_ble_eq_true rfl⟩ (fun u973 H locs hC hP hD hS => ?_)
  refine lv_bipush (v := nI 6) hx hb dL_lands_976 (by decide) ?_
  refine bIF_ne (tgt := 1067) hx hb dL_lands_978 (by decide) (by decide) ?_
  exact kk SL1 hS9 u973 H locs ls hC hP hD hS (lv_sub hl [0] rfl)

set_option maxHeartbeats 8000000 in
set_option maxRecDepth 100000 in
theorem ld_9 {p : Program} {l : Launch} {e : Env} {s : State} {m : MethodId} {args : Array Value} {below : List Frame} {meth : Method} {c : Code} {H : Heap} {locs : List Loc} {Q : State → Prop} {G : gG} {A : Nat → Prop} {lq : Nat} {ls : Array Slot} {wv X : va_W} (SL : List LdS) (hS9 : spS (LN14, SL, va_up KN0 0 (some LN8), BU0, 0)) (hl9 : l.stackTraces = false) (F : gAt p s m args meth c yL_lands wsL_lands cL_lands 1 (some .boolean) G A) (hZ : gX A s s.heap) (hC : clS G lq wv (LN14, SL, va_up KN0 0 (some LN8), BU0, 0)) (hP : va_P G.1 vwCl (wv ++ X) H) (hD : va_D A (wv ++ X)) (hS : va_S A s.heap H locs) (hl : lv_has ls 1 [(0, .ref lq)])
    (kk : ∀ (SL : List LdS) (hS9 : spS (LN16, SL, va_up KN0 0 (some LN8), BU0, 0)) (u : va_W) (H : Heap) (locs : List Loc) (ls : Array Slot), clS G lq u (LN16, SL, va_up KN0 0 (some LN8), BU0, 0) → va_P G.1 vwCl (u ++ X) H → va_D A (u ++ X) → va_S A s.heap H locs → lv_has ls 1 [(0, .ref lq)] → W p l e ({ frames := 12, cells := 3300, slots := 420000, locals := 330 } : Room) s m args below meth c H locs 3121 376386 Q (F0 m 1063 ls [])) : W p l e ({ frames := 12, cells := 3300, slots := 420000, locals := 330 } : Room) s m args below meth c H locs 3109 374802 Q (F0 m 981 ls []) := by
  have hx := F.1
  have hb := F.2.1
  have hts := F.2.2.2.2.2.2.1
  have hown : s.vm.findClass RL = some m.cls := F.2.2.2.2.2.1
  refine lv_aload_n hx hb dL_lands_981 rfl (lv_at hl 0 rfl) ?_
  refine lqV (own := RL) (index := 63) (bytes := cX3_collectTaxes) (n := 0) (As := []) (rest := []) (c2 := 3113) (s2 := 375330) F (m_14_collectTaxes l G lq SL (va_up KN0 0 (some LN8)) BU0 0 hS9) hC gL_lands_X3_collectTaxes rfl rfl rfl rfl (by decide +kernel) rfl ⟨Nat.le_of_ble_eq_true rfl, Nat.le_of_ble_eq_true rfl⟩ hP hD hS rfl hl.1 (Nat.le_of_ble_eq_true rfl) dL_lands_982 ⟨Nat.le_of_ble_eq_true rfl, Nat.le_of_ble_eq_true rfl⟩ ⟨Nat.le_of_ble_eq_true rfl, Nat.le_of_ble_eq_true rfl⟩ (fun u982 H locs hC hP hD hS => ?_)
  have hS9 : spS (LN15, pushH SL LN14, va_up KN0 0 (some LN8), BU0, 0) := spS_push hS9 ok15
  generalize pushH SL LN14 = SL1 at hC hS9
  refine lv_bipush (v := nI 18) hx hb dL_lands_985 (by decide) ?_
  refine bIF_ne (tgt := 1067) hx hb dL_lands_987 (by decide) (by decide) ?_
  refine lv_aload_n hx hb dL_lands_990 rfl (lv_at hl 0 rfl) ?_
  refine lv_iconst (v := nI 1) hx hb dL_lands_991 (by decide) ?_
  refine lqV (own := RL) (index := 88) (bytes := cX3_plotsOf) (n := 1) (As := [.int (nI 1)]) (rest := []) (c2 := 3113) (s2 := 375330) F (q_15_plotsOf_1 l G lq SL1 (va_up KN0 0 (some LN8)) BU0 0 hS9) hC gL_lands_X3_plotsOf rfl rfl rfl rfl (by decide +kernel) rfl ⟨Nat.le_of_ble_eq_true rfl, Nat.le_of_ble_eq_true rfl⟩ hP hD hS rfl hl.1 (Nat.le_of_ble_eq_true rfl) dL_lands_992 ⟨Nat.le_of_ble_eq_true rfl, Nat.le_of_ble_eq_true rfl⟩ ⟨Nat.le_of_ble_eq_true rfl, Nat.le_of_ble_eq_true rfl⟩ (fun u992 H locs hC hP hD hS => ?_)
  refine bZF_ne (tgt := 1067) hx hb dL_lands_995 (by decide) (by decide) ?_
  refine lv_aload_n hx hb dL_lands_998 rfl (lv_at hl 0 rfl) ?_
  refine lqV (own := RL) (index := 143) (bytes := cX3_plotsLost) (n := 0) (As := []) (rest := []) (c2 := 3113) (s2 := 375330) F (q_15_plotsLost l G lq SL1 (va_up KN0 0 (some LN8)) BU0 0 hS9) hC gL_lands_X3_plotsLost rfl rfl rfl rfl (by decide +kernel) rfl ⟨Nat.le_of_ble_eq_true rfl, Nat.le_of_ble_eq_true rfl⟩ hP hD hS rfl hl.1 (Nat.le_of_ble_eq_true rfl) dL_lands_999 ⟨Nat.le_of_ble_eq_true rfl, Nat.le_of_ble_eq_true rfl⟩ ⟨Nat.le_of_ble_eq_true rfl, Nat.le_of_ble_eq_true rfl⟩ (fun u999 H locs hC hP hD hS => ?_)
  refine lv_bipush (v := nI 8) hx hb dL_lands_1002 (by decide) ?_
  refine bIF_ne (tgt := 1067) hx hb dL_lands_1004 (by decide) (by decide) ?_
  refine lv_aload_n hx hb dL_lands_1007 rfl (lv_at hl 0 rfl) ?_
  refine lv_iconst (v := nI 0) hx hb dL_lands_1008 (by decide) ?_
  refine lqV (own := RL) (index := 48) (bytes := cX3_goBack) (n := 1) (As := [.int (nI 0)]) (rest := []) (c2 := 3117) (s2 := 375858) F (((K_goBack l G lq (LN15, SL1, va_up KN0 0 (some LN8), BU0, 0) 0 LN8 hS9 (by decide) rfl).r (congrArg nI pl_tT5.1)).s (show pushS (LN15, SL1, va_up KN0 0 (some LN8), BU0, 0) LN8 = (LN8, pushH SL1 LN15, (va_up KN0 0 (some LN8)), BU0, 0) from rfl)) hC gL_lands_X3_goBack rfl rfl rfl rfl (by decide +kernel) rfl ⟨Nat.le_of_ble_eq_true rfl, Nat.le_of_ble_eq_true rfl⟩ hP hD hS rfl hl.1 (Nat.le_of_ble_eq_true rfl) dL_lands_1009 ⟨Nat.le_of_ble_eq_true rfl, Nat.le_of_ble_eq_true rfl⟩ ⟨Nat.le_of_ble_eq_true rfl, Nat.le_of_ble_eq_true rfl⟩ (fun u1009 H locs hC hP hD hS => ?_)
  have hS9 : spS (LN8, pushH SL1 LN15, va_up KN0 0 (some LN8), BU0, 0) := spS_push hS9 ok8
  generalize pushH SL1 LN15 = SL2 at hC hS9
  refine lv_bipush (v := nI 10) hx hb dL_lands_1012 (by decide) ?_
  refine bIF_ne (tgt := 1067) hx hb dL_lands_1014 (by decide) (by decide) ?_
  refine lv_aload_n hx hb dL_lands_1017 rfl (lv_at hl 0 rfl) ?_
  refine lqV (own := RL) (index := 140) (bytes := cX3_floods) (n := 0) (As := []) (rest := []) (c2 := 3117) (s2 := 375858) F (q_8_floods l G lq SL2 (va_up KN0 0 (some LN8)) BU0 0 hS9) hC gL_lands_X3_floods rfl rfl rfl rfl (by decide +kernel) rfl ⟨Nat.le_of_ble_eq_true rfl, Nat.le_of_ble_eq_true rfl⟩ hP hD hS rfl hl.1 (Nat.le_of_ble_eq_true rfl) dL_lands_1018 ⟨Nat.le_of_ble_eq_true rfl, Nat.le_of_ble_eq_true rfl⟩ ⟨Nat.le_of_ble_eq_true rfl, Nat.le_of_ble_eq_true rfl⟩ (fun u1018 H locs hC hP hD hS => ?_)
  refine bZF_ne (tgt := 1067) hx hb dL_lands_1021 (by decide) (by decide) ?_
  refine lv_aload_n hx hb dL_lands_1024 rfl (lv_at hl 0 rfl) ?_
  refine lqV (own := RL) (index := 134) (bytes := cX3_tax) (n := 0) (As := []) (rest := []) (c2 := 3117) (s2 := 375858) F (q_8_tax l G lq SL2 (va_up KN0 0 (some LN8)) BU0 0 hS9) hC gL_lands_X3_tax rfl rfl rfl rfl (by decide +kernel) rfl ⟨Nat.le_of_ble_eq_true rfl, Nat.le_of_ble_eq_true rfl⟩ hP hD hS rfl hl.1 (Nat.le_of_ble_eq_true rfl) dL_lands_1025 ⟨Nat.le_of_ble_eq_true rfl, Nat.le_of_ble_eq_true rfl⟩ ⟨Nat.le_of_ble_eq_true rfl, Nat.le_of_ble_eq_true rfl⟩ (fun u1025 H locs hC hP hD hS => ?_)
  refine lv_iconst (v := nI 1) hx hb dL_lands_1028 (by decide) ?_
  refine bIF_ne (tgt := 1067) hx hb dL_lands_1029 (by decide) (by decide) ?_
  refine lv_aload_n hx hb dL_lands_1032 rfl (lv_at hl 0 rfl) ?_
  refine lv_iconst (v := nI 0) hx hb dL_lands_1033 (by decide) ?_
  refine lv_iconst (v := nI 0) hx hb dL_lands_1034 (by decide) ?_
  refine lv_bipush (v := nI 16) hx hb dL_lands_1035 (by decide) ?_
  refine lv_iconst (v := nI 5) hx hb dL_lands_1037 (by decide) ?_
  refine lqV (own := RL) (index := 9) (bytes := cX3_grant) (n := 4) (As := [.int (nI 0), .int (nI 0), .int (nI 16), .int (nI 5)]) (rest := []) (c2 := 3121) (s2 := 376386) F (m_8_grant_0_0_16_5 l G lq SL2 (va_up KN0 0 (some LN8)) BU0 0 hS9) hC gL_lands_X3_grant rfl rfl rfl rfl (by decide +kernel) rfl ⟨Nat.le_of_ble_eq_true rfl, Nat.le_of_ble_eq_true rfl⟩ hP hD hS rfl hl.1 (Nat.le_of_ble_eq_true rfl) dL_lands_1038 ⟨Nat.le_of_ble_eq_true rfl, Nat.le_of_ble_eq_true rfl⟩ ⟨Nat.le_of_ble_eq_true rfl, Nat.le_of_ble_eq_true rfl⟩ (fun u1038 H locs hC hP hD hS => ?_)
  have hS9 : spS (LN16, pushH SL2 LN8, va_up KN0 0 (some LN8), BU0, 0) := spS_push hS9 ok16
  generalize pushH SL2 LN8 = SL3 at hC hS9
  refine lv_sipush (v := nI 256) hx hb dL_lands_1041 (by decide) ?_
  refine bIF_ne (tgt := 1067) hx hb dL_lands_1044 (by decide) (by decide) ?_
  refine lv_aload_n hx hb dL_lands_1047 rfl (lv_at hl 0 rfl) ?_
  refine lqV (own := RL) (index := 128) (bytes := cX3_plots) (n := 0) (As := []) (rest := []) (c2 := 3121) (s2 := 376386) F (q_16_plots l G lq SL3 (va_up KN0 0 (some LN8)) BU0 0 hS9) hC gL_lands_X3_plots rfl rfl rfl rfl (by decide +kernel) rfl ⟨Nat.le_of_ble_eq_true rfl, Nat.le_of_ble_eq_true rfl⟩ hP hD hS rfl hl.1 (Nat.le_of_ble_eq_true rfl) dL_lands_1048 ⟨Nat.le_of_ble_eq_true rfl, Nat.le_of_ble_eq_true rfl⟩ ⟨Nat.le_of_ble_eq_true rfl, Nat.le_of_ble_eq_true rfl⟩ (fun u1048 H locs hC hP hD hS => ?_)
  refine lv_iconst (v := nI 1) hx hb dL_lands_1051 (by decide) ?_
  refine bIF_ne (tgt := 1067) hx hb dL_lands_1052 (by decide) (by decide) ?_
  refine lv_aload_n hx hb dL_lands_1055 rfl (lv_at hl 0 rfl) ?_
  refine lv_iconst (v := nI 5) hx hb dL_lands_1056 (by decide) ?_
  refine lqV (own := RL) (index := 109) (bytes := cX3_firstToLose) (n := 1) (As := [.int (nI 5)]) (rest := []) (c2 := 3121) (s2 := 376386) F (q_16_firstToLose_5 l G lq SL3 (va_up KN0 0 (some LN8)) BU0 0 hS9) hC gL_lands_X3_firstToLose rfl rfl rfl rfl (by decide +kernel) rfl ⟨Nat.le_of_ble_eq_true rfl, Nat.le_of_ble_eq_true rfl⟩ hP hD hS rfl hl.1 (Nat.le_of_ble_eq_true rfl) dL_lands_1057 ⟨Nat.le_of_ble_eq_true rfl, Nat.le_of_ble_eq_true rfl⟩ ⟨Nat.le_of_ble_eq_true rfl, Nat.le_of_ble_eq_true rfl⟩ (fun u1057 H locs hC hP hD hS => ?_)
  refine bZF_ne (tgt := 1067) hx hb dL_lands_1060 (by decide) (by decide) ?_
  exact kk SL3 hS9 u1057 H locs ls hC hP hD hS (lv_sub hl [0] rfl)

