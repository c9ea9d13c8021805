set_option maxHeartbeats 8000000 in
set_option maxRecDepth 100000 in
/-- THE LAW, from its entry -/
theorem whole_start {p : Program} {e : Env} {s : State} {m : MethodId} {below : List Frame} {meth : Method} {c : Code} (l : Launch) (hflags : l.flags = flags0) {b L : Nat} {xs : Nat → Int32} (hL : L ≤ 260) (C0 : lw_At p s m meth c b L xs) : W p l e room_1 s m #[Value.ref b] below meth c s.heap [] 0 0 (lw_Z below #[Value.ref b] s) (entryFrame m ([Value.ref b] : List Value).toArray 15) := by
  obtain ⟨hx, hb, hr, hml, hown, hts, hX, hbl, hlocks, hgv⟩ := id C0
  obtain ⟨G, hK⟩ := law_G hts hgv
  have hZ := law_X hts hgv
  have hl9 : l.stackTraces = false := by unfold Launch.stackTraces; rw [hflags]; decide
  have F : gAt p s m #[Value.ref b] meth c ⟨RL, meth.name, ""⟩ wsL_law cL_law 15 ret G (fun q : Nat => s.heap.size ≤ q) := ⟨hx, hb, hml, hr, hlocks, hown, fun w hw => hts w (wsL_law_in w hw), rfl, hK, fun q h => h⟩
  have FF : lwF p l s m #[Value.ref b] meth c G (fun q : Nat => s.heap.size ≤ q) b L xs := ⟨F, hZ, hX, hbl, Nat.not_le.mpr hbl, hL, hl9⟩
  have hKK := F.2.2.2.2.2.2.2.2.1
  have hS : va_S (fun q : Nat => s.heap.size ≤ q) s.heap s.heap [] := va_S.rf
  have hP : va_P G.1 vwCl [] s.heap := fun k q h => by simp at h
  have hD : va_D (fun q : Nat => s.heap.size ≤ q) [] := ⟨fun i j p q h => by simp at h, fun k q h => by simp at h⟩
  have hl := lv_entry ([.ref b]) (n := 15) (Nat.le_of_ble_eq_true rfl)
  rw [lg_entry_eq]
  generalize (lg_sl ([.ref b]) ++ List.replicate (15 - (lg_sl ([.ref b])).length) Slot.unset).toArray = ls at hl ⊢
  have hl : lv_has ls 15 [(0, .ref b)] := hl
  refine lqN (own := RL) (index := 271) (bytes := cL_lands) (n := 0) (As := []) (rest := []) (c2 := 3300) (s2 := 420000) F hZ (c_lands l G hl9) gL_law_L_lands rfl rfl rfl rfl (by decide +kernel) rfl ⟨Nat.le_of_ble_eq_true rfl, Nat.le_of_ble_eq_true rfl⟩ hP hD hS rfl hl.1 (Nat.le_of_ble_eq_true rfl) dL_law_0 ⟨Nat.le_of_ble_eq_true rfl, Nat.le_of_ble_eq_true rfl⟩ ⟨Nat.le_of_ble_eq_true rfl, Nat.le_of_ble_eq_true rfl⟩ (fun r0 H locs hp0 hP hD hS => ?_)
  subst hp0
  refine bZF_eq (tgt := 12) hx hb dL_law_3 (by decide) (by decide) ?_
  refine lqN (own := RL) (index := 275) (bytes := cL_texts) (n := 0) (As := []) (rest := []) (c2 := 3360) (s2 := 429000) F hZ (c_texts l G hl9) gL_law_L_texts rfl rfl rfl rfl (by decide +kernel) rfl ⟨Nat.le_of_ble_eq_true rfl, Nat.le_of_ble_eq_true rfl⟩ hP hD hS rfl hl.1 (Nat.le_of_ble_eq_true rfl) dL_law_6 ⟨Nat.le_of_ble_eq_true rfl, Nat.le_of_ble_eq_true rfl⟩ ⟨Nat.le_of_ble_eq_true rfl, Nat.le_of_ble_eq_true rfl⟩ (fun r6 H locs hp6 hP hD hS => ?_)
  subst hp6
  refine bZT_ne (tgt := 14) hx hb dL_law_9 (by decide) (by decide) ?_
  refine va_new (ci := 3) (fs := [.null, .null, .null, .null, .int (nI 0), .null, .null, .int (nI 0), .null]) (C := RX3) (T := TX3) (N := 9) hx hb hts inX3 tyX3 tyX3_ok hown (hts (.classLink RL 10 RX3) (by decide +kernel)) (hts (.instantiable RX3 9) (by decide +kernel)) (hts (.initialized RX3) (by decide +kernel)) hKK.1 hP hD hS (fun q h => h) rfl gDef3 (Nat.le_of_ble_eq_true rfl) (Nat.le_of_ble_eq_true rfl) dL_law_14 (fun lq H hP hD hS => ?_)
  have hP : va_P G.1 vwCl [(lq, .inr (3, [.null, .null, .null, .null, .int (nI 0), .null, .null, .int (nI 0), .null]))] H := hP
  have hD : va_D (fun q : Nat => s.heap.size ≤ q) [(lq, .inr (3, [.null, .null, .null, .null, .int (nI 0), .null, .null, .int (nI 0), .null]))] := hD
  refine lv_dup hx hb dL_law_17 rfl ?_
  refine gCv F (gRunI (own := RL) (bytes := cX3_init) (n := 0) (As := []) (rest := [.ref lq]) F (K_init l G lq H.size) ggL_law_X3_init (by decide +kernel) (by decide +kernel) (by decide +kernel) rfl rfl rfl rfl rfl (by decide +kernel) rfl ⟨Nat.le_of_ble_eq_true rfl, Nat.le_of_ble_eq_true rfl⟩ hP hD (lit := [(lq, .inr (3, [.null, .null, .null, .null, .int (nI 0), .null, .null, .int (nI 0), .null]))]) (wt := []) (wc := [(lq, .inr (3, [.null, .null, .null, .null, .int (nI 0), .null, .null, .int (nI 0), .null]))]) (isC := [0]) rfl (by decide) rfl hl.1 (Nat.le_of_ble_eq_true rfl) dL_law_18 ⟨Nat.le_of_ble_eq_true rfl, Nat.le_of_ble_eq_true rfl⟩) hP hD hS (lit := [(lq, .inr (3, [.null, .null, .null, .null, .int (nI 0), .null, .null, .int (nI 0), .null]))]) (wt := []) (wc := [(lq, .inr (3, [.null, .null, .null, .null, .int (nI 0), .null, .null, .int (nI 0), .null]))]) (isC := [0]) (wr := []) (isR := []) rfl rfl (by decide) (by decide) (fun u H locs hC0 hP hD hS => ?_)
  have hP : va_P G.1 vwCl (u ++ []) H := hP
  have hD : va_D (fun q : Nat => s.heap.size ≤ q) (u ++ []) := hD
  have hC : clS G lq u (LN0, [], KN0, BU0, 0) := S00_eq ▸ hC0
  have hS9 : spS (LN0, [], KN0, BU0, 0) := S00_eq ▸ S00_sp
  refine W.widen (k := 3385) (n := 432714) (Nat.le_of_ble_eq_true rfl) (Nat.le_of_ble_eq_true rfl) ?_
  refine lv_astore_n (lv' := [(1, .ref lq), (0, .ref b)]) hx hb dL_law_21 rfl hl (by decide) rfl (fun ls hl => ?_)
  refine lv_bipush (v := nI 64) hx hb dL_law_22 (by decide) ?_
  refine gNew64 F (by decide +kernel) hP hD hS (Nat.le_of_ble_eq_true rfl) (Nat.le_of_ble_eq_true rfl) dL_law_24 (fun wl H hP hD hS => ?_)
  have hP : va_P G.1 vwCl (u ++ [wasC G wl (fun _ => 0)]) H := by rw [List.append_nil] at hP; exact hP
  have hD : va_D (fun q : Nat => s.heap.size ≤ q) (u ++ [wasC G wl (fun _ => 0)]) := by rw [List.append_nil] at hD; exact hD
  refine W.widen (k := 3386) (n := 432778) (Nat.le_of_ble_eq_true rfl) (Nat.le_of_ble_eq_true rfl) ?_
  refine lv_astore_n (lv' := [(2, .ref wl), (1, .ref lq), (0, .ref b)]) hx hb dL_law_26 rfl hl (by decide) rfl (fun ls hl => ?_)
  refine lv_iconst (v := nI 0) hx hb dL_law_27 (by decide) ?_
  refine lv_istore_n (lv' := [(3, .int (nI 0)), (2, .ref wl), (1, .ref lq), (0, .ref b)]) hx hb dL_law_28 rfl hl (by decide) rfl (fun ls hl => ?_)
  refine lv_aload_n hx hb dL_law_29 rfl (lv_at hl 2 rfl) ?_
  refine lv_iconst (v := nI 4) hx hb dL_law_30 (by decide) ?_
  refine lv_iconst (v := nI 4) hx hb dL_law_31 (by decide) ?_
  refine lv_iconst (v := nI 4) hx hb dL_law_32 (by decide) ?_
  refine lv_iconst (v := nI 1) hx hb dL_law_33 (by decide) ?_
  refine lqV (own := RL) (index := 9) (bytes := cX3_grant) (n := 4) (As := [.int (nI 4), .int (nI 4), .int (nI 4), .int (nI 1)]) (rest := []) (c2 := 3390) (s2 := 433306) F (m_0_grant_4_4_4_1 l G lq ([]) KN0 BU0 0 hS9) hC gL_law_X3_grant rfl rfl rfl rfl (by decide +kernel) rfl ⟨Nat.le_of_ble_eq_true rfl, Nat.le_of_ble_eq_true rfl⟩ hP hD hS rfl hl.1 (Nat.le_of_ble_eq_true rfl) dL_law_34 ⟨Nat.le_of_ble_eq_true rfl, Nat.le_of_ble_eq_true rfl⟩ ⟨Nat.le_of_ble_eq_true rfl, Nat.le_of_ble_eq_true rfl⟩ (fun u34 H locs hC hP hD hS => ?_)
  have hS9 : spS (LN19, pushH [] LN0, KN0, BU0, 0) := spS_push hS9 ok19
  generalize pushH [] LN0 = SL1 at hC hS9
  refine lv_bipush (v := nI 16) hx hb dL_law_37 (by decide) ?_
  refine bIF_ne (tgt := 96) hx hb dL_law_39 (by decide) (by decide) ?_
  refine lv_aload_n hx hb dL_law_42 rfl (lv_at hl 2 rfl) ?_
  refine lv_iconst (v := nI 0) hx hb dL_law_43 (by decide) ?_
  refine lv_bipush (v := nI 8) hx hb dL_law_44 (by decide) ?_
  refine lv_bipush (v := nI 8) hx hb dL_law_46 (by decide) ?_
  refine lv_iconst (v := nI 2) hx hb dL_law_48 (by decide) ?_
  refine lqV (own := RL) (index := 9) (bytes := cX3_grant) (n := 4) (As := [.int (nI 0), .int (nI 8), .int (nI 8), .int (nI 2)]) (rest := []) (c2 := 3394) (s2 := 433834) F (m_19_grant_0_8_8_2 l G lq SL1 KN0 BU0 0 hS9) hC gL_law_X3_grant rfl rfl rfl rfl (by decide +kernel) rfl ⟨Nat.le_of_ble_eq_true rfl, Nat.le_of_ble_eq_true rfl⟩ hP hD hS rfl hl.1 (Nat.le_of_ble_eq_true rfl) dL_law_49 ⟨Nat.le_of_ble_eq_true rfl, Nat.le_of_ble_eq_true rfl⟩ ⟨Nat.le_of_ble_eq_true rfl, Nat.le_of_ble_eq_true rfl⟩ (fun u49 H locs hC hP hD hS => ?_)
  have hS9 : spS (LN20, pushH SL1 LN19, KN0, BU0, 0) := spS_push hS9 ok20
  generalize pushH SL1 LN19 = SL2 at hC hS9
  refine lv_bipush (v := nI 64) hx hb dL_law_52 (by decide) ?_
  refine bIF_ne (tgt := 96) hx hb dL_law_54 (by decide) (by decide) ?_
  refine lv_aload_n hx hb dL_law_57 rfl (lv_at hl 2 rfl) ?_
  refine lv_iconst (v := nI 0) hx hb dL_law_58 (by decide) ?_
  refine lv_iconst (v := nI 0) hx hb dL_law_59 (by decide) ?_
  refine lv_bipush (v := nI 8) hx hb dL_law_60 (by decide) ?_
  refine lv_bipush (v := zI (-2)) hx hb dL_law_62 (by decide) ?_
  refine lqV (own := RL) (index := 15) (bytes := cX3_raise) (n := 4) (As := [.int (nI 0), .int (nI 0), .int (nI 8), .int (zI (-2))]) (rest := []) (c2 := 3398) (s2 := 434362) F (m_20_raise_0_0_8_n2 l G lq SL2 KN0 BU0 0 hS9) hC gL_law_X3_raise rfl rfl rfl rfl (by decide +kernel) rfl ⟨Nat.le_of_ble_eq_true rfl, Nat.le_of_ble_eq_true rfl⟩ hP hD hS rfl hl.1 (Nat.le_of_ble_eq_true rfl) dL_law_64 ⟨Nat.le_of_ble_eq_true rfl, Nat.le_of_ble_eq_true rfl⟩ ⟨Nat.le_of_ble_eq_true rfl, Nat.le_of_ble_eq_true rfl⟩ (fun u64 H locs hC hP hD hS => ?_)
  have hS9 : spS (LN21, pushH SL2 LN20, KN0, BU0, 0) := spS_push hS9 ok21
  generalize pushH SL2 LN20 = SL3 at hC hS9
  refine lv_sipush (v := nI 192) hx hb dL_law_67 (by decide) ?_
  refine bIF_ne (tgt := 96) hx hb dL_law_70 (by decide) (by decide) ?_
  refine lv_aload_n hx hb dL_law_73 rfl (lv_at hl 2 rfl) ?_
  refine lv_iconst (v := nI 3) hx hb dL_law_74 (by decide) ?_
  refine lv_iconst (v := nI 2) hx hb dL_law_75 (by decide) ?_
  refine lv_iconst (v := nI 2) hx hb dL_law_76 (by decide) ?_
  refine lv_iconst (v := nI 2) hx hb dL_law_77 (by decide) ?_
  refine lqV (own := RL) (index := 26) (bytes := cX3_buySquare) (n := 4) (As := [.int (nI 3), .int (nI 2), .int (nI 2), .int (nI 2)]) (rest := []) (c2 := 3402) (s2 := 434890) F (m_21_buySquare_3_2_2_2 l G lq SL3 KN0 BU0 0 hS9) hC gL_law_X3_buySquare rfl rfl rfl rfl (by decide +kernel) rfl ⟨Nat.le_of_ble_eq_true rfl, Nat.le_of_ble_eq_true rfl⟩ hP hD hS rfl hl.1 (Nat.le_of_ble_eq_true rfl) dL_law_78 ⟨Nat.le_of_ble_eq_true rfl, Nat.le_of_ble_eq_true rfl⟩ ⟨Nat.le_of_ble_eq_true rfl, Nat.le_of_ble_eq_true rfl⟩ (fun u78 H locs hC hP hD hS => ?_)
  have hS9 : spS (LN22, pushH SL3 LN21, KN0, BU0, 0) := spS_push hS9 ok22
  generalize pushH SL3 LN21 = SL4 at hC hS9
  refine lv_bipush (v := nI 8) hx hb dL_law_81 (by decide) ?_
  refine bIF_ne (tgt := 96) hx hb dL_law_83 (by decide) (by decide) ?_
  refine lv_aload_n hx hb dL_law_86 rfl (lv_at hl 2 rfl) ?_
  refine lv_iconst (v := nI 1) hx hb dL_law_87 (by decide) ?_
  refine lqV (own := RL) (index := 45) (bytes := cX3_keep) (n := 1) (As := [.int (nI 1)]) (rest := []) (c2 := 3406) (s2 := 435418) F ((K_keep l G lq (LN22, SL4, KN0, BU0, 0) 1 hS9 (by decide)).r (congrArg nI pl_tT18.1)) hC gL_law_X3_keep rfl rfl rfl rfl (by decide +kernel) rfl ⟨Nat.le_of_ble_eq_true rfl, Nat.le_of_ble_eq_true rfl⟩ hP hD hS rfl hl.1 (Nat.le_of_ble_eq_true rfl) dL_law_88 ⟨Nat.le_of_ble_eq_true rfl, Nat.le_of_ble_eq_true rfl⟩ ⟨Nat.le_of_ble_eq_true rfl, Nat.le_of_ble_eq_true rfl⟩ (fun u88 H locs hC hP hD hS => ?_)
  have hS9 : spS (LN22, SL4, va_up KN0 1 (some LN22), BU0, 0) := spS_keep hS9 1
  have hC : clS G lq u88 (LN22, SL4, va_up KN0 1 (some LN22), BU0, 0) := hC
  refine lv_bipush (v := nI 10) hx hb dL_law_91 (by decide) ?_
  refine bIT_eq (tgt := 98) hx hb dL_law_93 (by decide) (by decide) ?_
  refine lv_aload_n hx hb dL_law_98 rfl (lv_at hl 2 rfl) ?_
  refine lqL (own := RL) (index := 170) (bytes := cL_seen) (n := 1) (As := []) (rest := []) (c2 := 3406) (s2 := 435418) F hZ (c_seen l G lq (LN22, SL4, va_up KN0 1 (some LN22), BU0, 0) hS9) hC gL_law_L_seen rfl rfl rfl rfl (by decide +kernel) rfl ⟨Nat.le_of_ble_eq_true rfl, Nat.le_of_ble_eq_true rfl⟩ hP hD hS rfl hl.1 (Nat.le_of_ble_eq_true rfl) dL_law_99 ⟨Nat.le_of_ble_eq_true rfl, Nat.le_of_ble_eq_true rfl⟩ ⟨Nat.le_of_ble_eq_true rfl, Nat.le_of_ble_eq_true rfl⟩ (fun u99 H locs hC hP hD hS => ?_)
  refine lv_lstore (lv' := [(4, .long (sn LN22)), (3, .int (nI 0)), (2, .ref wl), (1, .ref lq), (0, .ref b)]) hx hb dL_law_102 hl (by decide) rfl (fun ls hl => ?_)
  refine lv_iconst (v := nI 0) hx hb dL_law_104 (by decide) ?_
  refine lv_istore (lv' := [(6, .int (nI 0)), (4, .long (sn LN22)), (3, .int (nI 0)), (2, .ref wl), (1, .ref lq), (0, .ref b)]) hx hb dL_law_105 hl (by decide) rfl (fun ls hl => ?_)
  refine W.widen (k := 3406 + 4 * 0) (n := 435418 + 528 * 0) (Nat.le_of_ble_eq_true rfl) (Nat.le_of_ble_eq_true rfl) ?_
  exact law_loop (K := va_up KN0 1 (some LN22)) (SL0 := SL4) FF hr hlocks rfl 24 0 rfl (fun _ => LN22) 0 H locs ls u99 (fun _ => 0) (Nat.le_refl _) (fun i hi => absurd hi (Nat.not_lt_zero i)) hS9 hC hP hD hS (lv_sub hl [5, 4, 3, 2, 1, 0] rfl)
