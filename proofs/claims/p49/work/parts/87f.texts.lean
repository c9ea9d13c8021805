set_option maxHeartbeats 8000000 in
set_option maxRecDepth 100000 in
theorem te_0 {p : Program} {l : Launch} {e : Env} {s : State} {m : MethodId} {args : Array Value} {below : List Frame} {meth : Method} {c : Code} {H : Heap} {locs : List Loc} {Q : State → Prop} {G : gG} {A : Nat → Prop} {lq : Nat} {ls : Array Slot} {wv X : va_W} (bu : Nat → Nat) (bl : Nat) (hS9 : spS (LN0, [], KN0, bu, bl)) (F : gAt p s m args meth c yL_texts wsL_texts cL_texts 2 (some .boolean) G A) (hZ : gX A s s.heap) (hC : clS G lq wv (LN0, [], KN0, bu, bl)) (hP : va_P G.1 vwCl (wv ++ X) H) (hD : va_D A (wv ++ X)) (hS : va_S A s.heap H locs) (hl : lv_has ls 2 [(0, .ref lq)])
    (kk : ∀ (bu : Nat → Nat) (bl : Nat) (hS9 : spS (LN0, [], KN0, bu, bl)) (hT : txt bu bl [103, 113]) (u : va_W) (H : Heap) (locs : List Loc) (ls : Array Slot), clS G lq u (LN0, [], KN0, bu, bl) → va_P G.1 vwCl (u ++ X) H → va_D A (u ++ X) → va_S A s.heap H locs → lv_has ls 2 [(0, .ref lq)] → W p l e ({ frames := 11, cells := 60, slots := 9000, locals := 330 } : Room) s m args below meth c H locs 25 3714 Q (F0 m 69 ls [])) : W p l e ({ frames := 11, cells := 60, slots := 9000, locals := 330 } : Room) s m args below meth c H locs 25 3714 Q (F0 m 8 ls []) := by
  have hx := F.1
  have hb := F.2.1
  have hts := F.2.2.2.2.2.2.1
  have hown : s.vm.findClass RL = some m.cls := F.2.2.2.2.2.1
  refine lv_aload_n hx hb dL_texts_8 rfl (lv_at hl 0 rfl) ?_
  refine lv_ldc2 (own := RL) (v := 1734435123) hx hb hown (hts (.constantLong RL 214 (1734435123)) (by decide +kernel)) dL_texts_9 ?_
  refine lv_lconst (v := 0) hx hb dL_texts_12 rfl ?_
  refine lv_iconst (v := nI 3) hx hb dL_texts_13 (by decide) ?_
  refine lqS (own := RL) (index := 216) (bytes := cL_isError) (n := 4) (As := [.long 1734435123, .long 0, .int (nI 3)]) (rest := []) (c2 := 25) (s2 := 3714) F hZ (c_isErrorT l G lq (LN0, [], KN0, bu, bl) 1734435123 0 [0, 0, 0, 0, 103, 97, 97, 51] [0, 0, 0, 0, 0, 0, 0, 0] 3 hS9 (by decide +kernel) (by decide) (by decide +kernel) (by decide) (by decide +kernel)) hC gL_texts_L_isError rfl rfl rfl rfl (by decide +kernel) rfl ⟨Nat.le_of_ble_eq_true rfl, Nat.le_of_ble_eq_true rfl⟩ hP hD hS rfl hl.1 (Nat.le_of_ble_eq_true rfl) dL_texts_14 ⟨Nat.le_of_ble_eq_true rfl, Nat.le_of_ble_eq_true rfl⟩ ⟨Nat.le_of_ble_eq_true rfl, Nat.le_of_ble_eq_true rfl⟩ (fun u14 H locs hC hP hD hS => ?_)
  have hS9 := (erS_sp (c1 := lf [0, 0, 0, 0, 103, 97, 97, 51]) (c2 := lf [0, 0, 0, 0, 0, 0, 0, 0]) hS9 (by decide) (by decide)).2.2
  obtain ⟨bu1, bl1, hE, hT⟩ := er_txt (LN0, [], KN0, bu, bl) (lf [0, 0, 0, 0, 103, 97, 97, 51]) (lf [0, 0, 0, 0, 0, 0, 0, 0])
  rw [hE] at hC hS9
  have hC : clS G lq u14 (LN0, [], KN0, bu1, bl1) := hC
  have hS9 : spS (LN0, [], KN0, bu1, bl1) := hS9
  have hT : txt bu1 bl1 [103, 97, 97, 51] := hT
  clear hE
  refine bZF_eq (tgt := 129) hx hb dL_texts_17 (by decide) (by decide) ?_
  refine lv_aload_n hx hb dL_texts_20 rfl (lv_at hl 0 rfl) ?_
  refine lv_ldc2 (own := RL) (v := 29098992666557752) hx hb hown (hts (.constantLong RL 220 (29098992666557752)) (by decide +kernel)) dL_texts_21 ?_
  refine lv_lconst (v := 0) hx hb dL_texts_24 rfl ?_
  refine lv_bipush (v := nI 6) hx hb dL_texts_25 (by decide) ?_
  refine lqS (own := RL) (index := 216) (bytes := cL_isError) (n := 4) (As := [.long 29098992666557752, .long 0, .int (nI 6)]) (rest := []) (c2 := 25) (s2 := 3714) F hZ (c_isErrorT l G lq (LN0, [], KN0, bu1, bl1) 29098992666557752 0 [0, 103, 97, 97, 49, 54, 61, 56] [0, 0, 0, 0, 0, 0, 0, 0] 6 hS9 (by decide +kernel) (by decide) (by decide +kernel) (by decide) (by decide +kernel)) hC gL_texts_L_isError rfl rfl rfl rfl (by decide +kernel) rfl ⟨Nat.le_of_ble_eq_true rfl, Nat.le_of_ble_eq_true rfl⟩ hP hD hS rfl hl.1 (Nat.le_of_ble_eq_true rfl) dL_texts_27 ⟨Nat.le_of_ble_eq_true rfl, Nat.le_of_ble_eq_true rfl⟩ ⟨Nat.le_of_ble_eq_true rfl, Nat.le_of_ble_eq_true rfl⟩ (fun u27 H locs hC hP hD hS => ?_)
  have hS9 := (erS_sp (c1 := lf [0, 103, 97, 97, 49, 54, 61, 56]) (c2 := lf [0, 0, 0, 0, 0, 0, 0, 0]) hS9 (by decide) (by decide)).2.2
  obtain ⟨bu2, bl2, hE, hT⟩ := er_txt (LN0, [], KN0, bu1, bl1) (lf [0, 103, 97, 97, 49, 54, 61, 56]) (lf [0, 0, 0, 0, 0, 0, 0, 0])
  rw [hE] at hC hS9
  have hC : clS G lq u27 (LN0, [], KN0, bu2, bl2) := hC
  have hS9 : spS (LN0, [], KN0, bu2, bl2) := hS9
  have hT : txt bu2 bl2 [103, 97, 97, 49, 54, 61, 56] := hT
  clear hE
  refine bZF_eq (tgt := 129) hx hb dL_texts_30 (by decide) (by decide) ?_
  refine lv_aload_n hx hb dL_texts_33 rfl (lv_at hl 0 rfl) ?_
  refine lv_ldc2 (own := RL) (v := 444015391037) hx hb hown (hts (.constantLong RL 222 (444015391037)) (by decide +kernel)) dL_texts_34 ?_
  refine lv_lconst (v := 0) hx hb dL_texts_37 rfl ?_
  refine lv_iconst (v := nI 5) hx hb dL_texts_38 (by decide) ?_
  refine lqS (own := RL) (index := 216) (bytes := cL_isError) (n := 4) (As := [.long 444015391037, .long 0, .int (nI 5)]) (rest := []) (c2 := 25) (s2 := 3714) F hZ (c_isErrorT l G lq (LN0, [], KN0, bu2, bl2) 444015391037 0 [0, 0, 0, 103, 97, 97, 49, 61] [0, 0, 0, 0, 0, 0, 0, 0] 5 hS9 (by decide +kernel) (by decide) (by decide +kernel) (by decide) (by decide +kernel)) hC gL_texts_L_isError rfl rfl rfl rfl (by decide +kernel) rfl ⟨Nat.le_of_ble_eq_true rfl, Nat.le_of_ble_eq_true rfl⟩ hP hD hS rfl hl.1 (Nat.le_of_ble_eq_true rfl) dL_texts_39 ⟨Nat.le_of_ble_eq_true rfl, Nat.le_of_ble_eq_true rfl⟩ ⟨Nat.le_of_ble_eq_true rfl, Nat.le_of_ble_eq_true rfl⟩ (fun u39 H locs hC hP hD hS => ?_)
  have hS9 := (erS_sp (c1 := lf [0, 0, 0, 103, 97, 97, 49, 61]) (c2 := lf [0, 0, 0, 0, 0, 0, 0, 0]) hS9 (by decide) (by decide)).2.2
  obtain ⟨bu3, bl3, hE, hT⟩ := er_txt (LN0, [], KN0, bu2, bl2) (lf [0, 0, 0, 103, 97, 97, 49, 61]) (lf [0, 0, 0, 0, 0, 0, 0, 0])
  rw [hE] at hC hS9
  have hC : clS G lq u39 (LN0, [], KN0, bu3, bl3) := hC
  have hS9 : spS (LN0, [], KN0, bu3, bl3) := hS9
  have hT : txt bu3 bl3 [103, 97, 97, 49, 61] := hT
  clear hE
  refine bZF_eq (tgt := 129) hx hb dL_texts_42 (by decide) (by decide) ?_
  refine lv_aload_n hx hb dL_texts_45 rfl (lv_at hl 0 rfl) ?_
  refine lv_ldc2 (own := RL) (v := 444015391031) hx hb hown (hts (.constantLong RL 224 (444015391031)) (by decide +kernel)) dL_texts_46 ?_
  refine lv_lconst (v := 0) hx hb dL_texts_49 rfl ?_
  refine lv_iconst (v := nI 4) hx hb dL_texts_50 (by decide) ?_
  refine lqS (own := RL) (index := 216) (bytes := cL_isError) (n := 4) (As := [.long 444015391031, .long 0, .int (nI 4)]) (rest := []) (c2 := 25) (s2 := 3714) F hZ (c_isErrorT l G lq (LN0, [], KN0, bu3, bl3) 444015391031 0 [0, 0, 0, 103, 97, 97, 49, 55] [0, 0, 0, 0, 0, 0, 0, 0] 4 hS9 (by decide +kernel) (by decide) (by decide +kernel) (by decide) (by decide +kernel)) hC gL_texts_L_isError rfl rfl rfl rfl (by decide +kernel) rfl ⟨Nat.le_of_ble_eq_true rfl, Nat.le_of_ble_eq_true rfl⟩ hP hD hS rfl hl.1 (Nat.le_of_ble_eq_true rfl) dL_texts_51 ⟨Nat.le_of_ble_eq_true rfl, Nat.le_of_ble_eq_true rfl⟩ ⟨Nat.le_of_ble_eq_true rfl, Nat.le_of_ble_eq_true rfl⟩ (fun u51 H locs hC hP hD hS => ?_)
  have hS9 := (erS_sp (c1 := lf [0, 0, 0, 103, 97, 97, 49, 55]) (c2 := lf [0, 0, 0, 0, 0, 0, 0, 0]) hS9 (by decide) (by decide)).2.2
  obtain ⟨bu4, bl4, hE, hT⟩ := er_txt (LN0, [], KN0, bu3, bl3) (lf [0, 0, 0, 103, 97, 97, 49, 55]) (lf [0, 0, 0, 0, 0, 0, 0, 0])
  rw [hE] at hC hS9
  have hC : clS G lq u51 (LN0, [], KN0, bu4, bl4) := hC
  have hS9 : spS (LN0, [], KN0, bu4, bl4) := hS9
  have hT : txt bu4 bl4 [103, 97, 97, 49, 55] := hT
  clear hE
  refine bZF_eq (tgt := 129) hx hb dL_texts_54 (by decide) (by decide) ?_
  refine lv_aload_n hx hb dL_texts_57 rfl (lv_at hl 0 rfl) ?_
  refine lv_ldc2 (own := RL) (v := 26481) hx hb hown (hts (.constantLong RL 226 (26481)) (by decide +kernel)) dL_texts_58 ?_
  refine lv_lconst (v := 0) hx hb dL_texts_61 rfl ?_
  refine lv_iconst (v := nI 1) hx hb dL_texts_62 (by decide) ?_
  refine lqS (own := RL) (index := 216) (bytes := cL_isError) (n := 4) (As := [.long 26481, .long 0, .int (nI 1)]) (rest := []) (c2 := 25) (s2 := 3714) F hZ (c_isErrorT l G lq (LN0, [], KN0, bu4, bl4) 26481 0 [0, 0, 0, 0, 0, 0, 103, 113] [0, 0, 0, 0, 0, 0, 0, 0] 1 hS9 (by decide +kernel) (by decide) (by decide +kernel) (by decide) (by decide +kernel)) hC gL_texts_L_isError rfl rfl rfl rfl (by decide +kernel) rfl ⟨Nat.le_of_ble_eq_true rfl, Nat.le_of_ble_eq_true rfl⟩ hP hD hS rfl hl.1 (Nat.le_of_ble_eq_true rfl) dL_texts_63 ⟨Nat.le_of_ble_eq_true rfl, Nat.le_of_ble_eq_true rfl⟩ ⟨Nat.le_of_ble_eq_true rfl, Nat.le_of_ble_eq_true rfl⟩ (fun u63 H locs hC hP hD hS => ?_)
  have hS9 := (erS_sp (c1 := lf [0, 0, 0, 0, 0, 0, 103, 113]) (c2 := lf [0, 0, 0, 0, 0, 0, 0, 0]) hS9 (by decide) (by decide)).2.2
  obtain ⟨bu5, bl5, hE, hT⟩ := er_txt (LN0, [], KN0, bu4, bl4) (lf [0, 0, 0, 0, 0, 0, 103, 113]) (lf [0, 0, 0, 0, 0, 0, 0, 0])
  rw [hE] at hC hS9
  have hC : clS G lq u63 (LN0, [], KN0, bu5, bl5) := hC
  have hS9 : spS (LN0, [], KN0, bu5, bl5) := hS9
  have hT : txt bu5 bl5 [103, 113] := hT
  clear hE
  refine bZF_eq (tgt := 129) hx hb dL_texts_66 (by decide) (by decide) ?_
  exact kk bu5 bl5 hS9 hT u63 H locs ls hC hP hD hS (lv_sub hl [0] rfl)

set_option maxHeartbeats 8000000 in
set_option maxRecDepth 100000 in
theorem te_1 {p : Program} {l : Launch} {e : Env} {s : State} {m : MethodId} {args : Array Value} {below : List Frame} {meth : Method} {c : Code} {H : Heap} {locs : List Loc} {Q : State → Prop} {G : gG} {A : Nat → Prop} {lq : Nat} {ls : Array Slot} {wv X : va_W} (bu : Nat → Nat) (bl : Nat) (hS9 : spS (LN0, [], KN0, bu, bl)) (F : gAt p s m args meth c yL_texts wsL_texts cL_texts 2 (some .boolean) G A) (hZ : gX A s s.heap) (hC : clS G lq wv (LN0, [], KN0, bu, bl)) (hP : va_P G.1 vwCl (wv ++ X) H) (hD : va_D A (wv ++ X)) (hS : va_S A s.heap H locs) (hl : lv_has ls 2 [(0, .ref lq)])
    (kk : ∀ (bu : Nat → Nat) (bl : Nat) (hS9 : spS (LN0, [], KN0, bu, bl)) (hT : txt bu bl [98, 49, 97]) (u : va_W) (H : Heap) (locs : List Loc) (ls : Array Slot), clS G lq u (LN0, [], KN0, bu, bl) → va_P G.1 vwCl (u ++ X) H → va_D A (u ++ X) → va_S A s.heap H locs → lv_has ls 2 [(0, .ref lq)] → W p l e ({ frames := 11, cells := 60, slots := 9000, locals := 330 } : Room) s m args below meth c H locs 25 3714 Q (F0 m 131 ls [])) : W p l e ({ frames := 11, cells := 60, slots := 9000, locals := 330 } : Room) s m args below meth c H locs 25 3714 Q (F0 m 69 ls []) := by
  have hx := F.1
  have hb := F.2.1
  have hts := F.2.2.2.2.2.2.1
  have hown : s.vm.findClass RL = some m.cls := F.2.2.2.2.2.1
  refine lv_aload_n hx hb dL_texts_69 rfl (lv_at hl 0 rfl) ?_
  refine lv_ldc2 (own := RL) (v := 491260031274) hx hb hown (hts (.constantLong RL 228 (491260031274)) (by decide +kernel)) dL_texts_70 ?_
  refine lv_lconst (v := 0) hx hb dL_texts_73 rfl ?_
  refine lv_iconst (v := nI 4) hx hb dL_texts_74 (by decide) ?_
  refine lqS (own := RL) (index := 216) (bytes := cL_isError) (n := 4) (As := [.long 491260031274, .long 0, .int (nI 4)]) (rest := []) (c2 := 25) (s2 := 3714) F hZ (c_isErrorT l G lq (LN0, [], KN0, bu, bl) 491260031274 0 [0, 0, 0, 114, 97, 97, 49, 42] [0, 0, 0, 0, 0, 0, 0, 0] 4 hS9 (by decide +kernel) (by decide) (by decide +kernel) (by decide) (by decide +kernel)) hC gL_texts_L_isError rfl rfl rfl rfl (by decide +kernel) rfl ⟨Nat.le_of_ble_eq_true rfl, Nat.le_of_ble_eq_true rfl⟩ hP hD hS rfl hl.1 (Nat.le_of_ble_eq_true rfl) dL_texts_75 ⟨Nat.le_of_ble_eq_true rfl, Nat.le_of_ble_eq_true rfl⟩ ⟨Nat.le_of_ble_eq_true rfl, Nat.le_of_ble_eq_true rfl⟩ (fun u75 H locs hC hP hD hS => ?_)
  have hS9 := (erS_sp (c1 := lf [0, 0, 0, 114, 97, 97, 49, 42]) (c2 := lf [0, 0, 0, 0, 0, 0, 0, 0]) hS9 (by decide) (by decide)).2.2
  obtain ⟨bu1, bl1, hE, hT⟩ := er_txt (LN0, [], KN0, bu, bl) (lf [0, 0, 0, 114, 97, 97, 49, 42]) (lf [0, 0, 0, 0, 0, 0, 0, 0])
  rw [hE] at hC hS9
  have hC : clS G lq u75 (LN0, [], KN0, bu1, bl1) := hC
  have hS9 : spS (LN0, [], KN0, bu1, bl1) := hS9
  have hT : txt bu1 bl1 [114, 97, 97, 49, 42] := hT
  clear hE
  refine bZF_eq (tgt := 129) hx hb dL_texts_78 (by decide) (by decide) ?_
  refine lv_aload_n hx hb dL_texts_81 rfl (lv_at hl 0 rfl) ?_
  refine lv_ldc2 (own := RL) (v := 125762568006448) hx hb hown (hts (.constantLong RL 230 (125762568006448)) (by decide +kernel)) dL_texts_82 ?_
  refine lv_lconst (v := 0) hx hb dL_texts_85 rfl ?_
  refine lv_iconst (v := nI 5) hx hb dL_texts_86 (by decide) ?_
  refine lqS (own := RL) (index := 216) (bytes := cL_isError) (n := 4) (As := [.long 125762568006448, .long 0, .int (nI 5)]) (rest := []) (c2 := 25) (s2 := 3714) F hZ (c_isErrorT l G lq (LN0, [], KN0, bu1, bl1) 125762568006448 0 [0, 0, 114, 97, 97, 49, 43, 48] [0, 0, 0, 0, 0, 0, 0, 0] 5 hS9 (by decide +kernel) (by decide) (by decide +kernel) (by decide) (by decide +kernel)) hC gL_texts_L_isError rfl rfl rfl rfl (by decide +kernel) rfl ⟨Nat.le_of_ble_eq_true rfl, Nat.le_of_ble_eq_true rfl⟩ hP hD hS rfl hl.1 (Nat.le_of_ble_eq_true rfl) dL_texts_87 ⟨Nat.le_of_ble_eq_true rfl, Nat.le_of_ble_eq_true rfl⟩ ⟨Nat.le_of_ble_eq_true rfl, Nat.le_of_ble_eq_true rfl⟩ (fun u87 H locs hC hP hD hS => ?_)
  have hS9 := (erS_sp (c1 := lf [0, 0, 114, 97, 97, 49, 43, 48]) (c2 := lf [0, 0, 0, 0, 0, 0, 0, 0]) hS9 (by decide) (by decide)).2.2
  obtain ⟨bu2, bl2, hE, hT⟩ := er_txt (LN0, [], KN0, bu1, bl1) (lf [0, 0, 114, 97, 97, 49, 43, 48]) (lf [0, 0, 0, 0, 0, 0, 0, 0])
  rw [hE] at hC hS9
  have hC : clS G lq u87 (LN0, [], KN0, bu2, bl2) := hC
  have hS9 : spS (LN0, [], KN0, bu2, bl2) := hS9
  have hT : txt bu2 bl2 [114, 97, 97, 49, 43, 48] := hT
  clear hE
  refine bZF_eq (tgt := 129) hx hb dL_texts_90 (by decide) (by decide) ?_
  refine lv_aload_n hx hb dL_texts_93 rfl (lv_at hl 0 rfl) ?_
  refine lv_ldc2 (own := RL) (v := 25136) hx hb hown (hts (.constantLong RL 232 (25136)) (by decide +kernel)) dL_texts_94 ?_
  refine lv_lconst (v := 0) hx hb dL_texts_97 rfl ?_
  refine lv_iconst (v := nI 1) hx hb dL_texts_98 (by decide) ?_
  refine lqS (own := RL) (index := 216) (bytes := cL_isError) (n := 4) (As := [.long 25136, .long 0, .int (nI 1)]) (rest := []) (c2 := 25) (s2 := 3714) F hZ (c_isErrorT l G lq (LN0, [], KN0, bu2, bl2) 25136 0 [0, 0, 0, 0, 0, 0, 98, 48] [0, 0, 0, 0, 0, 0, 0, 0] 1 hS9 (by decide +kernel) (by decide) (by decide +kernel) (by decide) (by decide +kernel)) hC gL_texts_L_isError rfl rfl rfl rfl (by decide +kernel) rfl ⟨Nat.le_of_ble_eq_true rfl, Nat.le_of_ble_eq_true rfl⟩ hP hD hS rfl hl.1 (Nat.le_of_ble_eq_true rfl) dL_texts_99 ⟨Nat.le_of_ble_eq_true rfl, Nat.le_of_ble_eq_true rfl⟩ ⟨Nat.le_of_ble_eq_true rfl, Nat.le_of_ble_eq_true rfl⟩ (fun u99 H locs hC hP hD hS => ?_)
  have hS9 := (erS_sp (c1 := lf [0, 0, 0, 0, 0, 0, 98, 48]) (c2 := lf [0, 0, 0, 0, 0, 0, 0, 0]) hS9 (by decide) (by decide)).2.2
  obtain ⟨bu3, bl3, hE, hT⟩ := er_txt (LN0, [], KN0, bu2, bl2) (lf [0, 0, 0, 0, 0, 0, 98, 48]) (lf [0, 0, 0, 0, 0, 0, 0, 0])
  rw [hE] at hC hS9
  have hC : clS G lq u99 (LN0, [], KN0, bu3, bl3) := hC
  have hS9 : spS (LN0, [], KN0, bu3, bl3) := hS9
  have hT : txt bu3 bl3 [98, 48] := hT
  clear hE
  refine bZF_eq (tgt := 129) hx hb dL_texts_102 (by decide) (by decide) ?_
  refine lv_aload_n hx hb dL_texts_105 rfl (lv_at hl 0 rfl) ?_
  refine lv_ldc2 (own := RL) (v := 25144) hx hb hown (hts (.constantLong RL 234 (25144)) (by decide +kernel)) dL_texts_106 ?_
  refine lv_lconst (v := 0) hx hb dL_texts_109 rfl ?_
  refine lv_iconst (v := nI 1) hx hb dL_texts_110 (by decide) ?_
  refine lqS (own := RL) (index := 216) (bytes := cL_isError) (n := 4) (As := [.long 25144, .long 0, .int (nI 1)]) (rest := []) (c2 := 25) (s2 := 3714) F hZ (c_isErrorT l G lq (LN0, [], KN0, bu3, bl3) 25144 0 [0, 0, 0, 0, 0, 0, 98, 56] [0, 0, 0, 0, 0, 0, 0, 0] 1 hS9 (by decide +kernel) (by decide) (by decide +kernel) (by decide) (by decide +kernel)) hC gL_texts_L_isError rfl rfl rfl rfl (by decide +kernel) rfl ⟨Nat.le_of_ble_eq_true rfl, Nat.le_of_ble_eq_true rfl⟩ hP hD hS rfl hl.1 (Nat.le_of_ble_eq_true rfl) dL_texts_111 ⟨Nat.le_of_ble_eq_true rfl, Nat.le_of_ble_eq_true rfl⟩ ⟨Nat.le_of_ble_eq_true rfl, Nat.le_of_ble_eq_true rfl⟩ (fun u111 H locs hC hP hD hS => ?_)
  have hS9 := (erS_sp (c1 := lf [0, 0, 0, 0, 0, 0, 98, 56]) (c2 := lf [0, 0, 0, 0, 0, 0, 0, 0]) hS9 (by decide) (by decide)).2.2
  obtain ⟨bu4, bl4, hE, hT⟩ := er_txt (LN0, [], KN0, bu3, bl3) (lf [0, 0, 0, 0, 0, 0, 98, 56]) (lf [0, 0, 0, 0, 0, 0, 0, 0])
  rw [hE] at hC hS9
  have hC : clS G lq u111 (LN0, [], KN0, bu4, bl4) := hC
  have hS9 : spS (LN0, [], KN0, bu4, bl4) := hS9
  have hT : txt bu4 bl4 [98, 56] := hT
  clear hE
  refine bZF_eq (tgt := 129) hx hb dL_texts_114 (by decide) (by decide) ?_
  refine lv_aload_n hx hb dL_texts_117 rfl (lv_at hl 0 rfl) ?_
  refine lv_ldc2 (own := RL) (v := 6435169) hx hb hown (hts (.constantLong RL 236 (6435169)) (by decide +kernel)) dL_texts_118 ?_
  refine lv_lconst (v := 0) hx hb dL_texts_121 rfl ?_
  refine lv_iconst (v := nI 3) hx hb dL_texts_122 (by decide) ?_
  refine lqS (own := RL) (index := 216) (bytes := cL_isError) (n := 4) (As := [.long 6435169, .long 0, .int (nI 3)]) (rest := []) (c2 := 25) (s2 := 3714) F hZ (c_isErrorT l G lq (LN0, [], KN0, bu4, bl4) 6435169 0 [0, 0, 0, 0, 0, 98, 49, 97] [0, 0, 0, 0, 0, 0, 0, 0] 3 hS9 (by decide +kernel) (by decide) (by decide +kernel) (by decide) (by decide +kernel)) hC gL_texts_L_isError rfl rfl rfl rfl (by decide +kernel) rfl ⟨Nat.le_of_ble_eq_true rfl, Nat.le_of_ble_eq_true rfl⟩ hP hD hS rfl hl.1 (Nat.le_of_ble_eq_true rfl) dL_texts_123 ⟨Nat.le_of_ble_eq_true rfl, Nat.le_of_ble_eq_true rfl⟩ ⟨Nat.le_of_ble_eq_true rfl, Nat.le_of_ble_eq_true rfl⟩ (fun u123 H locs hC hP hD hS => ?_)
  have hS9 := (erS_sp (c1 := lf [0, 0, 0, 0, 0, 98, 49, 97]) (c2 := lf [0, 0, 0, 0, 0, 0, 0, 0]) hS9 (by decide) (by decide)).2.2
  obtain ⟨bu5, bl5, hE, hT⟩ := er_txt (LN0, [], KN0, bu4, bl4) (lf [0, 0, 0, 0, 0, 98, 49, 97]) (lf [0, 0, 0, 0, 0, 0, 0, 0])
  rw [hE] at hC hS9
  have hC : clS G lq u123 (LN0, [], KN0, bu5, bl5) := hC
  have hS9 : spS (LN0, [], KN0, bu5, bl5) := hS9
  have hT : txt bu5 bl5 [98, 49, 97] := hT
  clear hE
  refine bZT_ne (tgt := 131) hx hb dL_texts_126 (by decide) (by decide) ?_
  exact kk bu5 bl5 hS9 hT u123 H locs ls hC hP hD hS (lv_sub hl [0] rfl)

set_option maxHeartbeats 8000000 in
set_option maxRecDepth 100000 in
theorem te_2 {p : Program} {l : Launch} {e : Env} {s : State} {m : MethodId} {args : Array Value} {below : List Frame} {meth : Method} {c : Code} {H : Heap} {locs : List Loc} {Q : State → Prop} {G : gG} {A : Nat → Prop} {lq : Nat} {ls : Array Slot} {wv X : va_W} (bu : Nat → Nat) (bl : Nat) (hS9 : spS (LN0, [], KN0, bu, bl)) (F : gAt p s m args meth c yL_texts wsL_texts cL_texts 2 (some .boolean) G A) (hZ : gX A s s.heap) (hC : clS G lq wv (LN0, [], KN0, bu, bl)) (hP : va_P G.1 vwCl (wv ++ X) H) (hD : va_D A (wv ++ X)) (hS : va_S A s.heap H locs) (hl : lv_has ls 2 [(0, .ref lq)])
    (kk : ∀ (bu : Nat → Nat) (bl : Nat) (hS9 : spS (LN0, [], KN0, bu, bl)) (hT : txt bu bl [114, 97, 97, 56, 45, 57, 59, 102, 57, 59, 116]) (u : va_W) (H : Heap) (locs : List Loc) (ls : Array Slot), clS G lq u (LN0, [], KN0, bu, bl) → va_P G.1 vwCl (u ++ X) H → va_D A (u ++ X) → va_S A s.heap H locs → lv_has ls 2 [(0, .ref lq)] → W p l e ({ frames := 11, cells := 60, slots := 9000, locals := 330 } : Room) s m args below meth c H locs 25 3714 Q (F0 m 197 ls [])) : W p l e ({ frames := 11, cells := 60, slots := 9000, locals := 330 } : Room) s m args below meth c H locs 25 3714 Q (F0 m 131 ls []) := by
  have hx := F.1
  have hb := F.2.1
  have hts := F.2.2.2.2.2.2.1
  have hown : s.vm.findClass RL = some m.cls := F.2.2.2.2.2.1
  refine lv_aload_n hx hb dL_texts_131 rfl (lv_at hl 0 rfl) ?_
  refine lv_ldc2 (own := RL) (v := 26160) hx hb hown (hts (.constantLong RL 238 (26160)) (by decide +kernel)) dL_texts_132 ?_
  refine lv_lconst (v := 0) hx hb dL_texts_135 rfl ?_
  refine lv_iconst (v := nI 1) hx hb dL_texts_136 (by decide) ?_
  refine lqS (own := RL) (index := 216) (bytes := cL_isError) (n := 4) (As := [.long 26160, .long 0, .int (nI 1)]) (rest := []) (c2 := 25) (s2 := 3714) F hZ (c_isErrorT l G lq (LN0, [], KN0, bu, bl) 26160 0 [0, 0, 0, 0, 0, 0, 102, 48] [0, 0, 0, 0, 0, 0, 0, 0] 1 hS9 (by decide +kernel) (by decide) (by decide +kernel) (by decide) (by decide +kernel)) hC gL_texts_L_isError rfl rfl rfl rfl (by decide +kernel) rfl ⟨Nat.le_of_ble_eq_true rfl, Nat.le_of_ble_eq_true rfl⟩ hP hD hS rfl hl.1 (Nat.le_of_ble_eq_true rfl) dL_texts_137 ⟨Nat.le_of_ble_eq_true rfl, Nat.le_of_ble_eq_true rfl⟩ ⟨Nat.le_of_ble_eq_true rfl, Nat.le_of_ble_eq_true rfl⟩ (fun u137 H locs hC hP hD hS => ?_)
  have hS9 := (erS_sp (c1 := lf [0, 0, 0, 0, 0, 0, 102, 48]) (c2 := lf [0, 0, 0, 0, 0, 0, 0, 0]) hS9 (by decide) (by decide)).2.2
  obtain ⟨bu1, bl1, hE, hT⟩ := er_txt (LN0, [], KN0, bu, bl) (lf [0, 0, 0, 0, 0, 0, 102, 48]) (lf [0, 0, 0, 0, 0, 0, 0, 0])
  rw [hE] at hC hS9
  have hC : clS G lq u137 (LN0, [], KN0, bu1, bl1) := hC
  have hS9 : spS (LN0, [], KN0, bu1, bl1) := hS9
  have hT : txt bu1 bl1 [102, 48] := hT
  clear hE
  refine bZF_eq (tgt := 243) hx hb dL_texts_140 (by decide) (by decide) ?_
  refine lv_aload_n hx hb dL_texts_143 rfl (lv_at hl 0 rfl) ?_
  refine lv_ldc2 (own := RL) (v := 29812) hx hb hown (hts (.constantLong RL 240 (29812)) (by decide +kernel)) dL_texts_144 ?_
  refine lv_lconst (v := 0) hx hb dL_texts_147 rfl ?_
  refine lv_iconst (v := nI 1) hx hb dL_texts_148 (by decide) ?_
  refine lqS (own := RL) (index := 216) (bytes := cL_isError) (n := 4) (As := [.long 29812, .long 0, .int (nI 1)]) (rest := []) (c2 := 25) (s2 := 3714) F hZ (c_isErrorT l G lq (LN0, [], KN0, bu1, bl1) 29812 0 [0, 0, 0, 0, 0, 0, 116, 116] [0, 0, 0, 0, 0, 0, 0, 0] 1 hS9 (by decide +kernel) (by decide) (by decide +kernel) (by decide) (by decide +kernel)) hC gL_texts_L_isError rfl rfl rfl rfl (by decide +kernel) rfl ⟨Nat.le_of_ble_eq_true rfl, Nat.le_of_ble_eq_true rfl⟩ hP hD hS rfl hl.1 (Nat.le_of_ble_eq_true rfl) dL_texts_149 ⟨Nat.le_of_ble_eq_true rfl, Nat.le_of_ble_eq_true rfl⟩ ⟨Nat.le_of_ble_eq_true rfl, Nat.le_of_ble_eq_true rfl⟩ (fun u149 H locs hC hP hD hS => ?_)
  have hS9 := (erS_sp (c1 := lf [0, 0, 0, 0, 0, 0, 116, 116]) (c2 := lf [0, 0, 0, 0, 0, 0, 0, 0]) hS9 (by decide) (by decide)).2.2
  obtain ⟨bu2, bl2, hE, hT⟩ := er_txt (LN0, [], KN0, bu1, bl1) (lf [0, 0, 0, 0, 0, 0, 116, 116]) (lf [0, 0, 0, 0, 0, 0, 0, 0])
  rw [hE] at hC hS9
  have hC : clS G lq u149 (LN0, [], KN0, bu2, bl2) := hC
  have hS9 : spS (LN0, [], KN0, bu2, bl2) := hS9
  have hT : txt bu2 bl2 [116, 116] := hT
  clear hE
  refine bZF_eq (tgt := 243) hx hb dL_texts_152 (by decide) (by decide) ?_
  refine lv_aload_n hx hb dL_texts_155 rfl (lv_at hl 0 rfl) ?_
  refine lv_ldc2 (own := RL) (v := 29755) hx hb hown (hts (.constantLong RL 242 (29755)) (by decide +kernel)) dL_texts_156 ?_
  refine lv_lconst (v := 0) hx hb dL_texts_159 rfl ?_
  refine lv_iconst (v := nI 2) hx hb dL_texts_160 (by decide) ?_
  refine lqS (own := RL) (index := 216) (bytes := cL_isError) (n := 4) (As := [.long 29755, .long 0, .int (nI 2)]) (rest := []) (c2 := 25) (s2 := 3714) F hZ (c_isErrorT l G lq (LN0, [], KN0, bu2, bl2) 29755 0 [0, 0, 0, 0, 0, 0, 116, 59] [0, 0, 0, 0, 0, 0, 0, 0] 2 hS9 (by decide +kernel) (by decide) (by decide +kernel) (by decide) (by decide +kernel)) hC gL_texts_L_isError rfl rfl rfl rfl (by decide +kernel) rfl ⟨Nat.le_of_ble_eq_true rfl, Nat.le_of_ble_eq_true rfl⟩ hP hD hS rfl hl.1 (Nat.le_of_ble_eq_true rfl) dL_texts_161 ⟨Nat.le_of_ble_eq_true rfl, Nat.le_of_ble_eq_true rfl⟩ ⟨Nat.le_of_ble_eq_true rfl, Nat.le_of_ble_eq_true rfl⟩ (fun u161 H locs hC hP hD hS => ?_)
  have hS9 := (erS_sp (c1 := lf [0, 0, 0, 0, 0, 0, 116, 59]) (c2 := lf [0, 0, 0, 0, 0, 0, 0, 0]) hS9 (by decide) (by decide)).2.2
  obtain ⟨bu3, bl3, hE, hT⟩ := er_txt (LN0, [], KN0, bu2, bl2) (lf [0, 0, 0, 0, 0, 0, 116, 59]) (lf [0, 0, 0, 0, 0, 0, 0, 0])
  rw [hE] at hC hS9
  have hC : clS G lq u161 (LN0, [], KN0, bu3, bl3) := hC
  have hS9 : spS (LN0, [], KN0, bu3, bl3) := hS9
  have hT : txt bu3 bl3 [116, 59] := hT
  clear hE
  refine bZF_eq (tgt := 243) hx hb dL_texts_164 (by decide) (by decide) ?_
  refine lv_aload_n hx hb dL_texts_167 rfl (lv_at hl 0 rfl) ?_
  refine lv_ldc2 (own := RL) (v := 7453580739963860795) hx hb hown (hts (.constantLong RL 244 (7453580739963860795)) (by decide +kernel)) dL_texts_168 ?_
  refine lv_ldc2 (own := RL) (v := 1647800432) hx hb hown (hts (.constantLong RL 246 (1647800432)) (by decide +kernel)) dL_texts_171 ?_
  refine lv_bipush (v := nI 12) hx hb dL_texts_174 (by decide) ?_
  refine lqS (own := RL) (index := 216) (bytes := cL_isError) (n := 4) (As := [.long 7453580739963860795, .long 1647800432, .int (nI 12)]) (rest := []) (c2 := 25) (s2 := 3714) F hZ (c_isErrorT l G lq (LN0, [], KN0, bu3, bl3) 7453580739963860795 1647800432 [103, 112, 112, 49, 54, 61, 55, 59] [0, 0, 0, 0, 98, 55, 112, 112] 12 hS9 (by decide +kernel) (by decide) (by decide +kernel) (by decide) (by decide +kernel)) hC gL_texts_L_isError rfl rfl rfl rfl (by decide +kernel) rfl ⟨Nat.le_of_ble_eq_true rfl, Nat.le_of_ble_eq_true rfl⟩ hP hD hS rfl hl.1 (Nat.le_of_ble_eq_true rfl) dL_texts_176 ⟨Nat.le_of_ble_eq_true rfl, Nat.le_of_ble_eq_true rfl⟩ ⟨Nat.le_of_ble_eq_true rfl, Nat.le_of_ble_eq_true rfl⟩ (fun u176 H locs hC hP hD hS => ?_)
  have hS9 := (erS_sp (c1 := lf [103, 112, 112, 49, 54, 61, 55, 59]) (c2 := lf [0, 0, 0, 0, 98, 55, 112, 112]) hS9 (by decide) (by decide)).2.2
  obtain ⟨bu4, bl4, hE, hT⟩ := er_txt (LN0, [], KN0, bu3, bl3) (lf [103, 112, 112, 49, 54, 61, 55, 59]) (lf [0, 0, 0, 0, 98, 55, 112, 112])
  rw [hE] at hC hS9
  have hC : clS G lq u176 (LN0, [], KN0, bu4, bl4) := hC
  have hS9 : spS (LN0, [], KN0, bu4, bl4) := hS9
  have hT : txt bu4 bl4 [103, 112, 112, 49, 54, 61, 55, 59, 98, 55, 112, 112] := hT
  clear hE
  refine bZF_eq (tgt := 243) hx hb dL_texts_179 (by decide) (by decide) ?_
  refine lv_aload_n hx hb dL_texts_182 rfl (lv_at hl 0 rfl) ?_
  refine lv_ldc2 (own := RL) (v := 8241975686969506662) hx hb hown (hts (.constantLong RL 248 (8241975686969506662)) (by decide +kernel)) dL_texts_183 ?_
  refine lv_ldc2 (own := RL) (v := 3750772) hx hb hown (hts (.constantLong RL 250 (3750772)) (by decide +kernel)) dL_texts_186 ?_
  refine lv_bipush (v := nI 11) hx hb dL_texts_189 (by decide) ?_
  refine lqS (own := RL) (index := 216) (bytes := cL_isError) (n := 4) (As := [.long 8241975686969506662, .long 3750772, .int (nI 11)]) (rest := []) (c2 := 25) (s2 := 3714) F hZ (c_isErrorT l G lq (LN0, [], KN0, bu4, bl4) 8241975686969506662 3750772 [114, 97, 97, 56, 45, 57, 59, 102] [0, 0, 0, 0, 0, 57, 59, 116] 11 hS9 (by decide +kernel) (by decide) (by decide +kernel) (by decide) (by decide +kernel)) hC gL_texts_L_isError rfl rfl rfl rfl (by decide +kernel) rfl ⟨Nat.le_of_ble_eq_true rfl, Nat.le_of_ble_eq_true rfl⟩ hP hD hS rfl hl.1 (Nat.le_of_ble_eq_true rfl) dL_texts_191 ⟨Nat.le_of_ble_eq_true rfl, Nat.le_of_ble_eq_true rfl⟩ ⟨Nat.le_of_ble_eq_true rfl, Nat.le_of_ble_eq_true rfl⟩ (fun u191 H locs hC hP hD hS => ?_)
  have hS9 := (erS_sp (c1 := lf [114, 97, 97, 56, 45, 57, 59, 102]) (c2 := lf [0, 0, 0, 0, 0, 57, 59, 116]) hS9 (by decide) (by decide)).2.2
  obtain ⟨bu5, bl5, hE, hT⟩ := er_txt (LN0, [], KN0, bu4, bl4) (lf [114, 97, 97, 56, 45, 57, 59, 102]) (lf [0, 0, 0, 0, 0, 57, 59, 116])
  rw [hE] at hC hS9
  have hC : clS G lq u191 (LN0, [], KN0, bu5, bl5) := hC
  have hS9 : spS (LN0, [], KN0, bu5, bl5) := hS9
  have hT : txt bu5 bl5 [114, 97, 97, 56, 45, 57, 59, 102, 57, 59, 116] := hT
  clear hE
  refine bZF_eq (tgt := 243) hx hb dL_texts_194 (by decide) (by decide) ?_
  exact kk bu5 bl5 hS9 hT u191 H locs ls hC hP hD hS (lv_sub hl [0] rfl)

set_option maxHeartbeats 8000000 in
set_option maxRecDepth 100000 in
theorem te_3 {p : Program} {l : Launch} {e : Env} {s : State} {m : MethodId} {args : Array Value} {below : List Frame} {meth : Method} {c : Code} {H : Heap} {locs : List Loc} {Q : State → Prop} {G : gG} {A : Nat → Prop} {lq : Nat} {ls : Array Slot} {wv X : va_W} (bu : Nat → Nat) (bl : Nat) (hS9 : spS (LN0, [], KN0, bu, bl)) (F : gAt p s m args meth c yL_texts wsL_texts cL_texts 2 (some .boolean) G A) (hZ : gX A s s.heap) (hC : clS G lq wv (LN0, [], KN0, bu, bl)) (hP : va_P G.1 vwCl (wv ++ X) H) (hD : va_D A (wv ++ X)) (hS : va_S A s.heap H locs) (hl : lv_has ls 2 [(0, .ref lq)])
    (kk : ∀ (bu : Nat → Nat) (bl : Nat) (hS9 : spS (LN0, [], KN0, bu, bl)) (hT : txt bu bl [103, 97, 97, 54]) (u : va_W) (H : Heap) (locs : List Loc) (ls : Array Slot), clS G lq u (LN0, [], KN0, bu, bl) → va_P G.1 vwCl (u ++ X) H → va_D A (u ++ X) → va_S A s.heap H locs → lv_has ls 2 [(0, .ref lq)] → W p l e ({ frames := 11, cells := 60, slots := 9000, locals := 330 } : Room) s m args below meth c H locs 25 3714 Q (F0 m 245 ls [])) : W p l e ({ frames := 11, cells := 60, slots := 9000, locals := 330 } : Room) s m args below meth c H locs 25 3714 Q (F0 m 197 ls []) := by
  have hx := F.1
  have hb := F.2.1
  have hts := F.2.2.2.2.2.2.1
  have hown : s.vm.findClass RL = some m.cls := F.2.2.2.2.2.1
  refine lv_aload_n hx hb dL_texts_197 rfl (lv_at hl 0 rfl) ?_
  refine lv_ldc2 (own := RL) (v := 71) hx hb hown (hts (.constantLong RL 252 (71)) (by decide +kernel)) dL_texts_198 ?_
  refine lv_lconst (v := 0) hx hb dL_texts_201 rfl ?_
  refine lv_iconst (v := nI 0) hx hb dL_texts_202 (by decide) ?_
  refine lqS (own := RL) (index := 216) (bytes := cL_isError) (n := 4) (As := [.long 71, .long 0, .int (nI 0)]) (rest := []) (c2 := 25) (s2 := 3714) F hZ (c_isErrorT l G lq (LN0, [], KN0, bu, bl) 71 0 [0, 0, 0, 0, 0, 0, 0, 71] [0, 0, 0, 0, 0, 0, 0, 0] 0 hS9 (by decide +kernel) (by decide) (by decide +kernel) (by decide) (by decide +kernel)) hC gL_texts_L_isError rfl rfl rfl rfl (by decide +kernel) rfl ⟨Nat.le_of_ble_eq_true rfl, Nat.le_of_ble_eq_true rfl⟩ hP hD hS rfl hl.1 (Nat.le_of_ble_eq_true rfl) dL_texts_203 ⟨Nat.le_of_ble_eq_true rfl, Nat.le_of_ble_eq_true rfl⟩ ⟨Nat.le_of_ble_eq_true rfl, Nat.le_of_ble_eq_true rfl⟩ (fun u203 H locs hC hP hD hS => ?_)
  have hS9 := (erS_sp (c1 := lf [0, 0, 0, 0, 0, 0, 0, 71]) (c2 := lf [0, 0, 0, 0, 0, 0, 0, 0]) hS9 (by decide) (by decide)).2.2
  obtain ⟨bu1, bl1, hE, hT⟩ := er_txt (LN0, [], KN0, bu, bl) (lf [0, 0, 0, 0, 0, 0, 0, 71]) (lf [0, 0, 0, 0, 0, 0, 0, 0])
  rw [hE] at hC hS9
  have hC : clS G lq u203 (LN0, [], KN0, bu1, bl1) := hC
  have hS9 : spS (LN0, [], KN0, bu1, bl1) := hS9
  have hT : txt bu1 bl1 [71] := hT
  clear hE
  refine bZF_eq (tgt := 243) hx hb dL_texts_206 (by decide) (by decide) ?_
  refine lv_aload_n hx hb dL_texts_209 rfl (lv_at hl 0 rfl) ?_
  refine lv_lconst (v := 0) hx hb dL_texts_210 rfl ?_
  refine lv_lconst (v := 0) hx hb dL_texts_211 rfl ?_
  refine lv_iconst (v := nI 0) hx hb dL_texts_212 (by decide) ?_
  refine lqS (own := RL) (index := 216) (bytes := cL_isError) (n := 4) (As := [.long 0, .long 0, .int (nI 0)]) (rest := []) (c2 := 25) (s2 := 3714) F hZ (c_isErrorT l G lq (LN0, [], KN0, bu1, bl1) 0 0 [0, 0, 0, 0, 0, 0, 0, 0] [0, 0, 0, 0, 0, 0, 0, 0] 0 hS9 (by decide +kernel) (by decide) (by decide +kernel) (by decide) (by decide +kernel)) hC gL_texts_L_isError rfl rfl rfl rfl (by decide +kernel) rfl ⟨Nat.le_of_ble_eq_true rfl, Nat.le_of_ble_eq_true rfl⟩ hP hD hS rfl hl.1 (Nat.le_of_ble_eq_true rfl) dL_texts_213 ⟨Nat.le_of_ble_eq_true rfl, Nat.le_of_ble_eq_true rfl⟩ ⟨Nat.le_of_ble_eq_true rfl, Nat.le_of_ble_eq_true rfl⟩ (fun u213 H locs hC hP hD hS => ?_)
  have hS9 := (erS_sp (c1 := lf [0, 0, 0, 0, 0, 0, 0, 0]) (c2 := lf [0, 0, 0, 0, 0, 0, 0, 0]) hS9 (by decide) (by decide)).2.2
  obtain ⟨bu2, bl2, hE, hT⟩ := er_txt (LN0, [], KN0, bu1, bl1) (lf [0, 0, 0, 0, 0, 0, 0, 0]) (lf [0, 0, 0, 0, 0, 0, 0, 0])
  rw [hE] at hC hS9
  have hC : clS G lq u213 (LN0, [], KN0, bu2, bl2) := hC
  have hS9 : spS (LN0, [], KN0, bu2, bl2) := hS9
  have hT : txt bu2 bl2 [] := hT
  clear hE
  refine bZF_eq (tgt := 243) hx hb dL_texts_216 (by decide) (by decide) ?_
  refine lv_aload_n hx hb dL_texts_219 rfl (lv_at hl 0 rfl) ?_
  refine lv_ldc2 (own := RL) (v := 7617339) hx hb hown (hts (.constantLong RL 254 (7617339)) (by decide +kernel)) dL_texts_220 ?_
  refine lv_lconst (v := 0) hx hb dL_texts_223 rfl ?_
  refine lv_iconst (v := nI 2) hx hb dL_texts_224 (by decide) ?_
  refine lqS (own := RL) (index := 216) (bytes := cL_isError) (n := 4) (As := [.long 7617339, .long 0, .int (nI 2)]) (rest := []) (c2 := 25) (s2 := 3714) F hZ (c_isErrorT l G lq (LN0, [], KN0, bu2, bl2) 7617339 0 [0, 0, 0, 0, 0, 116, 59, 59] [0, 0, 0, 0, 0, 0, 0, 0] 2 hS9 (by decide +kernel) (by decide) (by decide +kernel) (by decide) (by decide +kernel)) hC gL_texts_L_isError rfl rfl rfl rfl (by decide +kernel) rfl ⟨Nat.le_of_ble_eq_true rfl, Nat.le_of_ble_eq_true rfl⟩ hP hD hS rfl hl.1 (Nat.le_of_ble_eq_true rfl) dL_texts_225 ⟨Nat.le_of_ble_eq_true rfl, Nat.le_of_ble_eq_true rfl⟩ ⟨Nat.le_of_ble_eq_true rfl, Nat.le_of_ble_eq_true rfl⟩ (fun u225 H locs hC hP hD hS => ?_)
  have hS9 := (erS_sp (c1 := lf [0, 0, 0, 0, 0, 116, 59, 59]) (c2 := lf [0, 0, 0, 0, 0, 0, 0, 0]) hS9 (by decide) (by decide)).2.2
  obtain ⟨bu3, bl3, hE, hT⟩ := er_txt (LN0, [], KN0, bu2, bl2) (lf [0, 0, 0, 0, 0, 116, 59, 59]) (lf [0, 0, 0, 0, 0, 0, 0, 0])
  rw [hE] at hC hS9
  have hC : clS G lq u225 (LN0, [], KN0, bu3, bl3) := hC
  have hS9 : spS (LN0, [], KN0, bu3, bl3) := hS9
  have hT : txt bu3 bl3 [116, 59, 59] := hT
  clear hE
  refine bZF_eq (tgt := 243) hx hb dL_texts_228 (by decide) (by decide) ?_
  refine lv_aload_n hx hb dL_texts_231 rfl (lv_at hl 0 rfl) ?_
  refine lv_ldc2 (own := RL) (v := 1734435126) hx hb hown (hts (.constantLong RL 256 (1734435126)) (by decide +kernel)) dL_texts_232 ?_
  refine lv_lconst (v := 0) hx hb dL_texts_235 rfl ?_
  refine lv_iconst (v := nI 3) hx hb dL_texts_236 (by decide) ?_
  refine lqS (own := RL) (index := 216) (bytes := cL_isError) (n := 4) (As := [.long 1734435126, .long 0, .int (nI 3)]) (rest := []) (c2 := 25) (s2 := 3714) F hZ (c_isErrorT l G lq (LN0, [], KN0, bu3, bl3) 1734435126 0 [0, 0, 0, 0, 103, 97, 97, 54] [0, 0, 0, 0, 0, 0, 0, 0] 3 hS9 (by decide +kernel) (by decide) (by decide +kernel) (by decide) (by decide +kernel)) hC gL_texts_L_isError rfl rfl rfl rfl (by decide +kernel) rfl ⟨Nat.le_of_ble_eq_true rfl, Nat.le_of_ble_eq_true rfl⟩ hP hD hS rfl hl.1 (Nat.le_of_ble_eq_true rfl) dL_texts_237 ⟨Nat.le_of_ble_eq_true rfl, Nat.le_of_ble_eq_true rfl⟩ ⟨Nat.le_of_ble_eq_true rfl, Nat.le_of_ble_eq_true rfl⟩ (fun u237 H locs hC hP hD hS => ?_)
  have hS9 := (erS_sp (c1 := lf [0, 0, 0, 0, 103, 97, 97, 54]) (c2 := lf [0, 0, 0, 0, 0, 0, 0, 0]) hS9 (by decide) (by decide)).2.2
  obtain ⟨bu4, bl4, hE, hT⟩ := er_txt (LN0, [], KN0, bu3, bl3) (lf [0, 0, 0, 0, 103, 97, 97, 54]) (lf [0, 0, 0, 0, 0, 0, 0, 0])
  rw [hE] at hC hS9
  have hC : clS G lq u237 (LN0, [], KN0, bu4, bl4) := hC
  have hS9 : spS (LN0, [], KN0, bu4, bl4) := hS9
  have hT : txt bu4 bl4 [103, 97, 97, 54] := hT
  clear hE
  refine bZT_ne (tgt := 245) hx hb dL_texts_240 (by decide) (by decide) ?_
  exact kk bu4 bl4 hS9 hT u237 H locs ls hC hP hD hS (lv_sub hl [0] rfl)

set_option maxHeartbeats 8000000 in
set_option maxRecDepth 100000 in
theorem te_4 {p : Program} {l : Launch} {e : Env} {s : State} {m : MethodId} {args : Array Value} {below : List Frame} {meth : Method} {c : Code} {H : Heap} {locs : List Loc} {Q : State → Prop} {G : gG} {A : Nat → Prop} {lq : Nat} {ls : Array Slot} {wv X : va_W} (bu : Nat → Nat) (bl : Nat) (hS9 : spS (LN0, [], KN0, bu, bl)) (hT : txt bu bl [103, 97, 97, 54]) (F : gAt p s m args meth c yL_texts wsL_texts cL_texts 2 (some .boolean) G A) (hZ : gX A s s.heap) (hC : clS G lq wv (LN0, [], KN0, bu, bl)) (hP : va_P G.1 vwCl (wv ++ X) H) (hD : va_D A (wv ++ X)) (hS : va_S A s.heap H locs) (hl : lv_has ls 2 [(0, .ref lq)])
    (kk : ∀ (bu : Nat → Nat) (hS9 : spS (LN1, [LN0, LN1], KN0, bu, 0)) (u : va_W) (H : Heap) (locs : List Loc) (ls : Array Slot), clS G lq u (LN1, [LN0, LN1], KN0, bu, 0) → va_P G.1 vwCl (u ++ X) H → va_D A (u ++ X) → va_S A s.heap H locs → lv_has ls 2 [(0, .ref lq)] → W p l e ({ frames := 11, cells := 60, slots := 9000, locals := 330 } : Room) s m args below meth c H locs 37 5298 Q (F0 m 403 ls [])) : W p l e ({ frames := 11, cells := 60, slots := 9000, locals := 330 } : Room) s m args below meth c H locs 25 3714 Q (F0 m 245 ls []) := by
  have hx := F.1
  have hb := F.2.1
  have hts := F.2.2.2.2.2.2.1
  have hown : s.vm.findClass RL = some m.cls := F.2.2.2.2.2.1
  refine lv_aload_n hx hb dL_texts_245 rfl (lv_at hl 0 rfl) ?_
  refine lqV (own := RL) (index := 204) (bytes := cX3_clearBuffer) (n := 0) (As := []) (rest := []) (c2 := 25) (s2 := 3714) F ((K_clearBuffer l G lq (LN0, [], KN0, bu, bl) hS9).r (congrArg nI (show bl = 4 from hT.1))) hC gL_texts_X3_clearBuffer rfl rfl rfl rfl (by decide +kernel) rfl ⟨Nat.le_of_ble_eq_true rfl, Nat.le_of_ble_eq_true rfl⟩ hP hD hS rfl hl.1 (Nat.le_of_ble_eq_true rfl) dL_texts_246 ⟨Nat.le_of_ble_eq_true rfl, Nat.le_of_ble_eq_true rfl⟩ ⟨Nat.le_of_ble_eq_true rfl, Nat.le_of_ble_eq_true rfl⟩ (fun u246 H locs hC hP hD hS => ?_)
  have hS9 : spS (LN0, [], KN0, bu, 0) := spS_bl0 hS9
  have hC : clS G lq u246 (LN0, [], KN0, bu, 0) := hC
  have hT := txt_0 bu
  refine lv_iconst (v := nI 4) hx hb dL_texts_249 (by decide) ?_
  refine bIF_ne (tgt := 401) hx hb dL_texts_250 (by decide) (by decide) ?_
  refine lv_aload_n hx hb dL_texts_253 rfl (lv_at hl 0 rfl) ?_
  refine lv_ldc2 (own := RL) (v := 7449342152820210530) hx hb hown (hts (.constantLong RL 258 (7449342152820210530)) (by decide +kernel)) dL_texts_254 ?_
  refine lqS (own := RL) (index := 207) (bytes := cL_types) (n := 2) (As := [.long 7449342152820210530]) (rest := []) (c2 := 25) (s2 := 3714) F hZ (c_types l G lq (LN0, [], KN0, bu, 0) 7449342152820210530 (lf [103, 97, 97, 56, 61, 49, 59, 98]) hS9 (by decide +kernel) (by decide) (by rw [show ((LN0, [], KN0, bu, 0) : SpT).2.2.2.2 = 0 from hT.1]; decide)) hC gL_texts_L_types rfl rfl rfl rfl (by decide +kernel) rfl ⟨Nat.le_of_ble_eq_true rfl, Nat.le_of_ble_eq_true rfl⟩ hP hD hS rfl hl.1 (Nat.le_of_ble_eq_true rfl) dL_texts_257 ⟨Nat.le_of_ble_eq_true rfl, Nat.le_of_ble_eq_true rfl⟩ ⟨Nat.le_of_ble_eq_true rfl, Nat.le_of_ble_eq_true rfl⟩ (fun u257 H locs hC hP hD hS => ?_)
  have hS9 := (tyS_sp (cs := lf [103, 97, 97, 56, 61, 49, 59, 98]) hS9 (by decide) (by rw [show ((LN0, [], KN0, bu, 0) : SpT).2.2.2.2 = 0 from hT.1]; decide) 8 (Nat.le_refl _)).1
  obtain ⟨bu1, bl1, hE, hT⟩ := ty_txt (S := (LN0, [], KN0, bu, 0)) (cs := lf [103, 97, 97, 56, 61, 49, 59, 98]) hT
  rw [hE] at hC hS9
  have hC : clS G lq u257 (LN0, [], KN0, bu1, bl1) := hC
  have hS9 : spS (LN0, [], KN0, bu1, bl1) := hS9
  have hT : txt bu1 bl1 [103, 97, 97, 56, 61, 49, 59, 98] := hT
  clear hE
  refine bZF_eq (tgt := 401) hx hb dL_texts_260 (by decide) (by decide) ?_
  refine lv_aload_n hx hb dL_texts_263 rfl (lv_at hl 0 rfl) ?_
  refine lv_ldc2 (own := RL) (v := 3704607872327957364) hx hb hown (hts (.constantLong RL 260 (3704607872327957364)) (by decide +kernel)) dL_texts_264 ?_
  refine lqS (own := RL) (index := 207) (bytes := cL_types) (n := 2) (As := [.long 3704607872327957364]) (rest := []) (c2 := 25) (s2 := 3714) F hZ (c_types l G lq (LN0, [], KN0, bu1, bl1) 3704607872327957364 (lf [51, 105, 105, 59, 102, 57, 59, 116]) hS9 (by decide +kernel) (by decide) (by rw [show ((LN0, [], KN0, bu1, bl1) : SpT).2.2.2.2 = 8 from hT.1]; decide)) hC gL_texts_L_types rfl rfl rfl rfl (by decide +kernel) rfl ⟨Nat.le_of_ble_eq_true rfl, Nat.le_of_ble_eq_true rfl⟩ hP hD hS rfl hl.1 (Nat.le_of_ble_eq_true rfl) dL_texts_267 ⟨Nat.le_of_ble_eq_true rfl, Nat.le_of_ble_eq_true rfl⟩ ⟨Nat.le_of_ble_eq_true rfl, Nat.le_of_ble_eq_true rfl⟩ (fun u267 H locs hC hP hD hS => ?_)
  have hS9 := (tyS_sp (cs := lf [51, 105, 105, 59, 102, 57, 59, 116]) hS9 (by decide) (by rw [show ((LN0, [], KN0, bu1, bl1) : SpT).2.2.2.2 = 8 from hT.1]; decide) 8 (Nat.le_refl _)).1
  obtain ⟨bu2, bl2, hE, hT⟩ := ty_txt (S := (LN0, [], KN0, bu1, bl1)) (cs := lf [51, 105, 105, 59, 102, 57, 59, 116]) hT
  rw [hE] at hC hS9
  have hC : clS G lq u267 (LN0, [], KN0, bu2, bl2) := hC
  have hS9 : spS (LN0, [], KN0, bu2, bl2) := hS9
  have hT : txt bu2 bl2 [103, 97, 97, 56, 61, 49, 59, 98, 51, 105, 105, 59, 102, 57, 59, 116] := hT
  clear hE
  refine bZF_eq (tgt := 401) hx hb dL_texts_270 (by decide) (by decide) ?_
  refine lv_aload_n hx hb dL_texts_273 rfl (lv_at hl 0 rfl) ?_
  refine lqV (own := RL) (index := 38) (bytes := cX3_carryOut) (n := 0) (As := []) (rest := []) (c2 := 29) (s2 := 4242) F (K_carryOut l G lq (LN0, [], KN0, bu2, bl2) (tb tT1, tbH tH0, tbC tC0, 0, 0, 0) 1 hS9 (txt_end hT (by decide +kernel)) (fun s9 _ _ => ob_0 hT s9)) hC gL_texts_X3_carryOut rfl rfl rfl rfl (by decide +kernel) rfl ⟨Nat.le_of_ble_eq_true rfl, Nat.le_of_ble_eq_true rfl⟩ hP hD hS rfl hl.1 (Nat.le_of_ble_eq_true rfl) dL_texts_274 ⟨Nat.le_of_ble_eq_true rfl, Nat.le_of_ble_eq_true rfl⟩ ⟨Nat.le_of_ble_eq_true rfl, Nat.le_of_ble_eq_true rfl⟩ (fun u274 H locs hC hP hD hS => ?_)
  have hS9 : spS (LN1, [LN0], KN0, bu2, 0) := spS_bl0 (spS_push hS9 ok1)
  have hC : clS G lq u274 (LN1, [LN0], KN0, bu2, 0) := hC
  have hT := txt_0 bu2
  refine lv_iconst (v := nI 1) hx hb dL_texts_277 (by decide) ?_
  refine bIF_ne (tgt := 401) hx hb dL_texts_278 (by decide) (by decide) ?_
  refine lv_aload_n hx hb dL_texts_281 rfl (lv_at hl 0 rfl) ?_
  refine lqV (own := RL) (index := 262) (bytes := cX3_bufferLength) (n := 0) (As := []) (rest := []) (c2 := 29) (s2 := 4242) F ((K_bufferLength l G lq (LN1, [LN0], KN0, bu2, 0) hS9).r (show _ = nI 0 from rfl)) hC gL_texts_X3_bufferLength rfl rfl rfl rfl (by decide +kernel) rfl ⟨Nat.le_of_ble_eq_true rfl, Nat.le_of_ble_eq_true rfl⟩ hP hD hS rfl hl.1 (Nat.le_of_ble_eq_true rfl) dL_texts_282 ⟨Nat.le_of_ble_eq_true rfl, Nat.le_of_ble_eq_true rfl⟩ ⟨Nat.le_of_ble_eq_true rfl, Nat.le_of_ble_eq_true rfl⟩ (fun u282 H locs hC hP hD hS => ?_)
  refine bZF_ne (tgt := 401) hx hb dL_texts_285 (by decide) (by decide) ?_
  refine lv_aload_n hx hb dL_texts_288 rfl (lv_at hl 0 rfl) ?_
  refine lqV (own := RL) (index := 128) (bytes := cX3_plots) (n := 0) (As := []) (rest := []) (c2 := 29) (s2 := 4242) F (q_1_plots l G lq ([LN0]) KN0 bu2 0 hS9) hC gL_texts_X3_plots rfl rfl rfl rfl (by decide +kernel) rfl ⟨Nat.le_of_ble_eq_true rfl, Nat.le_of_ble_eq_true rfl⟩ hP hD hS rfl hl.1 (Nat.le_of_ble_eq_true rfl) dL_texts_289 ⟨Nat.le_of_ble_eq_true rfl, Nat.le_of_ble_eq_true rfl⟩ ⟨Nat.le_of_ble_eq_true rfl, Nat.le_of_ble_eq_true rfl⟩ (fun u289 H locs hC hP hD hS => ?_)
  refine lv_iconst (v := nI 4) hx hb dL_texts_292 (by decide) ?_
  refine bIF_ne (tgt := 401) hx hb dL_texts_293 (by decide) (by decide) ?_
  refine lv_aload_n hx hb dL_texts_296 rfl (lv_at hl 0 rfl) ?_
  refine lv_ldc2 (own := RL) (v := 113672235138353) hx hb hown (hts (.constantLong RL 265 (113672235138353)) (by decide +kernel)) dL_texts_297 ?_
  refine lqS (own := RL) (index := 207) (bytes := cL_types) (n := 2) (As := [.long 113672235138353]) (rest := []) (c2 := 29) (s2 := 4242) F hZ (c_types l G lq (LN1, [LN0], KN0, bu2, 0) 113672235138353 (lf [0, 0, 103, 98, 97, 50, 61, 49]) hS9 (by decide +kernel) (by decide) (by rw [show ((LN1, [LN0], KN0, bu2, 0) : SpT).2.2.2.2 = 0 from hT.1]; decide)) hC gL_texts_L_types rfl rfl rfl rfl (by decide +kernel) rfl ⟨Nat.le_of_ble_eq_true rfl, Nat.le_of_ble_eq_true rfl⟩ hP hD hS rfl hl.1 (Nat.le_of_ble_eq_true rfl) dL_texts_300 ⟨Nat.le_of_ble_eq_true rfl, Nat.le_of_ble_eq_true rfl⟩ ⟨Nat.le_of_ble_eq_true rfl, Nat.le_of_ble_eq_true rfl⟩ (fun u300 H locs hC hP hD hS => ?_)
  have hS9 := (tyS_sp (cs := lf [0, 0, 103, 98, 97, 50, 61, 49]) hS9 (by decide) (by rw [show ((LN1, [LN0], KN0, bu2, 0) : SpT).2.2.2.2 = 0 from hT.1]; decide) 8 (Nat.le_refl _)).1
  obtain ⟨bu3, bl3, hE, hT⟩ := ty_txt (S := (LN1, [LN0], KN0, bu2, 0)) (cs := lf [0, 0, 103, 98, 97, 50, 61, 49]) hT
  rw [hE] at hC hS9
  have hC : clS G lq u300 (LN1, [LN0], KN0, bu3, bl3) := hC
  have hS9 : spS (LN1, [LN0], KN0, bu3, bl3) := hS9
  have hT : txt bu3 bl3 [103, 98, 97, 50, 61, 49] := hT
  clear hE
  refine bZF_eq (tgt := 401) hx hb dL_texts_303 (by decide) (by decide) ?_
  refine lv_aload_n hx hb dL_texts_306 rfl (lv_at hl 0 rfl) ?_
  refine lqV (own := RL) (index := 38) (bytes := cX3_carryOut) (n := 0) (As := []) (rest := []) (c2 := 33) (s2 := 4770) F (K_carryOut l G lq (LN1, [LN0], KN0, bu3, bl3) (tb tT1, tbH tH0, tbC tC0, 0, 0, 0) 0 hS9 (txt_end hT (by decide +kernel)) (fun s9 _ _ => ob_1 hT s9)) hC gL_texts_X3_carryOut rfl rfl rfl rfl (by decide +kernel) rfl ⟨Nat.le_of_ble_eq_true rfl, Nat.le_of_ble_eq_true rfl⟩ hP hD hS rfl hl.1 (Nat.le_of_ble_eq_true rfl) dL_texts_307 ⟨Nat.le_of_ble_eq_true rfl, Nat.le_of_ble_eq_true rfl⟩ ⟨Nat.le_of_ble_eq_true rfl, Nat.le_of_ble_eq_true rfl⟩ (fun u307 H locs hC hP hD hS => ?_)
  have hS9 : spS (LN1, [LN0, LN1], KN0, bu3, 0) := spS_bl0 (spS_push hS9 ok1)
  have hC : clS G lq u307 (LN1, [LN0, LN1], KN0, bu3, 0) := hC
  have hT := txt_0 bu3
  refine bZF_ne (tgt := 401) hx hb dL_texts_310 (by decide) (by decide) ?_
  refine lv_aload_n hx hb dL_texts_313 rfl (lv_at hl 0 rfl) ?_
  refine lv_ldc2 (own := RL) (v := 8241975657054943547) hx hb hown (hts (.constantLong RL 267 (8241975657054943547)) (by decide +kernel)) dL_texts_314 ?_
  refine lqS (own := RL) (index := 207) (bytes := cL_types) (n := 2) (As := [.long 8241975657054943547]) (rest := []) (c2 := 33) (s2 := 4770) F hZ (c_types l G lq (LN1, [LN0, LN1], KN0, bu3, 0) 8241975657054943547 (lf [114, 97, 97, 49, 54, 45, 57, 59]) hS9 (by decide +kernel) (by decide) (by rw [show ((LN1, [LN0, LN1], KN0, bu3, 0) : SpT).2.2.2.2 = 0 from hT.1]; decide)) hC gL_texts_L_types rfl rfl rfl rfl (by decide +kernel) rfl ⟨Nat.le_of_ble_eq_true rfl, Nat.le_of_ble_eq_true rfl⟩ hP hD hS rfl hl.1 (Nat.le_of_ble_eq_true rfl) dL_texts_317 ⟨Nat.le_of_ble_eq_true rfl, Nat.le_of_ble_eq_true rfl⟩ ⟨Nat.le_of_ble_eq_true rfl, Nat.le_of_ble_eq_true rfl⟩ (fun u317 H locs hC hP hD hS => ?_)
  have hS9 := (tyS_sp (cs := lf [114, 97, 97, 49, 54, 45, 57, 59]) hS9 (by decide) (by rw [show ((LN1, [LN0, LN1], KN0, bu3, 0) : SpT).2.2.2.2 = 0 from hT.1]; decide) 8 (Nat.le_refl _)).1
  obtain ⟨bu4, bl4, hE, hT⟩ := ty_txt (S := (LN1, [LN0, LN1], KN0, bu3, 0)) (cs := lf [114, 97, 97, 49, 54, 45, 57, 59]) hT
  rw [hE] at hC hS9
  have hC : clS G lq u317 (LN1, [LN0, LN1], KN0, bu4, bl4) := hC
  have hS9 : spS (LN1, [LN0, LN1], KN0, bu4, bl4) := hS9
  have hT : txt bu4 bl4 [114, 97, 97, 49, 54, 45, 57, 59] := hT
  clear hE
  refine bZF_eq (tgt := 401) hx hb dL_texts_320 (by decide) (by decide) ?_
  refine lv_aload_n hx hb dL_texts_323 rfl (lv_at hl 0 rfl) ?_
  refine lv_ldc2 (own := RL) (v := 1714502516) hx hb hown (hts (.constantLong RL 269 (1714502516)) (by decide +kernel)) dL_texts_324 ?_
  refine lqS (own := RL) (index := 207) (bytes := cL_types) (n := 2) (As := [.long 1714502516]) (rest := []) (c2 := 33) (s2 := 4770) F hZ (c_types l G lq (LN1, [LN0, LN1], KN0, bu4, bl4) 1714502516 (lf [0, 0, 0, 0, 102, 49, 59, 116]) hS9 (by decide +kernel) (by decide) (by rw [show ((LN1, [LN0, LN1], KN0, bu4, bl4) : SpT).2.2.2.2 = 8 from hT.1]; decide)) hC gL_texts_L_types rfl rfl rfl rfl (by decide +kernel) rfl ⟨Nat.le_of_ble_eq_true rfl, Nat.le_of_ble_eq_true rfl⟩ hP hD hS rfl hl.1 (Nat.le_of_ble_eq_true rfl) dL_texts_327 ⟨Nat.le_of_ble_eq_true rfl, Nat.le_of_ble_eq_true rfl⟩ ⟨Nat.le_of_ble_eq_true rfl, Nat.le_of_ble_eq_true rfl⟩ (fun u327 H locs hC hP hD hS => ?_)
  have hS9 := (tyS_sp (cs := lf [0, 0, 0, 0, 102, 49, 59, 116]) hS9 (by decide) (by rw [show ((LN1, [LN0, LN1], KN0, bu4, bl4) : SpT).2.2.2.2 = 8 from hT.1]; decide) 8 (Nat.le_refl _)).1
  obtain ⟨bu5, bl5, hE, hT⟩ := ty_txt (S := (LN1, [LN0, LN1], KN0, bu4, bl4)) (cs := lf [0, 0, 0, 0, 102, 49, 59, 116]) hT
  rw [hE] at hC hS9
  have hC : clS G lq u327 (LN1, [LN0, LN1], KN0, bu5, bl5) := hC
  have hS9 : spS (LN1, [LN0, LN1], KN0, bu5, bl5) := hS9
  have hT : txt bu5 bl5 [114, 97, 97, 49, 54, 45, 57, 59, 102, 49, 59, 116] := hT
  clear hE
  refine bZF_eq (tgt := 401) hx hb dL_texts_330 (by decide) (by decide) ?_
  refine lv_aload_n hx hb dL_texts_333 rfl (lv_at hl 0 rfl) ?_
  refine lqV (own := RL) (index := 38) (bytes := cX3_carryOut) (n := 0) (As := []) (rest := []) (c2 := 37) (s2 := 5298) F (K_carryOut l G lq (LN1, [LN0, LN1], KN0, bu5, bl5) (tb tT0, tbH tH3, tbC tC0, 0, 1, 0) 3 hS9 (txt_end hT (by decide +kernel)) (fun s9 _ _ => ob_2 hT s9)) hC gL_texts_X3_carryOut rfl rfl rfl rfl (by decide +kernel) rfl ⟨Nat.le_of_ble_eq_true rfl, Nat.le_of_ble_eq_true rfl⟩ hP hD hS rfl hl.1 (Nat.le_of_ble_eq_true rfl) dL_texts_334 ⟨Nat.le_of_ble_eq_true rfl, Nat.le_of_ble_eq_true rfl⟩ ⟨Nat.le_of_ble_eq_true rfl, Nat.le_of_ble_eq_true rfl⟩ (fun u334 H locs hC hP hD hS => ?_)
  have hS9 : spS (LN18, [LN0, LN1, LN1], KN0, bu5, 0) := spS_bl0 (spS_push hS9 ok18)
  have hC : clS G lq u334 (LN18, [LN0, LN1, LN1], KN0, bu5, 0) := hC
  have hT := txt_0 bu5
  refine lv_iconst (v := nI 3) hx hb dL_texts_337 (by decide) ?_
  refine bIF_ne (tgt := 401) hx hb dL_texts_338 (by decide) (by decide) ?_
  refine lv_aload_n hx hb dL_texts_341 rfl (lv_at hl 0 rfl) ?_
  refine lqD (own := RL) (index := 190) (bytes := cX3_meanHeight) (n := 0) (As := []) (rest := []) (c2 := 37) (s2 := 5298) F (q_18_meanHeight l G lq ([LN0, LN1, LN1]) KN0 bu5 0 hS9) hC gL_texts_X3_meanHeight rfl rfl rfl rfl (by decide +kernel) rfl ⟨Nat.le_of_ble_eq_true rfl, Nat.le_of_ble_eq_true rfl⟩ hP hD hS rfl hl.1 (Nat.le_of_ble_eq_true rfl) dL_texts_342 ⟨Nat.le_of_ble_eq_true rfl, Nat.le_of_ble_eq_true rfl⟩ ⟨Nat.le_of_ble_eq_true rfl, Nat.le_of_ble_eq_true rfl⟩ (fun u342 H locs hC hP hD hS => ?_)
  refine lv_dconst0 hx hb dL_texts_345 ?_
  refine lv_dcmp hx hb dL_texts_346 ?_
  refine W.eq (g2 := F0 m 347 ls [.int (nI 0)]) (congrArg (fun v_ => F0 m 347 ls [v_]) (show (.int (Op.cmpValue (FP.dcmp 0 FP.dconst0) .l) : Value) = .int (nI 0) from congrArg Value.int (by decide +kernel))) ?_
  refine bZF_ne (tgt := 401) hx hb dL_texts_347 (by decide) (by decide) ?_
  refine lv_aload_n hx hb dL_texts_350 rfl (lv_at hl 0 rfl) ?_
  refine lqV (own := RL) (index := 140) (bytes := cX3_floods) (n := 0) (As := []) (rest := []) (c2 := 37) (s2 := 5298) F (q_18_floods l G lq ([LN0, LN1, LN1]) KN0 bu5 0 hS9) hC gL_texts_X3_floods rfl rfl rfl rfl (by decide +kernel) rfl ⟨Nat.le_of_ble_eq_true rfl, Nat.le_of_ble_eq_true rfl⟩ hP hD hS rfl hl.1 (Nat.le_of_ble_eq_true rfl) dL_texts_351 ⟨Nat.le_of_ble_eq_true rfl, Nat.le_of_ble_eq_true rfl⟩ ⟨Nat.le_of_ble_eq_true rfl, Nat.le_of_ble_eq_true rfl⟩ (fun u351 H locs hC hP hD hS => ?_)
  refine lv_iconst (v := nI 1) hx hb dL_texts_354 (by decide) ?_
  refine bIF_ne (tgt := 401) hx hb dL_texts_355 (by decide) (by decide) ?_
  refine lv_aload_n hx hb dL_texts_358 rfl (lv_at hl 0 rfl) ?_
  refine lqV (own := RL) (index := 128) (bytes := cX3_plots) (n := 0) (As := []) (rest := []) (c2 := 37) (s2 := 5298) F (q_18_plots l G lq ([LN0, LN1, LN1]) KN0 bu5 0 hS9) hC gL_texts_X3_plots rfl rfl rfl rfl (by decide +kernel) rfl ⟨Nat.le_of_ble_eq_true rfl, Nat.le_of_ble_eq_true rfl⟩ hP hD hS rfl hl.1 (Nat.le_of_ble_eq_true rfl) dL_texts_359 ⟨Nat.le_of_ble_eq_true rfl, Nat.le_of_ble_eq_true rfl⟩ ⟨Nat.le_of_ble_eq_true rfl, Nat.le_of_ble_eq_true rfl⟩ (fun u359 H locs hC hP hD hS => ?_)
  refine lv_iconst (v := nI 1) hx hb dL_texts_362 (by decide) ?_
  refine bIF_ne (tgt := 401) hx hb dL_texts_363 (by decide) (by decide) ?_
  refine lv_aload_n hx hb dL_texts_366 rfl (lv_at hl 0 rfl) ?_
  refine lqV (own := RL) (index := 174) (bytes := cX3_savedStates) (n := 0) (As := []) (rest := []) (c2 := 37) (s2 := 5298) F ((K_savedStates l G lq (LN18, [LN0, LN1, LN1], KN0, bu5, 0) hS9).r (congrArg nI (rfl : [LN0, LN1, LN1].length = 3))) hC gL_texts_X3_savedStates rfl rfl rfl rfl (by decide +kernel) rfl ⟨Nat.le_of_ble_eq_true rfl, Nat.le_of_ble_eq_true rfl⟩ hP hD hS rfl hl.1 (Nat.le_of_ble_eq_true rfl) dL_texts_367 ⟨Nat.le_of_ble_eq_true rfl, Nat.le_of_ble_eq_true rfl⟩ ⟨Nat.le_of_ble_eq_true rfl, Nat.le_of_ble_eq_true rfl⟩ (fun u367 H locs hC hP hD hS => ?_)
  refine lv_iconst (v := nI 3) hx hb dL_texts_370 (by decide) ?_
  refine bIF_ne (tgt := 401) hx hb dL_texts_371 (by decide) (by decide) ?_
  refine lv_aload_n hx hb dL_texts_374 rfl (lv_at hl 0 rfl) ?_
  refine lqV (own := RL) (index := 42) (bytes := cX3_undo) (n := 0) (As := []) (rest := []) (c2 := 37) (s2 := 5298) F ((K_undo l G lq (LN18, [LN0, LN1, LN1], KN0, bu5, 0) [LN0, LN1] LN1 hS9 rfl).r (congrArg nI (rfl : [LN0, LN1].length = 2))) hC gL_texts_X3_undo rfl rfl rfl rfl (by decide +kernel) rfl ⟨Nat.le_of_ble_eq_true rfl, Nat.le_of_ble_eq_true rfl⟩ hP hD hS rfl hl.1 (Nat.le_of_ble_eq_true rfl) dL_texts_375 ⟨Nat.le_of_ble_eq_true rfl, Nat.le_of_ble_eq_true rfl⟩ ⟨Nat.le_of_ble_eq_true rfl, Nat.le_of_ble_eq_true rfl⟩ (fun u375 H locs hC hP hD hS => ?_)
  have hS9 := spS_undo (SL := [LN0, LN1]) (c := LN1) hS9 rfl
  have hC : clS G lq u375 (LN1, [LN0, LN1], KN0, bu5, 0) := hC
  have hS9 : spS (LN1, [LN0, LN1], KN0, bu5, 0) := hS9
  refine lv_iconst (v := nI 2) hx hb dL_texts_378 (by decide) ?_
  refine bIF_ne (tgt := 401) hx hb dL_texts_379 (by decide) (by decide) ?_
  refine lv_aload_n hx hb dL_texts_382 rfl (lv_at hl 0 rfl) ?_
  refine lqV (own := RL) (index := 128) (bytes := cX3_plots) (n := 0) (As := []) (rest := []) (c2 := 37) (s2 := 5298) F (q_1_plots l G lq ([LN0, LN1]) KN0 bu5 0 hS9) hC gL_texts_X3_plots rfl rfl rfl rfl (by decide +kernel) rfl ⟨Nat.le_of_ble_eq_true rfl, Nat.le_of_ble_eq_true rfl⟩ hP hD hS rfl hl.1 (Nat.le_of_ble_eq_true rfl) dL_texts_383 ⟨Nat.le_of_ble_eq_true rfl, Nat.le_of_ble_eq_true rfl⟩ ⟨Nat.le_of_ble_eq_true rfl, Nat.le_of_ble_eq_true rfl⟩ (fun u383 H locs hC hP hD hS => ?_)
  refine lv_iconst (v := nI 4) hx hb dL_texts_386 (by decide) ?_
  refine bIF_ne (tgt := 401) hx hb dL_texts_387 (by decide) (by decide) ?_
  refine lv_aload_n hx hb dL_texts_390 rfl (lv_at hl 0 rfl) ?_
  refine lqD (own := RL) (index := 190) (bytes := cX3_meanHeight) (n := 0) (As := []) (rest := []) (c2 := 37) (s2 := 5298) F (q_1_meanHeight l G lq ([LN0, LN1]) KN0 bu5 0 hS9) hC gL_texts_X3_meanHeight rfl rfl rfl rfl (by decide +kernel) rfl ⟨Nat.le_of_ble_eq_true rfl, Nat.le_of_ble_eq_true rfl⟩ hP hD hS rfl hl.1 (Nat.le_of_ble_eq_true rfl) dL_texts_391 ⟨Nat.le_of_ble_eq_true rfl, Nat.le_of_ble_eq_true rfl⟩ ⟨Nat.le_of_ble_eq_true rfl, Nat.le_of_ble_eq_true rfl⟩ (fun u391 H locs hC hP hD hS => ?_)
  refine lv_ldc2d (own := RL) (v := 4617315517961601024) hx hb hown (hts (.constantDouble RL 194 (4617315517961601024)) (by decide +kernel)) dL_texts_394 ?_
  refine lv_dcmp hx hb dL_texts_397 ?_
  refine W.eq (g2 := F0 m 398 ls [.int (nI 0)]) (congrArg (fun v_ => F0 m 398 ls [v_]) (show (.int (Op.cmpValue (FP.dcmp 4617315517961601024 4617315517961601024) .l) : Value) = .int (nI 0) from congrArg Value.int (by decide +kernel))) ?_
  refine bZT_eq (tgt := 403) hx hb dL_texts_398 (by decide) (by decide) ?_
  exact kk bu5 hS9 u391 H locs ls hC hP hD hS (lv_sub hl [0] rfl)

set_option maxHeartbeats 8000000 in
set_option maxRecDepth 100000 in
theorem c_texts (l : Launch) (G : gG)  (hl9 : l.stackTraces = false) : LN l G yL_texts wsL_texts { frames := 11, cells := 60, slots := 9000, locals := 330 } [] (fun r => r = nI 1) 60 9000 := by
  refine gMetP_mk (cc := cL_texts) (nL := 2) (ret := some .boolean) (Qc := fun A => va_Qi (S := Unit) (fun r _ => r = nI 1) (gB G A (fun _ => [])) A) (by decide) rfl (Nat.le_of_ble_eq_true rfl) ?_
  intro p e s m args below meth c A F hZ ls hl hP hD hS
  have hx := F.1
  have hb := F.2.1
  have hts := F.2.2.2.2.2.2.1
  have hown : s.vm.findClass RL = some m.cls := F.2.2.2.2.2.1
  have hKK := F.2.2.2.2.2.2.2.2.1
  have hl : lv_has ls 2 [] := hl
  generalize hH : s.heap = H at hP ⊢
  have hS0 : va_S A s.heap H [] := by rw [← hH]; exact va_S.rf
  clear hS
  have hS := hS0
  clear hS0
  generalize hLo : ([] : List Loc) = locs at hS ⊢
  have hi3 : ∀ w ∈ u_ws RX3 TX3 9, w ∈ wsL_texts := by decide +kernel
  refine va_new (ci := 3) (fs := [.null, .null, .null, .null, .int (nI 0), .null, .null, .int (nI 0), .null]) (C := RX3) (T := TX3) (N := 9) hx hb hts hi3 tyX3 tyX3_ok hown (hts (.classLink RL 10 RX3) (by decide +kernel)) (hts (.instantiable RX3 9) (by decide +kernel)) (hts (.initialized RX3) (by decide +kernel)) hKK.1 hP hD hS F.2.2.2.2.2.2.2.2.2 rfl (gDef3) (Nat.le_of_ble_eq_true rfl) (Nat.le_of_ble_eq_true rfl) dL_texts_0 (fun lq H hP hD hS => ?_)
  have hP : va_P G.1 vwCl [(lq, .inr (3, [.null, .null, .null, .null, .int (nI 0), .null, .null, .int (nI 0), .null]))] H := hP
  have hD : va_D A [(lq, .inr (3, [.null, .null, .null, .null, .int (nI 0), .null, .null, .int (nI 0), .null]))] := hD
  refine lv_dup hx hb dL_texts_3 rfl ?_
  refine gCv F (gRunI (own := RL) (bytes := cX3_init) (n := 0) (As := []) (rest := [.ref lq]) F (K_init l G lq H.size) ggL_texts_X3_init (by decide +kernel) (by decide +kernel) (by decide +kernel) rfl rfl rfl rfl rfl (by decide +kernel) rfl ⟨Nat.le_of_ble_eq_true rfl, Nat.le_of_ble_eq_true rfl⟩ hP hD (lit := [(lq, .inr (3, [.null, .null, .null, .null, .int (nI 0), .null, .null, .int (nI 0), .null]))]) (wt := []) (wc := [(lq, .inr (3, [.null, .null, .null, .null, .int (nI 0), .null, .null, .int (nI 0), .null]))]) (isC := [0]) rfl (by decide) rfl hl.1 (Nat.le_of_ble_eq_true rfl) dL_texts_4 ⟨Nat.le_of_ble_eq_true rfl, Nat.le_of_ble_eq_true rfl⟩) hP hD hS (lit := [(lq, .inr (3, [.null, .null, .null, .null, .int (nI 0), .null, .null, .int (nI 0), .null]))]) (wt := []) (wc := [(lq, .inr (3, [.null, .null, .null, .null, .int (nI 0), .null, .null, .int (nI 0), .null]))]) (isC := [0]) (wr := []) (isR := []) rfl rfl (by decide) (by decide) (fun u H locs hC0 hP hD hS => ?_)
  have hP : va_P G.1 vwCl (u ++ []) H := hP
  have hD : va_D A (u ++ []) := hD
  have hC : clS G lq u (LN0, [], KN0, BU0, 0) := S00_eq ▸ hC0
  have hS9 : spS (LN0, [], KN0, BU0, 0) := S00_eq ▸ S00_sp
  refine W.widen (k := 25) (n := 3714) (Nat.le_of_ble_eq_true rfl) (Nat.le_of_ble_eq_true rfl) ?_
  refine lv_astore_n (lv' := [(0, .ref lq)]) hx hb dL_texts_7 rfl hl (by decide) rfl (fun ls hl => ?_)
  have hT := txt_0 BU0
  refine te_0 BU0 0 hS9 F hZ hC hP hD hS hl (fun bu bl hS9 hT u H locs ls hC hP hD hS hl => ?_)
  refine te_1 bu bl hS9 F hZ hC hP hD hS hl (fun bu bl hS9 hT u H locs ls hC hP hD hS hl => ?_)
  refine te_2 bu bl hS9 F hZ hC hP hD hS hl (fun bu bl hS9 hT u H locs ls hC hP hD hS hl => ?_)
  refine te_3 bu bl hS9 F hZ hC hP hD hS hl (fun bu bl hS9 hT u H locs ls hC hP hD hS hl => ?_)
  refine te_4 bu bl hS9 hT F hZ hC hP hD hS hl (fun bu hS9 u H locs ls hC hP hD hS hl => ?_)
  refine lv_iconst (v := nI 0) hx hb dL_texts_403 (by decide) ?_
  refine lv_istore_n (lv' := [(1, .int (nI 0)), (0, .ref lq)]) hx hb dL_texts_404 rfl hl (by decide) rfl (fun ls hl => ?_)
  have loop : ∀ (n k : Nat), k + n = 60 → ∀ (bu : Nat → Nat), spS (LN1, [LN0, LN1], KN0, bu, k) → (∀ i, i < k → bu i = if i % 2 = 0 then 116 else 59) → ∀ (u : va_W) (H : Heap) (locs : List Loc) (ls : Array Slot), clS G lq u (LN1, [LN0, LN1], KN0, bu, k) → va_P G.1 vwCl (u ++ []) H → va_D A (u ++ []) → va_S A s.heap H locs → lv_has ls 2 [(1, .int (nI k)), (0, .ref lq)] → W p l e ({ frames := 11, cells := 60, slots := 9000, locals := 330 } : Room) s m args below meth c H locs 37 5298 (MQ below (va_Qi (S := Unit) (fun r _ => r = nI 1) (gB G A (fun _ => [])) A) args s 60 9000 A) (F0 m 405 ls []) := by
    intro n
    induction n with
    | zero =>
      intro k hk bu hS9 hA u H locs ls hC hP hD hSv hl
      obtain rfl : k = 60 := by omega
      have hS := hSv
      refine lv_iload_n hx hb dL_texts_405 rfl (lv_at hl 0 rfl) ?_
      refine lv_bipush (v := nI 60) hx hb dL_texts_406 (by decide) ?_
      refine bIT_ge (tgt := 452) hx hb dL_texts_408 (by decide) (by decide) ?_
      refine lv_aload_n hx hb dL_texts_452 rfl (lv_at hl 1 rfl) ?_
      refine lv_bipush (v := nI 7) hx hb dL_texts_453 (by decide) ?_
      refine lv_bipush (v := nI 116) hx hb dL_texts_455 (by decide) ?_
      refine lv_iconst (v := nI 0) hx hb dL_texts_457 (by decide) ?_
      refine lv_iconst (v := nI 0) hx hb dL_texts_458 (by decide) ?_
      refine lv_iconst (v := nI 0) hx hb dL_texts_459 (by decide) ?_
      refine lqSW (own := RL) (index := 150) (bytes := cL_call) (n := 6) (As := [.int (nI 7), .int (nI 116), .int (nI 0), .int (nI 0), .int (nI 0)]) (rest := []) (c2 := 41) (s2 := 5826) F hZ (call_7 l G lq (LN1, [LN0, LN1], KN0, bu, 60) (LN1, [LN0, LN1], KN0, bu, 60) (nI 116) (nI 0) (nI 0) (nI 0) (-2013) (DoV.x (KX2_append l G lq (LN1, [LN0, LN1], KN0, bu, 60) 116 hS9 rfl (by decide) hl9) ⟨rfl, rfl, by decide, by decide, by decide, by decide⟩ exS)) hC gL_texts_L_call rfl rfl rfl rfl (by decide +kernel) rfl ⟨Nat.le_of_ble_eq_true rfl, Nat.le_of_ble_eq_true rfl⟩ hP hD hS rfl hl.1 (Nat.le_of_ble_eq_true rfl) dL_texts_460 ⟨Nat.le_of_ble_eq_true rfl, Nat.le_of_ble_eq_true rfl⟩ ⟨Nat.le_of_ble_eq_true rfl, Nat.le_of_ble_eq_true rfl⟩ (fun u460 H locs hC hP hD hS => ?_)
      refine lv_sipush (v := zI (-2013)) hx hb dL_texts_463 (by decide) ?_
      refine bIF_ne (tgt := 498) hx hb dL_texts_466 (by decide) (by decide) ?_
      refine lv_aload_n hx hb dL_texts_469 rfl (lv_at hl 1 rfl) ?_
      refine lv_bipush (v := nI 8) hx hb dL_texts_470 (by decide) ?_
      refine lv_iconst (v := nI 0) hx hb dL_texts_472 (by decide) ?_
      refine lv_iconst (v := nI 0) hx hb dL_texts_473 (by decide) ?_
      refine lv_iconst (v := nI 0) hx hb dL_texts_474 (by decide) ?_
      refine lv_iconst (v := nI 0) hx hb dL_texts_475 (by decide) ?_
      refine lqSW (own := RL) (index := 150) (bytes := cL_call) (n := 6) (As := [.int (nI 8), .int (nI 0), .int (nI 0), .int (nI 0), .int (nI 0)]) (rest := []) (c2 := 45) (s2 := 6354) F hZ (call_8 l G lq (LN1, [LN0, LN1], KN0, bu, 60) (LN1, [LN0, LN1], KN0, bu, 60) (nI 0) (nI 0) (nI 0) (nI 0) (-2012) (DoV.x (KX_carryOut l G lq (LN1, [LN0, LN1], KN0, bu, 60) hS9 (fun s h => absurd ((rd_end_ind bu s rg0 60).mp h).2 (by rw [alt_F hA 60 (Nat.le_refl _)]; decide)) hl9) ⟨rfl, rfl, by decide, by decide, by decide, by decide⟩ exA)) hC gL_texts_L_call rfl rfl rfl rfl (by decide +kernel) rfl ⟨Nat.le_of_ble_eq_true rfl, Nat.le_of_ble_eq_true rfl⟩ hP hD hS rfl hl.1 (Nat.le_of_ble_eq_true rfl) dL_texts_476 ⟨Nat.le_of_ble_eq_true rfl, Nat.le_of_ble_eq_true rfl⟩ ⟨Nat.le_of_ble_eq_true rfl, Nat.le_of_ble_eq_true rfl⟩ (fun u476 H locs hC hP hD hS => ?_)
      refine lv_sipush (v := zI (-2012)) hx hb dL_texts_479 (by decide) ?_
      refine bIF_ne (tgt := 498) hx hb dL_texts_482 (by decide) (by decide) ?_
      refine lv_aload_n hx hb dL_texts_485 rfl (lv_at hl 1 rfl) ?_
      refine lqV (own := RL) (index := 204) (bytes := cX3_clearBuffer) (n := 0) (As := []) (rest := []) (c2 := 45) (s2 := 6354) F ((K_clearBuffer l G lq (LN1, [LN0, LN1], KN0, bu, 60) hS9).r (show _ = nI 60 from rfl)) hC gL_texts_X3_clearBuffer rfl rfl rfl rfl (by decide +kernel) rfl ⟨Nat.le_of_ble_eq_true rfl, Nat.le_of_ble_eq_true rfl⟩ hP hD hS rfl hl.1 (Nat.le_of_ble_eq_true rfl) dL_texts_486 ⟨Nat.le_of_ble_eq_true rfl, Nat.le_of_ble_eq_true rfl⟩ ⟨Nat.le_of_ble_eq_true rfl, Nat.le_of_ble_eq_true rfl⟩ (fun u486 H locs hC hP hD hS => ?_)
      refine lv_bipush (v := nI 60) hx hb dL_texts_489 (by decide) ?_
      refine bIF_ne (tgt := 498) hx hb dL_texts_491 (by decide) (by decide) ?_
      refine lv_iconst (v := nI 1) hx hb dL_texts_494 (by decide) ?_
      refine lv_goto (tgt := 499) hx hb dL_texts_495 (by decide) ?_
      exact gRi F dL_texts_499 (gNarZ (by decide)) () rfl (fun k q h => by simp at h) ⟨fun i j p q h => by simp at h, fun k q h => by simp at h⟩ hS (Nat.le_of_ble_eq_true rfl) (Nat.le_of_ble_eq_true rfl)
    | succ n ih =>
      intro k hk bu hS9 hA u H locs ls hC hP hD hSv hl
      have hS := hSv
      refine lv_iload_n hx hb dL_texts_405 rfl (lv_at hl 0 rfl) ?_
      refine lv_bipush (v := nI 60) hx hb dL_texts_406 (by decide) ?_
      refine bIF_ge (tgt := 452) hx hb dL_texts_408 (by decide) (fun h => absurd ((nI_leI (by omega) (by omega)).mp h) (by omega)) ?_
      refine lv_aload_n hx hb dL_texts_411 rfl (lv_at hl 1 rfl) ?_
      refine lv_iload_n hx hb dL_texts_412 rfl (lv_at hl 0 rfl) ?_
      refine lv_iconst (v := nI 2) hx hb dL_texts_413 (by decide) ?_
      refine gIrem (a := k) (b := 2) hx hb dL_texts_414 (by omega) (by omega) (by omega) ?_
      by_cases e9 : k % 2 = 0
      · skip
        refine bZF_ne (tgt := 423) hx hb dL_texts_415 (by decide) (by rw [e9]; rfl) ?_
        refine lv_bipush (v := nI 116) hx hb dL_texts_418 (by decide) ?_
        refine lv_goto (tgt := 425) hx hb dL_texts_420 (by decide) ?_
        refine lqV (own := RL) (index := 35) (bytes := cX3_append) (n := 1) (As := [.int (nI 116)]) (rest := []) (c2 := 37) (s2 := 5298) F (K_append l G lq (LN1, [LN0, LN1], KN0, bu, k) 116 hS9 (by show k < 60; omega) (by decide)) hC gL_texts_X3_append rfl rfl rfl rfl (by decide +kernel) rfl ⟨Nat.le_of_ble_eq_true rfl, Nat.le_of_ble_eq_true rfl⟩ hP hD hS rfl hl.1 (Nat.le_of_ble_eq_true rfl) dL_texts_425 ⟨Nat.le_of_ble_eq_true rfl, Nat.le_of_ble_eq_true rfl⟩ ⟨Nat.le_of_ble_eq_true rfl, Nat.le_of_ble_eq_true rfl⟩ (fun u425 H locs hC hP hD hS => ?_)
        have hC : clS G lq u425 (LN1, [LN0, LN1], KN0, (va_up bu k 116), k + 1) := hC
        have hS9 : spS (LN1, [LN0, LN1], KN0, (va_up bu k 116), k + 1) := alt_sp hS9 (by decide) (by show k < 60; omega)
        have hA := alt_up (c := 116) hA (by rw [if_pos e9])
        refine lv_iload_n hx hb dL_texts_428 rfl (lv_at hl 0 rfl) ?_
        refine lv_iconst (v := nI 1) hx hb dL_texts_429 (by decide) ?_
        refine gIadd (a := k) (b := 1) hx hb dL_texts_430 ?_
        refine bIF_ne (tgt := 444) hx hb dL_texts_431 (by decide) (rfl) ?_
        refine lv_aload_n hx hb dL_texts_434 rfl (lv_at hl 1 rfl) ?_
        refine lqV (own := RL) (index := 211) (bytes := cX3_firstError) (n := 0) (As := []) (rest := []) (c2 := 37) (s2 := 5298) F ((K_firstError l G lq (LN1, [LN0, LN1], KN0, (va_up bu k 116), k + 1) hS9).r (congrArg nI (alt_len hA))) hC gL_texts_X3_firstError rfl rfl rfl rfl (by decide +kernel) rfl ⟨Nat.le_of_ble_eq_true rfl, Nat.le_of_ble_eq_true rfl⟩ hP hD hS rfl hl.1 (Nat.le_of_ble_eq_true rfl) dL_texts_435 ⟨Nat.le_of_ble_eq_true rfl, Nat.le_of_ble_eq_true rfl⟩ ⟨Nat.le_of_ble_eq_true rfl, Nat.le_of_ble_eq_true rfl⟩ (fun u435 H locs hC hP hD hS => ?_)
        refine lv_iload_n hx hb dL_texts_438 rfl (lv_at hl 0 rfl) ?_
        refine lv_iconst (v := nI 1) hx hb dL_texts_439 (by decide) ?_
        refine gIadd (a := k) (b := 1) hx hb dL_texts_440 ?_
        refine bIT_eq (tgt := 446) hx hb dL_texts_441 (by decide) (rfl) ?_
        refine lv_iinc (v := nI (k + 1)) (lv' := [(1, .int (nI (k + 1))), (0, .ref lq)]) hx hb dL_texts_446 hl (k := 0) rfl (gInc_p _ rfl) (by decide) rfl (fun ls hl => ?_)
        refine lv_goto (tgt := 405) hx hb dL_texts_449 (by decide) ?_
        exact ih (k + 1) (by omega) (va_up bu k 116) hS9 hA u435 H locs ls hC hP hD hS (lv_sub hl [0, 1] rfl)
      · skip
        refine bZT_ne (tgt := 423) hx hb dL_texts_415 (by decide) (fun h => e9 (nI_inj0 (by omega) h)) ?_
        refine lv_bipush (v := nI 59) hx hb dL_texts_423 (by decide) ?_
        refine lqV (own := RL) (index := 35) (bytes := cX3_append) (n := 1) (As := [.int (nI 59)]) (rest := []) (c2 := 37) (s2 := 5298) F (K_append l G lq (LN1, [LN0, LN1], KN0, bu, k) 59 hS9 (by show k < 60; omega) (by decide)) hC gL_texts_X3_append rfl rfl rfl rfl (by decide +kernel) rfl ⟨Nat.le_of_ble_eq_true rfl, Nat.le_of_ble_eq_true rfl⟩ hP hD hS rfl hl.1 (Nat.le_of_ble_eq_true rfl) dL_texts_425 ⟨Nat.le_of_ble_eq_true rfl, Nat.le_of_ble_eq_true rfl⟩ ⟨Nat.le_of_ble_eq_true rfl, Nat.le_of_ble_eq_true rfl⟩ (fun u425 H locs hC hP hD hS => ?_)
        have hC : clS G lq u425 (LN1, [LN0, LN1], KN0, (va_up bu k 59), k + 1) := hC
        have hS9 : spS (LN1, [LN0, LN1], KN0, (va_up bu k 59), k + 1) := alt_sp hS9 (by decide) (by show k < 60; omega)
        have hA := alt_up (c := 59) hA (by rw [if_neg e9])
        refine lv_iload_n hx hb dL_texts_428 rfl (lv_at hl 0 rfl) ?_
        refine lv_iconst (v := nI 1) hx hb dL_texts_429 (by decide) ?_
        refine gIadd (a := k) (b := 1) hx hb dL_texts_430 ?_
        refine bIF_ne (tgt := 444) hx hb dL_texts_431 (by decide) (rfl) ?_
        refine lv_aload_n hx hb dL_texts_434 rfl (lv_at hl 1 rfl) ?_
        refine lqV (own := RL) (index := 211) (bytes := cX3_firstError) (n := 0) (As := []) (rest := []) (c2 := 37) (s2 := 5298) F ((K_firstError l G lq (LN1, [LN0, LN1], KN0, (va_up bu k 59), k + 1) hS9).r (congrArg nI (alt_len hA))) hC gL_texts_X3_firstError rfl rfl rfl rfl (by decide +kernel) rfl ⟨Nat.le_of_ble_eq_true rfl, Nat.le_of_ble_eq_true rfl⟩ hP hD hS rfl hl.1 (Nat.le_of_ble_eq_true rfl) dL_texts_435 ⟨Nat.le_of_ble_eq_true rfl, Nat.le_of_ble_eq_true rfl⟩ ⟨Nat.le_of_ble_eq_true rfl, Nat.le_of_ble_eq_true rfl⟩ (fun u435 H locs hC hP hD hS => ?_)
        refine lv_iload_n hx hb dL_texts_438 rfl (lv_at hl 0 rfl) ?_
        refine lv_iconst (v := nI 1) hx hb dL_texts_439 (by decide) ?_
        refine gIadd (a := k) (b := 1) hx hb dL_texts_440 ?_
        refine bIT_eq (tgt := 446) hx hb dL_texts_441 (by decide) (rfl) ?_
        refine lv_iinc (v := nI (k + 1)) (lv' := [(1, .int (nI (k + 1))), (0, .ref lq)]) hx hb dL_texts_446 hl (k := 0) rfl (gInc_p _ rfl) (by decide) rfl (fun ls hl => ?_)
        refine lv_goto (tgt := 405) hx hb dL_texts_449 (by decide) ?_
        exact ih (k + 1) (by omega) (va_up bu k 59) hS9 hA u435 H locs ls hC hP hD hS (lv_sub hl [0, 1] rfl)
  exact loop 60 0 rfl bu hS9 (fun i hi => absurd hi (Nat.not_lt_zero i)) u H locs ls hC hP hD hS (lv_sub hl [0, 1] rfl)
