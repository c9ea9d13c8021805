/-! OWN: refusesOne, in stretches -/
set_option maxHeartbeats 8000000 in
set_option maxRecDepth 100000 in
theorem rfs_0 {p : Program} {l : Launch} {e : Env} {s : State} {m : MethodId} {args : Array Value} {below : List Frame} {meth : Method} {c : Code} {H : Heap} {locs : List Loc} {Q : State → Prop} {G : gG} {A : Nat → Prop} {lq : Nat} {ls : Array Slot} {wv X : va_W} (S : SpT) (k : Nat) (hS9 : spS S) (hk : k < 4) (hl9 : l.stackTraces = false) (hb0 : S.2.2.2.2 = 0) (F : gAt p s m args meth c yL_refusesOne wsL_refusesOne cL_refusesOne 8 (some .boolean) G A) (hZ : gX A s s.heap) (hC : clS G lq wv S) (hP : va_P G.1 vwCl (wv ++ X) H) (hD : va_D A (wv ++ X)) (hS : va_S A s.heap H locs) (hl : lv_has ls 8 [(5, .int (zI (szv k))), (4, .int (zI (fr k 1 7))), (3, .int (zI (fr k 0 7))), (2, .int (zI (fr k 0 15))), (0, .ref lq), (1, .int (nI k))])
    (kk : ∀ (u : va_W) (H : Heap) (locs : List Loc) (ls : Array Slot), clS G lq u S → va_P G.1 vwCl (u ++ X) H → va_D A (u ++ X) → va_S A s.heap H locs → lv_has ls 8 [(5, .int (zI (szv k))), (4, .int (zI (fr k 1 7))), (3, .int (zI (fr k 0 7))), (2, .int (zI (fr k 0 15))), (0, .ref lq), (1, .int (nI k))] → W p l e ({ frames := 10, cells := 220, slots := 27500, locals := 260 } : Room) s m args below meth c H locs 36 4752 Q (F0 m 206 ls [])) : W p l e ({ frames := 10, cells := 220, slots := 27500, locals := 260 } : Room) s m args below meth c H locs 0 0 Q (F0 m 56 ls []) := by
  have hx := F.1
  have hb := F.2.1
  have hts := F.2.2.2.2.2.2.1
  have hown : s.vm.findClass RL = some m.cls := F.2.2.2.2.2.1
  refine lv_aload_n hx hb dL_refusesOne_56 rfl (lv_at hl 4 rfl) ?_
  refine lv_iconst (v := nI 0) hx hb dL_refusesOne_57 (by decide) ?_
  refine lv_iload_n hx hb dL_refusesOne_58 rfl (lv_at hl 3 rfl) ?_
  refine lv_iconst (v := nI 0) hx hb dL_refusesOne_59 (by decide) ?_
  refine lv_iconst (v := nI 3) hx hb dL_refusesOne_60 (by decide) ?_
  refine lv_iconst (v := nI 0) hx hb dL_refusesOne_61 (by decide) ?_
  refine lqSW (own := RL) (index := 150) (bytes := cL_call) (n := 6) (As := [.int (nI 0), .int (zI (fr k 0 15)), .int (nI 0), .int (nI 3), .int (nI 0)]) (rest := []) (c2 := 4) (s2 := 528) F hZ (call_0 l G lq S S (zI (fr k 0 15)) (nI 0) (nI 3) (nI 0) (-2011) (rf_62 l G lq S k hS9 hk hl9)) hC gL_refusesOne_L_call rfl rfl rfl rfl (by decide +kernel) rfl ⟨Nat.le_of_ble_eq_true rfl, Nat.le_of_ble_eq_true rfl⟩ hP hD hS rfl hl.1 (Nat.le_of_ble_eq_true rfl) dL_refusesOne_62 ⟨Nat.le_of_ble_eq_true rfl, Nat.le_of_ble_eq_true rfl⟩ ⟨Nat.le_of_ble_eq_true rfl, Nat.le_of_ble_eq_true rfl⟩ (fun u62 H locs hC hP hD hS => ?_)
  refine lv_sipush (v := zI (-2011)) hx hb dL_refusesOne_65 (by decide) ?_
  refine bIF_ne (tgt := 462) hx hb dL_refusesOne_68 (by decide) (by decide) ?_
  refine lv_aload_n hx hb dL_refusesOne_71 rfl (lv_at hl 4 rfl) ?_
  refine lv_iconst (v := nI 0) hx hb dL_refusesOne_72 (by decide) ?_
  refine lv_iconst (v := nI 0) hx hb dL_refusesOne_73 (by decide) ?_
  refine lv_iload_n hx hb dL_refusesOne_74 rfl (lv_at hl 3 rfl) ?_
  refine lv_iconst (v := nI 3) hx hb dL_refusesOne_75 (by decide) ?_
  refine lv_iconst (v := nI 0) hx hb dL_refusesOne_76 (by decide) ?_
  refine lqSW (own := RL) (index := 150) (bytes := cL_call) (n := 6) (As := [.int (nI 0), .int (nI 0), .int (zI (fr k 0 15)), .int (nI 3), .int (nI 0)]) (rest := []) (c2 := 8) (s2 := 1056) F hZ (call_0 l G lq S S (nI 0) (zI (fr k 0 15)) (nI 3) (nI 0) (-2011) (rf_77 l G lq S k hS9 hk hl9)) hC gL_refusesOne_L_call rfl rfl rfl rfl (by decide +kernel) rfl ⟨Nat.le_of_ble_eq_true rfl, Nat.le_of_ble_eq_true rfl⟩ hP hD hS rfl hl.1 (Nat.le_of_ble_eq_true rfl) dL_refusesOne_77 ⟨Nat.le_of_ble_eq_true rfl, Nat.le_of_ble_eq_true rfl⟩ ⟨Nat.le_of_ble_eq_true rfl, Nat.le_of_ble_eq_true rfl⟩ (fun u77 H locs hC hP hD hS => ?_)
  refine lv_sipush (v := zI (-2011)) hx hb dL_refusesOne_80 (by decide) ?_
  refine bIF_ne (tgt := 462) hx hb dL_refusesOne_83 (by decide) (by decide) ?_
  refine lv_aload_n hx hb dL_refusesOne_86 rfl (lv_at hl 4 rfl) ?_
  refine lv_iconst (v := nI 0) hx hb dL_refusesOne_87 (by decide) ?_
  refine lv_iconst (v := nI 0) hx hb dL_refusesOne_88 (by decide) ?_
  refine lv_iconst (v := nI 0) hx hb dL_refusesOne_89 (by decide) ?_
  refine lv_iconst (v := nI 3) hx hb dL_refusesOne_90 (by decide) ?_
  refine lv_iload_n hx hb dL_refusesOne_91 rfl (lv_at hl 2 rfl) ?_
  refine lqSW (own := RL) (index := 150) (bytes := cL_call) (n := 6) (As := [.int (nI 0), .int (nI 0), .int (nI 0), .int (nI 3), .int (zI (fr k 0 7))]) (rest := []) (c2 := 12) (s2 := 1584) F hZ (call_0 l G lq S S (nI 0) (nI 0) (nI 3) (zI (fr k 0 7)) (-2011) (rf_92 l G lq S k hS9 hk hl9)) hC gL_refusesOne_L_call rfl rfl rfl rfl (by decide +kernel) rfl ⟨Nat.le_of_ble_eq_true rfl, Nat.le_of_ble_eq_true rfl⟩ hP hD hS rfl hl.1 (Nat.le_of_ble_eq_true rfl) dL_refusesOne_92 ⟨Nat.le_of_ble_eq_true rfl, Nat.le_of_ble_eq_true rfl⟩ ⟨Nat.le_of_ble_eq_true rfl, Nat.le_of_ble_eq_true rfl⟩ (fun u92 H locs hC hP hD hS => ?_)
  refine lv_sipush (v := zI (-2011)) hx hb dL_refusesOne_95 (by decide) ?_
  refine bIF_ne (tgt := 462) hx hb dL_refusesOne_98 (by decide) (by decide) ?_
  refine lv_aload_n hx hb dL_refusesOne_101 rfl (lv_at hl 4 rfl) ?_
  refine lv_iconst (v := nI 0) hx hb dL_refusesOne_102 (by decide) ?_
  refine lv_iconst (v := nI 0) hx hb dL_refusesOne_103 (by decide) ?_
  refine lv_iconst (v := nI 0) hx hb dL_refusesOne_104 (by decide) ?_
  refine lv_iload hx hb dL_refusesOne_105 (lv_at hl 0 rfl) ?_
  refine lv_bipush (v := nI 7) hx hb dL_refusesOne_107 (by decide) ?_
  refine lqSW (own := RL) (index := 150) (bytes := cL_call) (n := 6) (As := [.int (nI 0), .int (nI 0), .int (nI 0), .int (zI (szv k)), .int (nI 7)]) (rest := []) (c2 := 16) (s2 := 2112) F hZ (call_0 l G lq S S (nI 0) (nI 0) (zI (szv k)) (nI 7) (-2012) (rf_109 l G lq S k hS9 hk hl9)) hC gL_refusesOne_L_call rfl rfl rfl rfl (by decide +kernel) rfl ⟨Nat.le_of_ble_eq_true rfl, Nat.le_of_ble_eq_true rfl⟩ hP hD hS rfl hl.1 (Nat.le_of_ble_eq_true rfl) dL_refusesOne_109 ⟨Nat.le_of_ble_eq_true rfl, Nat.le_of_ble_eq_true rfl⟩ ⟨Nat.le_of_ble_eq_true rfl, Nat.le_of_ble_eq_true rfl⟩ (fun u109 H locs hC hP hD hS => ?_)
  refine lv_sipush (v := zI (-2012)) hx hb dL_refusesOne_112 (by decide) ?_
  refine bIF_ne (tgt := 462) hx hb dL_refusesOne_115 (by decide) (by decide) ?_
  refine lv_aload_n hx hb dL_refusesOne_118 rfl (lv_at hl 4 rfl) ?_
  refine lv_iconst (v := nI 0) hx hb dL_refusesOne_119 (by decide) ?_
  refine lv_iconst (v := nI 1) hx hb dL_refusesOne_120 (by decide) ?_
  refine lv_iload_n hx hb dL_refusesOne_121 rfl (lv_at hl 5 rfl) ?_
  refine gIadd (a := 1) (b := k) hx hb dL_refusesOne_122 ?_
  refine lv_iconst (v := nI 0) hx hb dL_refusesOne_123 (by decide) ?_
  refine lv_bipush (v := nI 8) hx hb dL_refusesOne_124 (by decide) ?_
  refine lv_iconst (v := nI 0) hx hb dL_refusesOne_126 (by decide) ?_
  refine lqSW (own := RL) (index := 150) (bytes := cL_call) (n := 6) (As := [.int (nI 0), .int (nI (1 + k)), .int (nI 0), .int (nI 8), .int (nI 0)]) (rest := []) (c2 := 20) (s2 := 2640) F hZ (call_0 l G lq S S (nI (1 + k)) (nI 0) (nI 8) (nI 0) (-2012) (rf_127 l G lq S k hS9 hk hl9)) hC gL_refusesOne_L_call rfl rfl rfl rfl (by decide +kernel) rfl ⟨Nat.le_of_ble_eq_true rfl, Nat.le_of_ble_eq_true rfl⟩ hP hD hS rfl hl.1 (Nat.le_of_ble_eq_true rfl) dL_refusesOne_127 ⟨Nat.le_of_ble_eq_true rfl, Nat.le_of_ble_eq_true rfl⟩ ⟨Nat.le_of_ble_eq_true rfl, Nat.le_of_ble_eq_true rfl⟩ (fun u127 H locs hC hP hD hS => ?_)
  refine lv_sipush (v := zI (-2012)) hx hb dL_refusesOne_130 (by decide) ?_
  refine bIF_ne (tgt := 462) hx hb dL_refusesOne_133 (by decide) (by decide) ?_
  refine lv_aload_n hx hb dL_refusesOne_136 rfl (lv_at hl 4 rfl) ?_
  refine lv_iconst (v := nI 1) hx hb dL_refusesOne_137 (by decide) ?_
  refine lv_iload_n hx hb dL_refusesOne_138 rfl (lv_at hl 3 rfl) ?_
  refine lv_iconst (v := nI 0) hx hb dL_refusesOne_139 (by decide) ?_
  refine lv_iconst (v := nI 3) hx hb dL_refusesOne_140 (by decide) ?_
  refine lv_iconst (v := nI 0) hx hb dL_refusesOne_141 (by decide) ?_
  refine lqSW (own := RL) (index := 150) (bytes := cL_call) (n := 6) (As := [.int (nI 1), .int (zI (fr k 0 15)), .int (nI 0), .int (nI 3), .int (nI 0)]) (rest := []) (c2 := 24) (s2 := 3168) F hZ (call_1 l G lq S S (zI (fr k 0 15)) (nI 0) (nI 3) (nI 0) (-2011) (rf_142 l G lq S k hS9 hk hl9)) hC gL_refusesOne_L_call rfl rfl rfl rfl (by decide +kernel) rfl ⟨Nat.le_of_ble_eq_true rfl, Nat.le_of_ble_eq_true rfl⟩ hP hD hS rfl hl.1 (Nat.le_of_ble_eq_true rfl) dL_refusesOne_142 ⟨Nat.le_of_ble_eq_true rfl, Nat.le_of_ble_eq_true rfl⟩ ⟨Nat.le_of_ble_eq_true rfl, Nat.le_of_ble_eq_true rfl⟩ (fun u142 H locs hC hP hD hS => ?_)
  refine lv_sipush (v := zI (-2011)) hx hb dL_refusesOne_145 (by decide) ?_
  refine bIF_ne (tgt := 462) hx hb dL_refusesOne_148 (by decide) (by decide) ?_
  refine lv_aload_n hx hb dL_refusesOne_151 rfl (lv_at hl 4 rfl) ?_
  refine lv_iconst (v := nI 1) hx hb dL_refusesOne_152 (by decide) ?_
  refine lv_bipush (v := nI 15) hx hb dL_refusesOne_153 (by decide) ?_
  refine lv_iload_n hx hb dL_refusesOne_155 rfl (lv_at hl 3 rfl) ?_
  refine lv_iconst (v := nI 1) hx hb dL_refusesOne_156 (by decide) ?_
  refine lv_bipush (v := nI 99) hx hb dL_refusesOne_157 (by decide) ?_
  refine lqSW (own := RL) (index := 150) (bytes := cL_call) (n := 6) (As := [.int (nI 1), .int (nI 15), .int (zI (fr k 0 15)), .int (nI 1), .int (nI 99)]) (rest := []) (c2 := 28) (s2 := 3696) F hZ (call_1 l G lq S S (nI 15) (zI (fr k 0 15)) (nI 1) (nI 99) (-2011) (rf_159 l G lq S k hS9 hk hl9)) hC gL_refusesOne_L_call rfl rfl rfl rfl (by decide +kernel) rfl ⟨Nat.le_of_ble_eq_true rfl, Nat.le_of_ble_eq_true rfl⟩ hP hD hS rfl hl.1 (Nat.le_of_ble_eq_true rfl) dL_refusesOne_159 ⟨Nat.le_of_ble_eq_true rfl, Nat.le_of_ble_eq_true rfl⟩ ⟨Nat.le_of_ble_eq_true rfl, Nat.le_of_ble_eq_true rfl⟩ (fun u159 H locs hC hP hD hS => ?_)
  refine lv_sipush (v := zI (-2011)) hx hb dL_refusesOne_162 (by decide) ?_
  refine bIF_ne (tgt := 462) hx hb dL_refusesOne_165 (by decide) (by decide) ?_
  refine lv_aload_n hx hb dL_refusesOne_168 rfl (lv_at hl 4 rfl) ?_
  refine lv_iconst (v := nI 1) hx hb dL_refusesOne_169 (by decide) ?_
  refine lv_iconst (v := nI 0) hx hb dL_refusesOne_170 (by decide) ?_
  refine lv_iconst (v := nI 0) hx hb dL_refusesOne_171 (by decide) ?_
  refine lv_iload hx hb dL_refusesOne_172 (lv_at hl 0 rfl) ?_
  refine lv_iconst (v := nI 0) hx hb dL_refusesOne_174 (by decide) ?_
  refine lqSW (own := RL) (index := 150) (bytes := cL_call) (n := 6) (As := [.int (nI 1), .int (nI 0), .int (nI 0), .int (zI (szv k)), .int (nI 0)]) (rest := []) (c2 := 32) (s2 := 4224) F hZ (call_1 l G lq S S (nI 0) (nI 0) (zI (szv k)) (nI 0) (-2012) (rf_175 l G lq S k hS9 hk hl9)) hC gL_refusesOne_L_call rfl rfl rfl rfl (by decide +kernel) rfl ⟨Nat.le_of_ble_eq_true rfl, Nat.le_of_ble_eq_true rfl⟩ hP hD hS rfl hl.1 (Nat.le_of_ble_eq_true rfl) dL_refusesOne_175 ⟨Nat.le_of_ble_eq_true rfl, Nat.le_of_ble_eq_true rfl⟩ ⟨Nat.le_of_ble_eq_true rfl, Nat.le_of_ble_eq_true rfl⟩ (fun u175 H locs hC hP hD hS => ?_)
  refine lv_sipush (v := zI (-2012)) hx hb dL_refusesOne_178 (by decide) ?_
  refine bIF_ne (tgt := 462) hx hb dL_refusesOne_181 (by decide) (by decide) ?_
  refine lv_aload_n hx hb dL_refusesOne_184 rfl (lv_at hl 4 rfl) ?_
  refine lv_iconst (v := nI 1) hx hb dL_refusesOne_185 (by decide) ?_
  refine lv_iconst (v := nI 0) hx hb dL_refusesOne_186 (by decide) ?_
  refine lv_iconst (v := nI 0) hx hb dL_refusesOne_187 (by decide) ?_
  refine lv_iconst (v := nI 1) hx hb dL_refusesOne_188 (by decide) ?_
  refine lv_iload_n hx hb dL_refusesOne_189 rfl (lv_at hl 5 rfl) ?_
  refine lv_bipush (v := zI (-9)) hx hb dL_refusesOne_190 (by decide) ?_
  refine lv_bipush (v := nI 9) hx hb dL_refusesOne_192 (by decide) ?_
  refine lqN (own := RL) (index := 147) (bytes := cL_far) (n := 3) (As := [.int (nI k), .int (zI (-9)), .int (nI 9)]) (rest := [.int (nI 1), .int (nI 0), .int (nI 0), .int (nI 1), .ref lq]) (c2 := 32) (s2 := 4224) F hZ (c_farZ l G k (-9) 9 hk) gL_refusesOne_L_far rfl rfl rfl rfl (by decide +kernel) rfl ⟨Nat.le_of_ble_eq_true rfl, Nat.le_of_ble_eq_true rfl⟩ hP hD hS rfl hl.1 (Nat.le_of_ble_eq_true rfl) dL_refusesOne_194 ⟨Nat.le_of_ble_eq_true rfl, Nat.le_of_ble_eq_true rfl⟩ ⟨Nat.le_of_ble_eq_true rfl, Nat.le_of_ble_eq_true rfl⟩ (fun r194 H locs hp194 hP hD hS => ?_)
  subst hp194
  refine lqSW (own := RL) (index := 150) (bytes := cL_call) (n := 6) (As := [.int (nI 1), .int (nI 0), .int (nI 0), .int (nI 1), .int (zI (fr k (-9) 9))]) (rest := []) (c2 := 36) (s2 := 4752) F hZ (call_1 l G lq S S (nI 0) (nI 0) (nI 1) (zI (fr k (-9) 9)) (-2012) (rf_197 l G lq S k hS9 hk hl9)) hC gL_refusesOne_L_call rfl rfl rfl rfl (by decide +kernel) rfl ⟨Nat.le_of_ble_eq_true rfl, Nat.le_of_ble_eq_true rfl⟩ hP hD hS rfl hl.1 (Nat.le_of_ble_eq_true rfl) dL_refusesOne_197 ⟨Nat.le_of_ble_eq_true rfl, Nat.le_of_ble_eq_true rfl⟩ ⟨Nat.le_of_ble_eq_true rfl, Nat.le_of_ble_eq_true rfl⟩ (fun u197 H locs hC hP hD hS => ?_)
  refine lv_sipush (v := zI (-2012)) hx hb dL_refusesOne_200 (by decide) ?_
  refine bIF_ne (tgt := 462) hx hb dL_refusesOne_203 (by decide) (by decide) ?_
  exact kk u197 H locs ls hC hP hD hS (lv_sub hl [0, 1, 2, 3, 4, 5] rfl)

set_option maxHeartbeats 8000000 in
set_option maxRecDepth 100000 in
theorem rfs_1 {p : Program} {l : Launch} {e : Env} {s : State} {m : MethodId} {args : Array Value} {below : List Frame} {meth : Method} {c : Code} {H : Heap} {locs : List Loc} {Q : State → Prop} {G : gG} {A : Nat → Prop} {lq : Nat} {ls : Array Slot} {wv X : va_W} (S : SpT) (k : Nat) (hS9 : spS S) (hk : k < 4) (hl9 : l.stackTraces = false) (hb0 : S.2.2.2.2 = 0) (F : gAt p s m args meth c yL_refusesOne wsL_refusesOne cL_refusesOne 8 (some .boolean) G A) (hZ : gX A s s.heap) (hC : clS G lq wv S) (hP : va_P G.1 vwCl (wv ++ X) H) (hD : va_D A (wv ++ X)) (hS : va_S A s.heap H locs) (hl : lv_has ls 8 [(5, .int (zI (szv k))), (4, .int (zI (fr k 1 7))), (3, .int (zI (fr k 0 7))), (2, .int (zI (fr k 0 15))), (0, .ref lq), (1, .int (nI k))])
    (kk : ∀ (u : va_W) (H : Heap) (locs : List Loc) (ls : Array Slot), clS G lq u S → va_P G.1 vwCl (u ++ X) H → va_D A (u ++ X) → va_S A s.heap H locs → lv_has ls 8 [(5, .int (zI (szv k))), (4, .int (zI (fr k 1 7))), (3, .int (zI (fr k 0 7))), (2, .int (zI (fr k 0 15))), (0, .ref lq), (1, .int (nI k))] → W p l e ({ frames := 10, cells := 220, slots := 27500, locals := 260 } : Room) s m args below meth c H locs 64 8448 Q (F0 m 321 ls [])) : W p l e ({ frames := 10, cells := 220, slots := 27500, locals := 260 } : Room) s m args below meth c H locs 36 4752 Q (F0 m 206 ls []) := by
  have hx := F.1
  have hb := F.2.1
  have hts := F.2.2.2.2.2.2.1
  have hown : s.vm.findClass RL = some m.cls := F.2.2.2.2.2.1
  refine lv_aload_n hx hb dL_refusesOne_206 rfl (lv_at hl 4 rfl) ?_
  refine lv_iconst (v := nI 2) hx hb dL_refusesOne_207 (by decide) ?_
  refine lv_iload_n hx hb dL_refusesOne_208 rfl (lv_at hl 5 rfl) ?_
  refine lv_iconst (v := nI 1) hx hb dL_refusesOne_209 (by decide) ?_
  refine lv_bipush (v := nI 10) hx hb dL_refusesOne_210 (by decide) ?_
  refine lqN (own := RL) (index := 147) (bytes := cL_far) (n := 3) (As := [.int (nI k), .int (nI 1), .int (nI 10)]) (rest := [.int (nI 2), .ref lq]) (c2 := 36) (s2 := 4752) F hZ (c_farN l G k 1 10 hk) gL_refusesOne_L_far rfl rfl rfl rfl (by decide +kernel) rfl ⟨Nat.le_of_ble_eq_true rfl, Nat.le_of_ble_eq_true rfl⟩ hP hD hS rfl hl.1 (Nat.le_of_ble_eq_true rfl) dL_refusesOne_212 ⟨Nat.le_of_ble_eq_true rfl, Nat.le_of_ble_eq_true rfl⟩ ⟨Nat.le_of_ble_eq_true rfl, Nat.le_of_ble_eq_true rfl⟩ (fun r212 H locs hp212 hP hD hS => ?_)
  subst hp212
  refine lv_iconst (v := nI 0) hx hb dL_refusesOne_215 (by decide) ?_
  refine lv_iconst (v := nI 0) hx hb dL_refusesOne_216 (by decide) ?_
  refine lv_iconst (v := nI 0) hx hb dL_refusesOne_217 (by decide) ?_
  refine lqSW (own := RL) (index := 150) (bytes := cL_call) (n := 6) (As := [.int (nI 2), .int (zI (fr k 1 10)), .int (nI 0), .int (nI 0), .int (nI 0)]) (rest := []) (c2 := 40) (s2 := 5280) F hZ (call_2 l G lq S S (zI (fr k 1 10)) (nI 0) (nI 0) (nI 0) (-2012) (rf_218 l G lq S k hS9 hk hl9)) hC gL_refusesOne_L_call rfl rfl rfl rfl (by decide +kernel) rfl ⟨Nat.le_of_ble_eq_true rfl, Nat.le_of_ble_eq_true rfl⟩ hP hD hS rfl hl.1 (Nat.le_of_ble_eq_true rfl) dL_refusesOne_218 ⟨Nat.le_of_ble_eq_true rfl, Nat.le_of_ble_eq_true rfl⟩ ⟨Nat.le_of_ble_eq_true rfl, Nat.le_of_ble_eq_true rfl⟩ (fun u218 H locs hC hP hD hS => ?_)
  refine lv_sipush (v := zI (-2012)) hx hb dL_refusesOne_221 (by decide) ?_
  refine bIF_ne (tgt := 462) hx hb dL_refusesOne_224 (by decide) (by decide) ?_
  refine lv_aload_n hx hb dL_refusesOne_227 rfl (lv_at hl 4 rfl) ?_
  refine lv_iconst (v := nI 3) hx hb dL_refusesOne_228 (by decide) ?_
  refine lv_iload hx hb dL_refusesOne_229 (lv_at hl 1 rfl) ?_
  refine lv_iconst (v := nI 0) hx hb dL_refusesOne_231 (by decide) ?_
  refine lv_iconst (v := nI 0) hx hb dL_refusesOne_232 (by decide) ?_
  refine lv_iconst (v := nI 0) hx hb dL_refusesOne_233 (by decide) ?_
  refine lqSW (own := RL) (index := 150) (bytes := cL_call) (n := 6) (As := [.int (nI 3), .int (zI (fr k 1 7)), .int (nI 0), .int (nI 0), .int (nI 0)]) (rest := []) (c2 := 44) (s2 := 5808) F hZ (call_3 l G lq S S (zI (fr k 1 7)) (nI 0) (nI 0) (nI 0) (-2011) (rf_234 l G lq S k hS9 hk hl9)) hC gL_refusesOne_L_call rfl rfl rfl rfl (by decide +kernel) rfl ⟨Nat.le_of_ble_eq_true rfl, Nat.le_of_ble_eq_true rfl⟩ hP hD hS rfl hl.1 (Nat.le_of_ble_eq_true rfl) dL_refusesOne_234 ⟨Nat.le_of_ble_eq_true rfl, Nat.le_of_ble_eq_true rfl⟩ ⟨Nat.le_of_ble_eq_true rfl, Nat.le_of_ble_eq_true rfl⟩ (fun u234 H locs hC hP hD hS => ?_)
  refine lv_sipush (v := zI (-2011)) hx hb dL_refusesOne_237 (by decide) ?_
  refine bIF_ne (tgt := 462) hx hb dL_refusesOne_240 (by decide) (by decide) ?_
  refine lv_aload_n hx hb dL_refusesOne_243 rfl (lv_at hl 4 rfl) ?_
  refine lv_iconst (v := nI 3) hx hb dL_refusesOne_244 (by decide) ?_
  refine lv_iconst (v := nI 1) hx hb dL_refusesOne_245 (by decide) ?_
  refine lv_iload_n hx hb dL_refusesOne_246 rfl (lv_at hl 3 rfl) ?_
  refine lv_iconst (v := nI 0) hx hb dL_refusesOne_247 (by decide) ?_
  refine lv_iconst (v := nI 0) hx hb dL_refusesOne_248 (by decide) ?_
  refine lqSW (own := RL) (index := 150) (bytes := cL_call) (n := 6) (As := [.int (nI 3), .int (nI 1), .int (zI (fr k 0 15)), .int (nI 0), .int (nI 0)]) (rest := []) (c2 := 48) (s2 := 6336) F hZ (call_3 l G lq S S (nI 1) (zI (fr k 0 15)) (nI 0) (nI 0) (-2011) (rf_249 l G lq S k hS9 hk hl9)) hC gL_refusesOne_L_call rfl rfl rfl rfl (by decide +kernel) rfl ⟨Nat.le_of_ble_eq_true rfl, Nat.le_of_ble_eq_true rfl⟩ hP hD hS rfl hl.1 (Nat.le_of_ble_eq_true rfl) dL_refusesOne_249 ⟨Nat.le_of_ble_eq_true rfl, Nat.le_of_ble_eq_true rfl⟩ ⟨Nat.le_of_ble_eq_true rfl, Nat.le_of_ble_eq_true rfl⟩ (fun u249 H locs hC hP hD hS => ?_)
  refine lv_sipush (v := zI (-2011)) hx hb dL_refusesOne_252 (by decide) ?_
  refine bIF_ne (tgt := 462) hx hb dL_refusesOne_255 (by decide) (by decide) ?_
  refine lv_aload_n hx hb dL_refusesOne_258 rfl (lv_at hl 4 rfl) ?_
  refine lv_iconst (v := nI 3) hx hb dL_refusesOne_259 (by decide) ?_
  refine lv_iconst (v := nI 1) hx hb dL_refusesOne_260 (by decide) ?_
  refine lv_iconst (v := nI 0) hx hb dL_refusesOne_261 (by decide) ?_
  refine lv_iload_n hx hb dL_refusesOne_262 rfl (lv_at hl 3 rfl) ?_
  refine lv_iconst (v := nI 0) hx hb dL_refusesOne_263 (by decide) ?_
  refine lqSW (own := RL) (index := 150) (bytes := cL_call) (n := 6) (As := [.int (nI 3), .int (nI 1), .int (nI 0), .int (zI (fr k 0 15)), .int (nI 0)]) (rest := []) (c2 := 52) (s2 := 6864) F hZ (call_3 l G lq S S (nI 1) (nI 0) (zI (fr k 0 15)) (nI 0) (-2011) (rf_264 l G lq S k hS9 hk hl9)) hC gL_refusesOne_L_call rfl rfl rfl rfl (by decide +kernel) rfl ⟨Nat.le_of_ble_eq_true rfl, Nat.le_of_ble_eq_true rfl⟩ hP hD hS rfl hl.1 (Nat.le_of_ble_eq_true rfl) dL_refusesOne_264 ⟨Nat.le_of_ble_eq_true rfl, Nat.le_of_ble_eq_true rfl⟩ ⟨Nat.le_of_ble_eq_true rfl, Nat.le_of_ble_eq_true rfl⟩ (fun u264 H locs hC hP hD hS => ?_)
  refine lv_sipush (v := zI (-2011)) hx hb dL_refusesOne_267 (by decide) ?_
  refine bIF_ne (tgt := 462) hx hb dL_refusesOne_270 (by decide) (by decide) ?_
  refine lv_aload_n hx hb dL_refusesOne_273 rfl (lv_at hl 4 rfl) ?_
  refine lv_iconst (v := nI 4) hx hb dL_refusesOne_274 (by decide) ?_
  refine lv_iload hx hb dL_refusesOne_275 (lv_at hl 1 rfl) ?_
  refine lv_iconst (v := nI 0) hx hb dL_refusesOne_277 (by decide) ?_
  refine lv_iconst (v := nI 0) hx hb dL_refusesOne_278 (by decide) ?_
  refine lv_iconst (v := nI 3) hx hb dL_refusesOne_279 (by decide) ?_
  refine lqSW (own := RL) (index := 150) (bytes := cL_call) (n := 6) (As := [.int (nI 4), .int (zI (fr k 1 7)), .int (nI 0), .int (nI 0), .int (nI 3)]) (rest := []) (c2 := 56) (s2 := 7392) F hZ (call_4 l G lq S S (zI (fr k 1 7)) (nI 0) (nI 0) (nI 3) (-2011) (rf_280 l G lq S k hS9 hk hl9)) hC gL_refusesOne_L_call rfl rfl rfl rfl (by decide +kernel) rfl ⟨Nat.le_of_ble_eq_true rfl, Nat.le_of_ble_eq_true rfl⟩ hP hD hS rfl hl.1 (Nat.le_of_ble_eq_true rfl) dL_refusesOne_280 ⟨Nat.le_of_ble_eq_true rfl, Nat.le_of_ble_eq_true rfl⟩ ⟨Nat.le_of_ble_eq_true rfl, Nat.le_of_ble_eq_true rfl⟩ (fun u280 H locs hC hP hD hS => ?_)
  refine lv_sipush (v := zI (-2011)) hx hb dL_refusesOne_283 (by decide) ?_
  refine bIF_ne (tgt := 462) hx hb dL_refusesOne_286 (by decide) (by decide) ?_
  refine lv_aload_n hx hb dL_refusesOne_289 rfl (lv_at hl 4 rfl) ?_
  refine lv_iconst (v := nI 4) hx hb dL_refusesOne_290 (by decide) ?_
  refine lv_bipush (v := nI 7) hx hb dL_refusesOne_291 (by decide) ?_
  refine lv_iload_n hx hb dL_refusesOne_293 rfl (lv_at hl 3 rfl) ?_
  refine lv_iconst (v := nI 0) hx hb dL_refusesOne_294 (by decide) ?_
  refine lv_iconst (v := nI 3) hx hb dL_refusesOne_295 (by decide) ?_
  refine lqSW (own := RL) (index := 150) (bytes := cL_call) (n := 6) (As := [.int (nI 4), .int (nI 7), .int (zI (fr k 0 15)), .int (nI 0), .int (nI 3)]) (rest := []) (c2 := 60) (s2 := 7920) F hZ (call_4 l G lq S S (nI 7) (zI (fr k 0 15)) (nI 0) (nI 3) (-2011) (rf_296 l G lq S k hS9 hk hl9)) hC gL_refusesOne_L_call rfl rfl rfl rfl (by decide +kernel) rfl ⟨Nat.le_of_ble_eq_true rfl, Nat.le_of_ble_eq_true rfl⟩ hP hD hS rfl hl.1 (Nat.le_of_ble_eq_true rfl) dL_refusesOne_296 ⟨Nat.le_of_ble_eq_true rfl, Nat.le_of_ble_eq_true rfl⟩ ⟨Nat.le_of_ble_eq_true rfl, Nat.le_of_ble_eq_true rfl⟩ (fun u296 H locs hC hP hD hS => ?_)
  refine lv_sipush (v := zI (-2011)) hx hb dL_refusesOne_299 (by decide) ?_
  refine bIF_ne (tgt := 462) hx hb dL_refusesOne_302 (by decide) (by decide) ?_
  refine lv_aload_n hx hb dL_refusesOne_305 rfl (lv_at hl 4 rfl) ?_
  refine lv_iconst (v := nI 4) hx hb dL_refusesOne_306 (by decide) ?_
  refine lv_bipush (v := nI 7) hx hb dL_refusesOne_307 (by decide) ?_
  refine lv_iconst (v := nI 0) hx hb dL_refusesOne_309 (by decide) ?_
  refine lv_iload_n hx hb dL_refusesOne_310 rfl (lv_at hl 3 rfl) ?_
  refine lv_iconst (v := nI 3) hx hb dL_refusesOne_311 (by decide) ?_
  refine lqSW (own := RL) (index := 150) (bytes := cL_call) (n := 6) (As := [.int (nI 4), .int (nI 7), .int (nI 0), .int (zI (fr k 0 15)), .int (nI 3)]) (rest := []) (c2 := 64) (s2 := 8448) F hZ (call_4 l G lq S S (nI 7) (nI 0) (zI (fr k 0 15)) (nI 3) (-2011) (rf_312 l G lq S k hS9 hk hl9)) hC gL_refusesOne_L_call rfl rfl rfl rfl (by decide +kernel) rfl ⟨Nat.le_of_ble_eq_true rfl, Nat.le_of_ble_eq_true rfl⟩ hP hD hS rfl hl.1 (Nat.le_of_ble_eq_true rfl) dL_refusesOne_312 ⟨Nat.le_of_ble_eq_true rfl, Nat.le_of_ble_eq_true rfl⟩ ⟨Nat.le_of_ble_eq_true rfl, Nat.le_of_ble_eq_true rfl⟩ (fun u312 H locs hC hP hD hS => ?_)
  refine lv_sipush (v := zI (-2011)) hx hb dL_refusesOne_315 (by decide) ?_
  refine bIF_ne (tgt := 462) hx hb dL_refusesOne_318 (by decide) (by decide) ?_
  exact kk u312 H locs ls hC hP hD hS (lv_sub hl [0, 1, 2, 3, 4, 5] rfl)

set_option maxHeartbeats 8000000 in
set_option maxRecDepth 100000 in
theorem rfs_2 {p : Program} {l : Launch} {e : Env} {s : State} {m : MethodId} {args : Array Value} {below : List Frame} {meth : Method} {c : Code} {H : Heap} {locs : List Loc} {Q : State → Prop} {G : gG} {A : Nat → Prop} {lq : Nat} {ls : Array Slot} {wv X : va_W} (S : SpT) (k : Nat) (hS9 : spS S) (hk : k < 4) (hl9 : l.stackTraces = false) (hb0 : S.2.2.2.2 = 0) (F : gAt p s m args meth c yL_refusesOne wsL_refusesOne cL_refusesOne 8 (some .boolean) G A) (hZ : gX A s s.heap) (hC : clS G lq wv S) (hP : va_P G.1 vwCl (wv ++ X) H) (hD : va_D A (wv ++ X)) (hS : va_S A s.heap H locs) (hl : lv_has ls 8 [(5, .int (zI (szv k))), (4, .int (zI (fr k 1 7))), (3, .int (zI (fr k 0 7))), (2, .int (zI (fr k 0 15))), (0, .ref lq), (1, .int (nI k))])
    (kk : ∀ (u : va_W) (H : Heap) (locs : List Loc) (ls : Array Slot), clS G lq u S → va_P G.1 vwCl (u ++ X) H → va_D A (u ++ X) → va_S A s.heap H locs → lv_has ls 8 [(5, .int (zI (szv k))), (4, .int (zI (fr k 1 7))), (3, .int (zI (fr k 0 7))), (2, .int (zI (fr k 0 15))), (0, .ref lq), (1, .int (nI k))] → W p l e ({ frames := 10, cells := 220, slots := 27500, locals := 260 } : Room) s m args below meth c H locs 92 12144 Q (F0 m 464 ls [])) : W p l e ({ frames := 10, cells := 220, slots := 27500, locals := 260 } : Room) s m args below meth c H locs 64 8448 Q (F0 m 321 ls []) := by
  have hx := F.1
  have hb := F.2.1
  have hts := F.2.2.2.2.2.2.1
  have hown : s.vm.findClass RL = some m.cls := F.2.2.2.2.2.1
  refine lv_aload_n hx hb dL_refusesOne_321 rfl (lv_at hl 4 rfl) ?_
  refine lv_iconst (v := nI 4) hx hb dL_refusesOne_322 (by decide) ?_
  refine lv_bipush (v := nI 7) hx hb dL_refusesOne_323 (by decide) ?_
  refine lv_iconst (v := nI 0) hx hb dL_refusesOne_325 (by decide) ?_
  refine lv_iconst (v := nI 0) hx hb dL_refusesOne_326 (by decide) ?_
  refine lv_iload hx hb dL_refusesOne_327 (lv_at hl 0 rfl) ?_
  refine lqSW (own := RL) (index := 150) (bytes := cL_call) (n := 6) (As := [.int (nI 4), .int (nI 7), .int (nI 0), .int (nI 0), .int (zI (szv k))]) (rest := []) (c2 := 68) (s2 := 8976) F hZ (call_4 l G lq S S (nI 7) (nI 0) (nI 0) (zI (szv k)) (-2012) (rf_329 l G lq S k hS9 hk hl9)) hC gL_refusesOne_L_call rfl rfl rfl rfl (by decide +kernel) rfl ⟨Nat.le_of_ble_eq_true rfl, Nat.le_of_ble_eq_true rfl⟩ hP hD hS rfl hl.1 (Nat.le_of_ble_eq_true rfl) dL_refusesOne_329 ⟨Nat.le_of_ble_eq_true rfl, Nat.le_of_ble_eq_true rfl⟩ ⟨Nat.le_of_ble_eq_true rfl, Nat.le_of_ble_eq_true rfl⟩ (fun u329 H locs hC hP hD hS => ?_)
  refine lv_sipush (v := zI (-2012)) hx hb dL_refusesOne_332 (by decide) ?_
  refine bIF_ne (tgt := 462) hx hb dL_refusesOne_335 (by decide) (by decide) ?_
  refine lv_aload_n hx hb dL_refusesOne_338 rfl (lv_at hl 4 rfl) ?_
  refine lv_iconst (v := nI 5) hx hb dL_refusesOne_339 (by decide) ?_
  refine lv_iload_n hx hb dL_refusesOne_340 rfl (lv_at hl 5 rfl) ?_
  refine lv_iconst (v := nI 1) hx hb dL_refusesOne_341 (by decide) ?_
  refine lv_bipush (v := nI 9) hx hb dL_refusesOne_342 (by decide) ?_
  refine lqN (own := RL) (index := 147) (bytes := cL_far) (n := 3) (As := [.int (nI k), .int (nI 1), .int (nI 9)]) (rest := [.int (nI 5), .ref lq]) (c2 := 68) (s2 := 8976) F hZ (c_farN l G k 1 9 hk) gL_refusesOne_L_far rfl rfl rfl rfl (by decide +kernel) rfl ⟨Nat.le_of_ble_eq_true rfl, Nat.le_of_ble_eq_true rfl⟩ hP hD hS rfl hl.1 (Nat.le_of_ble_eq_true rfl) dL_refusesOne_344 ⟨Nat.le_of_ble_eq_true rfl, Nat.le_of_ble_eq_true rfl⟩ ⟨Nat.le_of_ble_eq_true rfl, Nat.le_of_ble_eq_true rfl⟩ (fun r344 H locs hp344 hP hD hS => ?_)
  subst hp344
  refine lv_iconst (v := nI 0) hx hb dL_refusesOne_347 (by decide) ?_
  refine lv_iconst (v := nI 0) hx hb dL_refusesOne_348 (by decide) ?_
  refine lv_iconst (v := nI 0) hx hb dL_refusesOne_349 (by decide) ?_
  refine lqSW (own := RL) (index := 150) (bytes := cL_call) (n := 6) (As := [.int (nI 5), .int (zI (fr k 1 9)), .int (nI 0), .int (nI 0), .int (nI 0)]) (rest := []) (c2 := 72) (s2 := 9504) F hZ (call_5 l G lq S S (zI (fr k 1 9)) (nI 0) (nI 0) (nI 0) (-2012) (rf_350 l G lq S k hS9 hk hl9)) hC gL_refusesOne_L_call rfl rfl rfl rfl (by decide +kernel) rfl ⟨Nat.le_of_ble_eq_true rfl, Nat.le_of_ble_eq_true rfl⟩ hP hD hS rfl hl.1 (Nat.le_of_ble_eq_true rfl) dL_refusesOne_350 ⟨Nat.le_of_ble_eq_true rfl, Nat.le_of_ble_eq_true rfl⟩ ⟨Nat.le_of_ble_eq_true rfl, Nat.le_of_ble_eq_true rfl⟩ (fun u350 H locs hC hP hD hS => ?_)
  refine lv_sipush (v := zI (-2012)) hx hb dL_refusesOne_353 (by decide) ?_
  refine bIF_ne (tgt := 462) hx hb dL_refusesOne_356 (by decide) (by decide) ?_
  refine lv_aload_n hx hb dL_refusesOne_359 rfl (lv_at hl 4 rfl) ?_
  refine lv_bipush (v := nI 6) hx hb dL_refusesOne_360 (by decide) ?_
  refine lv_iload_n hx hb dL_refusesOne_362 rfl (lv_at hl 5 rfl) ?_
  refine lv_iconst (v := nI 0) hx hb dL_refusesOne_363 (by decide) ?_
  refine lv_bipush (v := nI 9) hx hb dL_refusesOne_364 (by decide) ?_
  refine lqN (own := RL) (index := 147) (bytes := cL_far) (n := 3) (As := [.int (nI k), .int (nI 0), .int (nI 9)]) (rest := [.int (nI 6), .ref lq]) (c2 := 72) (s2 := 9504) F hZ (c_farN l G k 0 9 hk) gL_refusesOne_L_far rfl rfl rfl rfl (by decide +kernel) rfl ⟨Nat.le_of_ble_eq_true rfl, Nat.le_of_ble_eq_true rfl⟩ hP hD hS rfl hl.1 (Nat.le_of_ble_eq_true rfl) dL_refusesOne_366 ⟨Nat.le_of_ble_eq_true rfl, Nat.le_of_ble_eq_true rfl⟩ ⟨Nat.le_of_ble_eq_true rfl, Nat.le_of_ble_eq_true rfl⟩ (fun r366 H locs hp366 hP hD hS => ?_)
  subst hp366
  refine lv_iconst (v := nI 0) hx hb dL_refusesOne_369 (by decide) ?_
  refine lv_iconst (v := nI 0) hx hb dL_refusesOne_370 (by decide) ?_
  refine lv_iconst (v := nI 0) hx hb dL_refusesOne_371 (by decide) ?_
  refine lqSW (own := RL) (index := 150) (bytes := cL_call) (n := 6) (As := [.int (nI 6), .int (zI (fr k 0 9)), .int (nI 0), .int (nI 0), .int (nI 0)]) (rest := []) (c2 := 76) (s2 := 10032) F hZ (call_6 l G lq S S (zI (fr k 0 9)) (nI 0) (nI 0) (nI 0) (-2012) (rf_372 l G lq S k hS9 hk hl9)) hC gL_refusesOne_L_call rfl rfl rfl rfl (by decide +kernel) rfl ⟨Nat.le_of_ble_eq_true rfl, Nat.le_of_ble_eq_true rfl⟩ hP hD hS rfl hl.1 (Nat.le_of_ble_eq_true rfl) dL_refusesOne_372 ⟨Nat.le_of_ble_eq_true rfl, Nat.le_of_ble_eq_true rfl⟩ ⟨Nat.le_of_ble_eq_true rfl, Nat.le_of_ble_eq_true rfl⟩ (fun u372 H locs hC hP hD hS => ?_)
  refine lv_sipush (v := zI (-2012)) hx hb dL_refusesOne_375 (by decide) ?_
  refine bIF_ne (tgt := 462) hx hb dL_refusesOne_378 (by decide) (by decide) ?_
  refine lv_aload_n hx hb dL_refusesOne_381 rfl (lv_at hl 4 rfl) ?_
  refine lv_bipush (v := nI 7) hx hb dL_refusesOne_382 (by decide) ?_
  refine lv_iload_n hx hb dL_refusesOne_384 rfl (lv_at hl 5 rfl) ?_
  refine lv_bipush (v := nI 33) hx hb dL_refusesOne_385 (by decide) ?_
  refine lv_bipush (v := nI 126) hx hb dL_refusesOne_387 (by decide) ?_
  refine lqN (own := RL) (index := 147) (bytes := cL_far) (n := 3) (As := [.int (nI k), .int (nI 33), .int (nI 126)]) (rest := [.int (nI 7), .ref lq]) (c2 := 76) (s2 := 10032) F hZ (c_farN l G k 33 126 hk) gL_refusesOne_L_far rfl rfl rfl rfl (by decide +kernel) rfl ⟨Nat.le_of_ble_eq_true rfl, Nat.le_of_ble_eq_true rfl⟩ hP hD hS rfl hl.1 (Nat.le_of_ble_eq_true rfl) dL_refusesOne_389 ⟨Nat.le_of_ble_eq_true rfl, Nat.le_of_ble_eq_true rfl⟩ ⟨Nat.le_of_ble_eq_true rfl, Nat.le_of_ble_eq_true rfl⟩ (fun r389 H locs hp389 hP hD hS => ?_)
  subst hp389
  refine lv_iconst (v := nI 0) hx hb dL_refusesOne_392 (by decide) ?_
  refine lv_iconst (v := nI 0) hx hb dL_refusesOne_393 (by decide) ?_
  refine lv_iconst (v := nI 0) hx hb dL_refusesOne_394 (by decide) ?_
  refine lqSW (own := RL) (index := 150) (bytes := cL_call) (n := 6) (As := [.int (nI 7), .int (zI (fr k 33 126)), .int (nI 0), .int (nI 0), .int (nI 0)]) (rest := []) (c2 := 80) (s2 := 10560) F hZ (call_7 l G lq S S (zI (fr k 33 126)) (nI 0) (nI 0) (nI 0) (-2012) (rf_395 l G lq S k hS9 hk hl9)) hC gL_refusesOne_L_call rfl rfl rfl rfl (by decide +kernel) rfl ⟨Nat.le_of_ble_eq_true rfl, Nat.le_of_ble_eq_true rfl⟩ hP hD hS rfl hl.1 (Nat.le_of_ble_eq_true rfl) dL_refusesOne_395 ⟨Nat.le_of_ble_eq_true rfl, Nat.le_of_ble_eq_true rfl⟩ ⟨Nat.le_of_ble_eq_true rfl, Nat.le_of_ble_eq_true rfl⟩ (fun u395 H locs hC hP hD hS => ?_)
  refine lv_sipush (v := zI (-2012)) hx hb dL_refusesOne_398 (by decide) ?_
  refine bIF_ne (tgt := 462) hx hb dL_refusesOne_401 (by decide) (by decide) ?_
  refine lv_aload_n hx hb dL_refusesOne_404 rfl (lv_at hl 4 rfl) ?_
  refine lv_bipush (v := nI 8) hx hb dL_refusesOne_405 (by decide) ?_
  refine lv_iconst (v := nI 0) hx hb dL_refusesOne_407 (by decide) ?_
  refine lv_iconst (v := nI 0) hx hb dL_refusesOne_408 (by decide) ?_
  refine lv_iconst (v := nI 0) hx hb dL_refusesOne_409 (by decide) ?_
  refine lv_iconst (v := nI 0) hx hb dL_refusesOne_410 (by decide) ?_
  refine lqSW (own := RL) (index := 150) (bytes := cL_call) (n := 6) (As := [.int (nI 8), .int (nI 0), .int (nI 0), .int (nI 0), .int (nI 0)]) (rest := []) (c2 := 84) (s2 := 11088) F hZ (call_8 l G lq S S (nI 0) (nI 0) (nI 0) (nI 0) (-2012) (rf_411 l G lq S k hS9 hk hb0 hl9)) hC gL_refusesOne_L_call rfl rfl rfl rfl (by decide +kernel) rfl ⟨Nat.le_of_ble_eq_true rfl, Nat.le_of_ble_eq_true rfl⟩ hP hD hS rfl hl.1 (Nat.le_of_ble_eq_true rfl) dL_refusesOne_411 ⟨Nat.le_of_ble_eq_true rfl, Nat.le_of_ble_eq_true rfl⟩ ⟨Nat.le_of_ble_eq_true rfl, Nat.le_of_ble_eq_true rfl⟩ (fun u411 H locs hC hP hD hS => ?_)
  refine lv_sipush (v := zI (-2012)) hx hb dL_refusesOne_414 (by decide) ?_
  refine bIF_ne (tgt := 462) hx hb dL_refusesOne_417 (by decide) (by decide) ?_
  refine lv_aload_n hx hb dL_refusesOne_420 rfl (lv_at hl 4 rfl) ?_
  refine lv_bipush (v := nI 10) hx hb dL_refusesOne_421 (by decide) ?_
  refine lv_iload_n hx hb dL_refusesOne_423 rfl (lv_at hl 5 rfl) ?_
  refine lv_iconst (v := nI 0) hx hb dL_refusesOne_424 (by decide) ?_
  refine lv_iconst (v := nI 1) hx hb dL_refusesOne_425 (by decide) ?_
  refine lqN (own := RL) (index := 147) (bytes := cL_far) (n := 3) (As := [.int (nI k), .int (nI 0), .int (nI 1)]) (rest := [.int (nI 10), .ref lq]) (c2 := 84) (s2 := 11088) F hZ (c_farN l G k 0 1 hk) gL_refusesOne_L_far rfl rfl rfl rfl (by decide +kernel) rfl ⟨Nat.le_of_ble_eq_true rfl, Nat.le_of_ble_eq_true rfl⟩ hP hD hS rfl hl.1 (Nat.le_of_ble_eq_true rfl) dL_refusesOne_426 ⟨Nat.le_of_ble_eq_true rfl, Nat.le_of_ble_eq_true rfl⟩ ⟨Nat.le_of_ble_eq_true rfl, Nat.le_of_ble_eq_true rfl⟩ (fun r426 H locs hp426 hP hD hS => ?_)
  subst hp426
  refine lv_iconst (v := nI 0) hx hb dL_refusesOne_429 (by decide) ?_
  refine lv_iconst (v := nI 0) hx hb dL_refusesOne_430 (by decide) ?_
  refine lv_iconst (v := nI 0) hx hb dL_refusesOne_431 (by decide) ?_
  refine lqSW (own := RL) (index := 150) (bytes := cL_call) (n := 6) (As := [.int (nI 10), .int (zI (fr k 0 1)), .int (nI 0), .int (nI 0), .int (nI 0)]) (rest := []) (c2 := 88) (s2 := 11616) F hZ (call_10 l G lq S S (zI (fr k 0 1)) (nI 0) (nI 0) (nI 0) (-2011) (rf_432 l G lq S k hS9 hk hl9)) hC gL_refusesOne_L_call rfl rfl rfl rfl (by decide +kernel) rfl ⟨Nat.le_of_ble_eq_true rfl, Nat.le_of_ble_eq_true rfl⟩ hP hD hS rfl hl.1 (Nat.le_of_ble_eq_true rfl) dL_refusesOne_432 ⟨Nat.le_of_ble_eq_true rfl, Nat.le_of_ble_eq_true rfl⟩ ⟨Nat.le_of_ble_eq_true rfl, Nat.le_of_ble_eq_true rfl⟩ (fun u432 H locs hC hP hD hS => ?_)
  refine lv_sipush (v := zI (-2011)) hx hb dL_refusesOne_435 (by decide) ?_
  refine bIF_ne (tgt := 462) hx hb dL_refusesOne_438 (by decide) (by decide) ?_
  refine lv_aload_n hx hb dL_refusesOne_441 rfl (lv_at hl 4 rfl) ?_
  refine lv_bipush (v := nI 11) hx hb dL_refusesOne_442 (by decide) ?_
  refine lv_iload_n hx hb dL_refusesOne_444 rfl (lv_at hl 5 rfl) ?_
  refine lv_iconst (v := nI 0) hx hb dL_refusesOne_445 (by decide) ?_
  refine lv_iconst (v := nI 1) hx hb dL_refusesOne_446 (by decide) ?_
  refine lqN (own := RL) (index := 147) (bytes := cL_far) (n := 3) (As := [.int (nI k), .int (nI 0), .int (nI 1)]) (rest := [.int (nI 11), .ref lq]) (c2 := 88) (s2 := 11616) F hZ (c_farN l G k 0 1 hk) gL_refusesOne_L_far rfl rfl rfl rfl (by decide +kernel) rfl ⟨Nat.le_of_ble_eq_true rfl, Nat.le_of_ble_eq_true rfl⟩ hP hD hS rfl hl.1 (Nat.le_of_ble_eq_true rfl) dL_refusesOne_447 ⟨Nat.le_of_ble_eq_true rfl, Nat.le_of_ble_eq_true rfl⟩ ⟨Nat.le_of_ble_eq_true rfl, Nat.le_of_ble_eq_true rfl⟩ (fun r447 H locs hp447 hP hD hS => ?_)
  subst hp447
  refine lv_iconst (v := nI 0) hx hb dL_refusesOne_450 (by decide) ?_
  refine lv_iconst (v := nI 0) hx hb dL_refusesOne_451 (by decide) ?_
  refine lv_iconst (v := nI 0) hx hb dL_refusesOne_452 (by decide) ?_
  refine lqSW (own := RL) (index := 150) (bytes := cL_call) (n := 6) (As := [.int (nI 11), .int (zI (fr k 0 1)), .int (nI 0), .int (nI 0), .int (nI 0)]) (rest := []) (c2 := 92) (s2 := 12144) F hZ (call_11 l G lq S S (zI (fr k 0 1)) (nI 0) (nI 0) (nI 0) (-2011) (rf_453 l G lq S k hS9 hk hl9)) hC gL_refusesOne_L_call rfl rfl rfl rfl (by decide +kernel) rfl ⟨Nat.le_of_ble_eq_true rfl, Nat.le_of_ble_eq_true rfl⟩ hP hD hS rfl hl.1 (Nat.le_of_ble_eq_true rfl) dL_refusesOne_453 ⟨Nat.le_of_ble_eq_true rfl, Nat.le_of_ble_eq_true rfl⟩ ⟨Nat.le_of_ble_eq_true rfl, Nat.le_of_ble_eq_true rfl⟩ (fun u453 H locs hC hP hD hS => ?_)
  refine lv_sipush (v := zI (-2011)) hx hb dL_refusesOne_456 (by decide) ?_
  refine bIT_eq (tgt := 464) hx hb dL_refusesOne_459 (by decide) (by decide) ?_
  exact kk u453 H locs ls hC hP hD hS (lv_sub hl [0, 1, 2, 3, 4, 5] rfl)

set_option maxHeartbeats 8000000 in
set_option maxRecDepth 100000 in
theorem rfl_12 {p : Program} {l : Launch} {e : Env} {s : State} {m : MethodId} {args : Array Value} {below : List Frame} {meth : Method} {c : Code} {H : Heap} {locs : List Loc} {Q : State → Prop} {G : gG} {A : Nat → Prop} {lq : Nat} {ls : Array Slot} {wv X : va_W} (S : SpT) (k : Nat) (hS9 : spS S) (hk : k < 4) (hl9 : l.stackTraces = false) (hb0 : S.2.2.2.2 = 0) (F : gAt p s m args meth c yL_refusesOne wsL_refusesOne cL_refusesOne 8 (some .boolean) G A) (hZ : gX A s s.heap) (hC : clS G lq wv S) (hP : va_P G.1 vwCl (wv ++ X) H) (hD : va_D A (wv ++ X)) (hS : va_S A s.heap H locs) (hl : lv_has ls 8 [(6, .int (nI 12)), (5, .int (zI (szv k))), (4, .int (zI (fr k 1 7))), (3, .int (zI (fr k 0 7))), (2, .int (zI (fr k 0 15))), (0, .ref lq), (1, .int (nI k))])
    (kk : ∀ (u : va_W) (H : Heap) (locs : List Loc) (ls : Array Slot), clS G lq u S → va_P G.1 vwCl (u ++ X) H → va_D A (u ++ X) → va_S A s.heap H locs → lv_has ls 8 [(6, .int (nI 13)), (5, .int (zI (szv k))), (4, .int (zI (fr k 1 7))), (3, .int (zI (fr k 0 7))), (2, .int (zI (fr k 0 15))), (0, .ref lq), (1, .int (nI k))] → W p l e ({ frames := 10, cells := 220, slots := 27500, locals := 260 } : Room) s m args below meth c H locs 100 13200 Q (F0 m 468 ls [])) : W p l e ({ frames := 10, cells := 220, slots := 27500, locals := 260 } : Room) s m args below meth c H locs 92 12144 Q (F0 m 468 ls []) := by
  have hx := F.1
  have hb := F.2.1
  have hts := F.2.2.2.2.2.2.1
  have hown : s.vm.findClass RL = some m.cls := F.2.2.2.2.2.1
  refine lv_iload hx hb dL_refusesOne_468 (lv_at hl 0 rfl) ?_
  refine lv_bipush (v := nI 17) hx hb dL_refusesOne_470 (by decide) ?_
  refine bIF_ge (tgt := 516) hx hb dL_refusesOne_472 (by decide) (by decide) ?_
  refine lv_aload_n hx hb dL_refusesOne_475 rfl (lv_at hl 5 rfl) ?_
  refine lv_iload hx hb dL_refusesOne_476 (lv_at hl 0 rfl) ?_
  refine lv_iload_n hx hb dL_refusesOne_478 rfl (lv_at hl 4 rfl) ?_
  refine lv_iconst (v := nI 0) hx hb dL_refusesOne_479 (by decide) ?_
  refine lv_iconst (v := nI 0) hx hb dL_refusesOne_480 (by decide) ?_
  refine lv_iconst (v := nI 0) hx hb dL_refusesOne_481 (by decide) ?_
  refine lqSW (own := RL) (index := 150) (bytes := cL_call) (n := 6) (As := [.int (nI 12), .int (zI (fr k 0 15)), .int (nI 0), .int (nI 0), .int (nI 0)]) (rest := []) (c2 := 96) (s2 := 12672) F hZ (call_12 l G lq S S (zI (fr k 0 15)) (nI 0) (nI 0) (nI 0) (-2011) (cell_12 l G lq S S (zI (fr k 0 15)) (nI 0) (-2011) (rf_482_12 l G lq S k hS9 hk hl9))) hC gL_refusesOne_L_call rfl rfl rfl rfl (by decide +kernel) rfl ⟨Nat.le_of_ble_eq_true rfl, Nat.le_of_ble_eq_true rfl⟩ hP hD hS rfl hl.1 (Nat.le_of_ble_eq_true rfl) dL_refusesOne_482 ⟨Nat.le_of_ble_eq_true rfl, Nat.le_of_ble_eq_true rfl⟩ ⟨Nat.le_of_ble_eq_true rfl, Nat.le_of_ble_eq_true rfl⟩ (fun u482 H locs hC hP hD hS => ?_)
  refine lv_sipush (v := zI (-2011)) hx hb dL_refusesOne_485 (by decide) ?_
  refine bIF_ne (tgt := 508) hx hb dL_refusesOne_488 (by decide) (by decide) ?_
  refine lv_aload_n hx hb dL_refusesOne_491 rfl (lv_at hl 5 rfl) ?_
  refine lv_iload hx hb dL_refusesOne_492 (lv_at hl 0 rfl) ?_
  refine lv_bipush (v := nI 15) hx hb dL_refusesOne_494 (by decide) ?_
  refine lv_iload_n hx hb dL_refusesOne_496 rfl (lv_at hl 4 rfl) ?_
  refine lv_iconst (v := nI 0) hx hb dL_refusesOne_497 (by decide) ?_
  refine lv_iconst (v := nI 0) hx hb dL_refusesOne_498 (by decide) ?_
  refine lqSW (own := RL) (index := 150) (bytes := cL_call) (n := 6) (As := [.int (nI 12), .int (nI 15), .int (zI (fr k 0 15)), .int (nI 0), .int (nI 0)]) (rest := []) (c2 := 100) (s2 := 13200) F hZ (call_12 l G lq S S (nI 15) (zI (fr k 0 15)) (nI 0) (nI 0) (-2011) (cell_12 l G lq S S (nI 15) (zI (fr k 0 15)) (-2011) (rf_499_12 l G lq S k hS9 hk hl9))) hC gL_refusesOne_L_call rfl rfl rfl rfl (by decide +kernel) rfl ⟨Nat.le_of_ble_eq_true rfl, Nat.le_of_ble_eq_true rfl⟩ hP hD hS rfl hl.1 (Nat.le_of_ble_eq_true rfl) dL_refusesOne_499 ⟨Nat.le_of_ble_eq_true rfl, Nat.le_of_ble_eq_true rfl⟩ ⟨Nat.le_of_ble_eq_true rfl, Nat.le_of_ble_eq_true rfl⟩ (fun u499 H locs hC hP hD hS => ?_)
  refine lv_sipush (v := zI (-2011)) hx hb dL_refusesOne_502 (by decide) ?_
  refine bIT_eq (tgt := 510) hx hb dL_refusesOne_505 (by decide) (by decide) ?_
  refine lv_iinc (v := nI 13) (lv' := [(6, .int (nI 13)), (5, .int (zI (szv k))), (4, .int (zI (fr k 1 7))), (3, .int (zI (fr k 0 7))), (2, .int (zI (fr k 0 15))), (0, .ref lq), (1, .int (nI k))]) hx hb dL_refusesOne_510 hl (k := 0) rfl (by rfl) (by decide) rfl (fun ls hl => ?_)
  refine lv_goto (tgt := 468) hx hb dL_refusesOne_513 (by decide) ?_
  exact kk u499 H locs ls hC hP hD hS (lv_sub hl [0, 1, 2, 3, 4, 5, 6] rfl)

set_option maxHeartbeats 8000000 in
set_option maxRecDepth 100000 in
theorem rfl_13 {p : Program} {l : Launch} {e : Env} {s : State} {m : MethodId} {args : Array Value} {below : List Frame} {meth : Method} {c : Code} {H : Heap} {locs : List Loc} {Q : State → Prop} {G : gG} {A : Nat → Prop} {lq : Nat} {ls : Array Slot} {wv X : va_W} (S : SpT) (k : Nat) (hS9 : spS S) (hk : k < 4) (hl9 : l.stackTraces = false) (hb0 : S.2.2.2.2 = 0) (F : gAt p s m args meth c yL_refusesOne wsL_refusesOne cL_refusesOne 8 (some .boolean) G A) (hZ : gX A s s.heap) (hC : clS G lq wv S) (hP : va_P G.1 vwCl (wv ++ X) H) (hD : va_D A (wv ++ X)) (hS : va_S A s.heap H locs) (hl : lv_has ls 8 [(6, .int (nI 13)), (5, .int (zI (szv k))), (4, .int (zI (fr k 1 7))), (3, .int (zI (fr k 0 7))), (2, .int (zI (fr k 0 15))), (0, .ref lq), (1, .int (nI k))])
    (kk : ∀ (u : va_W) (H : Heap) (locs : List Loc) (ls : Array Slot), clS G lq u S → va_P G.1 vwCl (u ++ X) H → va_D A (u ++ X) → va_S A s.heap H locs → lv_has ls 8 [(6, .int (nI 14)), (5, .int (zI (szv k))), (4, .int (zI (fr k 1 7))), (3, .int (zI (fr k 0 7))), (2, .int (zI (fr k 0 15))), (0, .ref lq), (1, .int (nI k))] → W p l e ({ frames := 10, cells := 220, slots := 27500, locals := 260 } : Room) s m args below meth c H locs 108 14256 Q (F0 m 468 ls [])) : W p l e ({ frames := 10, cells := 220, slots := 27500, locals := 260 } : Room) s m args below meth c H locs 100 13200 Q (F0 m 468 ls []) := by
  have hx := F.1
  have hb := F.2.1
  have hts := F.2.2.2.2.2.2.1
  have hown : s.vm.findClass RL = some m.cls := F.2.2.2.2.2.1
  refine lv_iload hx hb dL_refusesOne_468 (lv_at hl 0 rfl) ?_
  refine lv_bipush (v := nI 17) hx hb dL_refusesOne_470 (by decide) ?_
  refine bIF_ge (tgt := 516) hx hb dL_refusesOne_472 (by decide) (by decide) ?_
  refine lv_aload_n hx hb dL_refusesOne_475 rfl (lv_at hl 5 rfl) ?_
  refine lv_iload hx hb dL_refusesOne_476 (lv_at hl 0 rfl) ?_
  refine lv_iload_n hx hb dL_refusesOne_478 rfl (lv_at hl 4 rfl) ?_
  refine lv_iconst (v := nI 0) hx hb dL_refusesOne_479 (by decide) ?_
  refine lv_iconst (v := nI 0) hx hb dL_refusesOne_480 (by decide) ?_
  refine lv_iconst (v := nI 0) hx hb dL_refusesOne_481 (by decide) ?_
  refine lqSW (own := RL) (index := 150) (bytes := cL_call) (n := 6) (As := [.int (nI 13), .int (zI (fr k 0 15)), .int (nI 0), .int (nI 0), .int (nI 0)]) (rest := []) (c2 := 104) (s2 := 13728) F hZ (call_13 l G lq S S (zI (fr k 0 15)) (nI 0) (nI 0) (nI 0) (-2011) (cell_13 l G lq S S (zI (fr k 0 15)) (nI 0) (-2011) (rf_482_13 l G lq S k hS9 hk hl9))) hC gL_refusesOne_L_call rfl rfl rfl rfl (by decide +kernel) rfl ⟨Nat.le_of_ble_eq_true rfl, Nat.le_of_ble_eq_true rfl⟩ hP hD hS rfl hl.1 (Nat.le_of_ble_eq_true rfl) dL_refusesOne_482 ⟨Nat.le_of_ble_eq_true rfl, Nat.le_of_ble_eq_true rfl⟩ ⟨Nat.le_of_ble_eq_true rfl, Nat.le_of_ble_eq_true rfl⟩ (fun u482 H locs hC hP hD hS => ?_)
  refine lv_sipush (v := zI (-2011)) hx hb dL_refusesOne_485 (by decide) ?_
  refine bIF_ne (tgt := 508) hx hb dL_refusesOne_488 (by decide) (by decide) ?_
  refine lv_aload_n hx hb dL_refusesOne_491 rfl (lv_at hl 5 rfl) ?_
  refine lv_iload hx hb dL_refusesOne_492 (lv_at hl 0 rfl) ?_
  refine lv_bipush (v := nI 15) hx hb dL_refusesOne_494 (by decide) ?_
  refine lv_iload_n hx hb dL_refusesOne_496 rfl (lv_at hl 4 rfl) ?_
  refine lv_iconst (v := nI 0) hx hb dL_refusesOne_497 (by decide) ?_
  refine lv_iconst (v := nI 0) hx hb dL_refusesOne_498 (by decide) ?_
  refine lqSW (own := RL) (index := 150) (bytes := cL_call) (n := 6) (As := [.int (nI 13), .int (nI 15), .int (zI (fr k 0 15)), .int (nI 0), .int (nI 0)]) (rest := []) (c2 := 108) (s2 := 14256) F hZ (call_13 l G lq S S (nI 15) (zI (fr k 0 15)) (nI 0) (nI 0) (-2011) (cell_13 l G lq S S (nI 15) (zI (fr k 0 15)) (-2011) (rf_499_13 l G lq S k hS9 hk hl9))) hC gL_refusesOne_L_call rfl rfl rfl rfl (by decide +kernel) rfl ⟨Nat.le_of_ble_eq_true rfl, Nat.le_of_ble_eq_true rfl⟩ hP hD hS rfl hl.1 (Nat.le_of_ble_eq_true rfl) dL_refusesOne_499 ⟨Nat.le_of_ble_eq_true rfl, Nat.le_of_ble_eq_true rfl⟩ ⟨Nat.le_of_ble_eq_true rfl, Nat.le_of_ble_eq_true rfl⟩ (fun u499 H locs hC hP hD hS => ?_)
  refine lv_sipush (v := zI (-2011)) hx hb dL_refusesOne_502 (by decide) ?_
  refine bIT_eq (tgt := 510) hx hb dL_refusesOne_505 (by decide) (by decide) ?_
  refine lv_iinc (v := nI 14) (lv' := [(6, .int (nI 14)), (5, .int (zI (szv k))), (4, .int (zI (fr k 1 7))), (3, .int (zI (fr k 0 7))), (2, .int (zI (fr k 0 15))), (0, .ref lq), (1, .int (nI k))]) hx hb dL_refusesOne_510 hl (k := 0) rfl (by rfl) (by decide) rfl (fun ls hl => ?_)
  refine lv_goto (tgt := 468) hx hb dL_refusesOne_513 (by decide) ?_
  exact kk u499 H locs ls hC hP hD hS (lv_sub hl [0, 1, 2, 3, 4, 5, 6] rfl)

set_option maxHeartbeats 8000000 in
set_option maxRecDepth 100000 in
theorem rfl_14 {p : Program} {l : Launch} {e : Env} {s : State} {m : MethodId} {args : Array Value} {below : List Frame} {meth : Method} {c : Code} {H : Heap} {locs : List Loc} {Q : State → Prop} {G : gG} {A : Nat → Prop} {lq : Nat} {ls : Array Slot} {wv X : va_W} (S : SpT) (k : Nat) (hS9 : spS S) (hk : k < 4) (hl9 : l.stackTraces = false) (hb0 : S.2.2.2.2 = 0) (F : gAt p s m args meth c yL_refusesOne wsL_refusesOne cL_refusesOne 8 (some .boolean) G A) (hZ : gX A s s.heap) (hC : clS G lq wv S) (hP : va_P G.1 vwCl (wv ++ X) H) (hD : va_D A (wv ++ X)) (hS : va_S A s.heap H locs) (hl : lv_has ls 8 [(6, .int (nI 14)), (5, .int (zI (szv k))), (4, .int (zI (fr k 1 7))), (3, .int (zI (fr k 0 7))), (2, .int (zI (fr k 0 15))), (0, .ref lq), (1, .int (nI k))])
    (kk : ∀ (u : va_W) (H : Heap) (locs : List Loc) (ls : Array Slot), clS G lq u S → va_P G.1 vwCl (u ++ X) H → va_D A (u ++ X) → va_S A s.heap H locs → lv_has ls 8 [(6, .int (nI 15)), (5, .int (zI (szv k))), (4, .int (zI (fr k 1 7))), (3, .int (zI (fr k 0 7))), (2, .int (zI (fr k 0 15))), (0, .ref lq), (1, .int (nI k))] → W p l e ({ frames := 10, cells := 220, slots := 27500, locals := 260 } : Room) s m args below meth c H locs 116 15312 Q (F0 m 468 ls [])) : W p l e ({ frames := 10, cells := 220, slots := 27500, locals := 260 } : Room) s m args below meth c H locs 108 14256 Q (F0 m 468 ls []) := by
  have hx := F.1
  have hb := F.2.1
  have hts := F.2.2.2.2.2.2.1
  have hown : s.vm.findClass RL = some m.cls := F.2.2.2.2.2.1
  refine lv_iload hx hb dL_refusesOne_468 (lv_at hl 0 rfl) ?_
  refine lv_bipush (v := nI 17) hx hb dL_refusesOne_470 (by decide) ?_
  refine bIF_ge (tgt := 516) hx hb dL_refusesOne_472 (by decide) (by decide) ?_
  refine lv_aload_n hx hb dL_refusesOne_475 rfl (lv_at hl 5 rfl) ?_
  refine lv_iload hx hb dL_refusesOne_476 (lv_at hl 0 rfl) ?_
  refine lv_iload_n hx hb dL_refusesOne_478 rfl (lv_at hl 4 rfl) ?_
  refine lv_iconst (v := nI 0) hx hb dL_refusesOne_479 (by decide) ?_
  refine lv_iconst (v := nI 0) hx hb dL_refusesOne_480 (by decide) ?_
  refine lv_iconst (v := nI 0) hx hb dL_refusesOne_481 (by decide) ?_
  refine lqSW (own := RL) (index := 150) (bytes := cL_call) (n := 6) (As := [.int (nI 14), .int (zI (fr k 0 15)), .int (nI 0), .int (nI 0), .int (nI 0)]) (rest := []) (c2 := 112) (s2 := 14784) F hZ (call_14 l G lq S S (zI (fr k 0 15)) (nI 0) (nI 0) (nI 0) (-2011) (cell_14 l G lq S S (zI (fr k 0 15)) (nI 0) (-2011) (rf_482_14 l G lq S k hS9 hk hl9))) hC gL_refusesOne_L_call rfl rfl rfl rfl (by decide +kernel) rfl ⟨Nat.le_of_ble_eq_true rfl, Nat.le_of_ble_eq_true rfl⟩ hP hD hS rfl hl.1 (Nat.le_of_ble_eq_true rfl) dL_refusesOne_482 ⟨Nat.le_of_ble_eq_true rfl, Nat.le_of_ble_eq_true rfl⟩ ⟨Nat.le_of_ble_eq_true rfl, Nat.le_of_ble_eq_true rfl⟩ (fun u482 H locs hC hP hD hS => ?_)
  refine lv_sipush (v := zI (-2011)) hx hb dL_refusesOne_485 (by decide) ?_
  refine bIF_ne (tgt := 508) hx hb dL_refusesOne_488 (by decide) (by decide) ?_
  refine lv_aload_n hx hb dL_refusesOne_491 rfl (lv_at hl 5 rfl) ?_
  refine lv_iload hx hb dL_refusesOne_492 (lv_at hl 0 rfl) ?_
  refine lv_bipush (v := nI 15) hx hb dL_refusesOne_494 (by decide) ?_
  refine lv_iload_n hx hb dL_refusesOne_496 rfl (lv_at hl 4 rfl) ?_
  refine lv_iconst (v := nI 0) hx hb dL_refusesOne_497 (by decide) ?_
  refine lv_iconst (v := nI 0) hx hb dL_refusesOne_498 (by decide) ?_
  refine lqSW (own := RL) (index := 150) (bytes := cL_call) (n := 6) (As := [.int (nI 14), .int (nI 15), .int (zI (fr k 0 15)), .int (nI 0), .int (nI 0)]) (rest := []) (c2 := 116) (s2 := 15312) F hZ (call_14 l G lq S S (nI 15) (zI (fr k 0 15)) (nI 0) (nI 0) (-2011) (cell_14 l G lq S S (nI 15) (zI (fr k 0 15)) (-2011) (rf_499_14 l G lq S k hS9 hk hl9))) hC gL_refusesOne_L_call rfl rfl rfl rfl (by decide +kernel) rfl ⟨Nat.le_of_ble_eq_true rfl, Nat.le_of_ble_eq_true rfl⟩ hP hD hS rfl hl.1 (Nat.le_of_ble_eq_true rfl) dL_refusesOne_499 ⟨Nat.le_of_ble_eq_true rfl, Nat.le_of_ble_eq_true rfl⟩ ⟨Nat.le_of_ble_eq_true rfl, Nat.le_of_ble_eq_true rfl⟩ (fun u499 H locs hC hP hD hS => ?_)
  refine lv_sipush (v := zI (-2011)) hx hb dL_refusesOne_502 (by decide) ?_
  refine bIT_eq (tgt := 510) hx hb dL_refusesOne_505 (by decide) (by decide) ?_
  refine lv_iinc (v := nI 15) (lv' := [(6, .int (nI 15)), (5, .int (zI (szv k))), (4, .int (zI (fr k 1 7))), (3, .int (zI (fr k 0 7))), (2, .int (zI (fr k 0 15))), (0, .ref lq), (1, .int (nI k))]) hx hb dL_refusesOne_510 hl (k := 0) rfl (by rfl) (by decide) rfl (fun ls hl => ?_)
  refine lv_goto (tgt := 468) hx hb dL_refusesOne_513 (by decide) ?_
  exact kk u499 H locs ls hC hP hD hS (lv_sub hl [0, 1, 2, 3, 4, 5, 6] rfl)

set_option maxHeartbeats 8000000 in
set_option maxRecDepth 100000 in
theorem rfl_15 {p : Program} {l : Launch} {e : Env} {s : State} {m : MethodId} {args : Array Value} {below : List Frame} {meth : Method} {c : Code} {H : Heap} {locs : List Loc} {Q : State → Prop} {G : gG} {A : Nat → Prop} {lq : Nat} {ls : Array Slot} {wv X : va_W} (S : SpT) (k : Nat) (hS9 : spS S) (hk : k < 4) (hl9 : l.stackTraces = false) (hb0 : S.2.2.2.2 = 0) (F : gAt p s m args meth c yL_refusesOne wsL_refusesOne cL_refusesOne 8 (some .boolean) G A) (hZ : gX A s s.heap) (hC : clS G lq wv S) (hP : va_P G.1 vwCl (wv ++ X) H) (hD : va_D A (wv ++ X)) (hS : va_S A s.heap H locs) (hl : lv_has ls 8 [(6, .int (nI 15)), (5, .int (zI (szv k))), (4, .int (zI (fr k 1 7))), (3, .int (zI (fr k 0 7))), (2, .int (zI (fr k 0 15))), (0, .ref lq), (1, .int (nI k))])
    (kk : ∀ (u : va_W) (H : Heap) (locs : List Loc) (ls : Array Slot), clS G lq u S → va_P G.1 vwCl (u ++ X) H → va_D A (u ++ X) → va_S A s.heap H locs → lv_has ls 8 [(6, .int (nI 16)), (5, .int (zI (szv k))), (4, .int (zI (fr k 1 7))), (3, .int (zI (fr k 0 7))), (2, .int (zI (fr k 0 15))), (0, .ref lq), (1, .int (nI k))] → W p l e ({ frames := 10, cells := 220, slots := 27500, locals := 260 } : Room) s m args below meth c H locs 124 16368 Q (F0 m 468 ls [])) : W p l e ({ frames := 10, cells := 220, slots := 27500, locals := 260 } : Room) s m args below meth c H locs 116 15312 Q (F0 m 468 ls []) := by
  have hx := F.1
  have hb := F.2.1
  have hts := F.2.2.2.2.2.2.1
  have hown : s.vm.findClass RL = some m.cls := F.2.2.2.2.2.1
  refine lv_iload hx hb dL_refusesOne_468 (lv_at hl 0 rfl) ?_
  refine lv_bipush (v := nI 17) hx hb dL_refusesOne_470 (by decide) ?_
  refine bIF_ge (tgt := 516) hx hb dL_refusesOne_472 (by decide) (by decide) ?_
  refine lv_aload_n hx hb dL_refusesOne_475 rfl (lv_at hl 5 rfl) ?_
  refine lv_iload hx hb dL_refusesOne_476 (lv_at hl 0 rfl) ?_
  refine lv_iload_n hx hb dL_refusesOne_478 rfl (lv_at hl 4 rfl) ?_
  refine lv_iconst (v := nI 0) hx hb dL_refusesOne_479 (by decide) ?_
  refine lv_iconst (v := nI 0) hx hb dL_refusesOne_480 (by decide) ?_
  refine lv_iconst (v := nI 0) hx hb dL_refusesOne_481 (by decide) ?_
  refine lqSW (own := RL) (index := 150) (bytes := cL_call) (n := 6) (As := [.int (nI 15), .int (zI (fr k 0 15)), .int (nI 0), .int (nI 0), .int (nI 0)]) (rest := []) (c2 := 120) (s2 := 15840) F hZ (call_15 l G lq S S (zI (fr k 0 15)) (nI 0) (nI 0) (nI 0) (-2011) (cell_15 l G lq S S (zI (fr k 0 15)) (nI 0) (-2011) (rf_482_15 l G lq S k hS9 hk hl9))) hC gL_refusesOne_L_call rfl rfl rfl rfl (by decide +kernel) rfl ⟨Nat.le_of_ble_eq_true rfl, Nat.le_of_ble_eq_true rfl⟩ hP hD hS rfl hl.1 (Nat.le_of_ble_eq_true rfl) dL_refusesOne_482 ⟨Nat.le_of_ble_eq_true rfl, Nat.le_of_ble_eq_true rfl⟩ ⟨Nat.le_of_ble_eq_true rfl, Nat.le_of_ble_eq_true rfl⟩ (fun u482 H locs hC hP hD hS => ?_)
  refine lv_sipush (v := zI (-2011)) hx hb dL_refusesOne_485 (by decide) ?_
  refine bIF_ne (tgt := 508) hx hb dL_refusesOne_488 (by decide) (by decide) ?_
  refine lv_aload_n hx hb dL_refusesOne_491 rfl (lv_at hl 5 rfl) ?_
  refine lv_iload hx hb dL_refusesOne_492 (lv_at hl 0 rfl) ?_
  refine lv_bipush (v := nI 15) hx hb dL_refusesOne_494 (by decide) ?_
  refine lv_iload_n hx hb dL_refusesOne_496 rfl (lv_at hl 4 rfl) ?_
  refine lv_iconst (v := nI 0) hx hb dL_refusesOne_497 (by decide) ?_
  refine lv_iconst (v := nI 0) hx hb dL_refusesOne_498 (by decide) ?_
  refine lqSW (own := RL) (index := 150) (bytes := cL_call) (n := 6) (As := [.int (nI 15), .int (nI 15), .int (zI (fr k 0 15)), .int (nI 0), .int (nI 0)]) (rest := []) (c2 := 124) (s2 := 16368) F hZ (call_15 l G lq S S (nI 15) (zI (fr k 0 15)) (nI 0) (nI 0) (-2011) (cell_15 l G lq S S (nI 15) (zI (fr k 0 15)) (-2011) (rf_499_15 l G lq S k hS9 hk hl9))) hC gL_refusesOne_L_call rfl rfl rfl rfl (by decide +kernel) rfl ⟨Nat.le_of_ble_eq_true rfl, Nat.le_of_ble_eq_true rfl⟩ hP hD hS rfl hl.1 (Nat.le_of_ble_eq_true rfl) dL_refusesOne_499 ⟨Nat.le_of_ble_eq_true rfl, Nat.le_of_ble_eq_true rfl⟩ ⟨Nat.le_of_ble_eq_true rfl, Nat.le_of_ble_eq_true rfl⟩ (fun u499 H locs hC hP hD hS => ?_)
  refine lv_sipush (v := zI (-2011)) hx hb dL_refusesOne_502 (by decide) ?_
  refine bIT_eq (tgt := 510) hx hb dL_refusesOne_505 (by decide) (by decide) ?_
  refine lv_iinc (v := nI 16) (lv' := [(6, .int (nI 16)), (5, .int (zI (szv k))), (4, .int (zI (fr k 1 7))), (3, .int (zI (fr k 0 7))), (2, .int (zI (fr k 0 15))), (0, .ref lq), (1, .int (nI k))]) hx hb dL_refusesOne_510 hl (k := 0) rfl (by rfl) (by decide) rfl (fun ls hl => ?_)
  refine lv_goto (tgt := 468) hx hb dL_refusesOne_513 (by decide) ?_
  exact kk u499 H locs ls hC hP hD hS (lv_sub hl [0, 1, 2, 3, 4, 5, 6] rfl)

set_option maxHeartbeats 8000000 in
set_option maxRecDepth 100000 in
theorem rfl_16 {p : Program} {l : Launch} {e : Env} {s : State} {m : MethodId} {args : Array Value} {below : List Frame} {meth : Method} {c : Code} {H : Heap} {locs : List Loc} {Q : State → Prop} {G : gG} {A : Nat → Prop} {lq : Nat} {ls : Array Slot} {wv X : va_W} (S : SpT) (k : Nat) (hS9 : spS S) (hk : k < 4) (hl9 : l.stackTraces = false) (hb0 : S.2.2.2.2 = 0) (F : gAt p s m args meth c yL_refusesOne wsL_refusesOne cL_refusesOne 8 (some .boolean) G A) (hZ : gX A s s.heap) (hC : clS G lq wv S) (hP : va_P G.1 vwCl (wv ++ X) H) (hD : va_D A (wv ++ X)) (hS : va_S A s.heap H locs) (hl : lv_has ls 8 [(6, .int (nI 16)), (5, .int (zI (szv k))), (4, .int (zI (fr k 1 7))), (3, .int (zI (fr k 0 7))), (2, .int (zI (fr k 0 15))), (0, .ref lq), (1, .int (nI k))])
    (kk : ∀ (u : va_W) (H : Heap) (locs : List Loc) (ls : Array Slot), clS G lq u S → va_P G.1 vwCl (u ++ X) H → va_D A (u ++ X) → va_S A s.heap H locs → lv_has ls 8 [(6, .int (nI 17)), (5, .int (zI (szv k))), (4, .int (zI (fr k 1 7))), (3, .int (zI (fr k 0 7))), (2, .int (zI (fr k 0 15))), (0, .ref lq), (1, .int (nI k))] → W p l e ({ frames := 10, cells := 220, slots := 27500, locals := 260 } : Room) s m args below meth c H locs 132 17424 Q (F0 m 468 ls [])) : W p l e ({ frames := 10, cells := 220, slots := 27500, locals := 260 } : Room) s m args below meth c H locs 124 16368 Q (F0 m 468 ls []) := by
  have hx := F.1
  have hb := F.2.1
  have hts := F.2.2.2.2.2.2.1
  have hown : s.vm.findClass RL = some m.cls := F.2.2.2.2.2.1
  refine lv_iload hx hb dL_refusesOne_468 (lv_at hl 0 rfl) ?_
  refine lv_bipush (v := nI 17) hx hb dL_refusesOne_470 (by decide) ?_
  refine bIF_ge (tgt := 516) hx hb dL_refusesOne_472 (by decide) (by decide) ?_
  refine lv_aload_n hx hb dL_refusesOne_475 rfl (lv_at hl 5 rfl) ?_
  refine lv_iload hx hb dL_refusesOne_476 (lv_at hl 0 rfl) ?_
  refine lv_iload_n hx hb dL_refusesOne_478 rfl (lv_at hl 4 rfl) ?_
  refine lv_iconst (v := nI 0) hx hb dL_refusesOne_479 (by decide) ?_
  refine lv_iconst (v := nI 0) hx hb dL_refusesOne_480 (by decide) ?_
  refine lv_iconst (v := nI 0) hx hb dL_refusesOne_481 (by decide) ?_
  refine lqSW (own := RL) (index := 150) (bytes := cL_call) (n := 6) (As := [.int (nI 16), .int (zI (fr k 0 15)), .int (nI 0), .int (nI 0), .int (nI 0)]) (rest := []) (c2 := 128) (s2 := 16896) F hZ (call_16 l G lq S S (zI (fr k 0 15)) (nI 0) (nI 0) (nI 0) (-2011) (cell_16 l G lq S S (zI (fr k 0 15)) (nI 0) (-2011) (rf_482_16 l G lq S k hS9 hk hl9))) hC gL_refusesOne_L_call rfl rfl rfl rfl (by decide +kernel) rfl ⟨Nat.le_of_ble_eq_true rfl, Nat.le_of_ble_eq_true rfl⟩ hP hD hS rfl hl.1 (Nat.le_of_ble_eq_true rfl) dL_refusesOne_482 ⟨Nat.le_of_ble_eq_true rfl, Nat.le_of_ble_eq_true rfl⟩ ⟨Nat.le_of_ble_eq_true rfl, Nat.le_of_ble_eq_true rfl⟩ (fun u482 H locs hC hP hD hS => ?_)
  refine lv_sipush (v := zI (-2011)) hx hb dL_refusesOne_485 (by decide) ?_
  refine bIF_ne (tgt := 508) hx hb dL_refusesOne_488 (by decide) (by decide) ?_
  refine lv_aload_n hx hb dL_refusesOne_491 rfl (lv_at hl 5 rfl) ?_
  refine lv_iload hx hb dL_refusesOne_492 (lv_at hl 0 rfl) ?_
  refine lv_bipush (v := nI 15) hx hb dL_refusesOne_494 (by decide) ?_
  refine lv_iload_n hx hb dL_refusesOne_496 rfl (lv_at hl 4 rfl) ?_
  refine lv_iconst (v := nI 0) hx hb dL_refusesOne_497 (by decide) ?_
  refine lv_iconst (v := nI 0) hx hb dL_refusesOne_498 (by decide) ?_
  refine lqSW (own := RL) (index := 150) (bytes := cL_call) (n := 6) (As := [.int (nI 16), .int (nI 15), .int (zI (fr k 0 15)), .int (nI 0), .int (nI 0)]) (rest := []) (c2 := 132) (s2 := 17424) F hZ (call_16 l G lq S S (nI 15) (zI (fr k 0 15)) (nI 0) (nI 0) (-2011) (cell_16 l G lq S S (nI 15) (zI (fr k 0 15)) (-2011) (rf_499_16 l G lq S k hS9 hk hl9))) hC gL_refusesOne_L_call rfl rfl rfl rfl (by decide +kernel) rfl ⟨Nat.le_of_ble_eq_true rfl, Nat.le_of_ble_eq_true rfl⟩ hP hD hS rfl hl.1 (Nat.le_of_ble_eq_true rfl) dL_refusesOne_499 ⟨Nat.le_of_ble_eq_true rfl, Nat.le_of_ble_eq_true rfl⟩ ⟨Nat.le_of_ble_eq_true rfl, Nat.le_of_ble_eq_true rfl⟩ (fun u499 H locs hC hP hD hS => ?_)
  refine lv_sipush (v := zI (-2011)) hx hb dL_refusesOne_502 (by decide) ?_
  refine bIT_eq (tgt := 510) hx hb dL_refusesOne_505 (by decide) (by decide) ?_
  refine lv_iinc (v := nI 17) (lv' := [(6, .int (nI 17)), (5, .int (zI (szv k))), (4, .int (zI (fr k 1 7))), (3, .int (zI (fr k 0 7))), (2, .int (zI (fr k 0 15))), (0, .ref lq), (1, .int (nI k))]) hx hb dL_refusesOne_510 hl (k := 0) rfl (by rfl) (by decide) rfl (fun ls hl => ?_)
  refine lv_goto (tgt := 468) hx hb dL_refusesOne_513 (by decide) ?_
  exact kk u499 H locs ls hC hP hD hS (lv_sub hl [0, 1, 2, 3, 4, 5, 6] rfl)

set_option maxHeartbeats 8000000 in
set_option maxRecDepth 100000 in
theorem rfl_17 {p : Program} {l : Launch} {e : Env} {s : State} {m : MethodId} {args : Array Value} {below : List Frame} {meth : Method} {c : Code} {H : Heap} {locs : List Loc} {Q : State → Prop} {G : gG} {A : Nat → Prop} {lq : Nat} {ls : Array Slot} {wv X : va_W} (S : SpT) (k : Nat) (hS9 : spS S) (hk : k < 4) (hl9 : l.stackTraces = false) (hb0 : S.2.2.2.2 = 0) (F : gAt p s m args meth c yL_refusesOne wsL_refusesOne cL_refusesOne 8 (some .boolean) G A) (hZ : gX A s s.heap) (hC : clS G lq wv S) (hP : va_P G.1 vwCl (wv ++ X) H) (hD : va_D A (wv ++ X)) (hS : va_S A s.heap H locs) (hl : lv_has ls 8 [(6, .int (nI 17)), (5, .int (zI (szv k))), (4, .int (zI (fr k 1 7))), (3, .int (zI (fr k 0 7))), (2, .int (zI (fr k 0 15))), (0, .ref lq), (1, .int (nI k))])
    (kk : ∀ (u : va_W) (H : Heap) (locs : List Loc) (ls : Array Slot), clS G lq u S → va_P G.1 vwCl (u ++ X) H → va_D A (u ++ X) → va_S A s.heap H locs → lv_has ls 8 [(6, .int (nI 18)), (5, .int (zI (szv k))), (4, .int (zI (fr k 1 7))), (3, .int (zI (fr k 0 7))), (2, .int (zI (fr k 0 15))), (0, .ref lq), (1, .int (nI k))] → W p l e ({ frames := 10, cells := 220, slots := 27500, locals := 260 } : Room) s m args below meth c H locs 136 17952 Q (F0 m 520 ls [])) : W p l e ({ frames := 10, cells := 220, slots := 27500, locals := 260 } : Room) s m args below meth c H locs 132 17424 Q (F0 m 520 ls []) := by
  have hx := F.1
  have hb := F.2.1
  have hts := F.2.2.2.2.2.2.1
  have hown : s.vm.findClass RL = some m.cls := F.2.2.2.2.2.1
  refine lv_iload hx hb dL_refusesOne_520 (lv_at hl 0 rfl) ?_
  refine lv_bipush (v := nI 29) hx hb dL_refusesOne_522 (by decide) ?_
  refine bIF_ge (tgt := 606) hx hb dL_refusesOne_524 (by decide) (by decide) ?_
  refine lv_iload hx hb dL_refusesOne_527 (lv_at hl 0 rfl) ?_
  refine lv_bipush (v := nI 24) hx hb dL_refusesOne_529 (by decide) ?_
  refine bIF_eq (tgt := 541) hx hb dL_refusesOne_531 (by decide) (by decide) ?_
  refine lv_iload hx hb dL_refusesOne_534 (lv_at hl 0 rfl) ?_
  refine lv_bipush (v := nI 27) hx hb dL_refusesOne_536 (by decide) ?_
  refine bIT_ne (tgt := 545) hx hb dL_refusesOne_538 (by decide) (by decide) ?_
  refine lv_iconst (v := nI 0) hx hb dL_refusesOne_545 (by decide) ?_
  refine lv_istore (lv' := [(7, .int (nI 0)), (6, .int (nI 17)), (5, .int (zI (szv k))), (4, .int (zI (fr k 1 7))), (3, .int (zI (fr k 0 7))), (2, .int (zI (fr k 0 15))), (0, .ref lq), (1, .int (nI k))]) hx hb dL_refusesOne_546 hl (by decide) rfl (fun ls hl => ?_)
  refine lv_aload_n hx hb dL_refusesOne_548 rfl (lv_at hl 6 rfl) ?_
  refine lv_iload hx hb dL_refusesOne_549 (lv_at hl 1 rfl) ?_
  refine lv_iload hx hb dL_refusesOne_551 (lv_at hl 0 rfl) ?_
  refine bZT_eq (tgt := 561) hx hb dL_refusesOne_553 (by decide) (by decide) ?_
  refine lv_iload_n hx hb dL_refusesOne_561 rfl (lv_at hl 4 rfl) ?_
  refine lv_iconst (v := nI 1) hx hb dL_refusesOne_562 (by decide) ?_
  refine lv_iconst (v := nI 0) hx hb dL_refusesOne_563 (by decide) ?_
  refine lv_iconst (v := nI 0) hx hb dL_refusesOne_564 (by decide) ?_
  refine lqSW (own := RL) (index := 150) (bytes := cL_call) (n := 6) (As := [.int (nI 17), .int (zI (fr k 0 7)), .int (nI 1), .int (nI 0), .int (nI 0)]) (rest := []) (c2 := 136) (s2 := 17952) F hZ (call_17 l G lq S S (zI (fr k 0 7)) (nI 1) (nI 0) (nI 0) (-2011) (owned_17 l G lq S S (zI (fr k 0 7)) (nI 1) (-2011) (rf_565_17 l G lq S k hS9 hk hl9))) hC gL_refusesOne_L_call rfl rfl rfl rfl (by decide +kernel) rfl ⟨Nat.le_of_ble_eq_true rfl, Nat.le_of_ble_eq_true rfl⟩ hP hD hS rfl hl.1 (Nat.le_of_ble_eq_true rfl) dL_refusesOne_565 ⟨Nat.le_of_ble_eq_true rfl, Nat.le_of_ble_eq_true rfl⟩ ⟨Nat.le_of_ble_eq_true rfl, Nat.le_of_ble_eq_true rfl⟩ (fun u565 H locs hC hP hD hS => ?_)
  refine lv_sipush (v := zI (-2011)) hx hb dL_refusesOne_568 (by decide) ?_
  refine bIF_ne (tgt := 598) hx hb dL_refusesOne_571 (by decide) (by decide) ?_
  refine lv_iload hx hb dL_refusesOne_574 (lv_at hl 1 rfl) ?_
  refine lv_bipush (v := nI 22) hx hb dL_refusesOne_576 (by decide) ?_
  refine bIT_ne (tgt := 600) hx hb dL_refusesOne_578 (by decide) (by decide) ?_
  refine lv_iinc (v := nI 18) (lv' := [(6, .int (nI 18)), (7, .int (nI 0)), (5, .int (zI (szv k))), (4, .int (zI (fr k 1 7))), (3, .int (zI (fr k 0 7))), (2, .int (zI (fr k 0 15))), (0, .ref lq), (1, .int (nI k))]) hx hb dL_refusesOne_600 hl (k := 1) rfl (by rfl) (by decide) rfl (fun ls hl => ?_)
  refine lv_goto (tgt := 520) hx hb dL_refusesOne_603 (by decide) ?_
  exact kk u565 H locs ls hC hP hD hS (lv_sub hl [0, 2, 3, 4, 5, 6, 7] rfl)

set_option maxHeartbeats 8000000 in
set_option maxRecDepth 100000 in
theorem rfl_18 {p : Program} {l : Launch} {e : Env} {s : State} {m : MethodId} {args : Array Value} {below : List Frame} {meth : Method} {c : Code} {H : Heap} {locs : List Loc} {Q : State → Prop} {G : gG} {A : Nat → Prop} {lq : Nat} {ls : Array Slot} {wv X : va_W} (S : SpT) (k : Nat) (hS9 : spS S) (hk : k < 4) (hl9 : l.stackTraces = false) (hb0 : S.2.2.2.2 = 0) (F : gAt p s m args meth c yL_refusesOne wsL_refusesOne cL_refusesOne 8 (some .boolean) G A) (hZ : gX A s s.heap) (hC : clS G lq wv S) (hP : va_P G.1 vwCl (wv ++ X) H) (hD : va_D A (wv ++ X)) (hS : va_S A s.heap H locs) (hl : lv_has ls 8 [(6, .int (nI 18)), (5, .int (zI (szv k))), (4, .int (zI (fr k 1 7))), (3, .int (zI (fr k 0 7))), (2, .int (zI (fr k 0 15))), (0, .ref lq), (1, .int (nI k))])
    (kk : ∀ (u : va_W) (H : Heap) (locs : List Loc) (ls : Array Slot), clS G lq u S → va_P G.1 vwCl (u ++ X) H → va_D A (u ++ X) → va_S A s.heap H locs → lv_has ls 8 [(6, .int (nI 19)), (5, .int (zI (szv k))), (4, .int (zI (fr k 1 7))), (3, .int (zI (fr k 0 7))), (2, .int (zI (fr k 0 15))), (0, .ref lq), (1, .int (nI k))] → W p l e ({ frames := 10, cells := 220, slots := 27500, locals := 260 } : Room) s m args below meth c H locs 140 18480 Q (F0 m 520 ls [])) : W p l e ({ frames := 10, cells := 220, slots := 27500, locals := 260 } : Room) s m args below meth c H locs 136 17952 Q (F0 m 520 ls []) := by
  have hx := F.1
  have hb := F.2.1
  have hts := F.2.2.2.2.2.2.1
  have hown : s.vm.findClass RL = some m.cls := F.2.2.2.2.2.1
  refine lv_iload hx hb dL_refusesOne_520 (lv_at hl 0 rfl) ?_
  refine lv_bipush (v := nI 29) hx hb dL_refusesOne_522 (by decide) ?_
  refine bIF_ge (tgt := 606) hx hb dL_refusesOne_524 (by decide) (by decide) ?_
  refine lv_iload hx hb dL_refusesOne_527 (lv_at hl 0 rfl) ?_
  refine lv_bipush (v := nI 24) hx hb dL_refusesOne_529 (by decide) ?_
  refine bIF_eq (tgt := 541) hx hb dL_refusesOne_531 (by decide) (by decide) ?_
  refine lv_iload hx hb dL_refusesOne_534 (lv_at hl 0 rfl) ?_
  refine lv_bipush (v := nI 27) hx hb dL_refusesOne_536 (by decide) ?_
  refine bIT_ne (tgt := 545) hx hb dL_refusesOne_538 (by decide) (by decide) ?_
  refine lv_iconst (v := nI 0) hx hb dL_refusesOne_545 (by decide) ?_
  refine lv_istore (lv' := [(7, .int (nI 0)), (6, .int (nI 18)), (5, .int (zI (szv k))), (4, .int (zI (fr k 1 7))), (3, .int (zI (fr k 0 7))), (2, .int (zI (fr k 0 15))), (0, .ref lq), (1, .int (nI k))]) hx hb dL_refusesOne_546 hl (by decide) rfl (fun ls hl => ?_)
  refine lv_aload_n hx hb dL_refusesOne_548 rfl (lv_at hl 6 rfl) ?_
  refine lv_iload hx hb dL_refusesOne_549 (lv_at hl 1 rfl) ?_
  refine lv_iload hx hb dL_refusesOne_551 (lv_at hl 0 rfl) ?_
  refine bZT_eq (tgt := 561) hx hb dL_refusesOne_553 (by decide) (by decide) ?_
  refine lv_iload_n hx hb dL_refusesOne_561 rfl (lv_at hl 4 rfl) ?_
  refine lv_iconst (v := nI 1) hx hb dL_refusesOne_562 (by decide) ?_
  refine lv_iconst (v := nI 0) hx hb dL_refusesOne_563 (by decide) ?_
  refine lv_iconst (v := nI 0) hx hb dL_refusesOne_564 (by decide) ?_
  refine lqSW (own := RL) (index := 150) (bytes := cL_call) (n := 6) (As := [.int (nI 18), .int (zI (fr k 0 7)), .int (nI 1), .int (nI 0), .int (nI 0)]) (rest := []) (c2 := 140) (s2 := 18480) F hZ (call_18 l G lq S S (zI (fr k 0 7)) (nI 1) (nI 0) (nI 0) (-2011) (owned_18 l G lq S S (zI (fr k 0 7)) (nI 1) (-2011) (rf_565_18 l G lq S k hS9 hk hl9))) hC gL_refusesOne_L_call rfl rfl rfl rfl (by decide +kernel) rfl ⟨Nat.le_of_ble_eq_true rfl, Nat.le_of_ble_eq_true rfl⟩ hP hD hS rfl hl.1 (Nat.le_of_ble_eq_true rfl) dL_refusesOne_565 ⟨Nat.le_of_ble_eq_true rfl, Nat.le_of_ble_eq_true rfl⟩ ⟨Nat.le_of_ble_eq_true rfl, Nat.le_of_ble_eq_true rfl⟩ (fun u565 H locs hC hP hD hS => ?_)
  refine lv_sipush (v := zI (-2011)) hx hb dL_refusesOne_568 (by decide) ?_
  refine bIF_ne (tgt := 598) hx hb dL_refusesOne_571 (by decide) (by decide) ?_
  refine lv_iload hx hb dL_refusesOne_574 (lv_at hl 1 rfl) ?_
  refine lv_bipush (v := nI 22) hx hb dL_refusesOne_576 (by decide) ?_
  refine bIT_ne (tgt := 600) hx hb dL_refusesOne_578 (by decide) (by decide) ?_
  refine lv_iinc (v := nI 19) (lv' := [(6, .int (nI 19)), (7, .int (nI 0)), (5, .int (zI (szv k))), (4, .int (zI (fr k 1 7))), (3, .int (zI (fr k 0 7))), (2, .int (zI (fr k 0 15))), (0, .ref lq), (1, .int (nI k))]) hx hb dL_refusesOne_600 hl (k := 1) rfl (by rfl) (by decide) rfl (fun ls hl => ?_)
  refine lv_goto (tgt := 520) hx hb dL_refusesOne_603 (by decide) ?_
  exact kk u565 H locs ls hC hP hD hS (lv_sub hl [0, 2, 3, 4, 5, 6, 7] rfl)

set_option maxHeartbeats 8000000 in
set_option maxRecDepth 100000 in
theorem rfl_19 {p : Program} {l : Launch} {e : Env} {s : State} {m : MethodId} {args : Array Value} {below : List Frame} {meth : Method} {c : Code} {H : Heap} {locs : List Loc} {Q : State → Prop} {G : gG} {A : Nat → Prop} {lq : Nat} {ls : Array Slot} {wv X : va_W} (S : SpT) (k : Nat) (hS9 : spS S) (hk : k < 4) (hl9 : l.stackTraces = false) (hb0 : S.2.2.2.2 = 0) (F : gAt p s m args meth c yL_refusesOne wsL_refusesOne cL_refusesOne 8 (some .boolean) G A) (hZ : gX A s s.heap) (hC : clS G lq wv S) (hP : va_P G.1 vwCl (wv ++ X) H) (hD : va_D A (wv ++ X)) (hS : va_S A s.heap H locs) (hl : lv_has ls 8 [(6, .int (nI 19)), (5, .int (zI (szv k))), (4, .int (zI (fr k 1 7))), (3, .int (zI (fr k 0 7))), (2, .int (zI (fr k 0 15))), (0, .ref lq), (1, .int (nI k))])
    (kk : ∀ (u : va_W) (H : Heap) (locs : List Loc) (ls : Array Slot), clS G lq u S → va_P G.1 vwCl (u ++ X) H → va_D A (u ++ X) → va_S A s.heap H locs → lv_has ls 8 [(6, .int (nI 20)), (5, .int (zI (szv k))), (4, .int (zI (fr k 1 7))), (3, .int (zI (fr k 0 7))), (2, .int (zI (fr k 0 15))), (0, .ref lq), (1, .int (nI k))] → W p l e ({ frames := 10, cells := 220, slots := 27500, locals := 260 } : Room) s m args below meth c H locs 144 19008 Q (F0 m 520 ls [])) : W p l e ({ frames := 10, cells := 220, slots := 27500, locals := 260 } : Room) s m args below meth c H locs 140 18480 Q (F0 m 520 ls []) := by
  have hx := F.1
  have hb := F.2.1
  have hts := F.2.2.2.2.2.2.1
  have hown : s.vm.findClass RL = some m.cls := F.2.2.2.2.2.1
  refine lv_iload hx hb dL_refusesOne_520 (lv_at hl 0 rfl) ?_
  refine lv_bipush (v := nI 29) hx hb dL_refusesOne_522 (by decide) ?_
  refine bIF_ge (tgt := 606) hx hb dL_refusesOne_524 (by decide) (by decide) ?_
  refine lv_iload hx hb dL_refusesOne_527 (lv_at hl 0 rfl) ?_
  refine lv_bipush (v := nI 24) hx hb dL_refusesOne_529 (by decide) ?_
  refine bIF_eq (tgt := 541) hx hb dL_refusesOne_531 (by decide) (by decide) ?_
  refine lv_iload hx hb dL_refusesOne_534 (lv_at hl 0 rfl) ?_
  refine lv_bipush (v := nI 27) hx hb dL_refusesOne_536 (by decide) ?_
  refine bIT_ne (tgt := 545) hx hb dL_refusesOne_538 (by decide) (by decide) ?_
  refine lv_iconst (v := nI 0) hx hb dL_refusesOne_545 (by decide) ?_
  refine lv_istore (lv' := [(7, .int (nI 0)), (6, .int (nI 19)), (5, .int (zI (szv k))), (4, .int (zI (fr k 1 7))), (3, .int (zI (fr k 0 7))), (2, .int (zI (fr k 0 15))), (0, .ref lq), (1, .int (nI k))]) hx hb dL_refusesOne_546 hl (by decide) rfl (fun ls hl => ?_)
  refine lv_aload_n hx hb dL_refusesOne_548 rfl (lv_at hl 6 rfl) ?_
  refine lv_iload hx hb dL_refusesOne_549 (lv_at hl 1 rfl) ?_
  refine lv_iload hx hb dL_refusesOne_551 (lv_at hl 0 rfl) ?_
  refine bZT_eq (tgt := 561) hx hb dL_refusesOne_553 (by decide) (by decide) ?_
  refine lv_iload_n hx hb dL_refusesOne_561 rfl (lv_at hl 4 rfl) ?_
  refine lv_iconst (v := nI 1) hx hb dL_refusesOne_562 (by decide) ?_
  refine lv_iconst (v := nI 0) hx hb dL_refusesOne_563 (by decide) ?_
  refine lv_iconst (v := nI 0) hx hb dL_refusesOne_564 (by decide) ?_
  refine lqSW (own := RL) (index := 150) (bytes := cL_call) (n := 6) (As := [.int (nI 19), .int (zI (fr k 0 7)), .int (nI 1), .int (nI 0), .int (nI 0)]) (rest := []) (c2 := 144) (s2 := 19008) F hZ (call_19 l G lq S S (zI (fr k 0 7)) (nI 1) (nI 0) (nI 0) (-2011) (owned_19 l G lq S S (zI (fr k 0 7)) (nI 1) (-2011) (rf_565_19 l G lq S k hS9 hk hl9))) hC gL_refusesOne_L_call rfl rfl rfl rfl (by decide +kernel) rfl ⟨Nat.le_of_ble_eq_true rfl, Nat.le_of_ble_eq_true rfl⟩ hP hD hS rfl hl.1 (Nat.le_of_ble_eq_true rfl) dL_refusesOne_565 ⟨Nat.le_of_ble_eq_true rfl, Nat.le_of_ble_eq_true rfl⟩ ⟨Nat.le_of_ble_eq_true rfl, Nat.le_of_ble_eq_true rfl⟩ (fun u565 H locs hC hP hD hS => ?_)
  refine lv_sipush (v := zI (-2011)) hx hb dL_refusesOne_568 (by decide) ?_
  refine bIF_ne (tgt := 598) hx hb dL_refusesOne_571 (by decide) (by decide) ?_
  refine lv_iload hx hb dL_refusesOne_574 (lv_at hl 1 rfl) ?_
  refine lv_bipush (v := nI 22) hx hb dL_refusesOne_576 (by decide) ?_
  refine bIT_ne (tgt := 600) hx hb dL_refusesOne_578 (by decide) (by decide) ?_
  refine lv_iinc (v := nI 20) (lv' := [(6, .int (nI 20)), (7, .int (nI 0)), (5, .int (zI (szv k))), (4, .int (zI (fr k 1 7))), (3, .int (zI (fr k 0 7))), (2, .int (zI (fr k 0 15))), (0, .ref lq), (1, .int (nI k))]) hx hb dL_refusesOne_600 hl (k := 1) rfl (by rfl) (by decide) rfl (fun ls hl => ?_)
  refine lv_goto (tgt := 520) hx hb dL_refusesOne_603 (by decide) ?_
  exact kk u565 H locs ls hC hP hD hS (lv_sub hl [0, 2, 3, 4, 5, 6, 7] rfl)

set_option maxHeartbeats 8000000 in
set_option maxRecDepth 100000 in
theorem rfl_20 {p : Program} {l : Launch} {e : Env} {s : State} {m : MethodId} {args : Array Value} {below : List Frame} {meth : Method} {c : Code} {H : Heap} {locs : List Loc} {Q : State → Prop} {G : gG} {A : Nat → Prop} {lq : Nat} {ls : Array Slot} {wv X : va_W} (S : SpT) (k : Nat) (hS9 : spS S) (hk : k < 4) (hl9 : l.stackTraces = false) (hb0 : S.2.2.2.2 = 0) (F : gAt p s m args meth c yL_refusesOne wsL_refusesOne cL_refusesOne 8 (some .boolean) G A) (hZ : gX A s s.heap) (hC : clS G lq wv S) (hP : va_P G.1 vwCl (wv ++ X) H) (hD : va_D A (wv ++ X)) (hS : va_S A s.heap H locs) (hl : lv_has ls 8 [(6, .int (nI 20)), (5, .int (zI (szv k))), (4, .int (zI (fr k 1 7))), (3, .int (zI (fr k 0 7))), (2, .int (zI (fr k 0 15))), (0, .ref lq), (1, .int (nI k))])
    (kk : ∀ (u : va_W) (H : Heap) (locs : List Loc) (ls : Array Slot), clS G lq u S → va_P G.1 vwCl (u ++ X) H → va_D A (u ++ X) → va_S A s.heap H locs → lv_has ls 8 [(6, .int (nI 21)), (5, .int (zI (szv k))), (4, .int (zI (fr k 1 7))), (3, .int (zI (fr k 0 7))), (2, .int (zI (fr k 0 15))), (0, .ref lq), (1, .int (nI k))] → W p l e ({ frames := 10, cells := 220, slots := 27500, locals := 260 } : Room) s m args below meth c H locs 148 19536 Q (F0 m 520 ls [])) : W p l e ({ frames := 10, cells := 220, slots := 27500, locals := 260 } : Room) s m args below meth c H locs 144 19008 Q (F0 m 520 ls []) := by
  have hx := F.1
  have hb := F.2.1
  have hts := F.2.2.2.2.2.2.1
  have hown : s.vm.findClass RL = some m.cls := F.2.2.2.2.2.1
  refine lv_iload hx hb dL_refusesOne_520 (lv_at hl 0 rfl) ?_
  refine lv_bipush (v := nI 29) hx hb dL_refusesOne_522 (by decide) ?_
  refine bIF_ge (tgt := 606) hx hb dL_refusesOne_524 (by decide) (by decide) ?_
  refine lv_iload hx hb dL_refusesOne_527 (lv_at hl 0 rfl) ?_
  refine lv_bipush (v := nI 24) hx hb dL_refusesOne_529 (by decide) ?_
  refine bIF_eq (tgt := 541) hx hb dL_refusesOne_531 (by decide) (by decide) ?_
  refine lv_iload hx hb dL_refusesOne_534 (lv_at hl 0 rfl) ?_
  refine lv_bipush (v := nI 27) hx hb dL_refusesOne_536 (by decide) ?_
  refine bIT_ne (tgt := 545) hx hb dL_refusesOne_538 (by decide) (by decide) ?_
  refine lv_iconst (v := nI 0) hx hb dL_refusesOne_545 (by decide) ?_
  refine lv_istore (lv' := [(7, .int (nI 0)), (6, .int (nI 20)), (5, .int (zI (szv k))), (4, .int (zI (fr k 1 7))), (3, .int (zI (fr k 0 7))), (2, .int (zI (fr k 0 15))), (0, .ref lq), (1, .int (nI k))]) hx hb dL_refusesOne_546 hl (by decide) rfl (fun ls hl => ?_)
  refine lv_aload_n hx hb dL_refusesOne_548 rfl (lv_at hl 6 rfl) ?_
  refine lv_iload hx hb dL_refusesOne_549 (lv_at hl 1 rfl) ?_
  refine lv_iload hx hb dL_refusesOne_551 (lv_at hl 0 rfl) ?_
  refine bZT_eq (tgt := 561) hx hb dL_refusesOne_553 (by decide) (by decide) ?_
  refine lv_iload_n hx hb dL_refusesOne_561 rfl (lv_at hl 4 rfl) ?_
  refine lv_iconst (v := nI 1) hx hb dL_refusesOne_562 (by decide) ?_
  refine lv_iconst (v := nI 0) hx hb dL_refusesOne_563 (by decide) ?_
  refine lv_iconst (v := nI 0) hx hb dL_refusesOne_564 (by decide) ?_
  refine lqSW (own := RL) (index := 150) (bytes := cL_call) (n := 6) (As := [.int (nI 20), .int (zI (fr k 0 7)), .int (nI 1), .int (nI 0), .int (nI 0)]) (rest := []) (c2 := 148) (s2 := 19536) F hZ (call_20 l G lq S S (zI (fr k 0 7)) (nI 1) (nI 0) (nI 0) (-2011) (owned_20 l G lq S S (zI (fr k 0 7)) (nI 1) (-2011) (rf_565_20 l G lq S k hS9 hk hl9))) hC gL_refusesOne_L_call rfl rfl rfl rfl (by decide +kernel) rfl ⟨Nat.le_of_ble_eq_true rfl, Nat.le_of_ble_eq_true rfl⟩ hP hD hS rfl hl.1 (Nat.le_of_ble_eq_true rfl) dL_refusesOne_565 ⟨Nat.le_of_ble_eq_true rfl, Nat.le_of_ble_eq_true rfl⟩ ⟨Nat.le_of_ble_eq_true rfl, Nat.le_of_ble_eq_true rfl⟩ (fun u565 H locs hC hP hD hS => ?_)
  refine lv_sipush (v := zI (-2011)) hx hb dL_refusesOne_568 (by decide) ?_
  refine bIF_ne (tgt := 598) hx hb dL_refusesOne_571 (by decide) (by decide) ?_
  refine lv_iload hx hb dL_refusesOne_574 (lv_at hl 1 rfl) ?_
  refine lv_bipush (v := nI 22) hx hb dL_refusesOne_576 (by decide) ?_
  refine bIT_ne (tgt := 600) hx hb dL_refusesOne_578 (by decide) (by decide) ?_
  refine lv_iinc (v := nI 21) (lv' := [(6, .int (nI 21)), (7, .int (nI 0)), (5, .int (zI (szv k))), (4, .int (zI (fr k 1 7))), (3, .int (zI (fr k 0 7))), (2, .int (zI (fr k 0 15))), (0, .ref lq), (1, .int (nI k))]) hx hb dL_refusesOne_600 hl (k := 1) rfl (by rfl) (by decide) rfl (fun ls hl => ?_)
  refine lv_goto (tgt := 520) hx hb dL_refusesOne_603 (by decide) ?_
  exact kk u565 H locs ls hC hP hD hS (lv_sub hl [0, 2, 3, 4, 5, 6, 7] rfl)

set_option maxHeartbeats 8000000 in
set_option maxRecDepth 100000 in
theorem rfl_21 {p : Program} {l : Launch} {e : Env} {s : State} {m : MethodId} {args : Array Value} {below : List Frame} {meth : Method} {c : Code} {H : Heap} {locs : List Loc} {Q : State → Prop} {G : gG} {A : Nat → Prop} {lq : Nat} {ls : Array Slot} {wv X : va_W} (S : SpT) (k : Nat) (hS9 : spS S) (hk : k < 4) (hl9 : l.stackTraces = false) (hb0 : S.2.2.2.2 = 0) (F : gAt p s m args meth c yL_refusesOne wsL_refusesOne cL_refusesOne 8 (some .boolean) G A) (hZ : gX A s s.heap) (hC : clS G lq wv S) (hP : va_P G.1 vwCl (wv ++ X) H) (hD : va_D A (wv ++ X)) (hS : va_S A s.heap H locs) (hl : lv_has ls 8 [(6, .int (nI 21)), (5, .int (zI (szv k))), (4, .int (zI (fr k 1 7))), (3, .int (zI (fr k 0 7))), (2, .int (zI (fr k 0 15))), (0, .ref lq), (1, .int (nI k))])
    (kk : ∀ (u : va_W) (H : Heap) (locs : List Loc) (ls : Array Slot), clS G lq u S → va_P G.1 vwCl (u ++ X) H → va_D A (u ++ X) → va_S A s.heap H locs → lv_has ls 8 [(6, .int (nI 22)), (5, .int (zI (szv k))), (4, .int (zI (fr k 1 7))), (3, .int (zI (fr k 0 7))), (2, .int (zI (fr k 0 15))), (0, .ref lq), (1, .int (nI k))] → W p l e ({ frames := 10, cells := 220, slots := 27500, locals := 260 } : Room) s m args below meth c H locs 152 20064 Q (F0 m 520 ls [])) : W p l e ({ frames := 10, cells := 220, slots := 27500, locals := 260 } : Room) s m args below meth c H locs 148 19536 Q (F0 m 520 ls []) := by
  have hx := F.1
  have hb := F.2.1
  have hts := F.2.2.2.2.2.2.1
  have hown : s.vm.findClass RL = some m.cls := F.2.2.2.2.2.1
  refine lv_iload hx hb dL_refusesOne_520 (lv_at hl 0 rfl) ?_
  refine lv_bipush (v := nI 29) hx hb dL_refusesOne_522 (by decide) ?_
  refine bIF_ge (tgt := 606) hx hb dL_refusesOne_524 (by decide) (by decide) ?_
  refine lv_iload hx hb dL_refusesOne_527 (lv_at hl 0 rfl) ?_
  refine lv_bipush (v := nI 24) hx hb dL_refusesOne_529 (by decide) ?_
  refine bIF_eq (tgt := 541) hx hb dL_refusesOne_531 (by decide) (by decide) ?_
  refine lv_iload hx hb dL_refusesOne_534 (lv_at hl 0 rfl) ?_
  refine lv_bipush (v := nI 27) hx hb dL_refusesOne_536 (by decide) ?_
  refine bIT_ne (tgt := 545) hx hb dL_refusesOne_538 (by decide) (by decide) ?_
  refine lv_iconst (v := nI 0) hx hb dL_refusesOne_545 (by decide) ?_
  refine lv_istore (lv' := [(7, .int (nI 0)), (6, .int (nI 21)), (5, .int (zI (szv k))), (4, .int (zI (fr k 1 7))), (3, .int (zI (fr k 0 7))), (2, .int (zI (fr k 0 15))), (0, .ref lq), (1, .int (nI k))]) hx hb dL_refusesOne_546 hl (by decide) rfl (fun ls hl => ?_)
  refine lv_aload_n hx hb dL_refusesOne_548 rfl (lv_at hl 6 rfl) ?_
  refine lv_iload hx hb dL_refusesOne_549 (lv_at hl 1 rfl) ?_
  refine lv_iload hx hb dL_refusesOne_551 (lv_at hl 0 rfl) ?_
  refine bZT_eq (tgt := 561) hx hb dL_refusesOne_553 (by decide) (by decide) ?_
  refine lv_iload_n hx hb dL_refusesOne_561 rfl (lv_at hl 4 rfl) ?_
  refine lv_iconst (v := nI 1) hx hb dL_refusesOne_562 (by decide) ?_
  refine lv_iconst (v := nI 0) hx hb dL_refusesOne_563 (by decide) ?_
  refine lv_iconst (v := nI 0) hx hb dL_refusesOne_564 (by decide) ?_
  refine lqSW (own := RL) (index := 150) (bytes := cL_call) (n := 6) (As := [.int (nI 21), .int (zI (fr k 0 7)), .int (nI 1), .int (nI 0), .int (nI 0)]) (rest := []) (c2 := 152) (s2 := 20064) F hZ (call_21 l G lq S S (zI (fr k 0 7)) (nI 1) (nI 0) (nI 0) (-2011) (owned_21 l G lq S S (zI (fr k 0 7)) (nI 1) (-2011) (rf_565_21 l G lq S k hS9 hk hl9))) hC gL_refusesOne_L_call rfl rfl rfl rfl (by decide +kernel) rfl ⟨Nat.le_of_ble_eq_true rfl, Nat.le_of_ble_eq_true rfl⟩ hP hD hS rfl hl.1 (Nat.le_of_ble_eq_true rfl) dL_refusesOne_565 ⟨Nat.le_of_ble_eq_true rfl, Nat.le_of_ble_eq_true rfl⟩ ⟨Nat.le_of_ble_eq_true rfl, Nat.le_of_ble_eq_true rfl⟩ (fun u565 H locs hC hP hD hS => ?_)
  refine lv_sipush (v := zI (-2011)) hx hb dL_refusesOne_568 (by decide) ?_
  refine bIF_ne (tgt := 598) hx hb dL_refusesOne_571 (by decide) (by decide) ?_
  refine lv_iload hx hb dL_refusesOne_574 (lv_at hl 1 rfl) ?_
  refine lv_bipush (v := nI 22) hx hb dL_refusesOne_576 (by decide) ?_
  refine bIT_ne (tgt := 600) hx hb dL_refusesOne_578 (by decide) (by decide) ?_
  refine lv_iinc (v := nI 22) (lv' := [(6, .int (nI 22)), (7, .int (nI 0)), (5, .int (zI (szv k))), (4, .int (zI (fr k 1 7))), (3, .int (zI (fr k 0 7))), (2, .int (zI (fr k 0 15))), (0, .ref lq), (1, .int (nI k))]) hx hb dL_refusesOne_600 hl (k := 1) rfl (by rfl) (by decide) rfl (fun ls hl => ?_)
  refine lv_goto (tgt := 520) hx hb dL_refusesOne_603 (by decide) ?_
  exact kk u565 H locs ls hC hP hD hS (lv_sub hl [0, 2, 3, 4, 5, 6, 7] rfl)

set_option maxHeartbeats 8000000 in
set_option maxRecDepth 100000 in
theorem rfl_22 {p : Program} {l : Launch} {e : Env} {s : State} {m : MethodId} {args : Array Value} {below : List Frame} {meth : Method} {c : Code} {H : Heap} {locs : List Loc} {Q : State → Prop} {G : gG} {A : Nat → Prop} {lq : Nat} {ls : Array Slot} {wv X : va_W} (S : SpT) (k : Nat) (hS9 : spS S) (hk : k < 4) (hl9 : l.stackTraces = false) (hb0 : S.2.2.2.2 = 0) (F : gAt p s m args meth c yL_refusesOne wsL_refusesOne cL_refusesOne 8 (some .boolean) G A) (hZ : gX A s s.heap) (hC : clS G lq wv S) (hP : va_P G.1 vwCl (wv ++ X) H) (hD : va_D A (wv ++ X)) (hS : va_S A s.heap H locs) (hl : lv_has ls 8 [(6, .int (nI 22)), (5, .int (zI (szv k))), (4, .int (zI (fr k 1 7))), (3, .int (zI (fr k 0 7))), (2, .int (zI (fr k 0 15))), (0, .ref lq), (1, .int (nI k))])
    (kk : ∀ (u : va_W) (H : Heap) (locs : List Loc) (ls : Array Slot), clS G lq u S → va_P G.1 vwCl (u ++ X) H → va_D A (u ++ X) → va_S A s.heap H locs → lv_has ls 8 [(6, .int (nI 23)), (5, .int (zI (szv k))), (4, .int (zI (fr k 1 7))), (3, .int (zI (fr k 0 7))), (2, .int (zI (fr k 0 15))), (0, .ref lq), (1, .int (nI k))] → W p l e ({ frames := 10, cells := 220, slots := 27500, locals := 260 } : Room) s m args below meth c H locs 160 21120 Q (F0 m 520 ls [])) : W p l e ({ frames := 10, cells := 220, slots := 27500, locals := 260 } : Room) s m args below meth c H locs 152 20064 Q (F0 m 520 ls []) := by
  have hx := F.1
  have hb := F.2.1
  have hts := F.2.2.2.2.2.2.1
  have hown : s.vm.findClass RL = some m.cls := F.2.2.2.2.2.1
  refine lv_iload hx hb dL_refusesOne_520 (lv_at hl 0 rfl) ?_
  refine lv_bipush (v := nI 29) hx hb dL_refusesOne_522 (by decide) ?_
  refine bIF_ge (tgt := 606) hx hb dL_refusesOne_524 (by decide) (by decide) ?_
  refine lv_iload hx hb dL_refusesOne_527 (lv_at hl 0 rfl) ?_
  refine lv_bipush (v := nI 24) hx hb dL_refusesOne_529 (by decide) ?_
  refine bIF_eq (tgt := 541) hx hb dL_refusesOne_531 (by decide) (by decide) ?_
  refine lv_iload hx hb dL_refusesOne_534 (lv_at hl 0 rfl) ?_
  refine lv_bipush (v := nI 27) hx hb dL_refusesOne_536 (by decide) ?_
  refine bIT_ne (tgt := 545) hx hb dL_refusesOne_538 (by decide) (by decide) ?_
  refine lv_iconst (v := nI 0) hx hb dL_refusesOne_545 (by decide) ?_
  refine lv_istore (lv' := [(7, .int (nI 0)), (6, .int (nI 22)), (5, .int (zI (szv k))), (4, .int (zI (fr k 1 7))), (3, .int (zI (fr k 0 7))), (2, .int (zI (fr k 0 15))), (0, .ref lq), (1, .int (nI k))]) hx hb dL_refusesOne_546 hl (by decide) rfl (fun ls hl => ?_)
  refine lv_aload_n hx hb dL_refusesOne_548 rfl (lv_at hl 6 rfl) ?_
  refine lv_iload hx hb dL_refusesOne_549 (lv_at hl 1 rfl) ?_
  refine lv_iload hx hb dL_refusesOne_551 (lv_at hl 0 rfl) ?_
  refine bZT_eq (tgt := 561) hx hb dL_refusesOne_553 (by decide) (by decide) ?_
  refine lv_iload_n hx hb dL_refusesOne_561 rfl (lv_at hl 4 rfl) ?_
  refine lv_iconst (v := nI 1) hx hb dL_refusesOne_562 (by decide) ?_
  refine lv_iconst (v := nI 0) hx hb dL_refusesOne_563 (by decide) ?_
  refine lv_iconst (v := nI 0) hx hb dL_refusesOne_564 (by decide) ?_
  refine lqSW (own := RL) (index := 150) (bytes := cL_call) (n := 6) (As := [.int (nI 22), .int (zI (fr k 0 7)), .int (nI 1), .int (nI 0), .int (nI 0)]) (rest := []) (c2 := 156) (s2 := 20592) F hZ (call_22 l G lq S S (zI (fr k 0 7)) (nI 1) (nI 0) (nI 0) (-2011) (owned_22 l G lq S S (zI (fr k 0 7)) (nI 1) (-2011) (rf_565_22 l G lq S k hS9 hk hl9))) hC gL_refusesOne_L_call rfl rfl rfl rfl (by decide +kernel) rfl ⟨Nat.le_of_ble_eq_true rfl, Nat.le_of_ble_eq_true rfl⟩ hP hD hS rfl hl.1 (Nat.le_of_ble_eq_true rfl) dL_refusesOne_565 ⟨Nat.le_of_ble_eq_true rfl, Nat.le_of_ble_eq_true rfl⟩ ⟨Nat.le_of_ble_eq_true rfl, Nat.le_of_ble_eq_true rfl⟩ (fun u565 H locs hC hP hD hS => ?_)
  refine lv_sipush (v := zI (-2011)) hx hb dL_refusesOne_568 (by decide) ?_
  refine bIF_ne (tgt := 598) hx hb dL_refusesOne_571 (by decide) (by decide) ?_
  refine lv_iload hx hb dL_refusesOne_574 (lv_at hl 1 rfl) ?_
  refine lv_bipush (v := nI 22) hx hb dL_refusesOne_576 (by decide) ?_
  refine bIF_ne (tgt := 600) hx hb dL_refusesOne_578 (by decide) (by decide) ?_
  refine lv_aload_n hx hb dL_refusesOne_581 rfl (lv_at hl 6 rfl) ?_
  refine lv_iload hx hb dL_refusesOne_582 (lv_at hl 1 rfl) ?_
  refine lv_bipush (v := nI 7) hx hb dL_refusesOne_584 (by decide) ?_
  refine lv_iload_n hx hb dL_refusesOne_586 rfl (lv_at hl 4 rfl) ?_
  refine lv_iconst (v := nI 0) hx hb dL_refusesOne_587 (by decide) ?_
  refine lv_iconst (v := nI 0) hx hb dL_refusesOne_588 (by decide) ?_
  refine lqSW (own := RL) (index := 150) (bytes := cL_call) (n := 6) (As := [.int (nI 22), .int (nI 7), .int (zI (fr k 0 7)), .int (nI 0), .int (nI 0)]) (rest := []) (c2 := 160) (s2 := 21120) F hZ (call_22 l G lq S S (nI 7) (zI (fr k 0 7)) (nI 0) (nI 0) (-2011) (owned_22 l G lq S S (nI 7) (zI (fr k 0 7)) (-2011) (rf_589_22 l G lq S k hS9 hk hl9))) hC gL_refusesOne_L_call rfl rfl rfl rfl (by decide +kernel) rfl ⟨Nat.le_of_ble_eq_true rfl, Nat.le_of_ble_eq_true rfl⟩ hP hD hS rfl hl.1 (Nat.le_of_ble_eq_true rfl) dL_refusesOne_589 ⟨Nat.le_of_ble_eq_true rfl, Nat.le_of_ble_eq_true rfl⟩ ⟨Nat.le_of_ble_eq_true rfl, Nat.le_of_ble_eq_true rfl⟩ (fun u589 H locs hC hP hD hS => ?_)
  refine lv_sipush (v := zI (-2011)) hx hb dL_refusesOne_592 (by decide) ?_
  refine bIT_eq (tgt := 600) hx hb dL_refusesOne_595 (by decide) (by decide) ?_
  refine lv_iinc (v := nI 23) (lv' := [(6, .int (nI 23)), (7, .int (nI 0)), (5, .int (zI (szv k))), (4, .int (zI (fr k 1 7))), (3, .int (zI (fr k 0 7))), (2, .int (zI (fr k 0 15))), (0, .ref lq), (1, .int (nI k))]) hx hb dL_refusesOne_600 hl (k := 1) rfl (by rfl) (by decide) rfl (fun ls hl => ?_)
  refine lv_goto (tgt := 520) hx hb dL_refusesOne_603 (by decide) ?_
  exact kk u589 H locs ls hC hP hD hS (lv_sub hl [0, 2, 3, 4, 5, 6, 7] rfl)

set_option maxHeartbeats 8000000 in
set_option maxRecDepth 100000 in
theorem rfl_23 {p : Program} {l : Launch} {e : Env} {s : State} {m : MethodId} {args : Array Value} {below : List Frame} {meth : Method} {c : Code} {H : Heap} {locs : List Loc} {Q : State → Prop} {G : gG} {A : Nat → Prop} {lq : Nat} {ls : Array Slot} {wv X : va_W} (S : SpT) (k : Nat) (hS9 : spS S) (hk : k < 4) (hl9 : l.stackTraces = false) (hb0 : S.2.2.2.2 = 0) (F : gAt p s m args meth c yL_refusesOne wsL_refusesOne cL_refusesOne 8 (some .boolean) G A) (hZ : gX A s s.heap) (hC : clS G lq wv S) (hP : va_P G.1 vwCl (wv ++ X) H) (hD : va_D A (wv ++ X)) (hS : va_S A s.heap H locs) (hl : lv_has ls 8 [(6, .int (nI 23)), (5, .int (zI (szv k))), (4, .int (zI (fr k 1 7))), (3, .int (zI (fr k 0 7))), (2, .int (zI (fr k 0 15))), (0, .ref lq), (1, .int (nI k))])
    (kk : ∀ (u : va_W) (H : Heap) (locs : List Loc) (ls : Array Slot), clS G lq u S → va_P G.1 vwCl (u ++ X) H → va_D A (u ++ X) → va_S A s.heap H locs → lv_has ls 8 [(6, .int (nI 24)), (5, .int (zI (szv k))), (4, .int (zI (fr k 1 7))), (3, .int (zI (fr k 0 7))), (2, .int (zI (fr k 0 15))), (0, .ref lq), (1, .int (nI k))] → W p l e ({ frames := 10, cells := 220, slots := 27500, locals := 260 } : Room) s m args below meth c H locs 164 21648 Q (F0 m 520 ls [])) : W p l e ({ frames := 10, cells := 220, slots := 27500, locals := 260 } : Room) s m args below meth c H locs 160 21120 Q (F0 m 520 ls []) := by
  have hx := F.1
  have hb := F.2.1
  have hts := F.2.2.2.2.2.2.1
  have hown : s.vm.findClass RL = some m.cls := F.2.2.2.2.2.1
  refine lv_iload hx hb dL_refusesOne_520 (lv_at hl 0 rfl) ?_
  refine lv_bipush (v := nI 29) hx hb dL_refusesOne_522 (by decide) ?_
  refine bIF_ge (tgt := 606) hx hb dL_refusesOne_524 (by decide) (by decide) ?_
  refine lv_iload hx hb dL_refusesOne_527 (lv_at hl 0 rfl) ?_
  refine lv_bipush (v := nI 24) hx hb dL_refusesOne_529 (by decide) ?_
  refine bIF_eq (tgt := 541) hx hb dL_refusesOne_531 (by decide) (by decide) ?_
  refine lv_iload hx hb dL_refusesOne_534 (lv_at hl 0 rfl) ?_
  refine lv_bipush (v := nI 27) hx hb dL_refusesOne_536 (by decide) ?_
  refine bIT_ne (tgt := 545) hx hb dL_refusesOne_538 (by decide) (by decide) ?_
  refine lv_iconst (v := nI 0) hx hb dL_refusesOne_545 (by decide) ?_
  refine lv_istore (lv' := [(7, .int (nI 0)), (6, .int (nI 23)), (5, .int (zI (szv k))), (4, .int (zI (fr k 1 7))), (3, .int (zI (fr k 0 7))), (2, .int (zI (fr k 0 15))), (0, .ref lq), (1, .int (nI k))]) hx hb dL_refusesOne_546 hl (by decide) rfl (fun ls hl => ?_)
  refine lv_aload_n hx hb dL_refusesOne_548 rfl (lv_at hl 6 rfl) ?_
  refine lv_iload hx hb dL_refusesOne_549 (lv_at hl 1 rfl) ?_
  refine lv_iload hx hb dL_refusesOne_551 (lv_at hl 0 rfl) ?_
  refine bZT_eq (tgt := 561) hx hb dL_refusesOne_553 (by decide) (by decide) ?_
  refine lv_iload_n hx hb dL_refusesOne_561 rfl (lv_at hl 4 rfl) ?_
  refine lv_iconst (v := nI 1) hx hb dL_refusesOne_562 (by decide) ?_
  refine lv_iconst (v := nI 0) hx hb dL_refusesOne_563 (by decide) ?_
  refine lv_iconst (v := nI 0) hx hb dL_refusesOne_564 (by decide) ?_
  refine lqSW (own := RL) (index := 150) (bytes := cL_call) (n := 6) (As := [.int (nI 23), .int (zI (fr k 0 7)), .int (nI 1), .int (nI 0), .int (nI 0)]) (rest := []) (c2 := 164) (s2 := 21648) F hZ (call_23 l G lq S S (zI (fr k 0 7)) (nI 1) (nI 0) (nI 0) (-2011) (owned_23 l G lq S S (zI (fr k 0 7)) (nI 1) (-2011) (rf_565_23 l G lq S k hS9 hk hl9))) hC gL_refusesOne_L_call rfl rfl rfl rfl (by decide +kernel) rfl ⟨Nat.le_of_ble_eq_true rfl, Nat.le_of_ble_eq_true rfl⟩ hP hD hS rfl hl.1 (Nat.le_of_ble_eq_true rfl) dL_refusesOne_565 ⟨Nat.le_of_ble_eq_true rfl, Nat.le_of_ble_eq_true rfl⟩ ⟨Nat.le_of_ble_eq_true rfl, Nat.le_of_ble_eq_true rfl⟩ (fun u565 H locs hC hP hD hS => ?_)
  refine lv_sipush (v := zI (-2011)) hx hb dL_refusesOne_568 (by decide) ?_
  refine bIF_ne (tgt := 598) hx hb dL_refusesOne_571 (by decide) (by decide) ?_
  refine lv_iload hx hb dL_refusesOne_574 (lv_at hl 1 rfl) ?_
  refine lv_bipush (v := nI 22) hx hb dL_refusesOne_576 (by decide) ?_
  refine bIT_ne (tgt := 600) hx hb dL_refusesOne_578 (by decide) (by decide) ?_
  refine lv_iinc (v := nI 24) (lv' := [(6, .int (nI 24)), (7, .int (nI 0)), (5, .int (zI (szv k))), (4, .int (zI (fr k 1 7))), (3, .int (zI (fr k 0 7))), (2, .int (zI (fr k 0 15))), (0, .ref lq), (1, .int (nI k))]) hx hb dL_refusesOne_600 hl (k := 1) rfl (by rfl) (by decide) rfl (fun ls hl => ?_)
  refine lv_goto (tgt := 520) hx hb dL_refusesOne_603 (by decide) ?_
  exact kk u565 H locs ls hC hP hD hS (lv_sub hl [0, 2, 3, 4, 5, 6, 7] rfl)

set_option maxHeartbeats 8000000 in
set_option maxRecDepth 100000 in
theorem rfl_24 {p : Program} {l : Launch} {e : Env} {s : State} {m : MethodId} {args : Array Value} {below : List Frame} {meth : Method} {c : Code} {H : Heap} {locs : List Loc} {Q : State → Prop} {G : gG} {A : Nat → Prop} {lq : Nat} {ls : Array Slot} {wv X : va_W} (S : SpT) (k : Nat) (hS9 : spS S) (hk : k < 4) (hl9 : l.stackTraces = false) (hb0 : S.2.2.2.2 = 0) (F : gAt p s m args meth c yL_refusesOne wsL_refusesOne cL_refusesOne 8 (some .boolean) G A) (hZ : gX A s s.heap) (hC : clS G lq wv S) (hP : va_P G.1 vwCl (wv ++ X) H) (hD : va_D A (wv ++ X)) (hS : va_S A s.heap H locs) (hl : lv_has ls 8 [(6, .int (nI 24)), (5, .int (zI (szv k))), (4, .int (zI (fr k 1 7))), (3, .int (zI (fr k 0 7))), (2, .int (zI (fr k 0 15))), (0, .ref lq), (1, .int (nI k))])
    (kk : ∀ (u : va_W) (H : Heap) (locs : List Loc) (ls : Array Slot), clS G lq u S → va_P G.1 vwCl (u ++ X) H → va_D A (u ++ X) → va_S A s.heap H locs → lv_has ls 8 [(6, .int (nI 25)), (5, .int (zI (szv k))), (4, .int (zI (fr k 1 7))), (3, .int (zI (fr k 0 7))), (2, .int (zI (fr k 0 15))), (0, .ref lq), (1, .int (nI k))] → W p l e ({ frames := 10, cells := 220, slots := 27500, locals := 260 } : Room) s m args below meth c H locs 168 22176 Q (F0 m 520 ls [])) : W p l e ({ frames := 10, cells := 220, slots := 27500, locals := 260 } : Room) s m args below meth c H locs 164 21648 Q (F0 m 520 ls []) := by
  have hx := F.1
  have hb := F.2.1
  have hts := F.2.2.2.2.2.2.1
  have hown : s.vm.findClass RL = some m.cls := F.2.2.2.2.2.1
  refine lv_iload hx hb dL_refusesOne_520 (lv_at hl 0 rfl) ?_
  refine lv_bipush (v := nI 29) hx hb dL_refusesOne_522 (by decide) ?_
  refine bIF_ge (tgt := 606) hx hb dL_refusesOne_524 (by decide) (by decide) ?_
  refine lv_iload hx hb dL_refusesOne_527 (lv_at hl 0 rfl) ?_
  refine lv_bipush (v := nI 24) hx hb dL_refusesOne_529 (by decide) ?_
  refine bIT_eq (tgt := 541) hx hb dL_refusesOne_531 (by decide) (by decide) ?_
  refine lv_iconst (v := nI 1) hx hb dL_refusesOne_541 (by decide) ?_
  refine lv_goto (tgt := 546) hx hb dL_refusesOne_542 (by decide) ?_
  refine lv_istore (lv' := [(7, .int (nI 1)), (6, .int (nI 24)), (5, .int (zI (szv k))), (4, .int (zI (fr k 1 7))), (3, .int (zI (fr k 0 7))), (2, .int (zI (fr k 0 15))), (0, .ref lq), (1, .int (nI k))]) hx hb dL_refusesOne_546 hl (by decide) rfl (fun ls hl => ?_)
  refine lv_aload_n hx hb dL_refusesOne_548 rfl (lv_at hl 6 rfl) ?_
  refine lv_iload hx hb dL_refusesOne_549 (lv_at hl 1 rfl) ?_
  refine lv_iload hx hb dL_refusesOne_551 (lv_at hl 0 rfl) ?_
  refine bZF_eq (tgt := 561) hx hb dL_refusesOne_553 (by decide) (by decide) ?_
  refine lv_iload hx hb dL_refusesOne_556 (lv_at hl 3 rfl) ?_
  refine lv_goto (tgt := 562) hx hb dL_refusesOne_558 (by decide) ?_
  refine lv_iconst (v := nI 1) hx hb dL_refusesOne_562 (by decide) ?_
  refine lv_iconst (v := nI 0) hx hb dL_refusesOne_563 (by decide) ?_
  refine lv_iconst (v := nI 0) hx hb dL_refusesOne_564 (by decide) ?_
  refine lqSW (own := RL) (index := 150) (bytes := cL_call) (n := 6) (As := [.int (nI 24), .int (zI (fr k 1 7)), .int (nI 1), .int (nI 0), .int (nI 0)]) (rest := []) (c2 := 168) (s2 := 22176) F hZ (call_24 l G lq S S (zI (fr k 1 7)) (nI 1) (nI 0) (nI 0) (-2011) (owned_24 l G lq S S (zI (fr k 1 7)) (nI 1) (-2011) (rf_565_24 l G lq S k hS9 hk hl9))) hC gL_refusesOne_L_call rfl rfl rfl rfl (by decide +kernel) rfl ⟨Nat.le_of_ble_eq_true rfl, Nat.le_of_ble_eq_true rfl⟩ hP hD hS rfl hl.1 (Nat.le_of_ble_eq_true rfl) dL_refusesOne_565 ⟨Nat.le_of_ble_eq_true rfl, Nat.le_of_ble_eq_true rfl⟩ ⟨Nat.le_of_ble_eq_true rfl, Nat.le_of_ble_eq_true rfl⟩ (fun u565 H locs hC hP hD hS => ?_)
  refine lv_sipush (v := zI (-2011)) hx hb dL_refusesOne_568 (by decide) ?_
  refine bIF_ne (tgt := 598) hx hb dL_refusesOne_571 (by decide) (by decide) ?_
  refine lv_iload hx hb dL_refusesOne_574 (lv_at hl 1 rfl) ?_
  refine lv_bipush (v := nI 22) hx hb dL_refusesOne_576 (by decide) ?_
  refine bIT_ne (tgt := 600) hx hb dL_refusesOne_578 (by decide) (by decide) ?_
  refine lv_iinc (v := nI 25) (lv' := [(6, .int (nI 25)), (7, .int (nI 1)), (5, .int (zI (szv k))), (4, .int (zI (fr k 1 7))), (3, .int (zI (fr k 0 7))), (2, .int (zI (fr k 0 15))), (0, .ref lq), (1, .int (nI k))]) hx hb dL_refusesOne_600 hl (k := 1) rfl (by rfl) (by decide) rfl (fun ls hl => ?_)
  refine lv_goto (tgt := 520) hx hb dL_refusesOne_603 (by decide) ?_
  exact kk u565 H locs ls hC hP hD hS (lv_sub hl [0, 2, 3, 4, 5, 6, 7] rfl)

set_option maxHeartbeats 8000000 in
set_option maxRecDepth 100000 in
theorem rfl_25 {p : Program} {l : Launch} {e : Env} {s : State} {m : MethodId} {args : Array Value} {below : List Frame} {meth : Method} {c : Code} {H : Heap} {locs : List Loc} {Q : State → Prop} {G : gG} {A : Nat → Prop} {lq : Nat} {ls : Array Slot} {wv X : va_W} (S : SpT) (k : Nat) (hS9 : spS S) (hk : k < 4) (hl9 : l.stackTraces = false) (hb0 : S.2.2.2.2 = 0) (F : gAt p s m args meth c yL_refusesOne wsL_refusesOne cL_refusesOne 8 (some .boolean) G A) (hZ : gX A s s.heap) (hC : clS G lq wv S) (hP : va_P G.1 vwCl (wv ++ X) H) (hD : va_D A (wv ++ X)) (hS : va_S A s.heap H locs) (hl : lv_has ls 8 [(6, .int (nI 25)), (5, .int (zI (szv k))), (4, .int (zI (fr k 1 7))), (3, .int (zI (fr k 0 7))), (2, .int (zI (fr k 0 15))), (0, .ref lq), (1, .int (nI k))])
    (kk : ∀ (u : va_W) (H : Heap) (locs : List Loc) (ls : Array Slot), clS G lq u S → va_P G.1 vwCl (u ++ X) H → va_D A (u ++ X) → va_S A s.heap H locs → lv_has ls 8 [(6, .int (nI 26)), (5, .int (zI (szv k))), (4, .int (zI (fr k 1 7))), (3, .int (zI (fr k 0 7))), (2, .int (zI (fr k 0 15))), (0, .ref lq), (1, .int (nI k))] → W p l e ({ frames := 10, cells := 220, slots := 27500, locals := 260 } : Room) s m args below meth c H locs 172 22704 Q (F0 m 520 ls [])) : W p l e ({ frames := 10, cells := 220, slots := 27500, locals := 260 } : Room) s m args below meth c H locs 168 22176 Q (F0 m 520 ls []) := by
  have hx := F.1
  have hb := F.2.1
  have hts := F.2.2.2.2.2.2.1
  have hown : s.vm.findClass RL = some m.cls := F.2.2.2.2.2.1
  refine lv_iload hx hb dL_refusesOne_520 (lv_at hl 0 rfl) ?_
  refine lv_bipush (v := nI 29) hx hb dL_refusesOne_522 (by decide) ?_
  refine bIF_ge (tgt := 606) hx hb dL_refusesOne_524 (by decide) (by decide) ?_
  refine lv_iload hx hb dL_refusesOne_527 (lv_at hl 0 rfl) ?_
  refine lv_bipush (v := nI 24) hx hb dL_refusesOne_529 (by decide) ?_
  refine bIF_eq (tgt := 541) hx hb dL_refusesOne_531 (by decide) (by decide) ?_
  refine lv_iload hx hb dL_refusesOne_534 (lv_at hl 0 rfl) ?_
  refine lv_bipush (v := nI 27) hx hb dL_refusesOne_536 (by decide) ?_
  refine bIT_ne (tgt := 545) hx hb dL_refusesOne_538 (by decide) (by decide) ?_
  refine lv_iconst (v := nI 0) hx hb dL_refusesOne_545 (by decide) ?_
  refine lv_istore (lv' := [(7, .int (nI 0)), (6, .int (nI 25)), (5, .int (zI (szv k))), (4, .int (zI (fr k 1 7))), (3, .int (zI (fr k 0 7))), (2, .int (zI (fr k 0 15))), (0, .ref lq), (1, .int (nI k))]) hx hb dL_refusesOne_546 hl (by decide) rfl (fun ls hl => ?_)
  refine lv_aload_n hx hb dL_refusesOne_548 rfl (lv_at hl 6 rfl) ?_
  refine lv_iload hx hb dL_refusesOne_549 (lv_at hl 1 rfl) ?_
  refine lv_iload hx hb dL_refusesOne_551 (lv_at hl 0 rfl) ?_
  refine bZT_eq (tgt := 561) hx hb dL_refusesOne_553 (by decide) (by decide) ?_
  refine lv_iload_n hx hb dL_refusesOne_561 rfl (lv_at hl 4 rfl) ?_
  refine lv_iconst (v := nI 1) hx hb dL_refusesOne_562 (by decide) ?_
  refine lv_iconst (v := nI 0) hx hb dL_refusesOne_563 (by decide) ?_
  refine lv_iconst (v := nI 0) hx hb dL_refusesOne_564 (by decide) ?_
  refine lqSW (own := RL) (index := 150) (bytes := cL_call) (n := 6) (As := [.int (nI 25), .int (zI (fr k 0 7)), .int (nI 1), .int (nI 0), .int (nI 0)]) (rest := []) (c2 := 172) (s2 := 22704) F hZ (call_25 l G lq S S (zI (fr k 0 7)) (nI 1) (nI 0) (nI 0) (-2011) (owned_25 l G lq S S (zI (fr k 0 7)) (nI 1) (-2011) (rf_565_25 l G lq S k hS9 hk hl9))) hC gL_refusesOne_L_call rfl rfl rfl rfl (by decide +kernel) rfl ⟨Nat.le_of_ble_eq_true rfl, Nat.le_of_ble_eq_true rfl⟩ hP hD hS rfl hl.1 (Nat.le_of_ble_eq_true rfl) dL_refusesOne_565 ⟨Nat.le_of_ble_eq_true rfl, Nat.le_of_ble_eq_true rfl⟩ ⟨Nat.le_of_ble_eq_true rfl, Nat.le_of_ble_eq_true rfl⟩ (fun u565 H locs hC hP hD hS => ?_)
  refine lv_sipush (v := zI (-2011)) hx hb dL_refusesOne_568 (by decide) ?_
  refine bIF_ne (tgt := 598) hx hb dL_refusesOne_571 (by decide) (by decide) ?_
  refine lv_iload hx hb dL_refusesOne_574 (lv_at hl 1 rfl) ?_
  refine lv_bipush (v := nI 22) hx hb dL_refusesOne_576 (by decide) ?_
  refine bIT_ne (tgt := 600) hx hb dL_refusesOne_578 (by decide) (by decide) ?_
  refine lv_iinc (v := nI 26) (lv' := [(6, .int (nI 26)), (7, .int (nI 0)), (5, .int (zI (szv k))), (4, .int (zI (fr k 1 7))), (3, .int (zI (fr k 0 7))), (2, .int (zI (fr k 0 15))), (0, .ref lq), (1, .int (nI k))]) hx hb dL_refusesOne_600 hl (k := 1) rfl (by rfl) (by decide) rfl (fun ls hl => ?_)
  refine lv_goto (tgt := 520) hx hb dL_refusesOne_603 (by decide) ?_
  exact kk u565 H locs ls hC hP hD hS (lv_sub hl [0, 2, 3, 4, 5, 6, 7] rfl)

set_option maxHeartbeats 8000000 in
set_option maxRecDepth 100000 in
theorem rfl_26 {p : Program} {l : Launch} {e : Env} {s : State} {m : MethodId} {args : Array Value} {below : List Frame} {meth : Method} {c : Code} {H : Heap} {locs : List Loc} {Q : State → Prop} {G : gG} {A : Nat → Prop} {lq : Nat} {ls : Array Slot} {wv X : va_W} (S : SpT) (k : Nat) (hS9 : spS S) (hk : k < 4) (hl9 : l.stackTraces = false) (hb0 : S.2.2.2.2 = 0) (F : gAt p s m args meth c yL_refusesOne wsL_refusesOne cL_refusesOne 8 (some .boolean) G A) (hZ : gX A s s.heap) (hC : clS G lq wv S) (hP : va_P G.1 vwCl (wv ++ X) H) (hD : va_D A (wv ++ X)) (hS : va_S A s.heap H locs) (hl : lv_has ls 8 [(6, .int (nI 26)), (5, .int (zI (szv k))), (4, .int (zI (fr k 1 7))), (3, .int (zI (fr k 0 7))), (2, .int (zI (fr k 0 15))), (0, .ref lq), (1, .int (nI k))])
    (kk : ∀ (u : va_W) (H : Heap) (locs : List Loc) (ls : Array Slot), clS G lq u S → va_P G.1 vwCl (u ++ X) H → va_D A (u ++ X) → va_S A s.heap H locs → lv_has ls 8 [(6, .int (nI 27)), (5, .int (zI (szv k))), (4, .int (zI (fr k 1 7))), (3, .int (zI (fr k 0 7))), (2, .int (zI (fr k 0 15))), (0, .ref lq), (1, .int (nI k))] → W p l e ({ frames := 10, cells := 220, slots := 27500, locals := 260 } : Room) s m args below meth c H locs 176 23232 Q (F0 m 520 ls [])) : W p l e ({ frames := 10, cells := 220, slots := 27500, locals := 260 } : Room) s m args below meth c H locs 172 22704 Q (F0 m 520 ls []) := by
  have hx := F.1
  have hb := F.2.1
  have hts := F.2.2.2.2.2.2.1
  have hown : s.vm.findClass RL = some m.cls := F.2.2.2.2.2.1
  refine lv_iload hx hb dL_refusesOne_520 (lv_at hl 0 rfl) ?_
  refine lv_bipush (v := nI 29) hx hb dL_refusesOne_522 (by decide) ?_
  refine bIF_ge (tgt := 606) hx hb dL_refusesOne_524 (by decide) (by decide) ?_
  refine lv_iload hx hb dL_refusesOne_527 (lv_at hl 0 rfl) ?_
  refine lv_bipush (v := nI 24) hx hb dL_refusesOne_529 (by decide) ?_
  refine bIF_eq (tgt := 541) hx hb dL_refusesOne_531 (by decide) (by decide) ?_
  refine lv_iload hx hb dL_refusesOne_534 (lv_at hl 0 rfl) ?_
  refine lv_bipush (v := nI 27) hx hb dL_refusesOne_536 (by decide) ?_
  refine bIT_ne (tgt := 545) hx hb dL_refusesOne_538 (by decide) (by decide) ?_
  refine lv_iconst (v := nI 0) hx hb dL_refusesOne_545 (by decide) ?_
  refine lv_istore (lv' := [(7, .int (nI 0)), (6, .int (nI 26)), (5, .int (zI (szv k))), (4, .int (zI (fr k 1 7))), (3, .int (zI (fr k 0 7))), (2, .int (zI (fr k 0 15))), (0, .ref lq), (1, .int (nI k))]) hx hb dL_refusesOne_546 hl (by decide) rfl (fun ls hl => ?_)
  refine lv_aload_n hx hb dL_refusesOne_548 rfl (lv_at hl 6 rfl) ?_
  refine lv_iload hx hb dL_refusesOne_549 (lv_at hl 1 rfl) ?_
  refine lv_iload hx hb dL_refusesOne_551 (lv_at hl 0 rfl) ?_
  refine bZT_eq (tgt := 561) hx hb dL_refusesOne_553 (by decide) (by decide) ?_
  refine lv_iload_n hx hb dL_refusesOne_561 rfl (lv_at hl 4 rfl) ?_
  refine lv_iconst (v := nI 1) hx hb dL_refusesOne_562 (by decide) ?_
  refine lv_iconst (v := nI 0) hx hb dL_refusesOne_563 (by decide) ?_
  refine lv_iconst (v := nI 0) hx hb dL_refusesOne_564 (by decide) ?_
  refine lqSW (own := RL) (index := 150) (bytes := cL_call) (n := 6) (As := [.int (nI 26), .int (zI (fr k 0 7)), .int (nI 1), .int (nI 0), .int (nI 0)]) (rest := []) (c2 := 176) (s2 := 23232) F hZ (call_26 l G lq S S (zI (fr k 0 7)) (nI 1) (nI 0) (nI 0) (-2011) (owned_26 l G lq S S (zI (fr k 0 7)) (nI 1) (-2011) (rf_565_26 l G lq S k hS9 hk hl9))) hC gL_refusesOne_L_call rfl rfl rfl rfl (by decide +kernel) rfl ⟨Nat.le_of_ble_eq_true rfl, Nat.le_of_ble_eq_true rfl⟩ hP hD hS rfl hl.1 (Nat.le_of_ble_eq_true rfl) dL_refusesOne_565 ⟨Nat.le_of_ble_eq_true rfl, Nat.le_of_ble_eq_true rfl⟩ ⟨Nat.le_of_ble_eq_true rfl, Nat.le_of_ble_eq_true rfl⟩ (fun u565 H locs hC hP hD hS => ?_)
  refine lv_sipush (v := zI (-2011)) hx hb dL_refusesOne_568 (by decide) ?_
  refine bIF_ne (tgt := 598) hx hb dL_refusesOne_571 (by decide) (by decide) ?_
  refine lv_iload hx hb dL_refusesOne_574 (lv_at hl 1 rfl) ?_
  refine lv_bipush (v := nI 22) hx hb dL_refusesOne_576 (by decide) ?_
  refine bIT_ne (tgt := 600) hx hb dL_refusesOne_578 (by decide) (by decide) ?_
  refine lv_iinc (v := nI 27) (lv' := [(6, .int (nI 27)), (7, .int (nI 0)), (5, .int (zI (szv k))), (4, .int (zI (fr k 1 7))), (3, .int (zI (fr k 0 7))), (2, .int (zI (fr k 0 15))), (0, .ref lq), (1, .int (nI k))]) hx hb dL_refusesOne_600 hl (k := 1) rfl (by rfl) (by decide) rfl (fun ls hl => ?_)
  refine lv_goto (tgt := 520) hx hb dL_refusesOne_603 (by decide) ?_
  exact kk u565 H locs ls hC hP hD hS (lv_sub hl [0, 2, 3, 4, 5, 6, 7] rfl)

set_option maxHeartbeats 8000000 in
set_option maxRecDepth 100000 in
theorem rfl_27 {p : Program} {l : Launch} {e : Env} {s : State} {m : MethodId} {args : Array Value} {below : List Frame} {meth : Method} {c : Code} {H : Heap} {locs : List Loc} {Q : State → Prop} {G : gG} {A : Nat → Prop} {lq : Nat} {ls : Array Slot} {wv X : va_W} (S : SpT) (k : Nat) (hS9 : spS S) (hk : k < 4) (hl9 : l.stackTraces = false) (hb0 : S.2.2.2.2 = 0) (F : gAt p s m args meth c yL_refusesOne wsL_refusesOne cL_refusesOne 8 (some .boolean) G A) (hZ : gX A s s.heap) (hC : clS G lq wv S) (hP : va_P G.1 vwCl (wv ++ X) H) (hD : va_D A (wv ++ X)) (hS : va_S A s.heap H locs) (hl : lv_has ls 8 [(6, .int (nI 27)), (5, .int (zI (szv k))), (4, .int (zI (fr k 1 7))), (3, .int (zI (fr k 0 7))), (2, .int (zI (fr k 0 15))), (0, .ref lq), (1, .int (nI k))])
    (kk : ∀ (u : va_W) (H : Heap) (locs : List Loc) (ls : Array Slot), clS G lq u S → va_P G.1 vwCl (u ++ X) H → va_D A (u ++ X) → va_S A s.heap H locs → lv_has ls 8 [(6, .int (nI 28)), (5, .int (zI (szv k))), (4, .int (zI (fr k 1 7))), (3, .int (zI (fr k 0 7))), (2, .int (zI (fr k 0 15))), (0, .ref lq), (1, .int (nI k))] → W p l e ({ frames := 10, cells := 220, slots := 27500, locals := 260 } : Room) s m args below meth c H locs 180 23760 Q (F0 m 520 ls [])) : W p l e ({ frames := 10, cells := 220, slots := 27500, locals := 260 } : Room) s m args below meth c H locs 176 23232 Q (F0 m 520 ls []) := by
  have hx := F.1
  have hb := F.2.1
  have hts := F.2.2.2.2.2.2.1
  have hown : s.vm.findClass RL = some m.cls := F.2.2.2.2.2.1
  refine lv_iload hx hb dL_refusesOne_520 (lv_at hl 0 rfl) ?_
  refine lv_bipush (v := nI 29) hx hb dL_refusesOne_522 (by decide) ?_
  refine bIF_ge (tgt := 606) hx hb dL_refusesOne_524 (by decide) (by decide) ?_
  refine lv_iload hx hb dL_refusesOne_527 (lv_at hl 0 rfl) ?_
  refine lv_bipush (v := nI 24) hx hb dL_refusesOne_529 (by decide) ?_
  refine bIF_eq (tgt := 541) hx hb dL_refusesOne_531 (by decide) (by decide) ?_
  refine lv_iload hx hb dL_refusesOne_534 (lv_at hl 0 rfl) ?_
  refine lv_bipush (v := nI 27) hx hb dL_refusesOne_536 (by decide) ?_
  refine bIF_ne (tgt := 545) hx hb dL_refusesOne_538 (by decide) (by decide) ?_
  refine lv_iconst (v := nI 1) hx hb dL_refusesOne_541 (by decide) ?_
  refine lv_goto (tgt := 546) hx hb dL_refusesOne_542 (by decide) ?_
  refine lv_istore (lv' := [(7, .int (nI 1)), (6, .int (nI 27)), (5, .int (zI (szv k))), (4, .int (zI (fr k 1 7))), (3, .int (zI (fr k 0 7))), (2, .int (zI (fr k 0 15))), (0, .ref lq), (1, .int (nI k))]) hx hb dL_refusesOne_546 hl (by decide) rfl (fun ls hl => ?_)
  refine lv_aload_n hx hb dL_refusesOne_548 rfl (lv_at hl 6 rfl) ?_
  refine lv_iload hx hb dL_refusesOne_549 (lv_at hl 1 rfl) ?_
  refine lv_iload hx hb dL_refusesOne_551 (lv_at hl 0 rfl) ?_
  refine bZF_eq (tgt := 561) hx hb dL_refusesOne_553 (by decide) (by decide) ?_
  refine lv_iload hx hb dL_refusesOne_556 (lv_at hl 3 rfl) ?_
  refine lv_goto (tgt := 562) hx hb dL_refusesOne_558 (by decide) ?_
  refine lv_iconst (v := nI 1) hx hb dL_refusesOne_562 (by decide) ?_
  refine lv_iconst (v := nI 0) hx hb dL_refusesOne_563 (by decide) ?_
  refine lv_iconst (v := nI 0) hx hb dL_refusesOne_564 (by decide) ?_
  refine lqSW (own := RL) (index := 150) (bytes := cL_call) (n := 6) (As := [.int (nI 27), .int (zI (fr k 1 7)), .int (nI 1), .int (nI 0), .int (nI 0)]) (rest := []) (c2 := 180) (s2 := 23760) F hZ (call_27 l G lq S S (zI (fr k 1 7)) (nI 1) (nI 0) (nI 0) (-2011) (owned_27 l G lq S S (zI (fr k 1 7)) (nI 1) (-2011) (rf_565_27 l G lq S k hS9 hk hl9))) hC gL_refusesOne_L_call rfl rfl rfl rfl (by decide +kernel) rfl ⟨Nat.le_of_ble_eq_true rfl, Nat.le_of_ble_eq_true rfl⟩ hP hD hS rfl hl.1 (Nat.le_of_ble_eq_true rfl) dL_refusesOne_565 ⟨Nat.le_of_ble_eq_true rfl, Nat.le_of_ble_eq_true rfl⟩ ⟨Nat.le_of_ble_eq_true rfl, Nat.le_of_ble_eq_true rfl⟩ (fun u565 H locs hC hP hD hS => ?_)
  refine lv_sipush (v := zI (-2011)) hx hb dL_refusesOne_568 (by decide) ?_
  refine bIF_ne (tgt := 598) hx hb dL_refusesOne_571 (by decide) (by decide) ?_
  refine lv_iload hx hb dL_refusesOne_574 (lv_at hl 1 rfl) ?_
  refine lv_bipush (v := nI 22) hx hb dL_refusesOne_576 (by decide) ?_
  refine bIT_ne (tgt := 600) hx hb dL_refusesOne_578 (by decide) (by decide) ?_
  refine lv_iinc (v := nI 28) (lv' := [(6, .int (nI 28)), (7, .int (nI 1)), (5, .int (zI (szv k))), (4, .int (zI (fr k 1 7))), (3, .int (zI (fr k 0 7))), (2, .int (zI (fr k 0 15))), (0, .ref lq), (1, .int (nI k))]) hx hb dL_refusesOne_600 hl (k := 1) rfl (by rfl) (by decide) rfl (fun ls hl => ?_)
  refine lv_goto (tgt := 520) hx hb dL_refusesOne_603 (by decide) ?_
  exact kk u565 H locs ls hC hP hD hS (lv_sub hl [0, 2, 3, 4, 5, 6, 7] rfl)

set_option maxHeartbeats 8000000 in
set_option maxRecDepth 100000 in
theorem rfl_28 {p : Program} {l : Launch} {e : Env} {s : State} {m : MethodId} {args : Array Value} {below : List Frame} {meth : Method} {c : Code} {H : Heap} {locs : List Loc} {Q : State → Prop} {G : gG} {A : Nat → Prop} {lq : Nat} {ls : Array Slot} {wv X : va_W} (S : SpT) (k : Nat) (hS9 : spS S) (hk : k < 4) (hl9 : l.stackTraces = false) (hb0 : S.2.2.2.2 = 0) (F : gAt p s m args meth c yL_refusesOne wsL_refusesOne cL_refusesOne 8 (some .boolean) G A) (hZ : gX A s s.heap) (hC : clS G lq wv S) (hP : va_P G.1 vwCl (wv ++ X) H) (hD : va_D A (wv ++ X)) (hS : va_S A s.heap H locs) (hl : lv_has ls 8 [(6, .int (nI 28)), (5, .int (zI (szv k))), (4, .int (zI (fr k 1 7))), (3, .int (zI (fr k 0 7))), (2, .int (zI (fr k 0 15))), (0, .ref lq), (1, .int (nI k))])
    (kk : ∀ (u : va_W) (H : Heap) (locs : List Loc) (ls : Array Slot), clS G lq u S → va_P G.1 vwCl (u ++ X) H → va_D A (u ++ X) → va_S A s.heap H locs → lv_has ls 8 [(6, .int (nI 29)), (5, .int (zI (szv k))), (4, .int (zI (fr k 1 7))), (3, .int (zI (fr k 0 7))), (2, .int (zI (fr k 0 15))), (0, .ref lq), (1, .int (nI k))] → W p l e ({ frames := 10, cells := 220, slots := 27500, locals := 260 } : Room) s m args below meth c H locs 184 24288 Q (F0 m 520 ls [])) : W p l e ({ frames := 10, cells := 220, slots := 27500, locals := 260 } : Room) s m args below meth c H locs 180 23760 Q (F0 m 520 ls []) := by
  have hx := F.1
  have hb := F.2.1
  have hts := F.2.2.2.2.2.2.1
  have hown : s.vm.findClass RL = some m.cls := F.2.2.2.2.2.1
  refine lv_iload hx hb dL_refusesOne_520 (lv_at hl 0 rfl) ?_
  refine lv_bipush (v := nI 29) hx hb dL_refusesOne_522 (by decide) ?_
  refine bIF_ge (tgt := 606) hx hb dL_refusesOne_524 (by decide) (by decide) ?_
  refine lv_iload hx hb dL_refusesOne_527 (lv_at hl 0 rfl) ?_
  refine lv_bipush (v := nI 24) hx hb dL_refusesOne_529 (by decide) ?_
  refine bIF_eq (tgt := 541) hx hb dL_refusesOne_531 (by decide) (by decide) ?_
  refine lv_iload hx hb dL_refusesOne_534 (lv_at hl 0 rfl) ?_
  refine lv_bipush (v := nI 27) hx hb dL_refusesOne_536 (by decide) ?_
  refine bIT_ne (tgt := 545) hx hb dL_refusesOne_538 (by decide) (by decide) ?_
  refine lv_iconst (v := nI 0) hx hb dL_refusesOne_545 (by decide) ?_
  refine lv_istore (lv' := [(7, .int (nI 0)), (6, .int (nI 28)), (5, .int (zI (szv k))), (4, .int (zI (fr k 1 7))), (3, .int (zI (fr k 0 7))), (2, .int (zI (fr k 0 15))), (0, .ref lq), (1, .int (nI k))]) hx hb dL_refusesOne_546 hl (by decide) rfl (fun ls hl => ?_)
  refine lv_aload_n hx hb dL_refusesOne_548 rfl (lv_at hl 6 rfl) ?_
  refine lv_iload hx hb dL_refusesOne_549 (lv_at hl 1 rfl) ?_
  refine lv_iload hx hb dL_refusesOne_551 (lv_at hl 0 rfl) ?_
  refine bZT_eq (tgt := 561) hx hb dL_refusesOne_553 (by decide) (by decide) ?_
  refine lv_iload_n hx hb dL_refusesOne_561 rfl (lv_at hl 4 rfl) ?_
  refine lv_iconst (v := nI 1) hx hb dL_refusesOne_562 (by decide) ?_
  refine lv_iconst (v := nI 0) hx hb dL_refusesOne_563 (by decide) ?_
  refine lv_iconst (v := nI 0) hx hb dL_refusesOne_564 (by decide) ?_
  refine lqSW (own := RL) (index := 150) (bytes := cL_call) (n := 6) (As := [.int (nI 28), .int (zI (fr k 0 7)), .int (nI 1), .int (nI 0), .int (nI 0)]) (rest := []) (c2 := 184) (s2 := 24288) F hZ (call_28 l G lq S S (zI (fr k 0 7)) (nI 1) (nI 0) (nI 0) (-2011) (owned_28 l G lq S S (zI (fr k 0 7)) (nI 1) (-2011) (rf_565_28 l G lq S k hS9 hk hl9))) hC gL_refusesOne_L_call rfl rfl rfl rfl (by decide +kernel) rfl ⟨Nat.le_of_ble_eq_true rfl, Nat.le_of_ble_eq_true rfl⟩ hP hD hS rfl hl.1 (Nat.le_of_ble_eq_true rfl) dL_refusesOne_565 ⟨Nat.le_of_ble_eq_true rfl, Nat.le_of_ble_eq_true rfl⟩ ⟨Nat.le_of_ble_eq_true rfl, Nat.le_of_ble_eq_true rfl⟩ (fun u565 H locs hC hP hD hS => ?_)
  refine lv_sipush (v := zI (-2011)) hx hb dL_refusesOne_568 (by decide) ?_
  refine bIF_ne (tgt := 598) hx hb dL_refusesOne_571 (by decide) (by decide) ?_
  refine lv_iload hx hb dL_refusesOne_574 (lv_at hl 1 rfl) ?_
  refine lv_bipush (v := nI 22) hx hb dL_refusesOne_576 (by decide) ?_
  refine bIT_ne (tgt := 600) hx hb dL_refusesOne_578 (by decide) (by decide) ?_
  refine lv_iinc (v := nI 29) (lv' := [(6, .int (nI 29)), (7, .int (nI 0)), (5, .int (zI (szv k))), (4, .int (zI (fr k 1 7))), (3, .int (zI (fr k 0 7))), (2, .int (zI (fr k 0 15))), (0, .ref lq), (1, .int (nI k))]) hx hb dL_refusesOne_600 hl (k := 1) rfl (by rfl) (by decide) rfl (fun ls hl => ?_)
  refine lv_goto (tgt := 520) hx hb dL_refusesOne_603 (by decide) ?_
  exact kk u565 H locs ls hC hP hD hS (lv_sub hl [0, 2, 3, 4, 5, 6, 7] rfl)
