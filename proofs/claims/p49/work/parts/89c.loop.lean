theorem nI_injN {a b : Nat} (ha : a < 2147483648) (hb : b < 2147483648) (e : nI a = nI b) : a = b := (nI_eq ha hb).mp e
set_option maxHeartbeats 8000000 in
set_option maxRecDepth 100000 in
theorem law_loop {p : Program} {l : Launch} {e : Env} {s : State} {m : MethodId} {below : List Frame} {meth : Method} {c : Code} {G : gG} {b L lq wl : Nat} {xs : Nat → Int32} {K : Nat → Option LdS} {bu : Nat → Nat} {SL0 : List LdS} (FF : lwF p l s m #[Value.ref b] meth c G (fun q : Nat => s.heap.size ≤ q) b L xs) (hr : meth.sig.returnType = ret) (hlocks : meth.locks = false) (hK : K 1 = some LN22) : ∀ (n k : Nat), k + n = 24 → ∀ (hs : Nat → LdS) (acts : Nat) (H : Heap) (locs : List Loc) (ls : Array Slot) (u : va_W) (f : Nat → Int64), acts ≤ k → (∀ i, i < acts → f i = sn (hs i)) → spS (hs acts, SLn SL0 hs acts, K, bu, 0) → clS G lq u (hs acts, SLn SL0 hs acts, K, bu, 0) → va_P G.1 vwCl (u ++ [wasC G wl f]) H → va_D (fun q : Nat => s.heap.size ≤ q) (u ++ [wasC G wl f]) → va_S (fun q : Nat => s.heap.size ≤ q) s.heap H locs → lv_has ls 15 [(0, .ref b), (1, .ref lq), (2, .ref wl), (3, .int (nI acts)), (4, .long (sn LN22)), (6, .int (nI k))] → W p l e room_1 s m #[Value.ref b] below meth c H locs (3406 + 4 * k) (435418 + 528 * k) (lw_Z below #[Value.ref b] s) (F0 m 107 ls []) := by
  obtain ⟨F, hZ, hX, hbl, hbA, hL, hl9⟩ := id FF
  have hx := F.1
  have hb := F.2.1
  have hts := F.2.2.2.2.2.2.1
  have hown : s.vm.findClass RL = some m.cls := F.2.2.2.2.2.1
  have hKK := F.2.2.2.2.2.2.2.2.1
  intro n
  induction n with
  | zero =>
    intro k hk hs acts H locs ls u f ha hf9 hS9 hC hP hD hS hl
    obtain rfl : k = 24 := by omega
    refine lv_iload hx hb dL_law_107 (lv_at hl 5 rfl) ?_
    refine lv_bipush (v := nI 24) hx hb dL_law_109 (by decide) ?_
    refine bIT_ge (tgt := 446) hx hb dL_law_111 (by decide) (by decide) ?_
    refine W.widen (k := 3502) (n := 448090) (by omega) (by omega) ?_
    exact law_post FF hr hlocks hK ha hf9 hS9 hC hP hD hS (lv_sub hl [0, 1, 2, 3, 4] rfl)
  | succ n ih =>
    intro k hk hs acts H locs ls u f ha hf9 hS9 hC hP hD hS hl
    refine lv_iload hx hb dL_law_107 (lv_at hl 5 rfl) ?_
    refine lv_bipush (v := nI 24) hx hb dL_law_109 (by decide) ?_
    refine bIF_ge (tgt := 446) hx hb dL_law_111 (by decide) (fun h => absurd ((nI_leI (by omega) (by omega)).mp h) (by omega)) ?_
    refine lv_aload_n hx hb dL_law_114 rfl (lv_at hl 0 rfl) ?_
    refine lv_iload hx hb dL_law_115 (lv_at hl 5 rfl) ?_
    refine law_drawn FF (by omega) hP hS hl.1 ⟨by omega, by omega⟩ (fun x H locs hP hS => ?_)
    refine lv_istore (lv' := [(7, .int x), (0, .ref b), (1, .ref lq), (2, .ref wl), (3, .int (nI acts)), (4, .long (sn LN22)), (6, .int (nI k))]) hx hb dL_law_120 hl (by decide) rfl (fun ls hl => ?_)
    refine lv_iload hx hb dL_law_122 (lv_at hl 0 rfl) ?_
    refine lv_bipush (v := nI 18) hx hb dL_law_124 (by decide) ?_
    refine lqN (own := RL) (index := 282) (bytes := cL_part) (n := 2) (As := [.int x, .int (nI 18)]) (rest := []) (c2 := (3406 + 4 * k)) (s2 := (435418 + 528 * k)) F hZ (c_part l G x 18 (by decide)) gL_law_L_part rfl rfl rfl rfl (by decide +kernel) rfl ⟨Nat.le_of_ble_eq_true rfl, Nat.le_of_ble_eq_true rfl⟩ hP hD hS rfl hl.1 (Nat.le_of_ble_eq_true rfl) dL_law_126 ⟨Nat.le_refl _, Nat.le_refl _⟩ ⟨by show _ ≤ 600104; omega, by show _ ≤ 7301314; omega⟩ (fun r126 H locs hp126 hP hD hS => ?_)
    obtain ⟨kv, hkv, rfl⟩ : ∃ q, q < 18 ∧ r126 = nI q := ⟨_, Nat.mod_lt _ (by decide), hp126⟩
    refine lv_istore (lv' := [(8, .int (nI kv)), (7, .int x), (0, .ref b), (1, .ref lq), (2, .ref wl), (3, .int (nI acts)), (4, .long (sn LN22)), (6, .int (nI k))]) hx hb dL_law_129 hl (by decide) rfl (fun ls hl => ?_)
    refine lv_aload_n hx hb dL_law_131 rfl (lv_at hl 4 rfl) ?_
    refine lv_iload_n hx hb dL_law_132 rfl (lv_at hl 5 rfl) ?_
    refine lv_aload_n hx hb dL_law_133 rfl (lv_at hl 3 rfl) ?_
    refine lqL (own := RL) (index := 170) (bytes := cL_seen) (n := 1) (As := []) (rest := [.int (nI acts), .ref wl]) (c2 := (3406 + 4 * k)) (s2 := (435418 + 528 * k)) F hZ (c_seen l G lq (hs acts, SLn SL0 hs acts, K, bu, 0) hS9) hC gL_law_L_seen rfl rfl rfl rfl (by decide +kernel) rfl ⟨Nat.le_of_ble_eq_true rfl, Nat.le_of_ble_eq_true rfl⟩ hP hD hS rfl hl.1 (Nat.le_of_ble_eq_true rfl) dL_law_134 ⟨Nat.le_refl _, Nat.le_refl _⟩ ⟨by show _ ≤ 600104; omega, by show _ ≤ 7301314; omega⟩ (fun u134 H locs hC hP hD hS => ?_)
    refine gWst hx hb hKK.1 hP hD hS (by omega) dL_law_137 (fun H locs hP hD hS => ?_)
    refine lv_aload_n hx hb dL_law_138 rfl (lv_at hl 3 rfl) ?_
    refine lqV (own := RL) (index := 174) (bytes := cX3_savedStates) (n := 0) (As := []) (rest := []) (c2 := (3406 + 4 * k)) (s2 := (435418 + 528 * k)) F (K_savedStates l G lq (hs acts, SLn SL0 hs acts, K, bu, 0) hS9) hC gL_law_X3_savedStates rfl rfl rfl rfl (by decide +kernel) rfl ⟨Nat.le_of_ble_eq_true rfl, Nat.le_of_ble_eq_true rfl⟩ hP hD hS rfl hl.1 (Nat.le_of_ble_eq_true rfl) dL_law_139 ⟨Nat.le_refl _, Nat.le_refl _⟩ ⟨by show _ ≤ 600104; omega, by show _ ≤ 7301314; omega⟩ (fun u139 H locs hC hP hD hS => ?_)
    refine lv_istore (lv' := [(9, .int (nI ((SLn SL0 hs acts).length))), (8, .int (nI kv)), (7, .int x), (0, .ref b), (1, .ref lq), (2, .ref wl), (3, .int (nI acts)), (4, .long (sn LN22)), (6, .int (nI k))]) hx hb dL_law_142 hl (by decide) rfl (fun ls hl => ?_)
    refine lv_iload hx hb dL_law_144 (lv_at hl 2 rfl) ?_
    refine lv_iconst (v := nI 5) hx hb dL_law_146 (by decide) ?_
    refine lv_ishr hx hb dL_law_147 ?_
    refine lv_bipush (v := nI 8) hx hb dL_law_148 (by decide) ?_
    refine lqN (own := RL) (index := 282) (bytes := cL_part) (n := 2) (As := [.int (x >>> ((nI 5) &&& 31)), .int (nI 8)]) (rest := []) (c2 := (3406 + 4 * k)) (s2 := (435418 + 528 * k)) F hZ (c_part l G (x >>> ((nI 5) &&& 31)) 8 (by decide)) gL_law_L_part rfl rfl rfl rfl (by decide +kernel) rfl ⟨Nat.le_of_ble_eq_true rfl, Nat.le_of_ble_eq_true rfl⟩ hP hD hS rfl hl.1 (Nat.le_of_ble_eq_true rfl) dL_law_150 ⟨Nat.le_refl _, Nat.le_refl _⟩ ⟨by show _ ≤ 600104; omega, by show _ ≤ 7301314; omega⟩ (fun r150 H locs hp150 hP hD hS => ?_)
    obtain ⟨av, hav, rfl⟩ : ∃ q, q < 8 ∧ r150 = nI q := ⟨_, Nat.mod_lt _ (by decide), hp150⟩
    refine lv_istore (lv' := [(10, .int (nI av)), (9, .int (nI ((SLn SL0 hs acts).length))), (8, .int (nI kv)), (7, .int x), (0, .ref b), (1, .ref lq), (2, .ref wl), (3, .int (nI acts)), (4, .long (sn LN22)), (6, .int (nI k))]) hx hb dL_law_153 hl (by decide) rfl (fun ls hl => ?_)
    refine lv_iload hx hb dL_law_155 (lv_at hl 3 rfl) ?_
    refine lv_bipush (v := nI 8) hx hb dL_law_157 (by decide) ?_
    refine lv_ishr hx hb dL_law_159 ?_
    refine lv_bipush (v := nI 8) hx hb dL_law_160 (by decide) ?_
    refine lqN (own := RL) (index := 282) (bytes := cL_part) (n := 2) (As := [.int (x >>> ((nI 8) &&& 31)), .int (nI 8)]) (rest := []) (c2 := (3406 + 4 * k)) (s2 := (435418 + 528 * k)) F hZ (c_part l G (x >>> ((nI 8) &&& 31)) 8 (by decide)) gL_law_L_part rfl rfl rfl rfl (by decide +kernel) rfl ⟨Nat.le_of_ble_eq_true rfl, Nat.le_of_ble_eq_true rfl⟩ hP hD hS rfl hl.1 (Nat.le_of_ble_eq_true rfl) dL_law_162 ⟨Nat.le_refl _, Nat.le_refl _⟩ ⟨by show _ ≤ 600104; omega, by show _ ≤ 7301314; omega⟩ (fun r162 H locs hp162 hP hD hS => ?_)
    obtain ⟨bv, hbv, rfl⟩ : ∃ q, q < 8 ∧ r162 = nI q := ⟨_, Nat.mod_lt _ (by decide), hp162⟩
    refine lv_istore (lv' := [(11, .int (nI bv)), (10, .int (nI av)), (9, .int (nI ((SLn SL0 hs acts).length))), (8, .int (nI kv)), (7, .int x), (0, .ref b), (1, .ref lq), (2, .ref wl), (3, .int (nI acts)), (4, .long (sn LN22)), (6, .int (nI k))]) hx hb dL_law_165 hl (by decide) rfl (fun ls hl => ?_)
    refine lv_iconst (v := nI 1) hx hb dL_law_167 (by decide) ?_
    refine lv_iload hx hb dL_law_168 (lv_at hl 4 rfl) ?_
    refine lv_bipush (v := nI 11) hx hb dL_law_170 (by decide) ?_
    refine lv_ishr hx hb dL_law_172 ?_
    refine lv_iconst (v := nI 4) hx hb dL_law_173 (by decide) ?_
    refine lqN (own := RL) (index := 282) (bytes := cL_part) (n := 2) (As := [.int (x >>> ((nI 11) &&& 31)), .int (nI 4)]) (rest := [.int (nI 1)]) (c2 := (3406 + 4 * k)) (s2 := (435418 + 528 * k)) F hZ (c_part l G (x >>> ((nI 11) &&& 31)) 4 (by decide)) gL_law_L_part rfl rfl rfl rfl (by decide +kernel) rfl ⟨Nat.le_of_ble_eq_true rfl, Nat.le_of_ble_eq_true rfl⟩ hP hD hS rfl hl.1 (Nat.le_of_ble_eq_true rfl) dL_law_174 ⟨Nat.le_refl _, Nat.le_refl _⟩ ⟨by show _ ≤ 600104; omega, by show _ ≤ 7301314; omega⟩ (fun r174 H locs hp174 hP hD hS => ?_)
    obtain ⟨qv, hqv, rfl⟩ : ∃ q, q < 4 ∧ r174 = nI q := ⟨_, Nat.mod_lt _ (by decide), hp174⟩
    obtain ⟨zv, hzv, hze⟩ := shl_q hqv
    refine lv_ishl hx hb dL_law_177 ?_
    refine W.eq (g2 := F0 m 178 ls [.int (nI zv)]) (congrArg (fun v_ => F0 m 178 ls [v_]) (show (.int ((nI 1) <<< ((nI qv) &&& 31)) : Value) = .int (nI zv) from congrArg Value.int hze)) ?_
    refine lv_istore (lv' := [(12, .int (nI zv)), (11, .int (nI bv)), (10, .int (nI av)), (9, .int (nI ((SLn SL0 hs acts).length))), (8, .int (nI kv)), (7, .int x), (0, .ref b), (1, .ref lq), (2, .ref wl), (3, .int (nI acts)), (4, .long (sn LN22)), (6, .int (nI k))]) hx hb dL_law_178 hl (by decide) rfl (fun ls hl => ?_)
    have J383 : ∀ (S2 : SpT) (r2 : Int) (hA : Acts (hs acts, SLn SL0 hs acts, K, bu, 0) S2 r2) (u : va_W) (H : Heap) (locs : List Loc) (ls : Array Slot), clS G lq u S2 → va_P G.1 vwCl (u ++ [wasC G wl (vp_updL f acts (sn (hs acts)))]) H → va_D (fun q : Nat => s.heap.size ≤ q) (u ++ [wasC G wl (vp_updL f acts (sn (hs acts)))]) → va_S (fun q : Nat => s.heap.size ≤ q) s.heap H locs → lv_has ls 15 [(12, .int (nI zv)), (11, .int (nI bv)), (10, .int (nI av)), (9, .int (nI ((SLn SL0 hs acts).length))), (8, .int (nI kv)), (7, .int x), (0, .ref b), (1, .ref lq), (2, .ref wl), (3, .int (nI acts)), (4, .long (sn LN22)), (6, .int (nI k))] → W p l e room_1 s m #[Value.ref b] below meth c H locs (3406 + 4 * k + 4) (435418 + 528 * k + 528) (lw_Z below #[Value.ref b] s) (F0 m 383 ls [.int (zI r2)]) := by
      intro S2 r2 hA u H locs ls hC hP hD hS hl
      obtain ⟨hr1, hr2, hA⟩ := hA
      refine lv_istore (lv' := [(13, .int (zI r2)), (12, .int (nI zv)), (11, .int (nI bv)), (10, .int (nI av)), (9, .int (nI ((SLn SL0 hs acts).length))), (8, .int (nI kv)), (7, .int x), (0, .ref b), (1, .ref lq), (2, .ref wl), (3, .int (nI acts)), (4, .long (sn LN22)), (6, .int (nI k))]) hx hb dL_law_383 hl (by decide) rfl (fun ls hl => ?_)
      refine lv_iload hx hb dL_law_385 (lv_at hl 0 rfl) ?_
      refine lv_sipush (v := zI (-1999)) hx hb dL_law_387 (by decide) ?_
      refine gZcmp_ge (a := r2) (b := -1999) (tgt := 397) hx hb dL_law_390 (by decide) ⟨hr1, hr2⟩ (by decide) (fun c9 => ?_) (fun c9 => ?_)
      · skip
        obtain ⟨Lx, rfl, hS9⟩ : ∃ L', S2 = pushS (hs acts, SLn SL0 hs acts, K, bu, 0) L' ∧ spS S2 := hA.elim (fun h => absurd h.1 (by omega)) (fun h => h.2)
        refine lv_iconst (v := nI 0) hx hb dL_law_397 (by decide) ?_
        refine lv_istore (lv' := [(14, .int (nI 0)), (13, .int (zI r2)), (12, .int (nI zv)), (11, .int (nI bv)), (10, .int (nI av)), (9, .int (nI ((SLn SL0 hs acts).length))), (8, .int (nI kv)), (7, .int x), (0, .ref b), (1, .ref lq), (2, .ref wl), (3, .int (nI acts)), (4, .long (sn LN22)), (6, .int (nI k))]) hx hb dL_law_398 hl (by decide) rfl (fun ls hl => ?_)
        refine lv_iload hx hb dL_law_400 (lv_at hl 0 rfl) ?_
        refine bZT_eq (tgt := 427) hx hb dL_law_402 (by decide) (by decide) ?_
        refine lv_iload_n hx hb dL_law_427 rfl (lv_at hl 11 rfl) ?_
        refine lv_iload hx hb dL_law_428 (lv_at hl 0 rfl) ?_
        refine bZT_eq (tgt := 437) hx hb dL_law_430 (by decide) (by decide) ?_
        refine lv_iconst (v := nI 1) hx hb dL_law_437 (by decide) ?_
        refine gIadd (a := acts) (b := 1) hx hb dL_law_438 ?_
        refine lv_istore_n (lv' := [(3, .int (nI (acts + 1))), (14, .int (nI 0)), (13, .int (zI r2)), (12, .int (nI zv)), (11, .int (nI bv)), (10, .int (nI av)), (9, .int (nI ((SLn SL0 hs acts).length))), (8, .int (nI kv)), (7, .int x), (0, .ref b), (1, .ref lq), (2, .ref wl), (4, .long (sn LN22)), (6, .int (nI k))]) hx hb dL_law_439 rfl hl (by decide) rfl (fun ls hl => ?_)
        refine lv_iinc (v := nI (k + 1)) (lv' := [(6, .int (nI (k + 1))), (3, .int (nI (acts + 1))), (14, .int (nI 0)), (13, .int (zI r2)), (12, .int (nI zv)), (11, .int (nI bv)), (10, .int (nI av)), (9, .int (nI ((SLn SL0 hs acts).length))), (8, .int (nI kv)), (7, .int x), (0, .ref b), (1, .ref lq), (2, .ref wl), (4, .long (sn LN22))]) hx hb dL_law_440 hl (k := 13) rfl (gInc_p _ rfl) (by decide) rfl (fun ls hl => ?_)
        refine lv_goto (tgt := 107) hx hb dL_law_443 (by decide) ?_
        have e1 : ∀ i, i < acts + 1 → hs i = (va_up hs (acts + 1) Lx) i := fun i hi => by rw [gu_if, if_neg (by omega)]
        have e2 : SLn SL0 (va_up hs (acts + 1) Lx) (acts + 1) = pushH (SLn SL0 hs acts) (hs acts) := (SLn_cg (acts + 1) e1).symm
        have e3 : ((va_up hs (acts + 1) Lx) (acts + 1), SLn SL0 (va_up hs (acts + 1) Lx) (acts + 1), K, bu, 0) = pushS (hs acts, SLn SL0 hs acts, K, bu, 0) Lx := by rw [e2, gu_s]
        refine W.widen (k := 3406 + 4 * (k + 1)) (n := 435418 + 528 * (k + 1)) (by omega) (by omega) ?_
        refine ih (k + 1) (by omega) (va_up hs (acts + 1) Lx) (acts + 1) H locs ls u (vp_updL f acts (sn (hs acts))) (by omega) (fun i hi => ?_) (by rw [e3]; exact hS9) (by rw [e3]; exact hC) hP hD hS (lv_sub hl [10, 11, 12, 1, 13, 0] rfl)
        rw [← e1 i hi]
        by_cases e : i = acts
        · rw [e]; exact up_new
        · rw [up_old (by omega)]; exact hf9 i (by omega)
      · skip
        obtain rfl : S2 = (hs acts, SLn SL0 hs acts, K, bu, 0) := hA.elim (fun h => h.2) (fun h => absurd h.1 (by omega))
        refine lv_iconst (v := nI 1) hx hb dL_law_393 (by decide) ?_
        refine lv_goto (tgt := 398) hx hb dL_law_394 (by decide) ?_
        refine lv_istore (lv' := [(14, .int (nI 1)), (13, .int (zI r2)), (12, .int (nI zv)), (11, .int (nI bv)), (10, .int (nI av)), (9, .int (nI ((SLn SL0 hs acts).length))), (8, .int (nI kv)), (7, .int x), (0, .ref b), (1, .ref lq), (2, .ref wl), (3, .int (nI acts)), (4, .long (sn LN22)), (6, .int (nI k))]) hx hb dL_law_398 hl (by decide) rfl (fun ls hl => ?_)
        refine lv_iload hx hb dL_law_400 (lv_at hl 0 rfl) ?_
        refine bZF_eq (tgt := 427) hx hb dL_law_402 (by decide) (by decide) ?_
        refine lv_aload_n hx hb dL_law_405 rfl (lv_at hl 9 rfl) ?_
        refine lqV (own := RL) (index := 174) (bytes := cX3_savedStates) (n := 0) (As := []) (rest := []) (c2 := (3406 + 4 * k + 4)) (s2 := (435418 + 528 * k + 528)) F (K_savedStates l G lq (hs acts, SLn SL0 hs acts, K, bu, 0) hS9) hC gL_law_X3_savedStates rfl rfl rfl rfl (by decide +kernel) rfl ⟨Nat.le_of_ble_eq_true rfl, Nat.le_of_ble_eq_true rfl⟩ hP hD hS rfl hl.1 (Nat.le_of_ble_eq_true rfl) dL_law_406 ⟨Nat.le_refl _, Nat.le_refl _⟩ ⟨by show _ ≤ 600104; omega, by show _ ≤ 7301314; omega⟩ (fun u406 H locs hC hP hD hS => ?_)
        refine lv_iload hx hb dL_law_409 (lv_at hl 5 rfl) ?_
        refine bIF_ne (tgt := 425) hx hb dL_law_411 (by decide) (rfl) ?_
        refine lv_aload_n hx hb dL_law_414 rfl (lv_at hl 9 rfl) ?_
        refine lqL (own := RL) (index := 170) (bytes := cL_seen) (n := 1) (As := []) (rest := []) (c2 := (3406 + 4 * k + 4)) (s2 := (435418 + 528 * k + 528)) F hZ (c_seen l G lq (hs acts, SLn SL0 hs acts, K, bu, 0) hS9) hC gL_law_L_seen rfl rfl rfl rfl (by decide +kernel) rfl ⟨Nat.le_of_ble_eq_true rfl, Nat.le_of_ble_eq_true rfl⟩ hP hD hS rfl hl.1 (Nat.le_of_ble_eq_true rfl) dL_law_415 ⟨Nat.le_refl _, Nat.le_refl _⟩ ⟨by show _ ≤ 600104; omega, by show _ ≤ 7301314; omega⟩ (fun u415 H locs hC hP hD hS => ?_)
        refine lv_aload_n hx hb dL_law_418 rfl (lv_at hl 10 rfl) ?_
        refine lv_iload_n hx hb dL_law_419 rfl (lv_at hl 11 rfl) ?_
        refine gWld hx hb hKK.1 hP (by omega) dL_law_420 ?_
        refine W.eq (g2 := F0 m 421 ls [.long (sn (hs acts)), .long (sn (hs acts))]) (congrArg (fun v_ => F0 m 421 ls [v_, .long (sn (hs acts))]) (show (.long ((vp_updL f acts (sn (hs acts))) acts) : Value) = .long (sn (hs acts)) from congrArg Value.long up_new)) ?_
        refine W.lcmp hx hb dL_law_421 ?_
        refine W.eq (g2 := F0 m 422 ls [.int (nI 0)]) (congrArg (fun v_ => F0 m 422 ls [v_]) (show (.int (lg_cmp (sn (hs acts)) (sn (hs acts))) : Value) = .int (nI 0) from congrArg Value.int (lcmp_self _))) ?_
        refine bZT_eq (tgt := 427) hx hb dL_law_422 (by decide) (by decide) ?_
        refine lv_iload_n hx hb dL_law_427 rfl (lv_at hl 11 rfl) ?_
        refine lv_iload hx hb dL_law_428 (lv_at hl 0 rfl) ?_
        refine bZF_eq (tgt := 437) hx hb dL_law_430 (by decide) (by decide) ?_
        refine lv_iconst (v := nI 0) hx hb dL_law_433 (by decide) ?_
        refine lv_goto (tgt := 438) hx hb dL_law_434 (by decide) ?_
        refine gIadd (a := acts) (b := 0) hx hb dL_law_438 ?_
        refine W.eq (g2 := F0 m 439 ls [.int (nI acts)]) (congrArg (fun v_ => F0 m 439 ls [v_]) (show (.int (nI (acts + 0)) : Value) = .int (nI acts) from rfl)) ?_
        refine lv_istore_n (lv' := [(3, .int (nI acts)), (14, .int (nI 1)), (13, .int (zI r2)), (12, .int (nI zv)), (11, .int (nI bv)), (10, .int (nI av)), (9, .int (nI ((SLn SL0 hs acts).length))), (8, .int (nI kv)), (7, .int x), (0, .ref b), (1, .ref lq), (2, .ref wl), (4, .long (sn LN22)), (6, .int (nI k))]) hx hb dL_law_439 rfl hl (by decide) rfl (fun ls hl => ?_)
        refine lv_iinc (v := nI (k + 1)) (lv' := [(6, .int (nI (k + 1))), (3, .int (nI acts)), (14, .int (nI 1)), (13, .int (zI r2)), (12, .int (nI zv)), (11, .int (nI bv)), (10, .int (nI av)), (9, .int (nI ((SLn SL0 hs acts).length))), (8, .int (nI kv)), (7, .int x), (0, .ref b), (1, .ref lq), (2, .ref wl), (4, .long (sn LN22))]) hx hb dL_law_440 hl (k := 13) rfl (gInc_p _ rfl) (by decide) rfl (fun ls hl => ?_)
        refine lv_goto (tgt := 107) hx hb dL_law_443 (by decide) ?_
        refine W.widen (k := 3406 + 4 * (k + 1)) (n := 435418 + 528 * (k + 1)) (by omega) (by omega) ?_
        exact ih (k + 1) (by omega) hs acts H locs ls u415 (vp_updL f acts (sn (hs acts))) (by omega) (fun i hi => by rw [up_old hi]; exact hf9 i hi) hS9 hC hP hD hS (lv_sub hl [10, 11, 12, 1, 13, 0] rfl)
    refine lv_iload hx hb dL_law_180 (lv_at hl 4 rfl) ?_
    refine lv_iconst (v := nI 4) hx hb dL_law_182 (by decide) ?_
    by_cases c183 : kv < 4
    · skip
      refine bIF_ge (tgt := 214) hx hb dL_law_183 (by decide) (fun h => absurd ((nI_leI (by omega) (by omega)).mp h) (by omega)) ?_
      refine lv_aload_n hx hb dL_law_186 rfl (lv_at hl 7 rfl) ?_
      refine lv_iconst (v := nI 0) hx hb dL_law_187 (by decide) ?_
      refine lv_iconst (v := nI 2) hx hb dL_law_188 (by decide) ?_
      refine lv_iload hx hb dL_law_189 (lv_at hl 2 rfl) ?_
      refine gImul (a := 2) (b := av) hx hb dL_law_191 ?_
      refine lv_iconst (v := nI 2) hx hb dL_law_192 (by decide) ?_
      refine lv_iload hx hb dL_law_193 (lv_at hl 1 rfl) ?_
      refine gImul (a := 2) (b := bv) hx hb dL_law_195 ?_
      refine lv_iload hx hb dL_law_196 (lv_at hl 0 rfl) ?_
      refine lv_iload hx hb dL_law_198 (lv_at hl 5 rfl) ?_
      refine lv_bipush (v := nI 13) hx hb dL_law_200 (by decide) ?_
      refine lv_ishr hx hb dL_law_202 ?_
      refine lv_bipush (v := nI 8) hx hb dL_law_203 (by decide) ?_
      refine lqN (own := RL) (index := 282) (bytes := cL_part) (n := 2) (As := [.int (x >>> ((nI 13) &&& 31)), .int (nI 8)]) (rest := [.int (nI zv), .int (nI (2 * bv)), .int (nI (2 * av)), .int (nI 0), .ref lq]) (c2 := (3406 + 4 * k)) (s2 := (435418 + 528 * k)) F hZ (c_part l G (x >>> ((nI 13) &&& 31)) 8 (by decide)) gL_law_L_part rfl rfl rfl rfl (by decide +kernel) rfl ⟨Nat.le_of_ble_eq_true rfl, Nat.le_of_ble_eq_true rfl⟩ hP hD hS rfl hl.1 (Nat.le_of_ble_eq_true rfl) dL_law_205 ⟨Nat.le_refl _, Nat.le_refl _⟩ ⟨by show _ ≤ 600104; omega, by show _ ≤ 7301314; omega⟩ (fun r205 H locs hp205 hP hD hS => ?_)
      obtain ⟨ov, hov, rfl⟩ : ∃ q, q < 8 ∧ r205 = nI q := ⟨_, Nat.mod_lt _ (by decide), hp205⟩
      obtain ⟨S2, r2, hDo, hAc⟩ := ak_grant l G lq (hs acts, SLn SL0 hs acts, K, bu, 0) av bv zv ov hS9 hav hbv hzv hov hl9
      refine lqSW (own := RL) (index := 150) (bytes := cL_call) (n := 6) (As := [.int (nI 0), .int (nI (2 * av)), .int (nI (2 * bv)), .int (nI zv), .int (nI ov)]) (rest := []) (c2 := (3406 + 4 * k + 4)) (s2 := (435418 + 528 * k + 528)) F hZ (call_0 l G lq (hs acts, SLn SL0 hs acts, K, bu, 0) S2 (nI (2 * av)) (nI (2 * bv)) (nI zv) (nI ov) r2 hDo) hC gL_law_L_call rfl rfl rfl rfl (by decide +kernel) rfl ⟨Nat.le_of_ble_eq_true rfl, Nat.le_of_ble_eq_true rfl⟩ hP hD hS rfl hl.1 (Nat.le_of_ble_eq_true rfl) dL_law_208 ⟨by omega, by omega⟩ ⟨by show _ ≤ 600104; omega, by show _ ≤ 7301314; omega⟩ (fun u208 H locs hC hP hD hS => ?_)
      refine lv_goto (tgt := 383) hx hb dL_law_211 (by decide) ?_
      exact J383 S2 r2 hAc u208 H locs ls hC hP hD hS hl
    · skip
      refine bIT_ge (tgt := 214) hx hb dL_law_183 (by decide) ((nI_leI (by omega) (by omega)).mpr (by omega)) ?_
      refine lv_iload hx hb dL_law_214 (lv_at hl 4 rfl) ?_
      refine lv_bipush (v := nI 6) hx hb dL_law_216 (by decide) ?_
      by_cases c218 : kv < 6
      · skip
        refine bIF_ge (tgt := 240) hx hb dL_law_218 (by decide) (fun h => absurd ((nI_leI (by omega) (by omega)).mp h) (by omega)) ?_
        refine lv_aload_n hx hb dL_law_221 rfl (lv_at hl 7 rfl) ?_
        refine lv_iconst (v := nI 1) hx hb dL_law_222 (by decide) ?_
        refine lv_iload hx hb dL_law_223 (lv_at hl 2 rfl) ?_
        refine lv_iload hx hb dL_law_225 (lv_at hl 1 rfl) ?_
        refine lv_iload hx hb dL_law_227 (lv_at hl 0 rfl) ?_
        refine lv_iload hx hb dL_law_229 (lv_at hl 2 rfl) ?_
        refine lv_iload hx hb dL_law_231 (lv_at hl 1 rfl) ?_
        refine W.eq (g2 := F0 m 233 ls [.int (zI (bv : Int)), .int (zI (av : Int)), .int (nI zv), .int (nI bv), .int (nI av), .int (nI 1), .ref lq]) (by simp only [zI_nat]) ?_
        refine gZsub (a := (av : Int)) (b := (bv : Int)) hx hb dL_law_233 ?_
        obtain ⟨S2, r2, hDo, hAc⟩ := ak_raise l G lq (hs acts, SLn SL0 hs acts, K, bu, 0) av bv zv hS9 hav hbv hzv hl9
        refine lqSW (own := RL) (index := 150) (bytes := cL_call) (n := 6) (As := [.int (nI 1), .int (nI av), .int (nI bv), .int (nI zv), .int (zI ((av : Int) - (bv : Int)))]) (rest := []) (c2 := (3406 + 4 * k + 4)) (s2 := (435418 + 528 * k + 528)) F hZ (call_1 l G lq (hs acts, SLn SL0 hs acts, K, bu, 0) S2 (nI av) (nI bv) (nI zv) (zI ((av : Int) - (bv : Int))) r2 hDo) hC gL_law_L_call rfl rfl rfl rfl (by decide +kernel) rfl ⟨Nat.le_of_ble_eq_true rfl, Nat.le_of_ble_eq_true rfl⟩ hP hD hS rfl hl.1 (Nat.le_of_ble_eq_true rfl) dL_law_234 ⟨by omega, by omega⟩ ⟨by show _ ≤ 600104; omega, by show _ ≤ 7301314; omega⟩ (fun u234 H locs hC hP hD hS => ?_)
        refine lv_goto (tgt := 383) hx hb dL_law_237 (by decide) ?_
        exact J383 S2 r2 hAc u234 H locs ls hC hP hD hS hl
      · skip
        refine bIT_ge (tgt := 240) hx hb dL_law_218 (by decide) ((nI_leI (by omega) (by omega)).mpr (by omega)) ?_
        refine lv_iload hx hb dL_law_240 (lv_at hl 4 rfl) ?_
        refine lv_bipush (v := nI 6) hx hb dL_law_242 (by decide) ?_
        by_cases c244 : kv = 6
        · skip
          refine bIF_ne (tgt := 260) hx hb dL_law_244 (by decide) (by rw [c244]) ?_
          refine lv_aload_n hx hb dL_law_247 rfl (lv_at hl 7 rfl) ?_
          refine lv_iconst (v := nI 2) hx hb dL_law_248 (by decide) ?_
          refine lv_iload hx hb dL_law_249 (lv_at hl 2 rfl) ?_
          refine lv_iconst (v := nI 0) hx hb dL_law_251 (by decide) ?_
          refine lv_iconst (v := nI 0) hx hb dL_law_252 (by decide) ?_
          refine lv_iconst (v := nI 0) hx hb dL_law_253 (by decide) ?_
          obtain ⟨S2, r2, hDo, hAc⟩ := ak_flood l G lq (hs acts, SLn SL0 hs acts, K, bu, 0) av hS9 hav hl9
          refine lqSW (own := RL) (index := 150) (bytes := cL_call) (n := 6) (As := [.int (nI 2), .int (nI av), .int (nI 0), .int (nI 0), .int (nI 0)]) (rest := []) (c2 := (3406 + 4 * k + 4)) (s2 := (435418 + 528 * k + 528)) F hZ (call_2 l G lq (hs acts, SLn SL0 hs acts, K, bu, 0) S2 (nI av) (nI 0) (nI 0) (nI 0) r2 hDo) hC gL_law_L_call rfl rfl rfl rfl (by decide +kernel) rfl ⟨Nat.le_of_ble_eq_true rfl, Nat.le_of_ble_eq_true rfl⟩ hP hD hS rfl hl.1 (Nat.le_of_ble_eq_true rfl) dL_law_254 ⟨by omega, by omega⟩ ⟨by show _ ≤ 600104; omega, by show _ ≤ 7301314; omega⟩ (fun u254 H locs hC hP hD hS => ?_)
          refine lv_goto (tgt := 383) hx hb dL_law_257 (by decide) ?_
          exact J383 S2 r2 hAc u254 H locs ls hC hP hD hS hl
        · skip
          refine bIT_ne (tgt := 260) hx hb dL_law_244 (by decide) (fun h => c244 (nI_injN (by omega) (by omega) h)) ?_
          refine lv_iload hx hb dL_law_260 (lv_at hl 4 rfl) ?_
          refine lv_bipush (v := nI 9) hx hb dL_law_262 (by decide) ?_
          by_cases c264 : kv < 9
          · skip
            refine bIF_ge (tgt := 284) hx hb dL_law_264 (by decide) (fun h => absurd ((nI_leI (by omega) (by omega)).mp h) (by omega)) ?_
            refine lv_aload_n hx hb dL_law_267 rfl (lv_at hl 7 rfl) ?_
            refine lv_iconst (v := nI 3) hx hb dL_law_268 (by decide) ?_
            refine lv_iload hx hb dL_law_269 (lv_at hl 2 rfl) ?_
            refine lv_iconst (v := nI 2) hx hb dL_law_271 (by decide) ?_
            refine lv_iload hx hb dL_law_272 (lv_at hl 1 rfl) ?_
            refine gImul (a := 2) (b := bv) hx hb dL_law_274 ?_
            refine lv_iload hx hb dL_law_275 (lv_at hl 2 rfl) ?_
            refine lv_iconst (v := nI 0) hx hb dL_law_277 (by decide) ?_
            obtain ⟨S2, r2, hDo, hAc⟩ := ak_buyPlot l G lq (hs acts, SLn SL0 hs acts, K, bu, 0) av bv hS9 hav hbv hl9
            refine lqSW (own := RL) (index := 150) (bytes := cL_call) (n := 6) (As := [.int (nI 3), .int (nI av), .int (nI (2 * bv)), .int (nI av), .int (nI 0)]) (rest := []) (c2 := (3406 + 4 * k + 4)) (s2 := (435418 + 528 * k + 528)) F hZ (call_3 l G lq (hs acts, SLn SL0 hs acts, K, bu, 0) S2 (nI av) (nI (2 * bv)) (nI av) (nI 0) r2 hDo) hC gL_law_L_call rfl rfl rfl rfl (by decide +kernel) rfl ⟨Nat.le_of_ble_eq_true rfl, Nat.le_of_ble_eq_true rfl⟩ hP hD hS rfl hl.1 (Nat.le_of_ble_eq_true rfl) dL_law_278 ⟨by omega, by omega⟩ ⟨by show _ ≤ 600104; omega, by show _ ≤ 7301314; omega⟩ (fun u278 H locs hC hP hD hS => ?_)
            refine lv_goto (tgt := 383) hx hb dL_law_281 (by decide) ?_
            exact J383 S2 r2 hAc u278 H locs ls hC hP hD hS hl
          · skip
            refine bIT_ge (tgt := 284) hx hb dL_law_264 (by decide) ((nI_leI (by omega) (by omega)).mpr (by omega)) ?_
            refine lv_iload hx hb dL_law_284 (lv_at hl 4 rfl) ?_
            refine lv_bipush (v := nI 12) hx hb dL_law_286 (by decide) ?_
            by_cases c288 : kv < 12
            · skip
              refine bIF_ge (tgt := 311) hx hb dL_law_288 (by decide) (fun h => absurd ((nI_leI (by omega) (by omega)).mp h) (by omega)) ?_
              refine lv_aload_n hx hb dL_law_291 rfl (lv_at hl 7 rfl) ?_
              refine lv_iconst (v := nI 4) hx hb dL_law_292 (by decide) ?_
              refine lv_iload hx hb dL_law_293 (lv_at hl 2 rfl) ?_
              refine lv_iconst (v := nI 2) hx hb dL_law_295 (by decide) ?_
              refine lv_iload hx hb dL_law_296 (lv_at hl 1 rfl) ?_
              refine gImul (a := 2) (b := bv) hx hb dL_law_298 ?_
              refine lv_iconst (v := nI 2) hx hb dL_law_299 (by decide) ?_
              refine lv_iload hx hb dL_law_300 (lv_at hl 2 rfl) ?_
              refine gImul (a := 2) (b := av) hx hb dL_law_302 ?_
              refine lv_iload hx hb dL_law_303 (lv_at hl 0 rfl) ?_
              obtain ⟨S2, r2, hDo, hAc⟩ := ak_buySquare l G lq (hs acts, SLn SL0 hs acts, K, bu, 0) av bv zv hS9 hav hbv hzv hl9
              refine lqSW (own := RL) (index := 150) (bytes := cL_call) (n := 6) (As := [.int (nI 4), .int (nI av), .int (nI (2 * bv)), .int (nI (2 * av)), .int (nI zv)]) (rest := []) (c2 := (3406 + 4 * k + 4)) (s2 := (435418 + 528 * k + 528)) F hZ (call_4 l G lq (hs acts, SLn SL0 hs acts, K, bu, 0) S2 (nI av) (nI (2 * bv)) (nI (2 * av)) (nI zv) r2 hDo) hC gL_law_L_call rfl rfl rfl rfl (by decide +kernel) rfl ⟨Nat.le_of_ble_eq_true rfl, Nat.le_of_ble_eq_true rfl⟩ hP hD hS rfl hl.1 (Nat.le_of_ble_eq_true rfl) dL_law_305 ⟨by omega, by omega⟩ ⟨by show _ ≤ 600104; omega, by show _ ≤ 7301314; omega⟩ (fun u305 H locs hC hP hD hS => ?_)
              refine lv_goto (tgt := 383) hx hb dL_law_308 (by decide) ?_
              exact J383 S2 r2 hAc u305 H locs ls hC hP hD hS hl
            · skip
              refine bIT_ge (tgt := 311) hx hb dL_law_288 (by decide) ((nI_leI (by omega) (by omega)).mpr (by omega)) ?_
              refine lv_iload hx hb dL_law_311 (lv_at hl 4 rfl) ?_
              refine lv_bipush (v := nI 12) hx hb dL_law_313 (by decide) ?_
              by_cases c315 : kv = 12
              · skip
                refine bIF_ne (tgt := 325) hx hb dL_law_315 (by decide) (by rw [c315]) ?_
                refine lv_aload_n hx hb dL_law_318 rfl (lv_at hl 7 rfl) ?_
                obtain ⟨S2, n2, hQ, hAc⟩ := ak_collectTaxes l G lq (hs acts, SLn SL0 hs acts, K, bu, 0) hS9
                refine lqV (own := RL) (index := 63) (bytes := cX3_collectTaxes) (n := 0) (As := []) (rest := []) (c2 := (3406 + 4 * k + 4)) (s2 := (435418 + 528 * k + 528)) F (hQ) hC gL_law_X3_collectTaxes rfl rfl rfl rfl (by decide +kernel) rfl ⟨Nat.le_of_ble_eq_true rfl, Nat.le_of_ble_eq_true rfl⟩ hP hD hS rfl hl.1 (Nat.le_of_ble_eq_true rfl) dL_law_319 ⟨by omega, by omega⟩ ⟨by show _ ≤ 600104; omega, by show _ ≤ 7301314; omega⟩ (fun u319 H locs hC hP hD hS => ?_)
                refine lv_goto (tgt := 383) hx hb dL_law_322 (by decide) ?_
                exact J383 S2 _ hAc u319 H locs ls hC hP hD hS hl
              · skip
                refine bIT_ne (tgt := 325) hx hb dL_law_315 (by decide) (fun h => c315 (nI_injN (by omega) (by omega) h)) ?_
                refine lv_iload hx hb dL_law_325 (lv_at hl 4 rfl) ?_
                refine lv_bipush (v := nI 13) hx hb dL_law_327 (by decide) ?_
                by_cases c329 : kv = 13
                · skip
                  refine bIF_ne (tgt := 345) hx hb dL_law_329 (by decide) (by rw [c329]) ?_
                  refine lv_aload_n hx hb dL_law_332 rfl (lv_at hl 7 rfl) ?_
                  refine lv_iconst (v := nI 5) hx hb dL_law_333 (by decide) ?_
                  refine lv_iload hx hb dL_law_334 (lv_at hl 2 rfl) ?_
                  refine lv_iconst (v := nI 0) hx hb dL_law_336 (by decide) ?_
                  refine lv_iconst (v := nI 0) hx hb dL_law_337 (by decide) ?_
                  refine lv_iconst (v := nI 0) hx hb dL_law_338 (by decide) ?_
                  obtain ⟨S2, r2, hDo, hAc⟩ := ak_setPrice l G lq (hs acts, SLn SL0 hs acts, K, bu, 0) av hS9 hav hl9
                  refine lqSW (own := RL) (index := 150) (bytes := cL_call) (n := 6) (As := [.int (nI 5), .int (nI av), .int (nI 0), .int (nI 0), .int (nI 0)]) (rest := []) (c2 := (3406 + 4 * k + 4)) (s2 := (435418 + 528 * k + 528)) F hZ (call_5 l G lq (hs acts, SLn SL0 hs acts, K, bu, 0) S2 (nI av) (nI 0) (nI 0) (nI 0) r2 hDo) hC gL_law_L_call rfl rfl rfl rfl (by decide +kernel) rfl ⟨Nat.le_of_ble_eq_true rfl, Nat.le_of_ble_eq_true rfl⟩ hP hD hS rfl hl.1 (Nat.le_of_ble_eq_true rfl) dL_law_339 ⟨by omega, by omega⟩ ⟨by show _ ≤ 600104; omega, by show _ ≤ 7301314; omega⟩ (fun u339 H locs hC hP hD hS => ?_)
                  refine lv_goto (tgt := 383) hx hb dL_law_342 (by decide) ?_
                  exact J383 S2 r2 hAc u339 H locs ls hC hP hD hS hl
                · skip
                  refine bIT_ne (tgt := 345) hx hb dL_law_329 (by decide) (fun h => c329 (nI_injN (by omega) (by omega) h)) ?_
                  refine lv_iload hx hb dL_law_345 (lv_at hl 4 rfl) ?_
                  refine lv_bipush (v := nI 14) hx hb dL_law_347 (by decide) ?_
                  by_cases c349 : kv = 14
                  · skip
                    refine bIF_ne (tgt := 366) hx hb dL_law_349 (by decide) (by rw [c349]) ?_
                    refine lv_aload_n hx hb dL_law_352 rfl (lv_at hl 7 rfl) ?_
                    refine lv_bipush (v := nI 6) hx hb dL_law_353 (by decide) ?_
                    refine lv_iload hx hb dL_law_355 (lv_at hl 1 rfl) ?_
                    refine lv_iconst (v := nI 0) hx hb dL_law_357 (by decide) ?_
                    refine lv_iconst (v := nI 0) hx hb dL_law_358 (by decide) ?_
                    refine lv_iconst (v := nI 0) hx hb dL_law_359 (by decide) ?_
                    obtain ⟨S2, r2, hDo, hAc⟩ := ak_setTax l G lq (hs acts, SLn SL0 hs acts, K, bu, 0) bv hS9 hbv hl9
                    refine lqSW (own := RL) (index := 150) (bytes := cL_call) (n := 6) (As := [.int (nI 6), .int (nI bv), .int (nI 0), .int (nI 0), .int (nI 0)]) (rest := []) (c2 := (3406 + 4 * k + 4)) (s2 := (435418 + 528 * k + 528)) F hZ (call_6 l G lq (hs acts, SLn SL0 hs acts, K, bu, 0) S2 (nI bv) (nI 0) (nI 0) (nI 0) r2 hDo) hC gL_law_L_call rfl rfl rfl rfl (by decide +kernel) rfl ⟨Nat.le_of_ble_eq_true rfl, Nat.le_of_ble_eq_true rfl⟩ hP hD hS rfl hl.1 (Nat.le_of_ble_eq_true rfl) dL_law_360 ⟨by omega, by omega⟩ ⟨by show _ ≤ 600104; omega, by show _ ≤ 7301314; omega⟩ (fun u360 H locs hC hP hD hS => ?_)
                    refine lv_goto (tgt := 383) hx hb dL_law_363 (by decide) ?_
                    exact J383 S2 r2 hAc u360 H locs ls hC hP hD hS hl
                  · skip
                    refine bIT_ne (tgt := 366) hx hb dL_law_349 (by decide) (fun h => c349 (nI_injN (by omega) (by omega) h)) ?_
                    refine lv_aload_n hx hb dL_law_366 rfl (lv_at hl 7 rfl) ?_
                    refine lv_bipush (v := nI 11) hx hb dL_law_367 (by decide) ?_
                    refine lv_iload hx hb dL_law_369 (lv_at hl 5 rfl) ?_
                    refine lv_iconst (v := nI 5) hx hb dL_law_371 (by decide) ?_
                    refine lv_ishr hx hb dL_law_372 ?_
                    refine lv_iconst (v := nI 2) hx hb dL_law_373 (by decide) ?_
                    refine lqN (own := RL) (index := 282) (bytes := cL_part) (n := 2) (As := [.int (x >>> ((nI 5) &&& 31)), .int (nI 2)]) (rest := [.int (nI 11), .ref lq]) (c2 := (3406 + 4 * k)) (s2 := (435418 + 528 * k)) F hZ (c_part l G (x >>> ((nI 5) &&& 31)) 2 (by decide)) gL_law_L_part rfl rfl rfl rfl (by decide +kernel) rfl ⟨Nat.le_of_ble_eq_true rfl, Nat.le_of_ble_eq_true rfl⟩ hP hD hS rfl hl.1 (Nat.le_of_ble_eq_true rfl) dL_law_374 ⟨Nat.le_refl _, Nat.le_refl _⟩ ⟨by show _ ≤ 600104; omega, by show _ ≤ 7301314; omega⟩ (fun r374 H locs hp374 hP hD hS => ?_)
                    obtain ⟨gv, hgv, rfl⟩ : ∃ q, q < 2 ∧ r374 = nI q := ⟨_, Nat.mod_lt _ (by decide), hp374⟩
                    refine lv_iconst (v := nI 0) hx hb dL_law_377 (by decide) ?_
                    refine lv_iconst (v := nI 0) hx hb dL_law_378 (by decide) ?_
                    refine lv_iconst (v := nI 0) hx hb dL_law_379 (by decide) ?_
                    obtain ⟨S2, r2, hDo, hAc⟩ := ak_goBack l G lq (hs acts, SLn SL0 hs acts, K, bu, 0) gv hS9 hgv hl9
                    refine lqSW (own := RL) (index := 150) (bytes := cL_call) (n := 6) (As := [.int (nI 11), .int (nI gv), .int (nI 0), .int (nI 0), .int (nI 0)]) (rest := []) (c2 := (3406 + 4 * k + 4)) (s2 := (435418 + 528 * k + 528)) F hZ (call_11 l G lq (hs acts, SLn SL0 hs acts, K, bu, 0) S2 (nI gv) (nI 0) (nI 0) (nI 0) r2 hDo) hC gL_law_L_call rfl rfl rfl rfl (by decide +kernel) rfl ⟨Nat.le_of_ble_eq_true rfl, Nat.le_of_ble_eq_true rfl⟩ hP hD hS rfl hl.1 (Nat.le_of_ble_eq_true rfl) dL_law_380 ⟨by omega, by omega⟩ ⟨by show _ ≤ 600104; omega, by show _ ≤ 7301314; omega⟩ (fun u380 H locs hC hP hD hS => ?_)
                    exact J383 S2 r2 hAc u380 H locs ls hC hP hD hS hl
