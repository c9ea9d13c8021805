/-! OWN: law, from its end to its loop -/
def lwF (p : Program) (l : Launch) (s : State) (m : MethodId) (args : Array Value) (meth : Method) (c : Code) (G : gG) (A : Nat → Prop) (b L : Nat) (xs : Nat → Int32) : Prop :=
  gAt p s m args meth c ⟨RL, meth.name, ""⟩ wsL_law cL_law 15 ret G A ∧ gX A s s.heap ∧ va_X b L xs s s.heap ∧ b < s.heap.size ∧ ¬ A b ∧ L ≤ 260 ∧ l.stackTraces = false
/-- a number out of the script: none is told -/
theorem c_drawn (l : Launch) (b L k : Nat) (xs : Nat → Int32) (hL : L ≤ 260) (hk : k < 24) : ∀ sz : Nat, Met l yL_drawn wsL_drawn { frames := 0, cells := 0, slots := 0, locals := 0 } (va_Pc [.ref b, .int (nI k)] (fun U => U.heap.size = sz ∧ b < sz ∧ va_X b L xs U U.heap)) (va_Qi (fun (_ : Int32) (_ : Unit) => True) (fun _ _ => True) (fun q => sz ≤ q)) 0 0 (fun q => sz ≤ q) := by
  intro sz
  refine Met.ofW (cc := cL_drawn) (maxL := 2) (ret := some .int) (by decide) rfl ?_
  intro p e s m args below meth c s₁ B hml hv
  obtain ⟨rfl, rfl, hbl, hX⟩ := hv
  rw [lg_entry_eq]
  have hx := B.exec
  have hb : c.code = cL_drawn := B.bytes
  have hts := atoms_spec (ws := wsL_drawn) B.pre
  have hown : s.vm.findClass RL = some m.cls := findClass_of_methodNamed B.named
  have hbA : ¬ (fun q : Nat => s.heap.size ≤ q) b := Nat.not_le.mpr hbl
  have hS : va_S (fun q : Nat => s.heap.size ≤ q) s.heap s.heap [] := va_S.rf
  have hl := lv_entry ([.ref b, .int (nI k)]) (n := 2) (Nat.le_of_ble_eq_true rfl)
  generalize (lg_sl ([.ref b, .int (nI k)]) ++ List.replicate (2 - (lg_sl ([.ref b, .int (nI k)])).length) Slot.unset).toArray = ls at hl ⊢
  have hl : lv_has ls 2 [(0, .ref b), (1, .int (nI k))] := hl
  have fin : ∀ v : Int32, W p l e { frames := 0, cells := 0, slots := 0, locals := 0 } s m #[.ref b, .int (nI k)] below meth c s.heap [] 0 0 (MQ below (va_Qi (fun (_ : Int32) (_ : Unit) => True) (fun _ _ => True) (fun q => s.heap.size ≤ q)) #[.ref b, .int (nI k)] s 0 0 (fun q => s.heap.size ≤ q)) (F0 m 39 ls [.int v]) := fun v =>
    W.zret hx hb B.returns rfl (fun t ht hW => ⟨⟨v, (), rfl, trivial, trivial⟩, hS.F ht⟩) hS.2.2 dL_drawn_39 B.notSynchronized
  refine lv_aload_n hx hb dL_drawn_0 rfl (lv_at hl 0 rfl) ?_
  refine va_slen hx hb hX hbl hbA hS dL_drawn_1 ?_
  refine lv_if_ne (tgt := 15) hx hb dL_drawn_2 (by decide) (fun h9 => ?_) (fun h9 => ?_)
  · have hL0 : L ≠ 0 := fun h => by subst h; exact h9 rfl
    refine lv_aload_n hx hb dL_drawn_15 rfl (lv_at hl 0 rfl) ?_
    refine lv_iload_n hx hb dL_drawn_16 rfl (lv_at hl 1 rfl) ?_
    refine lv_aload_n hx hb dL_drawn_17 rfl (lv_at hl 0 rfl) ?_
    refine va_slen hx hb hX hbl hbA hS dL_drawn_18 ?_
    refine W.eq (g2 := F0 m 19 ls [.int (nI L), .int (nI k), .ref b]) rfl ?_
    refine gIrem (a := k) (b := L) hx hb dL_drawn_19 (by omega) (by omega) (by omega) ?_
    refine va_sld hx hb hX hbl hbA hS (vp_in_nI (Nat.mod_lt _ (by omega)) (by omega)) dL_drawn_20 ?_
    refine lv_iload_n hx hb dL_drawn_21 rfl (lv_at hl 1 rfl) ?_
    refine lv_bipush (v := nI 7) hx hb dL_drawn_22 (by decide) ?_
    refine lv_irem hx hb dL_drawn_24 (by decide) ?_
    refine lv_ishr hx hb dL_drawn_25 ?_
    refine lv_iload_n hx hb dL_drawn_26 rfl (lv_at hl 1 rfl) ?_
    refine lv_aload_n hx hb dL_drawn_27 rfl (lv_at hl 0 rfl) ?_
    refine va_slen hx hb hX hbl hbA hS dL_drawn_28 ?_
    refine lv_idiv hx hb dL_drawn_29 h9 ?_
    refine lv_bipush (v := nI 31) hx hb dL_drawn_30 (by decide) ?_
    refine lv_imul hx hb dL_drawn_32 ?_
    refine lv_ixor hx hb dL_drawn_33 ?_
    refine lv_iload_n hx hb dL_drawn_34 rfl (lv_at hl 1 rfl) ?_
    refine lv_ldc (own := RL) (v := 2654435) hx hb hown (hts (.constant RL 8 (2654435)) (by decide +kernel)) dL_drawn_35 ?_
    refine lv_imul hx hb dL_drawn_37 ?_
    refine lv_ixor hx hb dL_drawn_38 ?_
    exact fin _
  · refine lv_sipush (v := nI 7919) hx hb dL_drawn_5 (by decide) ?_
    refine lv_iload_n hx hb dL_drawn_8 rfl (lv_at hl 1 rfl) ?_
    refine lv_imul hx hb dL_drawn_9 ?_
    refine lv_iconst (v := nI 3) hx hb dL_drawn_10 (by decide) ?_
    refine lv_iadd hx hb dL_drawn_11 ?_
    refine lv_goto (tgt := 39) hx hb dL_drawn_12 (by decide) ?_
    exact fin _
/-- law calls drawn -/
theorem law_drawn {p : Program} {l : Launch} {e : Env} {s : State} {m : MethodId} {args : Array Value} {below : List Frame} {meth : Method} {c : Code} {H : Heap} {locs : List Loc} {cells slots : Nat} {Q : State → Prop} {G : gG} {A : Nat → Prop} {b L k : Nat} {xs : Nat → Int32} {ls : Array Slot} {ws : va_W} (FF : lwF p l s m args meth c G A b L xs) (hk : k < 24) (hP : va_P G.1 vwCl ws H) (hS : va_S A s.heap H locs) (hls : ls.size = 15) (hf : cells + 0 ≤ 600104 ∧ slots + 0 ≤ 7301314)
    (kk : ∀ (r : Int32) (H1 : Heap) (locs1 : List Loc), va_P G.1 vwCl ws H1 → va_S A s.heap H1 locs1 → W p l e room_1 s m args below meth c H1 locs1 cells slots Q (F0 m 120 ls [.int r])) : W p l e room_1 s m args below meth c H locs cells slots Q (F0 m 117 ls [.int (nI k), .ref b]) := by
  obtain ⟨F, hZ, hX, hbl, hbA, hL, hl9⟩ := FF
  have hp : PreS s H (va_Pc [.ref b, .int (nI k)] (fun U => U.heap.size = H.size ∧ b < H.size ∧ va_X b L xs U U.heap)) [.ref b, .int (nI k)] := by
    refine ⟨fun a U g mk h => ⟨h.1, h.2.1, h.2.2.1, h.2.2.2⟩, fun U hU hW => ⟨rfl, by rw [hU], Nat.lt_of_lt_of_le hbl hS.1, ?_⟩⟩
    rw [hU]; exact (hX.kept (hS.2.1 b hbl hbA)).moved hW.alike
  refine va_calli (va_runS (As := [.ref b, .int (nI k)]) (rest := []) ⟨F.1, F.2.1, F.2.2.1, F.2.2.2.2.2.1, F.2.2.2.2.2.2.1⟩ (c_drawn l b L k xs hL hk H.size) (va_cwS (own := RL) (index := 278) (bytes := cL_drawn) (maxL := 2) (ret := some .int) 2 F.2.2.2.2.2.2.1 gL_law_L_drawn rfl rfl rfl (by decide +kernel) ⟨Nat.le_of_ble_eq_true rfl, Nat.le_of_ble_eq_true rfl⟩) hp rfl rfl hls rfl (lv_room (Nat.le_of_ble_eq_true rfl)) dL_law_117 hf) hS (fun q h1 h2 => absurd h1 (Nat.not_lt.mpr h2)) (fun q hq => F.2.2.2.2.2.2.2.2.2 q (Nat.le_trans hS.1 hq)) (fun r u t H1 locs1 ht hvm hp hB hz1 hk1 hS1 => ?_)
  exact kk r H1 locs1 (fun k q hq => (hP k q hq).kept (hk1 q.1 (hP k q hq).lt (Nat.not_le.mpr (hP k q hq).lt))) hS1
set_option maxHeartbeats 8000000 in
set_option maxRecDepth 100000 in
theorem law_end {p : Program} {l : Launch} {e : Env} {s : State} {m : MethodId} {below : List Frame} {meth : Method} {c : Code} {G : gG} {b L lq wl : Nat} {xs : Nat → Int32} {H : Heap} {locs : List Loc} {ls : Array Slot} {u : va_W} {f : Nat → Int64} {cur : LdS} {K : Nat → Option LdS} {bu : Nat → Nat} (FF : lwF p l s m #[Value.ref b] meth c G (fun q : Nat => s.heap.size ≤ q) b L xs) (hr : meth.sig.returnType = ret) (hlocks : meth.locks = false) (hK : K 1 = some LN22) (hS9 : spS (cur, [], K, bu, 0)) (hC : clS G lq u (cur, [], K, bu, 0)) (hP : va_P G.1 vwCl (u ++ [wasC G wl f]) H) (hD : va_D (fun q : Nat => s.heap.size ≤ q) (u ++ [wasC G wl f])) (hS : va_S (fun q : Nat => s.heap.size ≤ q) s.heap H locs) (hl : lv_has ls 15 [(0, .ref b), (1, .ref lq), (4, .long (sn LN22))]) : W p l e room_1 s m #[Value.ref b] below meth c H locs (4502) (568090) (lw_Z below #[Value.ref b] s) (F0 m 555 ls []) := by
  obtain ⟨F, hZ, hX, hbl, hbA, hL, hl9⟩ := id FF
  have hx := F.1
  have hb := F.2.1
  have hts := F.2.2.2.2.2.2.1
  have hown : s.vm.findClass RL = some m.cls := F.2.2.2.2.2.1
  have hKK := F.2.2.2.2.2.2.2.2.1
  refine lv_aload_n hx hb dL_law_555 rfl (lv_at hl 1 rfl) ?_
  refine lv_bipush (v := nI 9) hx hb dL_law_556 (by decide) ?_
  refine lv_iconst (v := nI 0) hx hb dL_law_558 (by decide) ?_
  refine lv_iconst (v := nI 0) hx hb dL_law_559 (by decide) ?_
  refine lv_iconst (v := nI 0) hx hb dL_law_560 (by decide) ?_
  refine lv_iconst (v := nI 0) hx hb dL_law_561 (by decide) ?_
  refine lqSW (own := RL) (index := 150) (bytes := cL_call) (n := 6) (As := [.int (nI 9), .int (nI 0), .int (nI 0), .int (nI 0), .int (nI 0)]) (rest := []) (c2 := (4502 + 4)) (s2 := (568090 + 528)) F hZ (call_9 l G lq (cur, [], K, bu, 0) (cur, [], K, bu, 0) (nI 0) (nI 0) (nI 0) (nI 0) (-2013) (DoV.x (KX_undo l G lq (cur, [], K, bu, 0) hS9 rfl hl9) ⟨rfl, rfl, by decide, by decide, by decide, by decide⟩ exS)) hC gL_law_L_call rfl rfl rfl rfl (by decide +kernel) rfl ⟨Nat.le_of_ble_eq_true rfl, Nat.le_of_ble_eq_true rfl⟩ hP hD hS rfl hl.1 (Nat.le_of_ble_eq_true rfl) dL_law_562 ⟨by omega, by omega⟩ ⟨by show _ ≤ 600104; omega, by show _ ≤ 7301314; omega⟩ (fun u562 H locs hC hP hD hS => ?_)
  refine lv_sipush (v := zI (-2013)) hx hb dL_law_565 (by decide) ?_
  refine bIF_ne (tgt := 603) hx hb dL_law_568 (by decide) (by decide) ?_
  refine lv_aload_n hx hb dL_law_571 rfl (lv_at hl 1 rfl) ?_
  refine lv_iconst (v := nI 1) hx hb dL_law_572 (by decide) ?_
  refine lqV (own := RL) (index := 48) (bytes := cX3_goBack) (n := 1) (As := [.int (nI 1)]) (rest := []) (c2 := (4502 + 4 + 4)) (s2 := (568090 + 528 + 528)) F ((K_goBack l G lq (cur, [], K, bu, 0) 1 LN22 hS9 (by decide) hK).r (congrArg nI pl_tT18.1)) hC gL_law_X3_goBack rfl rfl rfl rfl (by decide +kernel) rfl ⟨Nat.le_of_ble_eq_true rfl, Nat.le_of_ble_eq_true rfl⟩ hP hD hS rfl hl.1 (Nat.le_of_ble_eq_true rfl) dL_law_573 ⟨by omega, by omega⟩ ⟨by show _ ≤ 600104; omega, by show _ ≤ 7301314; omega⟩ (fun u573 H locs hC hP hD hS => ?_)
  have hC : clS G lq u573 (LN22, [cur], K, bu, 0) := hC
  have hS9 : spS (LN22, [cur], K, bu, 0) := spS_push hS9 ok22
  refine lv_bipush (v := nI 10) hx hb dL_law_576 (by decide) ?_
  refine bIF_ne (tgt := 603) hx hb dL_law_578 (by decide) (by decide) ?_
  refine lv_aload_n hx hb dL_law_581 rfl (lv_at hl 1 rfl) ?_
  refine lqL (own := RL) (index := 170) (bytes := cL_seen) (n := 1) (As := []) (rest := []) (c2 := (4502 + 4 + 4)) (s2 := (568090 + 528 + 528)) F hZ (c_seen l G lq (LN22, [cur], K, bu, 0) hS9) hC gL_law_L_seen rfl rfl rfl rfl (by decide +kernel) rfl ⟨Nat.le_of_ble_eq_true rfl, Nat.le_of_ble_eq_true rfl⟩ hP hD hS rfl hl.1 (Nat.le_of_ble_eq_true rfl) dL_law_582 ⟨Nat.le_refl _, Nat.le_refl _⟩ ⟨by show _ ≤ 600104; omega, by show _ ≤ 7301314; omega⟩ (fun u582 H locs hC hP hD hS => ?_)
  refine lv_lload hx hb dL_law_585 (lv_at hl 2 rfl) ?_
  refine W.lcmp hx hb dL_law_587 ?_
  refine W.eq (g2 := F0 m 588 ls [.int (nI 0)]) (congrArg (fun v_ => F0 m 588 ls [v_]) (show (.int (lg_cmp (sn LN22) (sn LN22)) : Value) = .int (nI 0) from congrArg Value.int (lcmp_self _))) ?_
  refine bZF_ne (tgt := 603) hx hb dL_law_588 (by decide) (by decide) ?_
  refine lv_aload_n hx hb dL_law_591 rfl (lv_at hl 1 rfl) ?_
  refine lqV (own := RL) (index := 174) (bytes := cX3_savedStates) (n := 0) (As := []) (rest := []) (c2 := (4502 + 4 + 4)) (s2 := (568090 + 528 + 528)) F ((K_savedStates l G lq (LN22, [cur], K, bu, 0) hS9).r (congrArg nI (show [cur].length = 1 from rfl))) hC gL_law_X3_savedStates rfl rfl rfl rfl (by decide +kernel) rfl ⟨Nat.le_of_ble_eq_true rfl, Nat.le_of_ble_eq_true rfl⟩ hP hD hS rfl hl.1 (Nat.le_of_ble_eq_true rfl) dL_law_592 ⟨Nat.le_refl _, Nat.le_refl _⟩ ⟨by show _ ≤ 600104; omega, by show _ ≤ 7301314; omega⟩ (fun u592 H locs hC hP hD hS => ?_)
  refine lv_iconst (v := nI 1) hx hb dL_law_595 (by decide) ?_
  refine bIF_ne (tgt := 603) hx hb dL_law_596 (by decide) (by decide) ?_
  refine lv_iconst (v := nI 1) hx hb dL_law_599 (by decide) ?_
  refine lv_goto (tgt := 604) hx hb dL_law_600 (by decide) ?_
  refine W.eq (g2 := F0 m 604 ls [.int 1]) rfl ?_
  refine va_forget (fun q hq => hS.2.2 q hq) ?_
  refine W.widen (k := 600104) (n := 7301314) (by omega) (by omega) ?_
  exact lw_ret (d0 := s.drawn) (Drawn.sameBut.refl s.drawn lw_cs) hx hb hr hlocks dL_law_604

set_option maxHeartbeats 8000000 in
set_option maxRecDepth 100000 in
theorem law_und2 {p : Program} {l : Launch} {e : Env} {s : State} {m : MethodId} {below : List Frame} {meth : Method} {c : Code} {G : gG} {b L lq wl : Nat} {xs : Nat → Int32} {K : Nat → Option LdS} {bu : Nat → Nat} (FF : lwF p l s m #[Value.ref b] meth c G (fun q : Nat => s.heap.size ≤ q) b L xs) (hr : meth.sig.returnType = ret) (hlocks : meth.locks = false) (hK : K 1 = some LN22) : ∀ (n k : Nat), k + n = 6 → ∀ (cur : LdS) (SL : List LdS) (H : Heap) (locs : List Loc) (ls : Array Slot) (u : va_W) (f : Nat → Int64), SL.length + k ≤ 6 → spS (cur, SL, K, bu, 0) → clS G lq u (cur, SL, K, bu, 0) → va_P G.1 vwCl (u ++ [wasC G wl f]) H → va_D (fun q : Nat => s.heap.size ≤ q) (u ++ [wasC G wl f]) → va_S (fun q : Nat => s.heap.size ≤ q) s.heap H locs → lv_has ls 15 [(0, .ref b), (1, .ref lq), (4, .long (sn LN22)), (6, .int (nI k))] → W p l e room_1 s m #[Value.ref b] below meth c H locs (4502) (568090) (lw_Z below #[Value.ref b] s) (F0 m 526 ls []) := by
  obtain ⟨F, hZ, hX, hbl, hbA, hL, hl9⟩ := id FF
  have hx := F.1
  have hb := F.2.1
  have hts := F.2.2.2.2.2.2.1
  have hown : s.vm.findClass RL = some m.cls := F.2.2.2.2.2.1
  have hKK := F.2.2.2.2.2.2.2.2.1
  intro n
  induction n with
  | zero =>
    intro k hk cur SL H locs ls u f h6 hS9 hC hP hD hS hl
    obtain rfl : k = 6 := by omega
    obtain rfl : SL = [] := List.eq_nil_of_length_eq_zero (by omega)
    refine lv_iload hx hb dL_law_526 (lv_at hl 3 rfl) ?_
    refine lv_bipush (v := nI 6) hx hb dL_law_528 (by decide) ?_
    refine bIT_ge (tgt := 555) hx hb dL_law_530 (by decide) (by decide) ?_
    exact law_end FF hr hlocks hK hS9 hC hP hD hS (lv_sub hl [0, 1, 2] rfl)
  | succ n ih =>
    intro k hk cur SL H locs ls u f h6 hS9 hC hP hD hS hl
    refine lv_iload hx hb dL_law_526 (lv_at hl 3 rfl) ?_
    refine lv_bipush (v := nI 6) hx hb dL_law_528 (by decide) ?_
    refine bIF_ge (tgt := 555) hx hb dL_law_530 (by decide) (fun h => absurd ((nI_leI (by omega) (by omega)).mp h) (by omega)) ?_
    refine lv_aload_n hx hb dL_law_533 rfl (lv_at hl 1 rfl) ?_
    refine lqV (own := RL) (index := 174) (bytes := cX3_savedStates) (n := 0) (As := []) (rest := []) (c2 := (4502)) (s2 := (568090)) F (K_savedStates l G lq (cur, SL, K, bu, 0) hS9) hC gL_law_X3_savedStates rfl rfl rfl rfl (by decide +kernel) rfl ⟨Nat.le_of_ble_eq_true rfl, Nat.le_of_ble_eq_true rfl⟩ hP hD hS rfl hl.1 (Nat.le_of_ble_eq_true rfl) dL_law_534 ⟨Nat.le_refl _, Nat.le_refl _⟩ ⟨by show _ ≤ 600104; omega, by show _ ≤ 7301314; omega⟩ (fun u534 H locs hC hP hD hS => ?_)
    rcases List.eq_nil_or_concat SL with e9 | ⟨SX, cx, e9⟩
    · subst e9
      refine bZT_le (tgt := 555) hx hb dL_law_537 (by decide) ((by decide : nI 0 ≤ 0)) ?_
      exact law_end FF hr hlocks hK hS9 hC hP hD hS (lv_sub hl [0, 1, 2] rfl)
    · rw [List.concat_eq_append] at e9
      subst e9
      rw [List.length_append] at h6
      have h6 : SX.length + 1 + k ≤ 6 := h6
      refine bZF_le (tgt := 555) hx hb dL_law_537 (by decide) (fun h => by have h8 := (nI_le0 (by rw [List.length_append]; show SX.length + 1 < _; omega)).mp h; rw [List.length_append] at h8; have h7 : SX.length + 1 = 0 := h8; omega) ?_
      refine lv_aload_n hx hb dL_law_540 rfl (lv_at hl 1 rfl) ?_
      refine lqV (own := RL) (index := 42) (bytes := cX3_undo) (n := 0) (As := []) (rest := []) (c2 := (4502)) (s2 := (568090)) F (K_undo l G lq (cur, SX ++ [cx], K, bu, 0) SX cx hS9 rfl) hC gL_law_X3_undo rfl rfl rfl rfl (by decide +kernel) rfl ⟨Nat.le_of_ble_eq_true rfl, Nat.le_of_ble_eq_true rfl⟩ hP hD hS rfl hl.1 (Nat.le_of_ble_eq_true rfl) dL_law_541 ⟨Nat.le_refl _, Nat.le_refl _⟩ ⟨by show _ ≤ 600104; omega, by show _ ≤ 7301314; omega⟩ (fun u541 H locs hC hP hD hS => ?_)
      have hC : clS G lq u541 (cx, SX, K, bu, 0) := hC
      have hS9 : spS (cx, SX, K, bu, 0) := spS_undo (S := (cur, SX ++ [cx], K, bu, 0)) hS9 rfl
      refine bZT_ge (tgt := 549) hx hb dL_law_544 (by decide) (nI_pos' (by omega)) ?_
      refine lv_iinc (v := nI (k + 1)) (lv' := [(6, .int (nI (k + 1))), (0, .ref b), (1, .ref lq), (4, .long (sn LN22))]) hx hb dL_law_549 hl (k := 3) rfl (gInc_p _ rfl) (by decide) rfl (fun ls hl => ?_)
      refine lv_goto (tgt := 526) hx hb dL_law_552 (by decide) ?_
      exact ih (k + 1) (by omega) cx SX H locs ls u541 f (by omega) hS9 hC hP hD hS (lv_sub hl [1, 2, 3, 0] rfl)

set_option maxHeartbeats 8000000 in
set_option maxRecDepth 100000 in
theorem law_und {p : Program} {l : Launch} {e : Env} {s : State} {m : MethodId} {below : List Frame} {meth : Method} {c : Code} {G : gG} {b L lq wl : Nat} {xs : Nat → Int32} {K : Nat → Option LdS} {bu : Nat → Nat} {SL0 : List LdS} {hs : Nat → LdS} {acts : Nat} {f : Nat → Int64} (FF : lwF p l s m #[Value.ref b] meth c G (fun q : Nat => s.heap.size ≤ q) b L xs) (hr : meth.sig.returnType = ret) (hlocks : meth.locks = false) (hK : K 1 = some LN22) (ha : acts ≤ 24) (hf9 : ∀ i, i ≤ acts → f i = sn (hs i)) : ∀ (n j : Nat), j + n = acts → ∀ (SL : List LdS) (d : Nat) (H : Heap) (locs : List Loc) (ls : Array Slot) (u : va_W), SL = (SLn SL0 hs (acts - j)).drop d → SL.length + j ≤ 6 ∨ SL = [] → spS (hs (acts - j), SL, K, bu, 0) → clS G lq u (hs (acts - j), SL, K, bu, 0) → va_P G.1 vwCl (u ++ [wasC G wl f]) H → va_D (fun q : Nat => s.heap.size ≤ q) (u ++ [wasC G wl f]) → va_S (fun q : Nat => s.heap.size ≤ q) s.heap H locs → lv_has ls 15 [(0, .ref b), (1, .ref lq), (2, .ref wl), (3, .int (nI acts)), (4, .long (sn LN22)), (6, .int (nI j))] → W p l e room_1 s m #[Value.ref b] below meth c H locs (4502) (568090) (lw_Z below #[Value.ref b] s) (F0 m 465 ls []) := by
  obtain ⟨F, hZ, hX, hbl, hbA, hL, hl9⟩ := id FF
  have hx := F.1
  have hb := F.2.1
  have hts := F.2.2.2.2.2.2.1
  have hown : s.vm.findClass RL = some m.cls := F.2.2.2.2.2.1
  have hKK := F.2.2.2.2.2.2.2.2.1
  have J523 : ∀ (cur : LdS) (SL : List LdS) (H : Heap) (locs : List Loc) (ls : Array Slot) (u : va_W), SL.length ≤ 6 → spS (cur, SL, K, bu, 0) → clS G lq u (cur, SL, K, bu, 0) → va_P G.1 vwCl (u ++ [wasC G wl f]) H → va_D (fun q : Nat => s.heap.size ≤ q) (u ++ [wasC G wl f]) → va_S (fun q : Nat => s.heap.size ≤ q) s.heap H locs → lv_has ls 15 [(0, .ref b), (1, .ref lq), (4, .long (sn LN22))] → W p l e room_1 s m #[Value.ref b] below meth c H locs (4502) (568090) (lw_Z below #[Value.ref b] s) (F0 m 523 ls []) := by
    intro cur SL H locs ls u h6 hS9 hC hP hD hS hl
    refine lv_iconst (v := nI 0) hx hb dL_law_523 (by decide) ?_
    refine lv_istore (lv' := [(6, .int (nI 0)), (0, .ref b), (1, .ref lq), (4, .long (sn LN22))]) hx hb dL_law_524 hl (by decide) rfl (fun ls hl => ?_)
    exact law_und2 FF hr hlocks hK 6 0 rfl cur SL H locs ls u f (by omega) hS9 hC hP hD hS (lv_sub hl [1, 2, 3, 0] rfl)
  intro n
  induction n with
  | zero =>
    intro j hj SL d H locs ls u hd h6 hS9 hC hP hD hS hl
    refine lv_aload_n hx hb dL_law_465 rfl (lv_at hl 1 rfl) ?_
    refine lqV (own := RL) (index := 174) (bytes := cX3_savedStates) (n := 0) (As := []) (rest := []) (c2 := (4502)) (s2 := (568090)) F (K_savedStates l G lq (hs (acts - j), SL, K, bu, 0) hS9) hC gL_law_X3_savedStates rfl rfl rfl rfl (by decide +kernel) rfl ⟨Nat.le_of_ble_eq_true rfl, Nat.le_of_ble_eq_true rfl⟩ hP hD hS rfl hl.1 (Nat.le_of_ble_eq_true rfl) dL_law_466 ⟨Nat.le_refl _, Nat.le_refl _⟩ ⟨by show _ ≤ 600104; omega, by show _ ≤ 7301314; omega⟩ (fun u466 H locs hC hP hD hS => ?_)
    have h66 : SL.length ≤ 6 := by rcases h6 with h | h; (omega); (rw [h]; exact Nat.zero_le _)
    by_cases e9 : SL.length = 0
    · skip
      refine bZT_le (tgt := 523) hx hb dL_law_469 (by decide) ((nI_le0 (a := SL.length) (by omega)).mpr e9) ?_
      exact J523 _ SL H locs ls u466 h66 hS9 hC hP hD hS (lv_sub hl [0, 1, 4] rfl)
    · skip
      refine bZF_le (tgt := 523) hx hb dL_law_469 (by decide) (fun h => e9 ((nI_le0 (by omega)).mp h)) ?_
      refine lv_iload hx hb dL_law_472 (lv_at hl 5 rfl) ?_
      refine lv_iload_n hx hb dL_law_474 rfl (lv_at hl 3 rfl) ?_
      refine bIT_ge (tgt := 523) hx hb dL_law_475 (by decide) ((nI_leI (by omega) (by omega)).mpr (by omega)) ?_
      exact J523 _ SL H locs ls u466 h66 hS9 hC hP hD hS (lv_sub hl [0, 1, 4] rfl)
  | succ n ih =>
    intro j hj SL d H locs ls u hd h6 hS9 hC hP hD hS hl
    refine lv_aload_n hx hb dL_law_465 rfl (lv_at hl 1 rfl) ?_
    refine lqV (own := RL) (index := 174) (bytes := cX3_savedStates) (n := 0) (As := []) (rest := []) (c2 := (4502)) (s2 := (568090)) F (K_savedStates l G lq (hs (acts - j), SL, K, bu, 0) hS9) hC gL_law_X3_savedStates rfl rfl rfl rfl (by decide +kernel) rfl ⟨Nat.le_of_ble_eq_true rfl, Nat.le_of_ble_eq_true rfl⟩ hP hD hS rfl hl.1 (Nat.le_of_ble_eq_true rfl) dL_law_466 ⟨Nat.le_refl _, Nat.le_refl _⟩ ⟨by show _ ≤ 600104; omega, by show _ ≤ 7301314; omega⟩ (fun u466 H locs hC hP hD hS => ?_)
    have h66 : SL.length ≤ 6 := by rcases h6 with h | h; (omega); (rw [h]; exact Nat.zero_le _)
    by_cases e9 : SL.length = 0
    · skip
      refine bZT_le (tgt := 523) hx hb dL_law_469 (by decide) ((nI_le0 (a := SL.length) (by omega)).mpr e9) ?_
      exact J523 _ SL H locs ls u466 h66 hS9 hC hP hD hS (lv_sub hl [0, 1, 4] rfl)
    · skip
      obtain ⟨q, hq⟩ : ∃ q, acts - j = q + 1 := ⟨acts - j - 1, by omega⟩
      have hne : SL ≠ [] := fun h => e9 (by rw [h]; rfl)
      have h6 : SL.length + j ≤ 6 := h6.resolve_right hne
      rw [hq] at hd
      obtain ⟨d', hd'⟩ := SLn_pop (SL0 := SL0) (hs := hs) (n := q) (d := d) (by rw [← hd]; exact hne)
      rw [← hd] at hd'
      have hlen : SL.length = ((SLn SL0 hs q).drop d').length + 1 := by rw [hd', List.length_append]; rfl
      refine bZF_le (tgt := 523) hx hb dL_law_469 (by decide) (fun h => e9 ((nI_le0 (by omega)).mp h)) ?_
      refine lv_iload hx hb dL_law_472 (lv_at hl 5 rfl) ?_
      refine lv_iload_n hx hb dL_law_474 rfl (lv_at hl 3 rfl) ?_
      refine bIF_ge (tgt := 523) hx hb dL_law_475 (by decide) (fun h => absurd ((nI_leI (by omega) (by omega)).mp h) (by omega)) ?_
      refine lv_aload_n hx hb dL_law_478 rfl (lv_at hl 1 rfl) ?_
      refine lqV (own := RL) (index := 174) (bytes := cX3_savedStates) (n := 0) (As := []) (rest := []) (c2 := (4502)) (s2 := (568090)) F (K_savedStates l G lq (hs (acts - j), SL, K, bu, 0) hS9) hC gL_law_X3_savedStates rfl rfl rfl rfl (by decide +kernel) rfl ⟨Nat.le_of_ble_eq_true rfl, Nat.le_of_ble_eq_true rfl⟩ hP hD hS rfl hl.1 (Nat.le_of_ble_eq_true rfl) dL_law_479 ⟨Nat.le_refl _, Nat.le_refl _⟩ ⟨by show _ ≤ 600104; omega, by show _ ≤ 7301314; omega⟩ (fun u479 H locs hC hP hD hS => ?_)
      refine lv_istore (lv' := [(7, .int (nI SL.length)), (0, .ref b), (1, .ref lq), (2, .ref wl), (3, .int (nI acts)), (4, .long (sn LN22)), (6, .int (nI j))]) hx hb dL_law_482 hl (by decide) rfl (fun ls hl => ?_)
      refine lv_iload hx hb dL_law_484 (lv_at hl 6 rfl) ?_
      refine lv_iconst (v := nI 5) hx hb dL_law_486 (by decide) ?_
      refine bIF_gt (tgt := 515) hx hb dL_law_487 (by decide) (fun h => absurd ((nI_ltI (by omega) (by omega)).mp h) (by omega)) ?_
      refine lv_aload_n hx hb dL_law_490 rfl (lv_at hl 2 rfl) ?_
      refine lqL (own := RL) (index := 170) (bytes := cL_seen) (n := 1) (As := []) (rest := []) (c2 := (4502)) (s2 := (568090)) F hZ (c_seen l G lq (hs (acts - j), SL, K, bu, 0) hS9) hC gL_law_L_seen rfl rfl rfl rfl (by decide +kernel) rfl ⟨Nat.le_of_ble_eq_true rfl, Nat.le_of_ble_eq_true rfl⟩ hP hD hS rfl hl.1 (Nat.le_of_ble_eq_true rfl) dL_law_491 ⟨Nat.le_refl _, Nat.le_refl _⟩ ⟨by show _ ≤ 600104; omega, by show _ ≤ 7301314; omega⟩ (fun u491 H locs hC hP hD hS => ?_)
      refine lv_aload_n hx hb dL_law_494 rfl (lv_at hl 3 rfl) ?_
      refine lv_iload_n hx hb dL_law_495 rfl (lv_at hl 4 rfl) ?_
      refine lv_iload hx hb dL_law_496 (lv_at hl 6 rfl) ?_
      refine gIsub (a := acts) (b := j) hx hb dL_law_498 (by omega) ?_
      refine gWld hx hb hKK.1 hP (by omega) dL_law_499 ?_
      refine W.eq (g2 := F0 m 500 ls [.long (sn (hs (acts - j))), .long (sn (hs (acts - j)))]) (congrArg (fun v_ => F0 m 500 ls [v_, .long (sn (hs (acts - j)))]) (show (.long (f (acts - j)) : Value) = .long (sn (hs (acts - j))) from congrArg Value.long (hf9 (acts - j) (by omega)))) ?_
      refine W.lcmp hx hb dL_law_500 ?_
      refine W.eq (g2 := F0 m 501 ls [.int (nI 0)]) (congrArg (fun v_ => F0 m 501 ls [v_]) (show (.int (lg_cmp (sn (hs (acts - j))) (sn (hs (acts - j)))) : Value) = .int (nI 0) from congrArg Value.int (lcmp_self _))) ?_
      refine bZF_ne (tgt := 515) hx hb dL_law_501 (by decide) (by decide) ?_
      refine lv_aload_n hx hb dL_law_504 rfl (lv_at hl 2 rfl) ?_
      refine lqV (own := RL) (index := 42) (bytes := cX3_undo) (n := 0) (As := []) (rest := []) (c2 := (4502)) (s2 := (568090)) F (K_undo l G lq (hs (acts - j), SL, K, bu, 0) ((SLn SL0 hs q).drop d') (hs q) hS9 hd') hC gL_law_X3_undo rfl rfl rfl rfl (by decide +kernel) rfl ⟨Nat.le_of_ble_eq_true rfl, Nat.le_of_ble_eq_true rfl⟩ hP hD hS rfl hl.1 (Nat.le_of_ble_eq_true rfl) dL_law_505 ⟨Nat.le_refl _, Nat.le_refl _⟩ ⟨by show _ ≤ 600104; omega, by show _ ≤ 7301314; omega⟩ (fun u505 H locs hC hP hD hS => ?_)
      have hC : clS G lq u505 (hs q, ((SLn SL0 hs q).drop d'), K, bu, 0) := hC
      have hS9 : spS (hs q, ((SLn SL0 hs q).drop d'), K, bu, 0) := spS_undo (S := (hs (acts - j), SL, K, bu, 0)) hS9 hd'
      refine lv_iload hx hb dL_law_508 (lv_at hl 0 rfl) ?_
      refine lv_iconst (v := nI 1) hx hb dL_law_510 (by decide) ?_
      refine gIsub (a := SL.length) (b := 1) hx hb dL_law_511 (by omega) ?_
      refine bIT_eq (tgt := 517) hx hb dL_law_512 (by decide) (by rw [hlen]; rfl) ?_
      refine lv_iinc (v := nI (j + 1)) (lv' := [(6, .int (nI (j + 1))), (7, .int (nI SL.length)), (0, .ref b), (1, .ref lq), (2, .ref wl), (3, .int (nI acts)), (4, .long (sn LN22))]) hx hb dL_law_517 hl (k := 6) rfl (gInc_p _ rfl) (by decide) rfl (fun ls hl => ?_)
      refine lv_goto (tgt := 465) hx hb dL_law_520 (by decide) ?_
      have eq9 : acts - (j + 1) = q := by omega
      have hS9 : spS (hs (acts - (j + 1)), ((SLn SL0 hs q).drop d'), K, bu, 0) := by rw [eq9]; exact hS9
      have hC : clS G lq u505 (hs (acts - (j + 1)), ((SLn SL0 hs q).drop d'), K, bu, 0) := by rw [eq9]; exact hC
      exact ih (j + 1) (by omega) ((SLn SL0 hs q).drop d') d' H locs ls u505 (by rw [eq9]) (Or.inl (by omega)) hS9 hC hP hD hS (lv_sub hl [2, 3, 4, 5, 6, 0] rfl)

set_option maxHeartbeats 8000000 in
set_option maxRecDepth 100000 in
theorem law_post {p : Program} {l : Launch} {e : Env} {s : State} {m : MethodId} {below : List Frame} {meth : Method} {c : Code} {G : gG} {b L lq wl : Nat} {xs : Nat → Int32} {H : Heap} {locs : List Loc} {ls : Array Slot} {u : va_W} {f : Nat → Int64} {K : Nat → Option LdS} {bu : Nat → Nat} {SL0 : List LdS} {hs : Nat → LdS} {acts : Nat} (FF : lwF p l s m #[Value.ref b] meth c G (fun q : Nat => s.heap.size ≤ q) b L xs) (hr : meth.sig.returnType = ret) (hlocks : meth.locks = false) (hK : K 1 = some LN22) (ha : acts ≤ 24) (hf9 : ∀ i, i < acts → f i = sn (hs i)) (hS9 : spS (hs acts, SLn SL0 hs acts, K, bu, 0)) (hC : clS G lq u (hs acts, SLn SL0 hs acts, K, bu, 0)) (hP : va_P G.1 vwCl (u ++ [wasC G wl f]) H) (hD : va_D (fun q : Nat => s.heap.size ≤ q) (u ++ [wasC G wl f])) (hS : va_S (fun q : Nat => s.heap.size ≤ q) s.heap H locs) (hl : lv_has ls 15 [(0, .ref b), (1, .ref lq), (2, .ref wl), (3, .int (nI acts)), (4, .long (sn LN22))]) : W p l e room_1 s m #[Value.ref b] below meth c H locs (3502) (448090) (lw_Z below #[Value.ref b] s) (F0 m 446 ls []) := by
  obtain ⟨F, hZ, hX, hbl, hbA, hL, hl9⟩ := id FF
  have hx := F.1
  have hb := F.2.1
  have hts := F.2.2.2.2.2.2.1
  have hown : s.vm.findClass RL = some m.cls := F.2.2.2.2.2.1
  have hKK := F.2.2.2.2.2.2.2.2.1
  refine lv_aload_n hx hb dL_law_446 rfl (lv_at hl 2 rfl) ?_
  refine lv_iload_n hx hb dL_law_447 rfl (lv_at hl 3 rfl) ?_
  refine lv_aload_n hx hb dL_law_448 rfl (lv_at hl 1 rfl) ?_
  refine lqL (own := RL) (index := 170) (bytes := cL_seen) (n := 1) (As := []) (rest := [.int (nI acts), .ref wl]) (c2 := (3502)) (s2 := (448090)) F hZ (c_seen l G lq (hs acts, SLn SL0 hs acts, K, bu, 0) hS9) hC gL_law_L_seen rfl rfl rfl rfl (by decide +kernel) rfl ⟨Nat.le_of_ble_eq_true rfl, Nat.le_of_ble_eq_true rfl⟩ hP hD hS rfl hl.1 (Nat.le_of_ble_eq_true rfl) dL_law_449 ⟨Nat.le_refl _, Nat.le_refl _⟩ ⟨by show _ ≤ 600104; omega, by show _ ≤ 7301314; omega⟩ (fun u449 H locs hC hP hD hS => ?_)
  refine gWst hx hb hKK.1 hP hD hS (by omega) dL_law_452 (fun H locs hP hD hS => ?_)
  refine lv_aload_n hx hb dL_law_453 rfl (lv_at hl 1 rfl) ?_
  refine lqS (own := RL) (index := 196) (bytes := cL_refused) (n := 1) (As := []) (rest := []) (c2 := (3502 + 1000)) (s2 := (448090 + 120000)) F hZ (c_refused l G lq (hs acts, SLn SL0 hs acts, K, bu, 0) hS9 rfl hl9) hC gL_law_L_refused rfl rfl rfl rfl (by decide +kernel) rfl ⟨Nat.le_of_ble_eq_true rfl, Nat.le_of_ble_eq_true rfl⟩ hP hD hS rfl hl.1 (Nat.le_of_ble_eq_true rfl) dL_law_454 ⟨by omega, by omega⟩ ⟨by show _ ≤ 600104; omega, by show _ ≤ 7301314; omega⟩ (fun u454 H locs hC hP hD hS => ?_)
  refine bZT_ne (tgt := 462) hx hb dL_law_457 (by decide) (by decide) ?_
  refine lv_iconst (v := nI 0) hx hb dL_law_462 (by decide) ?_
  refine lv_istore (lv' := [(6, .int (nI 0)), (0, .ref b), (1, .ref lq), (2, .ref wl), (3, .int (nI acts)), (4, .long (sn LN22))]) hx hb dL_law_463 hl (by decide) rfl (fun ls hl => ?_)
  have hf8 : ∀ i, i ≤ acts → (vp_updL f acts (sn (hs acts))) i = sn (hs i) := fun i hi => by
    by_cases e : i = acts
    · rw [e]; exact up_new
    · rw [up_old (by omega)]; exact hf9 i (by omega)
  exact law_und FF hr hlocks hK ha hf8 acts 0 (Nat.zero_add _) (SLn SL0 hs acts) 0 H locs ls u454 (by rw [Nat.sub_zero]; rfl) (Or.inl (by have := hS9.2.2.1; exact this)) (by rw [Nat.sub_zero]; exact hS9) (by rw [Nat.sub_zero]; exact hC) hP hD hS (lv_sub hl [1, 2, 3, 4, 5, 0] rfl)
