/-! OWN: the law's small methods -/
set_option maxHeartbeats 4000000 in
set_option maxRecDepth 100000 in
theorem c_plotX (l : Launch) (G : gG) (lq : Nat) (S : SpT) (rr : Int) (hS9 : spS S) (hrr : -2147483648 ≤ rr ∧ rr < 2147483648) (hn : ¬(0 ≤ rr ∧ rr < ((cnt S.1.1 : Nat) : Int))) (hl9 : l.stackTraces = false) : LW l G lq yL_plot wsL_plot { frames := 8, cells := 1, slots := 6, locals := 141 } [.int (zI rr)] S (zI (-2011)) S 1 6 := by
  intro wv hC
  refine gMw_mk (cc := cL_plot) (nL := 3) (ret := some .int) (hh := [(0, 23, 24, 66)]) (Qc := fun A => va_Qi (S := va_W) (fun r' u => r' = zI (-2011) ∧ clS G lq u S) (gB G A (fun u => u)) A) (by decide) rfl (Nat.le_of_ble_eq_true rfl) ?_
  intro p e s m args below meth c A F htb hZ ls hl hP hD hS
  have hx := F.1
  have hb := F.2.1
  have hts := F.2.2.2.2.2.2.1
  have hown : s.vm.findClass RL = some m.cls := F.2.2.2.2.2.1
  have hKK := F.2.2.2.2.2.2.2.2.1
  have hl : lv_has ls 3 [(0, .ref lq), (1, .int (zI rr))] := hl
  have hP : va_P G.1 vwCl (wv ++ []) s.heap := by rw [List.append_nil]; exact hP
  have hD : va_D A (wv ++ []) := by rw [List.append_nil]; exact hD
  generalize hH : s.heap = H at hP ⊢
  have hS0 : va_S A s.heap H [] := by rw [← hH]; exact va_S.rf
  clear hS
  have hS := hS0
  clear hS0
  generalize hLo : ([] : List Loc) = locs at hS ⊢
  refine lv_aload_n hx hb dL_plot_0 rfl (lv_at hl 0 rfl) ?_
  refine lv_iload_n hx hb dL_plot_1 rfl (lv_at hl 1 rfl) ?_
  obtain ⟨fs, h0⟩ := cl_recv hC
  refine gXrun F (gRunVx (own := RL) (C := RX3) (ci := 3) (bytes := cX3_plotOwner) (n := 1) (As := [.int (zI rr)]) (rest := []) F hZ hS (KX_plotOwner l G lq S rr hS9 hrr hn hl9 wv hC H.size) gL_plot_X3_plotOwner rfl rfl rfl rfl (by decide +kernel) rfl ⟨Nat.le_of_ble_eq_true rfl, Nat.le_of_ble_eq_true rfl⟩ hP hD (lit := wv) (wt := []) (wc := wv) (isC := List.range wv.length) (gRange wv) (gRange_nd _) rfl h0 rfl hl.1 (Nat.le_of_ble_eq_true rfl) dL_plot_2 ⟨Nat.le_of_ble_eq_true rfl, Nat.le_of_ble_eq_true rfl⟩) hP hD hS (lit := wv) (wt := []) (wc := wv) (isC := List.range wv.length) (wr := []) (isR := []) (gRange wv) rfl rfl (fun _ h_ => by cases h_) (fun ce q9 u H locs hp hP hD hS hce hcv hcl => ?_)
  have hP : va_P G.1 vwCl (u ++ []) H := hP
  have hD : va_D A (u ++ []) := hD
  refine vx_catch (own := RL) (name := gIO) (E := gIO) F.2.2.2.2.2.1 [] ⟨0, 23, 24, 66⟩ [] (by rw [htb]; rfl) (fun _ h_ => by cases h_) rfl (by decide) (F.2.2.2.2.2.2.1 (.classLink RL 66 gIO) (by decide +kernel)) (va_Nw.use rfl (hKK.2.2.2.2.2.1 (gIO, gIO) (by decide +kernel))) hce hcv hcl ?_
  refine lv_astore_n (lv' := [(2, .ref q9), (0, .ref lq), (1, .int (zI rr))]) hx hb dL_plot_24 rfl hl (by decide) rfl (fun ls hl => ?_)
  refine lv_sipush (v := zI (-2011)) hx hb dL_plot_25 (by decide) ?_
  exact gRi F dL_plot_28 rfl u ⟨rfl, hp⟩ (gPl hP) (gDl hD) hS (Nat.le_of_ble_eq_true rfl) (Nat.le_of_ble_eq_true rfl)

set_option maxHeartbeats 8000000 in
set_option maxRecDepth 100000 in
theorem c_is (l : Launch) (G : gG) (lq : Nat) (S : SpT) (rr : Nat) (x : Nat) (y : Nat) (z : Nat) (o : Nat) (hS9 : spS S) (hn : rr < cnt S.1.1) (h1 : svX S.1.1 rr = x) (h2 : svY S.1.1 rr = y) (h3 : svZ S.1.1 rr = z) (h4 : svO S.1.1 rr = o) (h5 : rkA S.1.1 (x + z - 1) y = rr) (hz : 1 ≤ z) (hx9 : x + z ≤ 16) (hy9 : y < 16) : LW l G lq yL_is wsL_is { frames := 3, cells := 0, slots := 0, locals := 65 } [.int (nI rr), .int (nI x), .int (nI y), .int (nI z), .int (nI o)] S (nI 1) S 0 0 := by
  intro wv hC
  refine gMetP_mk (cc := cL_is) (nL := 6) (ret := some .boolean) (Qc := fun A => va_Qi (S := va_W) (fun r' u => r' = nI 1 ∧ clS G lq u S) (gB G A (fun u => u)) A) (by decide) rfl (Nat.le_of_ble_eq_true rfl) ?_
  intro p e s m args below meth c A F hZ ls hl hP hD hS
  have hx := F.1
  have hb := F.2.1
  have hts := F.2.2.2.2.2.2.1
  have hown : s.vm.findClass RL = some m.cls := F.2.2.2.2.2.1
  have hKK := F.2.2.2.2.2.2.2.2.1
  have hl : lv_has ls 6 [(0, .ref lq), (1, .int (nI rr)), (2, .int (nI x)), (3, .int (nI y)), (4, .int (nI z)), (5, .int (nI o))] := hl
  have hP : va_P G.1 vwCl (wv ++ []) s.heap := by rw [List.append_nil]; exact hP
  have hD : va_D A (wv ++ []) := by rw [List.append_nil]; exact hD
  generalize hH : s.heap = H at hP ⊢
  have hS0 : va_S A s.heap H [] := by rw [← hH]; exact va_S.rf
  clear hS
  have hS := hS0
  clear hS0
  generalize hLo : ([] : List Loc) = locs at hS ⊢
  refine lv_aload_n hx hb dL_is_0 rfl (lv_at hl 0 rfl) ?_
  refine lv_iload_n hx hb dL_is_1 rfl (lv_at hl 1 rfl) ?_
  refine lqV (own := RL) (index := 161) (bytes := cX3_plotX) (n := 1) (As := [.int (nI rr)]) (rest := []) (c2 := 0) (s2 := 0) F (K_plotX l G lq S rr hS9 hn) hC gL_is_X3_plotX rfl rfl rfl rfl (by decide +kernel) rfl ⟨Nat.le_of_ble_eq_true rfl, Nat.le_of_ble_eq_true rfl⟩ hP hD hS rfl hl.1 (Nat.le_of_ble_eq_true rfl) dL_is_2 ⟨Nat.le_of_ble_eq_true rfl, Nat.le_of_ble_eq_true rfl⟩ ⟨Nat.le_of_ble_eq_true rfl, Nat.le_of_ble_eq_true rfl⟩ (fun u2 H locs hC hP hD hS => ?_)
  refine lv_iload_n hx hb dL_is_5 rfl (lv_at hl 2 rfl) ?_
  refine bIF_ne (tgt := 57) hx hb dL_is_6 (by decide) (by rw [h1]) ?_
  refine lv_aload_n hx hb dL_is_9 rfl (lv_at hl 0 rfl) ?_
  refine lv_iload_n hx hb dL_is_10 rfl (lv_at hl 1 rfl) ?_
  refine lqV (own := RL) (index := 164) (bytes := cX3_plotY) (n := 1) (As := [.int (nI rr)]) (rest := []) (c2 := 0) (s2 := 0) F (K_plotY l G lq S rr hS9 hn) hC gL_is_X3_plotY rfl rfl rfl rfl (by decide +kernel) rfl ⟨Nat.le_of_ble_eq_true rfl, Nat.le_of_ble_eq_true rfl⟩ hP hD hS rfl hl.1 (Nat.le_of_ble_eq_true rfl) dL_is_11 ⟨Nat.le_of_ble_eq_true rfl, Nat.le_of_ble_eq_true rfl⟩ ⟨Nat.le_of_ble_eq_true rfl, Nat.le_of_ble_eq_true rfl⟩ (fun u11 H locs hC hP hD hS => ?_)
  refine lv_iload_n hx hb dL_is_14 rfl (lv_at hl 3 rfl) ?_
  refine bIF_ne (tgt := 57) hx hb dL_is_15 (by decide) (by rw [h2]) ?_
  refine lv_aload_n hx hb dL_is_18 rfl (lv_at hl 0 rfl) ?_
  refine lv_iload_n hx hb dL_is_19 rfl (lv_at hl 1 rfl) ?_
  refine lqV (own := RL) (index := 167) (bytes := cX3_plotSize) (n := 1) (As := [.int (nI rr)]) (rest := []) (c2 := 0) (s2 := 0) F (K_plotSize l G lq S rr hS9 hn) hC gL_is_X3_plotSize rfl rfl rfl rfl (by decide +kernel) rfl ⟨Nat.le_of_ble_eq_true rfl, Nat.le_of_ble_eq_true rfl⟩ hP hD hS rfl hl.1 (Nat.le_of_ble_eq_true rfl) dL_is_20 ⟨Nat.le_of_ble_eq_true rfl, Nat.le_of_ble_eq_true rfl⟩ ⟨Nat.le_of_ble_eq_true rfl, Nat.le_of_ble_eq_true rfl⟩ (fun u20 H locs hC hP hD hS => ?_)
  refine lv_iload hx hb dL_is_23 (lv_at hl 4 rfl) ?_
  refine bIF_ne (tgt := 57) hx hb dL_is_25 (by decide) (by rw [h3]) ?_
  refine lv_aload_n hx hb dL_is_28 rfl (lv_at hl 0 rfl) ?_
  refine lv_iload_n hx hb dL_is_29 rfl (lv_at hl 1 rfl) ?_
  refine lqV (own := RL) (index := 158) (bytes := cX3_plotOwner) (n := 1) (As := [.int (nI rr)]) (rest := []) (c2 := 0) (s2 := 0) F (K_plotOwner l G lq S rr hS9 hn) hC gL_is_X3_plotOwner rfl rfl rfl rfl (by decide +kernel) rfl ⟨Nat.le_of_ble_eq_true rfl, Nat.le_of_ble_eq_true rfl⟩ hP hD hS rfl hl.1 (Nat.le_of_ble_eq_true rfl) dL_is_30 ⟨Nat.le_of_ble_eq_true rfl, Nat.le_of_ble_eq_true rfl⟩ ⟨Nat.le_of_ble_eq_true rfl, Nat.le_of_ble_eq_true rfl⟩ (fun u30 H locs hC hP hD hS => ?_)
  refine lv_iload hx hb dL_is_33 (lv_at hl 5 rfl) ?_
  refine bIF_ne (tgt := 57) hx hb dL_is_35 (by decide) (by rw [h4]) ?_
  refine lv_aload_n hx hb dL_is_38 rfl (lv_at hl 0 rfl) ?_
  refine lv_iload_n hx hb dL_is_39 rfl (lv_at hl 2 rfl) ?_
  refine lv_iload hx hb dL_is_40 (lv_at hl 4 rfl) ?_
  refine gIadd (a := x) (b := z) hx hb dL_is_42 ?_
  refine lv_iconst (v := nI 1) hx hb dL_is_43 (by decide) ?_
  refine gIsub (a := x + z) (b := 1) hx hb dL_is_44 (by omega) ?_
  refine lv_iload_n hx hb dL_is_45 rfl (lv_at hl 3 rfl) ?_
  refine lqV (own := RL) (index := 82) (bytes := cX3_plotRankAt) (n := 2) (As := [.int (nI ((x + z) - 1)), .int (nI y)]) (rest := []) (c2 := 0) (s2 := 0) F (K_plotRankAt l G lq S (x + z - 1) y hS9 (by omega) hy9) hC gL_is_X3_plotRankAt rfl rfl rfl rfl (by decide +kernel) rfl ⟨Nat.le_of_ble_eq_true rfl, Nat.le_of_ble_eq_true rfl⟩ hP hD hS rfl hl.1 (Nat.le_of_ble_eq_true rfl) dL_is_46 ⟨Nat.le_of_ble_eq_true rfl, Nat.le_of_ble_eq_true rfl⟩ ⟨Nat.le_of_ble_eq_true rfl, Nat.le_of_ble_eq_true rfl⟩ (fun u46 H locs hC hP hD hS => ?_)
  refine lv_iload_n hx hb dL_is_49 rfl (lv_at hl 1 rfl) ?_
  refine bIF_ne (tgt := 57) hx hb dL_is_50 (by decide) (by rw [h5]) ?_
  refine lv_iconst (v := nI 1) hx hb dL_is_53 (by decide) ?_
  refine lv_goto (tgt := 58) hx hb dL_is_54 (by decide) ?_
  exact gRi F dL_is_58 (gNarZ (by decide)) u46 ⟨rfl, hC⟩ (gPl hP) (gDl hD) hS (Nat.le_of_ble_eq_true rfl) (Nat.le_of_ble_eq_true rfl)

set_option maxHeartbeats 8000000 in
set_option maxRecDepth 100000 in
theorem c_fences (l : Launch) (G : gG) (lq : Nat) (S : SpT) (o : Nat) (n : Nat) (e9 : Int) (hS9 : spS S) (ho : o < 8) (h1 : sFn S.1.1 (svO S.1.1) (svX S.1.1) (svY S.1.1) (svZ S.1.1) o (cnt S.1.1) = n) (h2 : fbc S.1.1 o 8 = n) (h3 : (nnb S.1.1 o 8).1 = e9) : LW l G lq yL_fences wsL_fences { frames := 6, cells := 0, slots := 0, locals := 137 } [.int (nI o), .int (nI n), .int (zI e9)] S (nI 1) S 0 0 := by
  intro wv hC
  refine gMetP_mk (cc := cL_fences) (nL := 4) (ret := some .boolean) (Qc := fun A => va_Qi (S := va_W) (fun r' u => r' = nI 1 ∧ clS G lq u S) (gB G A (fun u => u)) A) (by decide) rfl (Nat.le_of_ble_eq_true rfl) ?_
  intro p e s m args below meth c A F hZ ls hl hP hD hS
  have hx := F.1
  have hb := F.2.1
  have hts := F.2.2.2.2.2.2.1
  have hown : s.vm.findClass RL = some m.cls := F.2.2.2.2.2.1
  have hKK := F.2.2.2.2.2.2.2.2.1
  have hl : lv_has ls 4 [(0, .ref lq), (1, .int (nI o)), (2, .int (nI n)), (3, .int (zI e9))] := hl
  have hP : va_P G.1 vwCl (wv ++ []) s.heap := by rw [List.append_nil]; exact hP
  have hD : va_D A (wv ++ []) := by rw [List.append_nil]; exact hD
  generalize hH : s.heap = H at hP ⊢
  have hS0 : va_S A s.heap H [] := by rw [← hH]; exact va_S.rf
  clear hS
  have hS := hS0
  clear hS0
  generalize hLo : ([] : List Loc) = locs at hS ⊢
  refine lv_aload_n hx hb dL_fences_0 rfl (lv_at hl 0 rfl) ?_
  refine lv_iload_n hx hb dL_fences_1 rfl (lv_at hl 1 rfl) ?_
  refine lqV (own := RL) (index := 97) (bytes := cX3_fenceByPlots) (n := 1) (As := [.int (nI o)]) (rest := []) (c2 := 0) (s2 := 0) F (K_fenceByPlots l G lq S o hS9 ho) hC gL_fences_X3_fenceByPlots rfl rfl rfl rfl (by decide +kernel) rfl ⟨Nat.le_of_ble_eq_true rfl, Nat.le_of_ble_eq_true rfl⟩ hP hD hS rfl hl.1 (Nat.le_of_ble_eq_true rfl) dL_fences_2 ⟨Nat.le_of_ble_eq_true rfl, Nat.le_of_ble_eq_true rfl⟩ ⟨Nat.le_of_ble_eq_true rfl, Nat.le_of_ble_eq_true rfl⟩ (fun u2 H locs hC hP hD hS => ?_)
  refine lv_iload_n hx hb dL_fences_5 rfl (lv_at hl 2 rfl) ?_
  refine bIF_ne (tgt := 31) hx hb dL_fences_6 (by decide) (by rw [h1]) ?_
  refine lv_aload_n hx hb dL_fences_9 rfl (lv_at hl 0 rfl) ?_
  refine lv_iload_n hx hb dL_fences_10 rfl (lv_at hl 1 rfl) ?_
  refine lqV (own := RL) (index := 100) (bytes := cX3_fenceByCells) (n := 1) (As := [.int (nI o)]) (rest := []) (c2 := 0) (s2 := 0) F (K_fenceByCells l G lq S o hS9 ho) hC gL_fences_X3_fenceByCells rfl rfl rfl rfl (by decide +kernel) rfl ⟨Nat.le_of_ble_eq_true rfl, Nat.le_of_ble_eq_true rfl⟩ hP hD hS rfl hl.1 (Nat.le_of_ble_eq_true rfl) dL_fences_11 ⟨Nat.le_of_ble_eq_true rfl, Nat.le_of_ble_eq_true rfl⟩ ⟨Nat.le_of_ble_eq_true rfl, Nat.le_of_ble_eq_true rfl⟩ (fun u11 H locs hC hP hD hS => ?_)
  refine lv_iload_n hx hb dL_fences_14 rfl (lv_at hl 2 rfl) ?_
  refine bIF_ne (tgt := 31) hx hb dL_fences_15 (by decide) (by rw [h2]) ?_
  refine lv_aload_n hx hb dL_fences_18 rfl (lv_at hl 0 rfl) ?_
  refine lv_iload_n hx hb dL_fences_19 rfl (lv_at hl 1 rfl) ?_
  refine lqV (own := RL) (index := 121) (bytes := cX3_nearestNeighbour) (n := 1) (As := [.int (nI o)]) (rest := []) (c2 := 0) (s2 := 0) F (K_nearestNeighbour l G lq S o hS9 ho) hC gL_fences_X3_nearestNeighbour rfl rfl rfl rfl (by decide +kernel) rfl ⟨Nat.le_of_ble_eq_true rfl, Nat.le_of_ble_eq_true rfl⟩ hP hD hS rfl hl.1 (Nat.le_of_ble_eq_true rfl) dL_fences_20 ⟨Nat.le_of_ble_eq_true rfl, Nat.le_of_ble_eq_true rfl⟩ ⟨Nat.le_of_ble_eq_true rfl, Nat.le_of_ble_eq_true rfl⟩ (fun u20 H locs hC hP hD hS => ?_)
  refine lv_iload_n hx hb dL_fences_23 rfl (lv_at hl 3 rfl) ?_
  refine bIF_ne (tgt := 31) hx hb dL_fences_24 (by decide) (by rw [h3]) ?_
  refine lv_iconst (v := nI 1) hx hb dL_fences_27 (by decide) ?_
  refine lv_goto (tgt := 32) hx hb dL_fences_28 (by decide) ?_
  exact gRi F dL_fences_32 (gNarZ (by decide)) u20 ⟨rfl, hC⟩ (gPl hP) (gDl hD) hS (Nat.le_of_ble_eq_true rfl) (Nat.le_of_ble_eq_true rfl)

/-- what typing leaves in the buffer -/
def tyB (cs : Nat → Nat) (t : (Nat → Nat) × Nat) : Nat → (Nat → Nat) × Nat
  | 0 => t
  | j + 1 => if cs j = 0 then tyB cs t j else (va_up (tyB cs t j).1 (tyB cs t j).2 (cs j), (tyB cs t j).2 + 1)
def tyS (S : SpT) (cs : Nat → Nat) (j : Nat) : SpT := (S.1, S.2.1, S.2.2.1, (tyB cs (S.2.2.2.1, S.2.2.2.2) j).1, (tyB cs (S.2.2.2.1, S.2.2.2.2) j).2)
theorem tyS_no {S : SpT} {cs : Nat → Nat} {j : Nat} (h : cs j = 0) : tyS S cs (j + 1) = tyS S cs j := by unfold tyS; simp only [tyB]; rw [if_pos h]
theorem tyS_up {S : SpT} {cs : Nat → Nat} {j : Nat} (h : ¬ cs j = 0) : tyS S cs (j + 1) = (S.1, S.2.1, S.2.2.1, va_up (tyS S cs j).2.2.2.1 (tyS S cs j).2.2.2.2 (cs j), (tyS S cs j).2.2.2.2 + 1) := by unfold tyS; simp only [tyB]; rw [if_neg h]
theorem tyS_sp {S : SpT} {cs : Nat → Nat} (hS : spS S) (hc : ∀ j, j < 8 → cs j = 0 ∨ 33 ≤ cs j ∧ cs j ≤ 126) (hb : S.2.2.2.2 ≤ 52) : ∀ j, j ≤ 8 → spS (tyS S cs j) ∧ (tyS S cs j).2.2.2.2 ≤ S.2.2.2.2 + j
  | 0 => fun _ => ⟨hS, Nat.le_refl _⟩
  | j + 1 => fun hj => by
    obtain ⟨h1, h2⟩ := tyS_sp hS hc hb j (by omega)
    by_cases e : cs j = 0
    · rw [tyS_no e]; exact ⟨h1, by omega⟩
    · have h3 := (hc j (by omega)).resolve_left e
      rw [tyS_up e]
      refine ⟨⟨h1.1, h1.2.1, h1.2.2.1, h1.2.2.2.1, fun k => ?_, ?_⟩, ?_⟩
      · show va_up (tyS S cs j).2.2.2.1 (tyS S cs j).2.2.2.2 (cs j) k < 128
        rw [gu_if]; split
        · omega
        · exact h1.2.2.2.2.1 k
      · show (tyS S cs j).2.2.2.2 + 1 ≤ 60; omega
      · show (tyS S cs j).2.2.2.2 + 1 ≤ _; omega

theorem zI_lt0 {a : Int} (h : -2147483648 ≤ a ∧ a < 2147483648) : zI a < 0 ↔ a < 0 := by
  rw [show (0 : Int32) = zI 0 from by decide]; exact zI_lt h (by decide)
theorem nI_inj0 {a : Nat} (h : a < 2147483648) (e : nI a = 0) : a = 0 := (nI_eq h (by decide)).mp (e.trans nI_0.symm)
theorem nI_le0 {a : Nat} (h : a < 2147483648) : nI a ≤ 0 ↔ a = 0 := by
  rw [show (0 : Int32) = nI 0 from nI_0.symm, nI_leI h (by decide)]; omega
theorem zI_m8 (j : Nat) : zI (56 - 8 * (j : Int)) + zI (-8) = zI (56 - 8 * ((j + 1 : Nat) : Int)) := by
  rw [zI_add]; congr 1; omega

set_option maxHeartbeats 8000000 in
set_option maxRecDepth 100000 in
theorem c_types (l : Launch) (G : gG) (lq : Nat) (S : SpT) (w9 : Int64) (cs : Nat → Nat) (hS9 : spS S) (hw : ∀ j : Nat, j < 8 → (w9 >>> ((zI (56 - 8 * (j : Int))).toInt64 &&& 63) &&& 255).toInt32 = nI (cs j)) (hc : ∀ j, j < 8 → cs j = 0 ∨ 33 ≤ cs j ∧ cs j ≤ 126) (hb9 : S.2.2.2.2 ≤ 52) : LW l G lq yL_types wsL_types { frames := 1, cells := 0, slots := 0, locals := 21 } [.long w9] S (nI 1) (tyS S cs 8) 0 0 := by
  intro wv hC
  refine gMetP_mk (cc := cL_types) (nL := 6) (ret := some .boolean) (Qc := fun A => va_Qi (S := va_W) (fun r' u => r' = nI 1 ∧ clS G lq u (tyS S cs 8)) (gB G A (fun u => u)) A) (by decide) rfl (Nat.le_of_ble_eq_true rfl) ?_
  intro p e s m args below meth c A F hZ ls hl hP hD hS
  have hx := F.1
  have hb := F.2.1
  have hts := F.2.2.2.2.2.2.1
  have hown : s.vm.findClass RL = some m.cls := F.2.2.2.2.2.1
  have hKK := F.2.2.2.2.2.2.2.2.1
  have hl : lv_has ls 6 [(0, .ref lq), (1, .long w9)] := hl
  have hP : va_P G.1 vwCl (wv ++ []) s.heap := by rw [List.append_nil]; exact hP
  have hD : va_D A (wv ++ []) := by rw [List.append_nil]; exact hD
  generalize hH : s.heap = H at hP ⊢
  have hS0 : va_S A s.heap H [] := by rw [← hH]; exact va_S.rf
  clear hS
  have hS := hS0
  clear hS0
  generalize hLo : ([] : List Loc) = locs at hS ⊢
  refine lv_iconst (v := nI 1) hx hb dL_types_0 (by decide) ?_
  refine lv_istore_n (lv' := [(3, .int (nI 1)), (0, .ref lq), (1, .long w9)]) hx hb dL_types_1 rfl hl (by decide) rfl (fun ls hl => ?_)
  refine lv_bipush (v := nI 56) hx hb dL_types_2 (by decide) ?_
  refine lv_istore (lv' := [(4, .int (nI 56)), (3, .int (nI 1)), (0, .ref lq), (1, .long w9)]) hx hb dL_types_4 hl (by decide) rfl (fun ls hl => ?_)
  have loop : ∀ (n j : Nat), j + n = 8 → ∀ (u : va_W) (H : Heap) (locs : List Loc) (ls : Array Slot), clS G lq u (tyS S cs j) → va_P G.1 vwCl (u ++ []) H → va_D A (u ++ []) → va_S A s.heap H locs → lv_has ls 6 [(4, .int (zI (56 - 8 * (j : Int)))), (3, .int (nI 1)), (0, .ref lq), (1, .long w9)] → W p l e ({ frames := 1, cells := 0, slots := 0, locals := 21 } : Room) s m args below meth c H locs 0 0 (MQ below (va_Qi (S := va_W) (fun r' u => r' = nI 1 ∧ clS G lq u (tyS S cs 8)) (gB G A (fun u => u)) A) args s 0 0 A) (F0 m 6 ls []) := by
    intro n
    induction n with
    | zero =>
      intro j hj u H locs ls hC hP hD hS0 hl
      obtain rfl : j = 8 := by omega
      have hS := hS0
      refine lv_iload hx hb dL_types_6 (lv_at hl 0 rfl) ?_
      refine bZT_lt (tgt := 52) hx hb dL_types_8 (by decide) (by decide) ?_
      refine lv_iload_n hx hb dL_types_52 rfl (lv_at hl 1 rfl) ?_
      exact gRi F dL_types_53 (gNarZ (by decide)) u ⟨rfl, hC⟩ (gPl hP) (gDl hD) hS (Nat.le_of_ble_eq_true rfl) (Nat.le_of_ble_eq_true rfl)
    | succ n ih =>
      intro j hj u H locs ls hC hP hD hS0 hl
      have hsp := tyS_sp hS9 hc hb9 j (by omega)
      have hS := hS0
      have hcj := hc j (by omega)
      refine lv_iload hx hb dL_types_6 (lv_at hl 0 rfl) ?_
      refine bZF_lt (tgt := 52) hx hb dL_types_8 (by decide) (fun h => absurd ((zI_lt0 (by omega)).mp h) (by omega)) ?_
      refine lv_lload_n hx hb dL_types_11 rfl (lv_at hl 3 rfl) ?_
      refine lv_iload hx hb dL_types_12 (lv_at hl 0 rfl) ?_
      refine lv_lshr hx hb dL_types_14 rfl ?_
      refine lv_ldc2 (own := RL) (v := 255) hx hb hown (hts (.constantLong RL 202 (255)) (by decide +kernel)) dL_types_15 ?_
      refine lv_land hx hb dL_types_18 ?_
      refine lv_l2i hx hb dL_types_19 rfl ?_
      refine W.eq (g2 := F0 m 20 ls [.int (nI (cs j))]) (congrArg (fun v_ => F0 m 20 ls [v_]) (show (.int (((w9 >>> ((zI (56 - 8 * (j : Int))).toInt64 &&& 63)) &&& 255).toInt32) : Value) = .int (nI (cs j)) from congrArg Value.int (hw j (by omega)))) ?_
      refine lv_istore (lv' := [(5, .int (nI (cs j))), (4, .int (zI (56 - 8 * (j : Int)))), (3, .int (nI 1)), (0, .ref lq), (1, .long w9)]) hx hb dL_types_20 hl (by decide) rfl (fun ls hl => ?_)
      refine lv_iload_n hx hb dL_types_22 rfl (lv_at hl 2 rfl) ?_
      refine bZF_eq (tgt := 44) hx hb dL_types_23 (by decide) (by decide) ?_
      refine lv_iload hx hb dL_types_26 (lv_at hl 0 rfl) ?_
      by_cases e9 : cs j = 0
      · refine bZT_eq (tgt := 40) hx hb dL_types_28 (by decide) (by rw [e9]; rfl) ?_
        refine lv_iconst (v := nI 1) hx hb dL_types_40 (by decide) ?_
        refine lv_goto (tgt := 45) hx hb dL_types_41 (by decide) ?_
        refine lv_istore_n (lv' := [(3, .int (nI 1)), (5, .int (nI (cs j))), (4, .int (zI (56 - 8 * (j : Int)))), (0, .ref lq), (1, .long w9)]) hx hb dL_types_45 rfl hl (by decide) rfl (fun ls hl => ?_)
        refine lv_iinc (v := zI (56 - 8 * ((j + 1 : Nat) : Int))) (lv' := [(4, .int (zI (56 - 8 * ((j + 1 : Nat) : Int)))), (3, .int (nI 1)), (5, .int (nI (cs j))), (0, .ref lq), (1, .long w9)]) hx hb dL_types_46 hl (k := 2) rfl (zI_m8 j) (by decide) rfl (fun ls hl => ?_)
        refine lv_goto (tgt := 6) hx hb dL_types_49 (by decide) ?_
        exact ih (j + 1) (by omega) u H locs ls (by rw [tyS_no e9]; exact hC) hP hD hS (lv_sub hl [0, 1, 3, 4] rfl)
      · refine bZF_eq (tgt := 40) hx hb dL_types_28 (by decide) (fun h => e9 (nI_inj0 (by omega) h)) ?_
        refine lv_aload_n hx hb dL_types_31 rfl (lv_at hl 3 rfl) ?_
        refine lv_iload hx hb dL_types_32 (lv_at hl 0 rfl) ?_
        refine lqV (own := RL) (index := 35) (bytes := cX3_append) (n := 1) (As := [.int (nI (cs j))]) (rest := []) (c2 := 0) (s2 := 0) F (K_append l G lq (tyS S cs j) (cs j) hsp.1 (by omega) (by omega)) hC gL_types_X3_append rfl rfl rfl rfl (by decide +kernel) rfl ⟨Nat.le_of_ble_eq_true rfl, Nat.le_of_ble_eq_true rfl⟩ hP hD hS rfl hl.1 (Nat.le_of_ble_eq_true rfl) dL_types_34 ⟨Nat.le_of_ble_eq_true rfl, Nat.le_of_ble_eq_true rfl⟩ ⟨Nat.le_of_ble_eq_true rfl, Nat.le_of_ble_eq_true rfl⟩ (fun u34 H locs hC hP hD hS => ?_)
        refine bZF_le (tgt := 44) hx hb dL_types_37 (by decide) (fun h => absurd ((nI_le0 (by omega)).mp h) (by omega)) ?_
        refine lv_iconst (v := nI 1) hx hb dL_types_40 (by decide) ?_
        refine lv_goto (tgt := 45) hx hb dL_types_41 (by decide) ?_
        refine lv_istore_n (lv' := [(3, .int (nI 1)), (5, .int (nI (cs j))), (4, .int (zI (56 - 8 * (j : Int)))), (0, .ref lq), (1, .long w9)]) hx hb dL_types_45 rfl hl (by decide) rfl (fun ls hl => ?_)
        refine lv_iinc (v := zI (56 - 8 * ((j + 1 : Nat) : Int))) (lv' := [(4, .int (zI (56 - 8 * ((j + 1 : Nat) : Int)))), (3, .int (nI 1)), (5, .int (nI (cs j))), (0, .ref lq), (1, .long w9)]) hx hb dL_types_46 hl (k := 2) rfl (zI_m8 j) (by decide) rfl (fun ls hl => ?_)
        refine lv_goto (tgt := 6) hx hb dL_types_49 (by decide) ?_
        exact ih (j + 1) (by omega) u34 H locs ls (by rw [tyS_up e9]; exact hC) hP hD hS (lv_sub hl [0, 1, 3, 4] rfl)
  rw [show nI 56 = zI (56 - 8 * ((0 : Nat) : Int)) from by decide] at hl
  exact loop 8 0 rfl wv H locs ls hC hP hD hS (lv_sub hl [0, 1, 2, 3] rfl)

def clr (S : SpT) : SpT := (S.1, S.2.1, S.2.2.1, S.2.2.2.1, 0)
theorem clr_sp {S : SpT} (hS : spS S) : spS (clr S) := ⟨hS.1, hS.2.1, hS.2.2.1, hS.2.2.2.1, hS.2.2.2.2.1, Nat.zero_le _⟩
def erS (S : SpT) (c1 c2 : Nat → Nat) : SpT := tyS (tyS (clr S) c1 8) c2 8
theorem erS_sp {S : SpT} {c1 c2 : Nat → Nat} (hS : spS S) (hc1 : ∀ j, j < 8 → c1 j = 0 ∨ 33 ≤ c1 j ∧ c1 j ≤ 126) (hc2 : ∀ j, j < 8 → c2 j = 0 ∨ 33 ≤ c2 j ∧ c2 j ≤ 126) : spS (tyS (clr S) c1 8) ∧ (tyS (clr S) c1 8).2.2.2.2 ≤ 52 ∧ spS (erS S c1 c2) := by
  have h1 := tyS_sp (clr_sp hS) hc1 (Nat.zero_le _) 8 (Nat.le_refl _)
  have h0 : (clr S).2.2.2.2 = 0 := rfl
  have h2 := tyS_sp h1.1 hc2 (by omega) 8 (Nat.le_refl _)
  exact ⟨h1.1, by omega, h2.1⟩

set_option maxHeartbeats 8000000 in
set_option maxRecDepth 100000 in
theorem c_isError (l : Launch) (G : gG) (lq : Nat) (S : SpT) (w1 : Int64) (w2 : Int64) (c1 : Nat → Nat) (c2 : Nat → Nat) (e9 : Nat) (hS9 : spS S) (hw1 : ∀ j : Nat, j < 8 → (w1 >>> ((zI (56 - 8 * (j : Int))).toInt64 &&& 63) &&& 255).toInt32 = nI (c1 j)) (hc1 : ∀ j, j < 8 → c1 j = 0 ∨ 33 ≤ c1 j ∧ c1 j ≤ 126) (hw2 : ∀ j : Nat, j < 8 → (w2 >>> ((zI (56 - 8 * (j : Int))).toInt64 &&& 63) &&& 255).toInt32 = nI (c2 j)) (hc2 : ∀ j, j < 8 → c2 j = 0 ∨ 33 ≤ c2 j ∧ c2 j ≤ 126) (hfe : rdLen (erS S c1 c2).2.2.2.1 rg0 (erS S c1 c2).2.2.2.2 = e9) : LW l G lq yL_isError wsL_isError { frames := 4, cells := 0, slots := 0, locals := 84 } [.long w1, .long w2, .int (nI e9)] S (nI 1) (erS S c1 c2) 0 0 := by
  intro wv hC
  refine gMetP_mk (cc := cL_isError) (nL := 6) (ret := some .boolean) (Qc := fun A => va_Qi (S := va_W) (fun r' u => r' = nI 1 ∧ clS G lq u (erS S c1 c2)) (gB G A (fun u => u)) A) (by decide) rfl (Nat.le_of_ble_eq_true rfl) ?_
  intro p e s m args below meth c A F hZ ls hl hP hD hS
  have hx := F.1
  have hb := F.2.1
  have hts := F.2.2.2.2.2.2.1
  have hown : s.vm.findClass RL = some m.cls := F.2.2.2.2.2.1
  have hKK := F.2.2.2.2.2.2.2.2.1
  have hl : lv_has ls 6 [(0, .ref lq), (1, .long w1), (3, .long w2), (5, .int (nI e9))] := hl
  have hP : va_P G.1 vwCl (wv ++ []) s.heap := by rw [List.append_nil]; exact hP
  have hD : va_D A (wv ++ []) := by rw [List.append_nil]; exact hD
  generalize hH : s.heap = H at hP ⊢
  have hS0 : va_S A s.heap H [] := by rw [← hH]; exact va_S.rf
  clear hS
  have hS := hS0
  clear hS0
  generalize hLo : ([] : List Loc) = locs at hS ⊢
  have hsp := erS_sp hS9 hc1 hc2
  refine lv_aload_n hx hb dL_isError_0 rfl (lv_at hl 0 rfl) ?_
  refine lqV (own := RL) (index := 204) (bytes := cX3_clearBuffer) (n := 0) (As := []) (rest := []) (c2 := 0) (s2 := 0) F (K_clearBuffer l G lq S  hS9 ) hC gL_isError_X3_clearBuffer rfl rfl rfl rfl (by decide +kernel) rfl ⟨Nat.le_of_ble_eq_true rfl, Nat.le_of_ble_eq_true rfl⟩ hP hD hS rfl hl.1 (Nat.le_of_ble_eq_true rfl) dL_isError_1 ⟨Nat.le_of_ble_eq_true rfl, Nat.le_of_ble_eq_true rfl⟩ ⟨Nat.le_of_ble_eq_true rfl, Nat.le_of_ble_eq_true rfl⟩ (fun u1 H locs hC hP hD hS => ?_)
  refine bZF_lt (tgt := 36) hx hb dL_isError_4 (by decide) (nI_pos (by have := hS9.2.2.2.2.2; omega)) ?_
  refine lv_aload_n hx hb dL_isError_7 rfl (lv_at hl 0 rfl) ?_
  refine lv_lload_n hx hb dL_isError_8 rfl (lv_at hl 1 rfl) ?_
  refine lqS (own := RL) (index := 207) (bytes := cL_types) (n := 2) (As := [.long w1]) (rest := []) (c2 := 0) (s2 := 0) F hZ (c_types l G lq (clr S) w1 c1 (clr_sp hS9) hw1 hc1 (Nat.zero_le _)) hC gL_isError_L_types rfl rfl rfl rfl (by decide +kernel) rfl ⟨Nat.le_of_ble_eq_true rfl, Nat.le_of_ble_eq_true rfl⟩ hP hD hS rfl hl.1 (Nat.le_of_ble_eq_true rfl) dL_isError_9 ⟨Nat.le_of_ble_eq_true rfl, Nat.le_of_ble_eq_true rfl⟩ ⟨Nat.le_of_ble_eq_true rfl, Nat.le_of_ble_eq_true rfl⟩ (fun u9 H locs hC hP hD hS => ?_)
  refine bZF_eq (tgt := 36) hx hb dL_isError_12 (by decide) (by decide) ?_
  refine lv_aload_n hx hb dL_isError_15 rfl (lv_at hl 0 rfl) ?_
  refine lv_lload_n hx hb dL_isError_16 rfl (lv_at hl 2 rfl) ?_
  refine lqS (own := RL) (index := 207) (bytes := cL_types) (n := 2) (As := [.long w2]) (rest := []) (c2 := 0) (s2 := 0) F hZ (c_types l G lq (tyS (clr S) c1 8) w2 c2 hsp.1 hw2 hc2 hsp.2.1) hC gL_isError_L_types rfl rfl rfl rfl (by decide +kernel) rfl ⟨Nat.le_of_ble_eq_true rfl, Nat.le_of_ble_eq_true rfl⟩ hP hD hS rfl hl.1 (Nat.le_of_ble_eq_true rfl) dL_isError_17 ⟨Nat.le_of_ble_eq_true rfl, Nat.le_of_ble_eq_true rfl⟩ ⟨Nat.le_of_ble_eq_true rfl, Nat.le_of_ble_eq_true rfl⟩ (fun u17 H locs hC hP hD hS => ?_)
  refine bZF_eq (tgt := 36) hx hb dL_isError_20 (by decide) (by decide) ?_
  refine lv_aload_n hx hb dL_isError_23 rfl (lv_at hl 0 rfl) ?_
  refine lqV (own := RL) (index := 211) (bytes := cX3_firstError) (n := 0) (As := []) (rest := []) (c2 := 0) (s2 := 0) F (K_firstError l G lq (erS S c1 c2)  hsp.2.2 ) hC gL_isError_X3_firstError rfl rfl rfl rfl (by decide +kernel) rfl ⟨Nat.le_of_ble_eq_true rfl, Nat.le_of_ble_eq_true rfl⟩ hP hD hS rfl hl.1 (Nat.le_of_ble_eq_true rfl) dL_isError_24 ⟨Nat.le_of_ble_eq_true rfl, Nat.le_of_ble_eq_true rfl⟩ ⟨Nat.le_of_ble_eq_true rfl, Nat.le_of_ble_eq_true rfl⟩ (fun u24 H locs hC hP hD hS => ?_)
  refine lv_iload hx hb dL_isError_27 (lv_at hl 3 rfl) ?_
  refine bIF_ne (tgt := 36) hx hb dL_isError_29 (by decide) (by rw [hfe]) ?_
  refine lv_iconst (v := nI 1) hx hb dL_isError_32 (by decide) ?_
  refine lv_goto (tgt := 37) hx hb dL_isError_33 (by decide) ?_
  exact gRi F dL_isError_37 (gNarZ (by decide)) u24 ⟨rfl, hC⟩ (gPl hP) (gDl hD) hS (Nat.le_of_ble_eq_true rfl) (Nat.le_of_ble_eq_true rfl)

/-- the law's digest of a land -/
def sn0 (R : LdS) : Int64 := 31 * (31 * (31 * (31 * (31 * 107 + (nI (cnt R.1)).toInt64) + (nI R.2.2.2.1).toInt64) + (nI R.2.2.2.2.1).toInt64) + (nI R.2.2.2.2.2.1).toInt64) + (nI R.2.2.2.2.2.2.1).toInt64
def sn1 (R : LdS) : Nat → Int64
  | 0 => sn0 R
  | k + 1 => 31 * (31 * sn1 R k + (nI (R.1 (k / 16 * 16 + k % 16))).toInt64) + (nI (R.2.1 (k / 16 * 16 + k % 16))).toInt64
def sn2 (R : LdS) : Nat → Int64
  | 0 => sn1 R 256
  | k + 1 => 31 * (31 * sn2 R k + (nI (R.2.2.1 k)).toInt64) + (nI (sCnt (svO R.1) k (cnt R.1))).toInt64
def sn (R : LdS) : Int64 := 31 * sn2 R 8 + (nI R.2.2.2.2.2.2.2).toInt64

set_option maxHeartbeats 8000000 in
set_option maxRecDepth 100000 in
theorem c_seen (l : Launch) (G : gG) (lq : Nat) (S : SpT) (hS9 : spS S) : LL l G lq yL_seen wsL_seen { frames := 3, cells := 0, slots := 0, locals := 65 } [] S (sn S.1) 0 0 := by
  intro wv hC
  refine gMetP_mk (cc := cL_seen) (nL := 4) (ret := some .long) (Qc := fun A => va_Ql (S := va_W) (fun r' u => r' = sn S.1 ∧ clS G lq u S) (gB G A (fun u => u)) A) (by decide) rfl (Nat.le_of_ble_eq_true rfl) ?_
  intro p e s m args below meth c A F hZ ls hl hP hD hS
  have hx := F.1
  have hb := F.2.1
  have hts := F.2.2.2.2.2.2.1
  have hown : s.vm.findClass RL = some m.cls := F.2.2.2.2.2.1
  have hKK := F.2.2.2.2.2.2.2.2.1
  have hl : lv_has ls 4 [(0, .ref lq)] := hl
  have hP : va_P G.1 vwCl (wv ++ []) s.heap := by rw [List.append_nil]; exact hP
  have hD : va_D A (wv ++ []) := by rw [List.append_nil]; exact hD
  generalize hH : s.heap = H at hP ⊢
  have hS0 : va_S A s.heap H [] := by rw [← hH]; exact va_S.rf
  clear hS
  have hS := hS0
  clear hS0
  generalize hLo : ([] : List Loc) = locs at hS ⊢
  refine lv_ldc2 (own := RL) (v := 107) hx hb hown (hts (.constantLong RL 124 (107)) (by decide +kernel)) dL_seen_0 ?_
  refine lv_lstore_n (lv' := [(1, .long 107), (0, .ref lq)]) hx hb dL_seen_3 rfl hl (by decide) rfl (fun ls hl => ?_)
  refine lv_ldc2 (own := RL) (v := 31) hx hb hown (hts (.constantLong RL 126 (31)) (by decide +kernel)) dL_seen_4 ?_
  refine lv_ldc2 (own := RL) (v := 31) hx hb hown (hts (.constantLong RL 126 (31)) (by decide +kernel)) dL_seen_7 ?_
  refine lv_ldc2 (own := RL) (v := 31) hx hb hown (hts (.constantLong RL 126 (31)) (by decide +kernel)) dL_seen_10 ?_
  refine lv_ldc2 (own := RL) (v := 31) hx hb hown (hts (.constantLong RL 126 (31)) (by decide +kernel)) dL_seen_13 ?_
  refine lv_ldc2 (own := RL) (v := 31) hx hb hown (hts (.constantLong RL 126 (31)) (by decide +kernel)) dL_seen_16 ?_
  refine lv_lload_n hx hb dL_seen_19 rfl (lv_at hl 0 rfl) ?_
  refine lv_lmul hx hb dL_seen_20 ?_
  refine lv_aload_n hx hb dL_seen_21 rfl (lv_at hl 1 rfl) ?_
  refine lqV16 (own := RL) (index := 128) (bytes := cX3_plots) (n := 0) (As := []) (rest := [.long (31 * 107), .long 31, .long 31, .long 31, .long 31]) (c2 := 0) (s2 := 0) F (K_plots l G lq S  hS9 ) hC gL_seen_X3_plots rfl rfl rfl rfl (by decide +kernel) rfl ⟨Nat.le_of_ble_eq_true rfl, Nat.le_of_ble_eq_true rfl⟩ hP hD hS rfl hl.1 (Nat.le_of_ble_eq_true rfl) dL_seen_22 ⟨Nat.le_of_ble_eq_true rfl, Nat.le_of_ble_eq_true rfl⟩ ⟨Nat.le_of_ble_eq_true rfl, Nat.le_of_ble_eq_true rfl⟩ (fun u22 H locs hC hP hD hS => ?_)
  refine lv_i2l (v := (nI (cnt S.1.1)).toInt64) hx hb dL_seen_25 rfl ?_
  refine lv_ladd hx hb dL_seen_26 ?_
  refine lv_lmul hx hb dL_seen_27 ?_
  refine lv_aload_n hx hb dL_seen_28 rfl (lv_at hl 1 rfl) ?_
  refine lqV (own := RL) (index := 131) (bytes := cX3_price) (n := 0) (As := []) (rest := [.long (31 * ((31 * 107) + ((nI (cnt S.1.1)).toInt64))), .long 31, .long 31, .long 31]) (c2 := 0) (s2 := 0) F (K_price l G lq S  hS9 ) hC gL_seen_X3_price rfl rfl rfl rfl (by decide +kernel) rfl ⟨Nat.le_of_ble_eq_true rfl, Nat.le_of_ble_eq_true rfl⟩ hP hD hS rfl hl.1 (Nat.le_of_ble_eq_true rfl) dL_seen_29 ⟨Nat.le_of_ble_eq_true rfl, Nat.le_of_ble_eq_true rfl⟩ ⟨Nat.le_of_ble_eq_true rfl, Nat.le_of_ble_eq_true rfl⟩ (fun u29 H locs hC hP hD hS => ?_)
  refine lv_i2l (v := (nI S.1.2.2.2.1).toInt64) hx hb dL_seen_32 rfl ?_
  refine lv_ladd hx hb dL_seen_33 ?_
  refine lv_lmul hx hb dL_seen_34 ?_
  refine lv_aload_n hx hb dL_seen_35 rfl (lv_at hl 1 rfl) ?_
  refine lqV (own := RL) (index := 134) (bytes := cX3_tax) (n := 0) (As := []) (rest := [.long (31 * ((31 * ((31 * 107) + ((nI (cnt S.1.1)).toInt64))) + ((nI S.1.2.2.2.1).toInt64))), .long 31, .long 31]) (c2 := 0) (s2 := 0) F (K_tax l G lq S  hS9 ) hC gL_seen_X3_tax rfl rfl rfl rfl (by decide +kernel) rfl ⟨Nat.le_of_ble_eq_true rfl, Nat.le_of_ble_eq_true rfl⟩ hP hD hS rfl hl.1 (Nat.le_of_ble_eq_true rfl) dL_seen_36 ⟨Nat.le_of_ble_eq_true rfl, Nat.le_of_ble_eq_true rfl⟩ ⟨Nat.le_of_ble_eq_true rfl, Nat.le_of_ble_eq_true rfl⟩ (fun u36 H locs hC hP hD hS => ?_)
  refine lv_i2l (v := (nI S.1.2.2.2.2.1).toInt64) hx hb dL_seen_39 rfl ?_
  refine lv_ladd hx hb dL_seen_40 ?_
  refine lv_lmul hx hb dL_seen_41 ?_
  refine lv_aload_n hx hb dL_seen_42 rfl (lv_at hl 1 rfl) ?_
  refine lqV (own := RL) (index := 137) (bytes := cX3_sales) (n := 0) (As := []) (rest := [.long (31 * ((31 * ((31 * ((31 * 107) + ((nI (cnt S.1.1)).toInt64))) + ((nI S.1.2.2.2.1).toInt64))) + ((nI S.1.2.2.2.2.1).toInt64))), .long 31]) (c2 := 0) (s2 := 0) F (K_sales l G lq S  hS9 ) hC gL_seen_X3_sales rfl rfl rfl rfl (by decide +kernel) rfl ⟨Nat.le_of_ble_eq_true rfl, Nat.le_of_ble_eq_true rfl⟩ hP hD hS rfl hl.1 (Nat.le_of_ble_eq_true rfl) dL_seen_43 ⟨Nat.le_of_ble_eq_true rfl, Nat.le_of_ble_eq_true rfl⟩ ⟨Nat.le_of_ble_eq_true rfl, Nat.le_of_ble_eq_true rfl⟩ (fun u43 H locs hC hP hD hS => ?_)
  refine lv_i2l (v := (nI S.1.2.2.2.2.2.1).toInt64) hx hb dL_seen_46 rfl ?_
  refine lv_ladd hx hb dL_seen_47 ?_
  refine lv_lmul hx hb dL_seen_48 ?_
  refine lv_aload_n hx hb dL_seen_49 rfl (lv_at hl 1 rfl) ?_
  refine lqV (own := RL) (index := 140) (bytes := cX3_floods) (n := 0) (As := []) (rest := [.long (31 * ((31 * ((31 * ((31 * ((31 * 107) + ((nI (cnt S.1.1)).toInt64))) + ((nI S.1.2.2.2.1).toInt64))) + ((nI S.1.2.2.2.2.1).toInt64))) + ((nI S.1.2.2.2.2.2.1).toInt64)))]) (c2 := 0) (s2 := 0) F (K_floods l G lq S  hS9 ) hC gL_seen_X3_floods rfl rfl rfl rfl (by decide +kernel) rfl ⟨Nat.le_of_ble_eq_true rfl, Nat.le_of_ble_eq_true rfl⟩ hP hD hS rfl hl.1 (Nat.le_of_ble_eq_true rfl) dL_seen_50 ⟨Nat.le_of_ble_eq_true rfl, Nat.le_of_ble_eq_true rfl⟩ ⟨Nat.le_of_ble_eq_true rfl, Nat.le_of_ble_eq_true rfl⟩ (fun u50 H locs hC hP hD hS => ?_)
  refine lv_i2l (v := (nI S.1.2.2.2.2.2.2.1).toInt64) hx hb dL_seen_53 rfl ?_
  refine lv_ladd hx hb dL_seen_54 ?_
  refine W.eq (g2 := F0 m 55 ls [.long (sn0 S.1)]) (congrArg (fun v_ => F0 m 55 ls [v_]) (show (.long ((31 * ((31 * ((31 * ((31 * ((31 * 107) + ((nI (cnt S.1.1)).toInt64))) + ((nI S.1.2.2.2.1).toInt64))) + ((nI S.1.2.2.2.2.1).toInt64))) + ((nI S.1.2.2.2.2.2.1).toInt64))) + ((nI S.1.2.2.2.2.2.2.1).toInt64)) : Value) = .long (sn0 S.1) from rfl)) ?_
  refine lv_lstore_n (lv' := [(1, .long (sn0 S.1)), (0, .ref lq)]) hx hb dL_seen_55 rfl hl (by decide) rfl (fun ls hl => ?_)
  refine lv_iconst (v := nI 0) hx hb dL_seen_56 (by decide) ?_
  refine lv_istore_n (lv' := [(3, .int (nI 0)), (1, .long (sn0 S.1)), (0, .ref lq)]) hx hb dL_seen_57 rfl hl (by decide) rfl (fun ls hl => ?_)
  have loop2 : ∀ (n k : Nat), k + n = 8 → ∀ (u : va_W) (H : Heap) (locs : List Loc) (ls : Array Slot), clS G lq u S → va_P G.1 vwCl (u ++ []) H → va_D A (u ++ []) → va_S A s.heap H locs → lv_has ls 4 [(3, .int (nI k)), (1, .long (sn2 S.1 k)), (0, .ref lq)] → W p l e ({ frames := 3, cells := 0, slots := 0, locals := 65 } : Room) s m args below meth c H locs 0 0 (MQ below (va_Ql (S := va_W) (fun r' u => r' = sn S.1 ∧ clS G lq u S) (gB G A (fun u => u)) A) args s 0 0 A) (F0 m 111 ls []) := by
    intro n
    induction n with
    | zero =>
      intro k hk u H locs ls hC hP hD hSv hl
      obtain rfl : k = 8 := by omega
      have hS := hSv
      refine lv_iload_n hx hb dL_seen_111 rfl (lv_at hl 0 rfl) ?_
      refine lv_bipush (v := nI 8) hx hb dL_seen_112 (by decide) ?_
      refine bIT_ge (tgt := 147) hx hb dL_seen_114 (by decide) (by decide) ?_
      refine lv_ldc2 (own := RL) (v := 31) hx hb hown (hts (.constantLong RL 126 (31)) (by decide +kernel)) dL_seen_147 ?_
      refine lv_lload_n hx hb dL_seen_150 rfl (lv_at hl 1 rfl) ?_
      refine lv_lmul hx hb dL_seen_151 ?_
      refine lv_aload_n hx hb dL_seen_152 rfl (lv_at hl 2 rfl) ?_
      refine lqV (own := RL) (index := 143) (bytes := cX3_plotsLost) (n := 0) (As := []) (rest := [.long (31 * (sn2 S.1 8))]) (c2 := 0) (s2 := 0) F (K_plotsLost l G lq S  hS9 ) hC gL_seen_X3_plotsLost rfl rfl rfl rfl (by decide +kernel) rfl ⟨Nat.le_of_ble_eq_true rfl, Nat.le_of_ble_eq_true rfl⟩ hP hD hS rfl hl.1 (Nat.le_of_ble_eq_true rfl) dL_seen_153 ⟨Nat.le_of_ble_eq_true rfl, Nat.le_of_ble_eq_true rfl⟩ ⟨Nat.le_of_ble_eq_true rfl, Nat.le_of_ble_eq_true rfl⟩ (fun u153 H locs hC hP hD hS => ?_)
      refine lv_i2l (v := (nI S.1.2.2.2.2.2.2.2).toInt64) hx hb dL_seen_156 rfl ?_
      refine lv_ladd hx hb dL_seen_157 ?_
      exact gRl F dL_seen_158 u153 ⟨rfl, hC⟩ (gPl hP) (gDl hD) hS (Nat.le_of_ble_eq_true rfl) (Nat.le_of_ble_eq_true rfl)
    | succ n ih =>
      intro k hk u H locs ls hC hP hD hSv hl
      have hS := hSv
      refine lv_iload_n hx hb dL_seen_111 rfl (lv_at hl 0 rfl) ?_
      refine lv_bipush (v := nI 8) hx hb dL_seen_112 (by decide) ?_
      refine bIF_ge (tgt := 147) hx hb dL_seen_114 (by decide) (fun h => absurd ((nI_leI (by omega) (by omega)).mp h) (by omega)) ?_
      refine lv_ldc2 (own := RL) (v := 31) hx hb hown (hts (.constantLong RL 126 (31)) (by decide +kernel)) dL_seen_117 ?_
      refine lv_ldc2 (own := RL) (v := 31) hx hb hown (hts (.constantLong RL 126 (31)) (by decide +kernel)) dL_seen_120 ?_
      refine lv_lload_n hx hb dL_seen_123 rfl (lv_at hl 1 rfl) ?_
      refine lv_lmul hx hb dL_seen_124 ?_
      refine lv_aload_n hx hb dL_seen_125 rfl (lv_at hl 2 rfl) ?_
      refine lv_iload_n hx hb dL_seen_126 rfl (lv_at hl 0 rfl) ?_
      refine lqV (own := RL) (index := 112) (bytes := cX3_coinsOf) (n := 1) (As := [.int (nI k)]) (rest := [.long (31 * (sn2 S.1 k)), .long 31]) (c2 := 0) (s2 := 0) F (K_coinsOf l G lq S k hS9 (by omega)) hC gL_seen_X3_coinsOf rfl rfl rfl rfl (by decide +kernel) rfl ⟨Nat.le_of_ble_eq_true rfl, Nat.le_of_ble_eq_true rfl⟩ hP hD hS rfl hl.1 (Nat.le_of_ble_eq_true rfl) dL_seen_127 ⟨Nat.le_of_ble_eq_true rfl, Nat.le_of_ble_eq_true rfl⟩ ⟨Nat.le_of_ble_eq_true rfl, Nat.le_of_ble_eq_true rfl⟩ (fun u127 H locs hC hP hD hS => ?_)
      refine lv_i2l (v := (nI (S.1.2.2.1 k)).toInt64) hx hb dL_seen_130 rfl ?_
      refine lv_ladd hx hb dL_seen_131 ?_
      refine lv_lmul hx hb dL_seen_132 ?_
      refine lv_aload_n hx hb dL_seen_133 rfl (lv_at hl 2 rfl) ?_
      refine lv_iload_n hx hb dL_seen_134 rfl (lv_at hl 0 rfl) ?_
      refine lqV (own := RL) (index := 88) (bytes := cX3_plotsOf) (n := 1) (As := [.int (nI k)]) (rest := [.long (31 * ((31 * (sn2 S.1 k)) + ((nI (S.1.2.2.1 k)).toInt64)))]) (c2 := 0) (s2 := 0) F (K_plotsOf l G lq S k hS9 (by omega)) hC gL_seen_X3_plotsOf rfl rfl rfl rfl (by decide +kernel) rfl ⟨Nat.le_of_ble_eq_true rfl, Nat.le_of_ble_eq_true rfl⟩ hP hD hS rfl hl.1 (Nat.le_of_ble_eq_true rfl) dL_seen_135 ⟨Nat.le_of_ble_eq_true rfl, Nat.le_of_ble_eq_true rfl⟩ ⟨Nat.le_of_ble_eq_true rfl, Nat.le_of_ble_eq_true rfl⟩ (fun u135 H locs hC hP hD hS => ?_)
      refine lv_i2l (v := (nI (sCnt (svO S.1.1) k (cnt S.1.1))).toInt64) hx hb dL_seen_138 rfl ?_
      refine lv_ladd hx hb dL_seen_139 ?_
      refine W.eq (g2 := F0 m 140 ls [.long (sn2 S.1 (k + 1))]) (congrArg (fun v_ => F0 m 140 ls [v_]) (show (.long ((31 * ((31 * (sn2 S.1 k)) + ((nI (S.1.2.2.1 k)).toInt64))) + ((nI (sCnt (svO S.1.1) k (cnt S.1.1))).toInt64)) : Value) = .long (sn2 S.1 (k + 1)) from rfl)) ?_
      refine lv_lstore_n (lv' := [(1, .long (sn2 S.1 (k + 1))), (3, .int (nI k)), (0, .ref lq)]) hx hb dL_seen_140 rfl hl (by decide) rfl (fun ls hl => ?_)
      refine lv_iinc (v := nI (k + 1)) (lv' := [(3, .int (nI (k + 1))), (1, .long (sn2 S.1 (k + 1))), (0, .ref lq)]) hx hb dL_seen_141 hl (k := 1) rfl (gInc_p _ rfl) (by decide) rfl (fun ls hl => ?_)
      refine lv_goto (tgt := 111) hx hb dL_seen_144 (by decide) ?_
      exact ih (k + 1) (by omega) u135 H locs ls hC hP hD hS (lv_sub hl [0, 1, 2] rfl)
  have loop1 : ∀ (n k : Nat), k + n = 256 → ∀ (u : va_W) (H : Heap) (locs : List Loc) (ls : Array Slot), clS G lq u S → va_P G.1 vwCl (u ++ []) H → va_D A (u ++ []) → va_S A s.heap H locs → lv_has ls 4 [(3, .int (nI k)), (1, .long (sn1 S.1 k)), (0, .ref lq)] → W p l e ({ frames := 3, cells := 0, slots := 0, locals := 65 } : Room) s m args below meth c H locs 0 0 (MQ below (va_Ql (S := va_W) (fun r' u => r' = sn S.1 ∧ clS G lq u S) (gB G A (fun u => u)) A) args s 0 0 A) (F0 m 58 ls []) := by
    intro n
    induction n with
    | zero =>
      intro k hk u H locs ls hC hP hD hSv hl
      obtain rfl : k = 256 := by omega
      have hS := hSv
      refine lv_iload_n hx hb dL_seen_58 rfl (lv_at hl 0 rfl) ?_
      refine lv_sipush (v := nI 256) hx hb dL_seen_59 (by decide) ?_
      refine bIT_ge (tgt := 109) hx hb dL_seen_62 (by decide) (by decide) ?_
      refine lv_iconst (v := nI 0) hx hb dL_seen_109 (by decide) ?_
      refine lv_istore_n (lv' := [(3, .int (nI 0)), (1, .long (sn1 S.1 256)), (0, .ref lq)]) hx hb dL_seen_110 rfl hl (by decide) rfl (fun ls hl => ?_)
      exact loop2 8 0 rfl u H locs ls hC hP hD hS (lv_sub hl [0, 1, 2] rfl)
    | succ n ih =>
      intro k hk u H locs ls hC hP hD hSv hl
      have hS := hSv
      refine lv_iload_n hx hb dL_seen_58 rfl (lv_at hl 0 rfl) ?_
      refine lv_sipush (v := nI 256) hx hb dL_seen_59 (by decide) ?_
      refine bIF_ge (tgt := 109) hx hb dL_seen_62 (by decide) (fun h => absurd ((nI_leI (by omega) (by omega)).mp h) (by omega)) ?_
      refine lv_ldc2 (own := RL) (v := 31) hx hb hown (hts (.constantLong RL 126 (31)) (by decide +kernel)) dL_seen_65 ?_
      refine lv_ldc2 (own := RL) (v := 31) hx hb hown (hts (.constantLong RL 126 (31)) (by decide +kernel)) dL_seen_68 ?_
      refine lv_lload_n hx hb dL_seen_71 rfl (lv_at hl 1 rfl) ?_
      refine lv_lmul hx hb dL_seen_72 ?_
      refine lv_aload_n hx hb dL_seen_73 rfl (lv_at hl 2 rfl) ?_
      refine lv_iload_n hx hb dL_seen_74 rfl (lv_at hl 0 rfl) ?_
      refine lv_bipush (v := nI 16) hx hb dL_seen_75 (by decide) ?_
      refine gIrem (a := k) (b := 16) hx hb dL_seen_77 (by omega) (by omega) (by omega) ?_
      refine lv_iload_n hx hb dL_seen_78 rfl (lv_at hl 0 rfl) ?_
      refine lv_bipush (v := nI 16) hx hb dL_seen_79 (by decide) ?_
      refine gIdiv (a := k) (b := 16) hx hb dL_seen_81 (by omega) (by omega) (by omega) ?_
      refine lqV (own := RL) (index := 72) (bytes := cX3_ownerAt) (n := 2) (As := [.int (nI (k % 16)), .int (nI (k / 16))]) (rest := [.long (31 * (sn1 S.1 k)), .long 31]) (c2 := 0) (s2 := 0) F (K_ownerAt l G lq S (k % 16) (k / 16) hS9 (by omega) (by omega)) hC gL_seen_X3_ownerAt rfl rfl rfl rfl (by decide +kernel) rfl ⟨Nat.le_of_ble_eq_true rfl, Nat.le_of_ble_eq_true rfl⟩ hP hD hS rfl hl.1 (Nat.le_of_ble_eq_true rfl) dL_seen_82 ⟨Nat.le_of_ble_eq_true rfl, Nat.le_of_ble_eq_true rfl⟩ ⟨Nat.le_of_ble_eq_true rfl, Nat.le_of_ble_eq_true rfl⟩ (fun u82 H locs hC hP hD hS => ?_)
      refine lv_i2l (v := (nI (S.1.1 (k / 16 * 16 + k % 16))).toInt64) hx hb dL_seen_85 rfl ?_
      refine lv_ladd hx hb dL_seen_86 ?_
      refine lv_lmul hx hb dL_seen_87 ?_
      refine lv_aload_n hx hb dL_seen_88 rfl (lv_at hl 2 rfl) ?_
      refine lv_iload_n hx hb dL_seen_89 rfl (lv_at hl 0 rfl) ?_
      refine lv_bipush (v := nI 16) hx hb dL_seen_90 (by decide) ?_
      refine gIrem (a := k) (b := 16) hx hb dL_seen_92 (by omega) (by omega) (by omega) ?_
      refine lv_iload_n hx hb dL_seen_93 rfl (lv_at hl 0 rfl) ?_
      refine lv_bipush (v := nI 16) hx hb dL_seen_94 (by decide) ?_
      refine gIdiv (a := k) (b := 16) hx hb dL_seen_96 (by omega) (by omega) (by omega) ?_
      refine lqV (own := RL) (index := 76) (bytes := cX3_heightAt) (n := 2) (As := [.int (nI (k % 16)), .int (nI (k / 16))]) (rest := [.long (31 * ((31 * (sn1 S.1 k)) + ((nI (S.1.1 (k / 16 * 16 + k % 16))).toInt64)))]) (c2 := 0) (s2 := 0) F (K_heightAt l G lq S (k % 16) (k / 16) hS9 (by omega) (by omega)) hC gL_seen_X3_heightAt rfl rfl rfl rfl (by decide +kernel) rfl ⟨Nat.le_of_ble_eq_true rfl, Nat.le_of_ble_eq_true rfl⟩ hP hD hS rfl hl.1 (Nat.le_of_ble_eq_true rfl) dL_seen_97 ⟨Nat.le_of_ble_eq_true rfl, Nat.le_of_ble_eq_true rfl⟩ ⟨Nat.le_of_ble_eq_true rfl, Nat.le_of_ble_eq_true rfl⟩ (fun u97 H locs hC hP hD hS => ?_)
      refine lv_i2l (v := (nI (S.1.2.1 (k / 16 * 16 + k % 16))).toInt64) hx hb dL_seen_100 rfl ?_
      refine lv_ladd hx hb dL_seen_101 ?_
      refine W.eq (g2 := F0 m 102 ls [.long (sn1 S.1 (k + 1))]) (congrArg (fun v_ => F0 m 102 ls [v_]) (show (.long ((31 * ((31 * (sn1 S.1 k)) + ((nI (S.1.1 (k / 16 * 16 + k % 16))).toInt64))) + ((nI (S.1.2.1 (k / 16 * 16 + k % 16))).toInt64)) : Value) = .long (sn1 S.1 (k + 1)) from rfl)) ?_
      refine lv_lstore_n (lv' := [(1, .long (sn1 S.1 (k + 1))), (3, .int (nI k)), (0, .ref lq)]) hx hb dL_seen_102 rfl hl (by decide) rfl (fun ls hl => ?_)
      refine lv_iinc (v := nI (k + 1)) (lv' := [(3, .int (nI (k + 1))), (1, .long (sn1 S.1 (k + 1))), (0, .ref lq)]) hx hb dL_seen_103 hl (k := 1) rfl (gInc_p _ rfl) (by decide) rfl (fun ls hl => ?_)
      refine lv_goto (tgt := 58) hx hb dL_seen_106 (by decide) ?_
      exact ih (k + 1) (by omega) u97 H locs ls hC hP hD hS (lv_sub hl [0, 1, 2] rfl)
  exact loop1 256 0 rfl u50 H locs ls hC hP hD hS (lv_sub hl [0, 1, 2] rfl)
