/-! OWN: the law's cell and owned -/
set_option maxHeartbeats 4000000 in
set_option maxRecDepth 100000 in
theorem cella_12 (l : Launch) (G : gG) (lq : Nat) (S S' : SpT) (a b : Int32) {rm : Room} {mc ms : Nat} {v : Int32} (hb1 : bnd 7 160 rm mc ms) (hM : LQ l G lq yX3_ownerAt wsX3_ownerAt rm [.int a, .int b] S v S' mc ms) : LW l G lq yL_cell wsL_cell { frames := 8, cells := mc, slots := ms, locals := 190 } [.int (nI 12), .int a, .int b] S v S' mc ms := by
  intro wv hC
  refine gMetP_mk (cc := cL_cell) (nL := 4) (ret := some .int) (Qc := fun A => va_Qi (S := va_W) (fun r' u => r' = v ∧ clS G lq u S') (gB G A (fun u => u)) A) (by decide) rfl (Nat.le_of_ble_eq_true rfl) ?_
  intro p e s m args below meth c A F hZ ls hl hP hD hS
  have hx := F.1
  have hb := F.2.1
  have hts := F.2.2.2.2.2.2.1
  have hKK := F.2.2.2.2.2.2.2.2.1
  have hl : lv_has ls 4 [(0, .ref lq), (1, .int (nI 12)), (2, .int a), (3, .int b)] := hl
  have hP : va_P G.1 vwCl (wv ++ []) s.heap := by rw [List.append_nil]; exact hP
  have hD : va_D A (wv ++ []) := by rw [List.append_nil]; exact hD
  generalize hH : s.heap = H at hP ⊢
  have hS0 : va_S A s.heap H [] := by rw [← hH]; exact va_S.rf
  clear hS
  have hS := hS0
  clear hS0
  generalize hLo : ([] : List Loc) = locs at hS ⊢
  refine lv_iload_n hx hb dL_cell_0 rfl (lv_at hl 1 rfl) ?_
  refine lv_bipush (v := nI 12) hx hb dL_cell_1 (by decide) ?_
  refine bIF_ne (tgt := 15) hx hb dL_cell_3 (by decide) (by decide) ?_
  refine lv_aload_n hx hb dL_cell_6 rfl (lv_at hl 0 rfl) ?_
  refine lv_iload_n hx hb dL_cell_7 rfl (lv_at hl 2 rfl) ?_
  refine lv_iload_n hx hb dL_cell_8 rfl (lv_at hl 3 rfl) ?_
  refine lqV (own := RL) (index := 72) (bytes := cX3_ownerAt) (n := 2) (As := [.int a, .int b]) (rest := []) (c2 := mc) (s2 := ms) F hM hC gL_cell_X3_ownerAt rfl rfl hb1.1 hb1.2.1 (by decide +kernel) rfl ⟨by have h9 := hb1.2.2.2.2.1; show rm.frames + 1 ≤ 8; omega, by have h9 := hb1.2.2.2.2.2; show 8 + (3 + 11) + rm.locals ≤ 190; omega⟩ hP hD hS rfl hl.1 (Nat.le_of_ble_eq_true rfl) dL_cell_9 ⟨by omega, by omega⟩ ⟨Nat.le_refl _, Nat.le_refl _⟩ (fun u H locs hC hP hD hS => ?_)
  refine lv_goto (tgt := 66) hx hb dL_cell_12 (by decide) ?_
  exact gRi F dL_cell_66 rfl u ⟨rfl, hC⟩ (gPl hP) (gDl hD) hS (Nat.le_refl _) (Nat.le_refl _)
set_option maxHeartbeats 4000000 in
set_option maxRecDepth 100000 in
theorem cellx_12 (l : Launch) (G : gG) (lq : Nat) (S : SpT) (a b : Int32) {E : String} {rm : Room} {mc ms : Nat} (hb1 : bnd 7 160 rm mc ms) (hM : LX l G lq yX3_ownerAt wsX3_ownerAt rm [.int a, .int b] E S mc ms) : LX l G lq yL_cell wsL_cell { frames := 8, cells := mc, slots := ms, locals := 190 } [.int (nI 12), .int a, .int b] E S mc ms := by
  intro wv hC
  refine gMetX_mk (cc := cL_cell) (nL := 4) (ret := some .int) (XC := fun A => gXC (S := va_W) G A E (fun u => clS G lq u S) (fun u => u)) (by decide) rfl (Nat.le_of_ble_eq_true rfl) ?_
  intro p e s m args below meth c A F htb hZ ls hl hP hD hS
  have hx := F.1
  have hb := F.2.1
  have hts := F.2.2.2.2.2.2.1
  have hKK := F.2.2.2.2.2.2.2.2.1
  have hl : lv_has ls 4 [(0, .ref lq), (1, .int (nI 12)), (2, .int a), (3, .int b)] := hl
  have hP : va_P G.1 vwCl (wv ++ []) s.heap := by rw [List.append_nil]; exact hP
  have hD : va_D A (wv ++ []) := by rw [List.append_nil]; exact hD
  generalize hH : s.heap = H at hP ⊢
  have hS0 : va_S A s.heap H [] := by rw [← hH]; exact va_S.rf
  clear hS
  have hS := hS0
  clear hS0
  generalize hLo : ([] : List Loc) = locs at hS ⊢
  refine lv_iload_n hx hb dL_cell_0 rfl (lv_at hl 1 rfl) ?_
  refine lv_bipush (v := nI 12) hx hb dL_cell_1 (by decide) ?_
  refine bIF_ne (tgt := 15) hx hb dL_cell_3 (by decide) (by decide) ?_
  refine lv_aload_n hx hb dL_cell_6 rfl (lv_at hl 0 rfl) ?_
  refine lv_iload_n hx hb dL_cell_7 rfl (lv_at hl 2 rfl) ?_
  refine lv_iload_n hx hb dL_cell_8 rfl (lv_at hl 3 rfl) ?_
  obtain ⟨fs, h0⟩ := cl_recv hC
  exact gCx F htb (gRunVx (own := RL) (C := RX3) (ci := 3) (bytes := cX3_ownerAt) (n := 2) (As := [.int a, .int b]) (rest := []) F hZ hS (hM wv hC H.size) gL_cell_X3_ownerAt rfl rfl hb1.1 hb1.2.1 (by decide +kernel) rfl ⟨by have h9 := hb1.2.2.2.2.1; show rm.frames + 1 ≤ 8; omega, by have h9 := hb1.2.2.2.2.2; show 8 + (3 + 11) + rm.locals ≤ 190; omega⟩ hP hD (lit := wv) (wt := []) (wc := wv) (isC := List.range wv.length) (gRange wv) (gRange_nd _) rfl h0 rfl hl.1 (Nat.le_of_ble_eq_true rfl) dL_cell_9 ⟨by show 0 + mc ≤ mc; omega, by show 0 + ms ≤ ms; omega⟩) hP hD hS (lit := wv) (wt := []) (wc := wv) (isC := List.range wv.length) (wr := []) (isR := []) (gRange wv) rfl rfl (fun _ h_ => by cases h_) (by omega) (by omega) (fun u H hp hP hD => ⟨u, hp, gPl hP, gDl hD⟩)
theorem cell_12 (l : Launch) (G : gG) (lq : Nat) (S S' : SpT) (a b : Int32) (r : Int) (h : DoV l G lq yX3_ownerAt wsX3_ownerAt [.int a, .int b] S r S') : DoS l G lq yL_cell wsL_cell [.int (nI 12), .int a, .int b] S r S' := by
  rcases h with ⟨rm, mc, ms, hb1, hM⟩ | ⟨E, rm, mc, ms, hb1, rfl, hE, hM⟩
  · exact Or.inl ⟨_, mc, ms, ⟨rfl, rfl, hb1.2.2.1, hb1.2.2.2.1, Nat.le_refl _, Nat.le_refl _⟩, cella_12 l G lq S S' a b hb1 hM⟩
  · exact Or.inr ⟨E, _, mc, ms, ⟨rfl, rfl, hb1.2.2.1, hb1.2.2.2.1, Nat.le_refl _, Nat.le_refl _⟩, rfl, hE, cellx_12 l G lq _ a b hb1 hM⟩

set_option maxHeartbeats 4000000 in
set_option maxRecDepth 100000 in
theorem cella_13 (l : Launch) (G : gG) (lq : Nat) (S S' : SpT) (a b : Int32) {rm : Room} {mc ms : Nat} {v : Int32} (hb1 : bnd 7 160 rm mc ms) (hM : LQ l G lq yX3_heightAt wsX3_heightAt rm [.int a, .int b] S v S' mc ms) : LW l G lq yL_cell wsL_cell { frames := 8, cells := mc, slots := ms, locals := 190 } [.int (nI 13), .int a, .int b] S v S' mc ms := by
  intro wv hC
  refine gMetP_mk (cc := cL_cell) (nL := 4) (ret := some .int) (Qc := fun A => va_Qi (S := va_W) (fun r' u => r' = v ∧ clS G lq u S') (gB G A (fun u => u)) A) (by decide) rfl (Nat.le_of_ble_eq_true rfl) ?_
  intro p e s m args below meth c A F hZ ls hl hP hD hS
  have hx := F.1
  have hb := F.2.1
  have hts := F.2.2.2.2.2.2.1
  have hKK := F.2.2.2.2.2.2.2.2.1
  have hl : lv_has ls 4 [(0, .ref lq), (1, .int (nI 13)), (2, .int a), (3, .int b)] := hl
  have hP : va_P G.1 vwCl (wv ++ []) s.heap := by rw [List.append_nil]; exact hP
  have hD : va_D A (wv ++ []) := by rw [List.append_nil]; exact hD
  generalize hH : s.heap = H at hP ⊢
  have hS0 : va_S A s.heap H [] := by rw [← hH]; exact va_S.rf
  clear hS
  have hS := hS0
  clear hS0
  generalize hLo : ([] : List Loc) = locs at hS ⊢
  refine lv_iload_n hx hb dL_cell_0 rfl (lv_at hl 1 rfl) ?_
  refine lv_bipush (v := nI 12) hx hb dL_cell_1 (by decide) ?_
  refine bIT_ne (tgt := 15) hx hb dL_cell_3 (by decide) (by decide) ?_
  refine lv_iload_n hx hb dL_cell_15 rfl (lv_at hl 1 rfl) ?_
  refine lv_bipush (v := nI 13) hx hb dL_cell_16 (by decide) ?_
  refine bIF_ne (tgt := 30) hx hb dL_cell_18 (by decide) (by decide) ?_
  refine lv_aload_n hx hb dL_cell_21 rfl (lv_at hl 0 rfl) ?_
  refine lv_iload_n hx hb dL_cell_22 rfl (lv_at hl 2 rfl) ?_
  refine lv_iload_n hx hb dL_cell_23 rfl (lv_at hl 3 rfl) ?_
  refine lqV (own := RL) (index := 76) (bytes := cX3_heightAt) (n := 2) (As := [.int a, .int b]) (rest := []) (c2 := mc) (s2 := ms) F hM hC gL_cell_X3_heightAt rfl rfl hb1.1 hb1.2.1 (by decide +kernel) rfl ⟨by have h9 := hb1.2.2.2.2.1; show rm.frames + 1 ≤ 8; omega, by have h9 := hb1.2.2.2.2.2; show 8 + (3 + 11) + rm.locals ≤ 190; omega⟩ hP hD hS rfl hl.1 (Nat.le_of_ble_eq_true rfl) dL_cell_24 ⟨by omega, by omega⟩ ⟨Nat.le_refl _, Nat.le_refl _⟩ (fun u H locs hC hP hD hS => ?_)
  refine lv_goto (tgt := 66) hx hb dL_cell_27 (by decide) ?_
  exact gRi F dL_cell_66 rfl u ⟨rfl, hC⟩ (gPl hP) (gDl hD) hS (Nat.le_refl _) (Nat.le_refl _)
set_option maxHeartbeats 4000000 in
set_option maxRecDepth 100000 in
theorem cellx_13 (l : Launch) (G : gG) (lq : Nat) (S : SpT) (a b : Int32) {E : String} {rm : Room} {mc ms : Nat} (hb1 : bnd 7 160 rm mc ms) (hM : LX l G lq yX3_heightAt wsX3_heightAt rm [.int a, .int b] E S mc ms) : LX l G lq yL_cell wsL_cell { frames := 8, cells := mc, slots := ms, locals := 190 } [.int (nI 13), .int a, .int b] E S mc ms := by
  intro wv hC
  refine gMetX_mk (cc := cL_cell) (nL := 4) (ret := some .int) (XC := fun A => gXC (S := va_W) G A E (fun u => clS G lq u S) (fun u => u)) (by decide) rfl (Nat.le_of_ble_eq_true rfl) ?_
  intro p e s m args below meth c A F htb hZ ls hl hP hD hS
  have hx := F.1
  have hb := F.2.1
  have hts := F.2.2.2.2.2.2.1
  have hKK := F.2.2.2.2.2.2.2.2.1
  have hl : lv_has ls 4 [(0, .ref lq), (1, .int (nI 13)), (2, .int a), (3, .int b)] := hl
  have hP : va_P G.1 vwCl (wv ++ []) s.heap := by rw [List.append_nil]; exact hP
  have hD : va_D A (wv ++ []) := by rw [List.append_nil]; exact hD
  generalize hH : s.heap = H at hP ⊢
  have hS0 : va_S A s.heap H [] := by rw [← hH]; exact va_S.rf
  clear hS
  have hS := hS0
  clear hS0
  generalize hLo : ([] : List Loc) = locs at hS ⊢
  refine lv_iload_n hx hb dL_cell_0 rfl (lv_at hl 1 rfl) ?_
  refine lv_bipush (v := nI 12) hx hb dL_cell_1 (by decide) ?_
  refine bIT_ne (tgt := 15) hx hb dL_cell_3 (by decide) (by decide) ?_
  refine lv_iload_n hx hb dL_cell_15 rfl (lv_at hl 1 rfl) ?_
  refine lv_bipush (v := nI 13) hx hb dL_cell_16 (by decide) ?_
  refine bIF_ne (tgt := 30) hx hb dL_cell_18 (by decide) (by decide) ?_
  refine lv_aload_n hx hb dL_cell_21 rfl (lv_at hl 0 rfl) ?_
  refine lv_iload_n hx hb dL_cell_22 rfl (lv_at hl 2 rfl) ?_
  refine lv_iload_n hx hb dL_cell_23 rfl (lv_at hl 3 rfl) ?_
  obtain ⟨fs, h0⟩ := cl_recv hC
  exact gCx F htb (gRunVx (own := RL) (C := RX3) (ci := 3) (bytes := cX3_heightAt) (n := 2) (As := [.int a, .int b]) (rest := []) F hZ hS (hM wv hC H.size) gL_cell_X3_heightAt rfl rfl hb1.1 hb1.2.1 (by decide +kernel) rfl ⟨by have h9 := hb1.2.2.2.2.1; show rm.frames + 1 ≤ 8; omega, by have h9 := hb1.2.2.2.2.2; show 8 + (3 + 11) + rm.locals ≤ 190; omega⟩ hP hD (lit := wv) (wt := []) (wc := wv) (isC := List.range wv.length) (gRange wv) (gRange_nd _) rfl h0 rfl hl.1 (Nat.le_of_ble_eq_true rfl) dL_cell_24 ⟨by show 0 + mc ≤ mc; omega, by show 0 + ms ≤ ms; omega⟩) hP hD hS (lit := wv) (wt := []) (wc := wv) (isC := List.range wv.length) (wr := []) (isR := []) (gRange wv) rfl rfl (fun _ h_ => by cases h_) (by omega) (by omega) (fun u H hp hP hD => ⟨u, hp, gPl hP, gDl hD⟩)
theorem cell_13 (l : Launch) (G : gG) (lq : Nat) (S S' : SpT) (a b : Int32) (r : Int) (h : DoV l G lq yX3_heightAt wsX3_heightAt [.int a, .int b] S r S') : DoS l G lq yL_cell wsL_cell [.int (nI 13), .int a, .int b] S r S' := by
  rcases h with ⟨rm, mc, ms, hb1, hM⟩ | ⟨E, rm, mc, ms, hb1, rfl, hE, hM⟩
  · exact Or.inl ⟨_, mc, ms, ⟨rfl, rfl, hb1.2.2.1, hb1.2.2.2.1, Nat.le_refl _, Nat.le_refl _⟩, cella_13 l G lq S S' a b hb1 hM⟩
  · exact Or.inr ⟨E, _, mc, ms, ⟨rfl, rfl, hb1.2.2.1, hb1.2.2.2.1, Nat.le_refl _, Nat.le_refl _⟩, rfl, hE, cellx_13 l G lq _ a b hb1 hM⟩

set_option maxHeartbeats 4000000 in
set_option maxRecDepth 100000 in
theorem cella_14 (l : Launch) (G : gG) (lq : Nat) (S S' : SpT) (a b : Int32) {rm : Room} {mc ms : Nat} {v : Int32} (hb1 : bnd 7 160 rm mc ms) (hM : LQ l G lq yX3_plotSizeAt wsX3_plotSizeAt rm [.int a, .int b] S v S' mc ms) : LW l G lq yL_cell wsL_cell { frames := 8, cells := mc, slots := ms, locals := 190 } [.int (nI 14), .int a, .int b] S v S' mc ms := by
  intro wv hC
  refine gMetP_mk (cc := cL_cell) (nL := 4) (ret := some .int) (Qc := fun A => va_Qi (S := va_W) (fun r' u => r' = v ∧ clS G lq u S') (gB G A (fun u => u)) A) (by decide) rfl (Nat.le_of_ble_eq_true rfl) ?_
  intro p e s m args below meth c A F hZ ls hl hP hD hS
  have hx := F.1
  have hb := F.2.1
  have hts := F.2.2.2.2.2.2.1
  have hKK := F.2.2.2.2.2.2.2.2.1
  have hl : lv_has ls 4 [(0, .ref lq), (1, .int (nI 14)), (2, .int a), (3, .int b)] := hl
  have hP : va_P G.1 vwCl (wv ++ []) s.heap := by rw [List.append_nil]; exact hP
  have hD : va_D A (wv ++ []) := by rw [List.append_nil]; exact hD
  generalize hH : s.heap = H at hP ⊢
  have hS0 : va_S A s.heap H [] := by rw [← hH]; exact va_S.rf
  clear hS
  have hS := hS0
  clear hS0
  generalize hLo : ([] : List Loc) = locs at hS ⊢
  refine lv_iload_n hx hb dL_cell_0 rfl (lv_at hl 1 rfl) ?_
  refine lv_bipush (v := nI 12) hx hb dL_cell_1 (by decide) ?_
  refine bIT_ne (tgt := 15) hx hb dL_cell_3 (by decide) (by decide) ?_
  refine lv_iload_n hx hb dL_cell_15 rfl (lv_at hl 1 rfl) ?_
  refine lv_bipush (v := nI 13) hx hb dL_cell_16 (by decide) ?_
  refine bIT_ne (tgt := 30) hx hb dL_cell_18 (by decide) (by decide) ?_
  refine lv_iload_n hx hb dL_cell_30 rfl (lv_at hl 1 rfl) ?_
  refine lv_bipush (v := nI 14) hx hb dL_cell_31 (by decide) ?_
  refine bIF_ne (tgt := 45) hx hb dL_cell_33 (by decide) (by decide) ?_
  refine lv_aload_n hx hb dL_cell_36 rfl (lv_at hl 0 rfl) ?_
  refine lv_iload_n hx hb dL_cell_37 rfl (lv_at hl 2 rfl) ?_
  refine lv_iload_n hx hb dL_cell_38 rfl (lv_at hl 3 rfl) ?_
  refine lqV (own := RL) (index := 79) (bytes := cX3_plotSizeAt) (n := 2) (As := [.int a, .int b]) (rest := []) (c2 := mc) (s2 := ms) F hM hC gL_cell_X3_plotSizeAt rfl rfl hb1.1 hb1.2.1 (by decide +kernel) rfl ⟨by have h9 := hb1.2.2.2.2.1; show rm.frames + 1 ≤ 8; omega, by have h9 := hb1.2.2.2.2.2; show 8 + (3 + 11) + rm.locals ≤ 190; omega⟩ hP hD hS rfl hl.1 (Nat.le_of_ble_eq_true rfl) dL_cell_39 ⟨by omega, by omega⟩ ⟨Nat.le_refl _, Nat.le_refl _⟩ (fun u H locs hC hP hD hS => ?_)
  refine lv_goto (tgt := 66) hx hb dL_cell_42 (by decide) ?_
  exact gRi F dL_cell_66 rfl u ⟨rfl, hC⟩ (gPl hP) (gDl hD) hS (Nat.le_refl _) (Nat.le_refl _)
set_option maxHeartbeats 4000000 in
set_option maxRecDepth 100000 in
theorem cellx_14 (l : Launch) (G : gG) (lq : Nat) (S : SpT) (a b : Int32) {E : String} {rm : Room} {mc ms : Nat} (hb1 : bnd 7 160 rm mc ms) (hM : LX l G lq yX3_plotSizeAt wsX3_plotSizeAt rm [.int a, .int b] E S mc ms) : LX l G lq yL_cell wsL_cell { frames := 8, cells := mc, slots := ms, locals := 190 } [.int (nI 14), .int a, .int b] E S mc ms := by
  intro wv hC
  refine gMetX_mk (cc := cL_cell) (nL := 4) (ret := some .int) (XC := fun A => gXC (S := va_W) G A E (fun u => clS G lq u S) (fun u => u)) (by decide) rfl (Nat.le_of_ble_eq_true rfl) ?_
  intro p e s m args below meth c A F htb hZ ls hl hP hD hS
  have hx := F.1
  have hb := F.2.1
  have hts := F.2.2.2.2.2.2.1
  have hKK := F.2.2.2.2.2.2.2.2.1
  have hl : lv_has ls 4 [(0, .ref lq), (1, .int (nI 14)), (2, .int a), (3, .int b)] := hl
  have hP : va_P G.1 vwCl (wv ++ []) s.heap := by rw [List.append_nil]; exact hP
  have hD : va_D A (wv ++ []) := by rw [List.append_nil]; exact hD
  generalize hH : s.heap = H at hP ⊢
  have hS0 : va_S A s.heap H [] := by rw [← hH]; exact va_S.rf
  clear hS
  have hS := hS0
  clear hS0
  generalize hLo : ([] : List Loc) = locs at hS ⊢
  refine lv_iload_n hx hb dL_cell_0 rfl (lv_at hl 1 rfl) ?_
  refine lv_bipush (v := nI 12) hx hb dL_cell_1 (by decide) ?_
  refine bIT_ne (tgt := 15) hx hb dL_cell_3 (by decide) (by decide) ?_
  refine lv_iload_n hx hb dL_cell_15 rfl (lv_at hl 1 rfl) ?_
  refine lv_bipush (v := nI 13) hx hb dL_cell_16 (by decide) ?_
  refine bIT_ne (tgt := 30) hx hb dL_cell_18 (by decide) (by decide) ?_
  refine lv_iload_n hx hb dL_cell_30 rfl (lv_at hl 1 rfl) ?_
  refine lv_bipush (v := nI 14) hx hb dL_cell_31 (by decide) ?_
  refine bIF_ne (tgt := 45) hx hb dL_cell_33 (by decide) (by decide) ?_
  refine lv_aload_n hx hb dL_cell_36 rfl (lv_at hl 0 rfl) ?_
  refine lv_iload_n hx hb dL_cell_37 rfl (lv_at hl 2 rfl) ?_
  refine lv_iload_n hx hb dL_cell_38 rfl (lv_at hl 3 rfl) ?_
  obtain ⟨fs, h0⟩ := cl_recv hC
  exact gCx F htb (gRunVx (own := RL) (C := RX3) (ci := 3) (bytes := cX3_plotSizeAt) (n := 2) (As := [.int a, .int b]) (rest := []) F hZ hS (hM wv hC H.size) gL_cell_X3_plotSizeAt rfl rfl hb1.1 hb1.2.1 (by decide +kernel) rfl ⟨by have h9 := hb1.2.2.2.2.1; show rm.frames + 1 ≤ 8; omega, by have h9 := hb1.2.2.2.2.2; show 8 + (3 + 11) + rm.locals ≤ 190; omega⟩ hP hD (lit := wv) (wt := []) (wc := wv) (isC := List.range wv.length) (gRange wv) (gRange_nd _) rfl h0 rfl hl.1 (Nat.le_of_ble_eq_true rfl) dL_cell_39 ⟨by show 0 + mc ≤ mc; omega, by show 0 + ms ≤ ms; omega⟩) hP hD hS (lit := wv) (wt := []) (wc := wv) (isC := List.range wv.length) (wr := []) (isR := []) (gRange wv) rfl rfl (fun _ h_ => by cases h_) (by omega) (by omega) (fun u H hp hP hD => ⟨u, hp, gPl hP, gDl hD⟩)
theorem cell_14 (l : Launch) (G : gG) (lq : Nat) (S S' : SpT) (a b : Int32) (r : Int) (h : DoV l G lq yX3_plotSizeAt wsX3_plotSizeAt [.int a, .int b] S r S') : DoS l G lq yL_cell wsL_cell [.int (nI 14), .int a, .int b] S r S' := by
  rcases h with ⟨rm, mc, ms, hb1, hM⟩ | ⟨E, rm, mc, ms, hb1, rfl, hE, hM⟩
  · exact Or.inl ⟨_, mc, ms, ⟨rfl, rfl, hb1.2.2.1, hb1.2.2.2.1, Nat.le_refl _, Nat.le_refl _⟩, cella_14 l G lq S S' a b hb1 hM⟩
  · exact Or.inr ⟨E, _, mc, ms, ⟨rfl, rfl, hb1.2.2.1, hb1.2.2.2.1, Nat.le_refl _, Nat.le_refl _⟩, rfl, hE, cellx_14 l G lq _ a b hb1 hM⟩

set_option maxHeartbeats 4000000 in
set_option maxRecDepth 100000 in
theorem cella_15 (l : Launch) (G : gG) (lq : Nat) (S S' : SpT) (a b : Int32) {rm : Room} {mc ms : Nat} {v : Int32} (hb1 : bnd 7 160 rm mc ms) (hM : LQ l G lq yX3_plotRankAt wsX3_plotRankAt rm [.int a, .int b] S v S' mc ms) : LW l G lq yL_cell wsL_cell { frames := 8, cells := mc, slots := ms, locals := 190 } [.int (nI 15), .int a, .int b] S v S' mc ms := by
  intro wv hC
  refine gMetP_mk (cc := cL_cell) (nL := 4) (ret := some .int) (Qc := fun A => va_Qi (S := va_W) (fun r' u => r' = v ∧ clS G lq u S') (gB G A (fun u => u)) A) (by decide) rfl (Nat.le_of_ble_eq_true rfl) ?_
  intro p e s m args below meth c A F hZ ls hl hP hD hS
  have hx := F.1
  have hb := F.2.1
  have hts := F.2.2.2.2.2.2.1
  have hKK := F.2.2.2.2.2.2.2.2.1
  have hl : lv_has ls 4 [(0, .ref lq), (1, .int (nI 15)), (2, .int a), (3, .int b)] := hl
  have hP : va_P G.1 vwCl (wv ++ []) s.heap := by rw [List.append_nil]; exact hP
  have hD : va_D A (wv ++ []) := by rw [List.append_nil]; exact hD
  generalize hH : s.heap = H at hP ⊢
  have hS0 : va_S A s.heap H [] := by rw [← hH]; exact va_S.rf
  clear hS
  have hS := hS0
  clear hS0
  generalize hLo : ([] : List Loc) = locs at hS ⊢
  refine lv_iload_n hx hb dL_cell_0 rfl (lv_at hl 1 rfl) ?_
  refine lv_bipush (v := nI 12) hx hb dL_cell_1 (by decide) ?_
  refine bIT_ne (tgt := 15) hx hb dL_cell_3 (by decide) (by decide) ?_
  refine lv_iload_n hx hb dL_cell_15 rfl (lv_at hl 1 rfl) ?_
  refine lv_bipush (v := nI 13) hx hb dL_cell_16 (by decide) ?_
  refine bIT_ne (tgt := 30) hx hb dL_cell_18 (by decide) (by decide) ?_
  refine lv_iload_n hx hb dL_cell_30 rfl (lv_at hl 1 rfl) ?_
  refine lv_bipush (v := nI 14) hx hb dL_cell_31 (by decide) ?_
  refine bIT_ne (tgt := 45) hx hb dL_cell_33 (by decide) (by decide) ?_
  refine lv_iload_n hx hb dL_cell_45 rfl (lv_at hl 1 rfl) ?_
  refine lv_bipush (v := nI 15) hx hb dL_cell_46 (by decide) ?_
  refine bIF_ne (tgt := 60) hx hb dL_cell_48 (by decide) (by decide) ?_
  refine lv_aload_n hx hb dL_cell_51 rfl (lv_at hl 0 rfl) ?_
  refine lv_iload_n hx hb dL_cell_52 rfl (lv_at hl 2 rfl) ?_
  refine lv_iload_n hx hb dL_cell_53 rfl (lv_at hl 3 rfl) ?_
  refine lqV (own := RL) (index := 82) (bytes := cX3_plotRankAt) (n := 2) (As := [.int a, .int b]) (rest := []) (c2 := mc) (s2 := ms) F hM hC gL_cell_X3_plotRankAt rfl rfl hb1.1 hb1.2.1 (by decide +kernel) rfl ⟨by have h9 := hb1.2.2.2.2.1; show rm.frames + 1 ≤ 8; omega, by have h9 := hb1.2.2.2.2.2; show 8 + (3 + 11) + rm.locals ≤ 190; omega⟩ hP hD hS rfl hl.1 (Nat.le_of_ble_eq_true rfl) dL_cell_54 ⟨by omega, by omega⟩ ⟨Nat.le_refl _, Nat.le_refl _⟩ (fun u H locs hC hP hD hS => ?_)
  refine lv_goto (tgt := 66) hx hb dL_cell_57 (by decide) ?_
  exact gRi F dL_cell_66 rfl u ⟨rfl, hC⟩ (gPl hP) (gDl hD) hS (Nat.le_refl _) (Nat.le_refl _)
set_option maxHeartbeats 4000000 in
set_option maxRecDepth 100000 in
theorem cellx_15 (l : Launch) (G : gG) (lq : Nat) (S : SpT) (a b : Int32) {E : String} {rm : Room} {mc ms : Nat} (hb1 : bnd 7 160 rm mc ms) (hM : LX l G lq yX3_plotRankAt wsX3_plotRankAt rm [.int a, .int b] E S mc ms) : LX l G lq yL_cell wsL_cell { frames := 8, cells := mc, slots := ms, locals := 190 } [.int (nI 15), .int a, .int b] E S mc ms := by
  intro wv hC
  refine gMetX_mk (cc := cL_cell) (nL := 4) (ret := some .int) (XC := fun A => gXC (S := va_W) G A E (fun u => clS G lq u S) (fun u => u)) (by decide) rfl (Nat.le_of_ble_eq_true rfl) ?_
  intro p e s m args below meth c A F htb hZ ls hl hP hD hS
  have hx := F.1
  have hb := F.2.1
  have hts := F.2.2.2.2.2.2.1
  have hKK := F.2.2.2.2.2.2.2.2.1
  have hl : lv_has ls 4 [(0, .ref lq), (1, .int (nI 15)), (2, .int a), (3, .int b)] := hl
  have hP : va_P G.1 vwCl (wv ++ []) s.heap := by rw [List.append_nil]; exact hP
  have hD : va_D A (wv ++ []) := by rw [List.append_nil]; exact hD
  generalize hH : s.heap = H at hP ⊢
  have hS0 : va_S A s.heap H [] := by rw [← hH]; exact va_S.rf
  clear hS
  have hS := hS0
  clear hS0
  generalize hLo : ([] : List Loc) = locs at hS ⊢
  refine lv_iload_n hx hb dL_cell_0 rfl (lv_at hl 1 rfl) ?_
  refine lv_bipush (v := nI 12) hx hb dL_cell_1 (by decide) ?_
  refine bIT_ne (tgt := 15) hx hb dL_cell_3 (by decide) (by decide) ?_
  refine lv_iload_n hx hb dL_cell_15 rfl (lv_at hl 1 rfl) ?_
  refine lv_bipush (v := nI 13) hx hb dL_cell_16 (by decide) ?_
  refine bIT_ne (tgt := 30) hx hb dL_cell_18 (by decide) (by decide) ?_
  refine lv_iload_n hx hb dL_cell_30 rfl (lv_at hl 1 rfl) ?_
  refine lv_bipush (v := nI 14) hx hb dL_cell_31 (by decide) ?_
  refine bIT_ne (tgt := 45) hx hb dL_cell_33 (by decide) (by decide) ?_
  refine lv_iload_n hx hb dL_cell_45 rfl (lv_at hl 1 rfl) ?_
  refine lv_bipush (v := nI 15) hx hb dL_cell_46 (by decide) ?_
  refine bIF_ne (tgt := 60) hx hb dL_cell_48 (by decide) (by decide) ?_
  refine lv_aload_n hx hb dL_cell_51 rfl (lv_at hl 0 rfl) ?_
  refine lv_iload_n hx hb dL_cell_52 rfl (lv_at hl 2 rfl) ?_
  refine lv_iload_n hx hb dL_cell_53 rfl (lv_at hl 3 rfl) ?_
  obtain ⟨fs, h0⟩ := cl_recv hC
  exact gCx F htb (gRunVx (own := RL) (C := RX3) (ci := 3) (bytes := cX3_plotRankAt) (n := 2) (As := [.int a, .int b]) (rest := []) F hZ hS (hM wv hC H.size) gL_cell_X3_plotRankAt rfl rfl hb1.1 hb1.2.1 (by decide +kernel) rfl ⟨by have h9 := hb1.2.2.2.2.1; show rm.frames + 1 ≤ 8; omega, by have h9 := hb1.2.2.2.2.2; show 8 + (3 + 11) + rm.locals ≤ 190; omega⟩ hP hD (lit := wv) (wt := []) (wc := wv) (isC := List.range wv.length) (gRange wv) (gRange_nd _) rfl h0 rfl hl.1 (Nat.le_of_ble_eq_true rfl) dL_cell_54 ⟨by show 0 + mc ≤ mc; omega, by show 0 + ms ≤ ms; omega⟩) hP hD hS (lit := wv) (wt := []) (wc := wv) (isC := List.range wv.length) (wr := []) (isR := []) (gRange wv) rfl rfl (fun _ h_ => by cases h_) (by omega) (by omega) (fun u H hp hP hD => ⟨u, hp, gPl hP, gDl hD⟩)
theorem cell_15 (l : Launch) (G : gG) (lq : Nat) (S S' : SpT) (a b : Int32) (r : Int) (h : DoV l G lq yX3_plotRankAt wsX3_plotRankAt [.int a, .int b] S r S') : DoS l G lq yL_cell wsL_cell [.int (nI 15), .int a, .int b] S r S' := by
  rcases h with ⟨rm, mc, ms, hb1, hM⟩ | ⟨E, rm, mc, ms, hb1, rfl, hE, hM⟩
  · exact Or.inl ⟨_, mc, ms, ⟨rfl, rfl, hb1.2.2.1, hb1.2.2.2.1, Nat.le_refl _, Nat.le_refl _⟩, cella_15 l G lq S S' a b hb1 hM⟩
  · exact Or.inr ⟨E, _, mc, ms, ⟨rfl, rfl, hb1.2.2.1, hb1.2.2.2.1, Nat.le_refl _, Nat.le_refl _⟩, rfl, hE, cellx_15 l G lq _ a b hb1 hM⟩

set_option maxHeartbeats 4000000 in
set_option maxRecDepth 100000 in
theorem cella_16 (l : Launch) (G : gG) (lq : Nat) (S S' : SpT) (a b : Int32) {rm : Room} {mc ms : Nat} {v : Int32} (hb1 : bnd 7 160 rm mc ms) (hM : LQ l G lq yX3_plotPriceAt wsX3_plotPriceAt rm [.int a, .int b] S v S' mc ms) : LW l G lq yL_cell wsL_cell { frames := 8, cells := mc, slots := ms, locals := 190 } [.int (nI 16), .int a, .int b] S v S' mc ms := by
  intro wv hC
  refine gMetP_mk (cc := cL_cell) (nL := 4) (ret := some .int) (Qc := fun A => va_Qi (S := va_W) (fun r' u => r' = v ∧ clS G lq u S') (gB G A (fun u => u)) A) (by decide) rfl (Nat.le_of_ble_eq_true rfl) ?_
  intro p e s m args below meth c A F hZ ls hl hP hD hS
  have hx := F.1
  have hb := F.2.1
  have hts := F.2.2.2.2.2.2.1
  have hKK := F.2.2.2.2.2.2.2.2.1
  have hl : lv_has ls 4 [(0, .ref lq), (1, .int (nI 16)), (2, .int a), (3, .int b)] := hl
  have hP : va_P G.1 vwCl (wv ++ []) s.heap := by rw [List.append_nil]; exact hP
  have hD : va_D A (wv ++ []) := by rw [List.append_nil]; exact hD
  generalize hH : s.heap = H at hP ⊢
  have hS0 : va_S A s.heap H [] := by rw [← hH]; exact va_S.rf
  clear hS
  have hS := hS0
  clear hS0
  generalize hLo : ([] : List Loc) = locs at hS ⊢
  refine lv_iload_n hx hb dL_cell_0 rfl (lv_at hl 1 rfl) ?_
  refine lv_bipush (v := nI 12) hx hb dL_cell_1 (by decide) ?_
  refine bIT_ne (tgt := 15) hx hb dL_cell_3 (by decide) (by decide) ?_
  refine lv_iload_n hx hb dL_cell_15 rfl (lv_at hl 1 rfl) ?_
  refine lv_bipush (v := nI 13) hx hb dL_cell_16 (by decide) ?_
  refine bIT_ne (tgt := 30) hx hb dL_cell_18 (by decide) (by decide) ?_
  refine lv_iload_n hx hb dL_cell_30 rfl (lv_at hl 1 rfl) ?_
  refine lv_bipush (v := nI 14) hx hb dL_cell_31 (by decide) ?_
  refine bIT_ne (tgt := 45) hx hb dL_cell_33 (by decide) (by decide) ?_
  refine lv_iload_n hx hb dL_cell_45 rfl (lv_at hl 1 rfl) ?_
  refine lv_bipush (v := nI 15) hx hb dL_cell_46 (by decide) ?_
  refine bIT_ne (tgt := 60) hx hb dL_cell_48 (by decide) (by decide) ?_
  refine lv_aload_n hx hb dL_cell_60 rfl (lv_at hl 0 rfl) ?_
  refine lv_iload_n hx hb dL_cell_61 rfl (lv_at hl 2 rfl) ?_
  refine lv_iload_n hx hb dL_cell_62 rfl (lv_at hl 3 rfl) ?_
  refine lqV (own := RL) (index := 85) (bytes := cX3_plotPriceAt) (n := 2) (As := [.int a, .int b]) (rest := []) (c2 := mc) (s2 := ms) F hM hC gL_cell_X3_plotPriceAt rfl rfl hb1.1 hb1.2.1 (by decide +kernel) rfl ⟨by have h9 := hb1.2.2.2.2.1; show rm.frames + 1 ≤ 8; omega, by have h9 := hb1.2.2.2.2.2; show 8 + (3 + 11) + rm.locals ≤ 190; omega⟩ hP hD hS rfl hl.1 (Nat.le_of_ble_eq_true rfl) dL_cell_63 ⟨by omega, by omega⟩ ⟨Nat.le_refl _, Nat.le_refl _⟩ (fun u H locs hC hP hD hS => ?_)
  exact gRi F dL_cell_66 rfl u ⟨rfl, hC⟩ (gPl hP) (gDl hD) hS (Nat.le_refl _) (Nat.le_refl _)
set_option maxHeartbeats 4000000 in
set_option maxRecDepth 100000 in
theorem cellx_16 (l : Launch) (G : gG) (lq : Nat) (S : SpT) (a b : Int32) {E : String} {rm : Room} {mc ms : Nat} (hb1 : bnd 7 160 rm mc ms) (hM : LX l G lq yX3_plotPriceAt wsX3_plotPriceAt rm [.int a, .int b] E S mc ms) : LX l G lq yL_cell wsL_cell { frames := 8, cells := mc, slots := ms, locals := 190 } [.int (nI 16), .int a, .int b] E S mc ms := by
  intro wv hC
  refine gMetX_mk (cc := cL_cell) (nL := 4) (ret := some .int) (XC := fun A => gXC (S := va_W) G A E (fun u => clS G lq u S) (fun u => u)) (by decide) rfl (Nat.le_of_ble_eq_true rfl) ?_
  intro p e s m args below meth c A F htb hZ ls hl hP hD hS
  have hx := F.1
  have hb := F.2.1
  have hts := F.2.2.2.2.2.2.1
  have hKK := F.2.2.2.2.2.2.2.2.1
  have hl : lv_has ls 4 [(0, .ref lq), (1, .int (nI 16)), (2, .int a), (3, .int b)] := hl
  have hP : va_P G.1 vwCl (wv ++ []) s.heap := by rw [List.append_nil]; exact hP
  have hD : va_D A (wv ++ []) := by rw [List.append_nil]; exact hD
  generalize hH : s.heap = H at hP ⊢
  have hS0 : va_S A s.heap H [] := by rw [← hH]; exact va_S.rf
  clear hS
  have hS := hS0
  clear hS0
  generalize hLo : ([] : List Loc) = locs at hS ⊢
  refine lv_iload_n hx hb dL_cell_0 rfl (lv_at hl 1 rfl) ?_
  refine lv_bipush (v := nI 12) hx hb dL_cell_1 (by decide) ?_
  refine bIT_ne (tgt := 15) hx hb dL_cell_3 (by decide) (by decide) ?_
  refine lv_iload_n hx hb dL_cell_15 rfl (lv_at hl 1 rfl) ?_
  refine lv_bipush (v := nI 13) hx hb dL_cell_16 (by decide) ?_
  refine bIT_ne (tgt := 30) hx hb dL_cell_18 (by decide) (by decide) ?_
  refine lv_iload_n hx hb dL_cell_30 rfl (lv_at hl 1 rfl) ?_
  refine lv_bipush (v := nI 14) hx hb dL_cell_31 (by decide) ?_
  refine bIT_ne (tgt := 45) hx hb dL_cell_33 (by decide) (by decide) ?_
  refine lv_iload_n hx hb dL_cell_45 rfl (lv_at hl 1 rfl) ?_
  refine lv_bipush (v := nI 15) hx hb dL_cell_46 (by decide) ?_
  refine bIT_ne (tgt := 60) hx hb dL_cell_48 (by decide) (by decide) ?_
  refine lv_aload_n hx hb dL_cell_60 rfl (lv_at hl 0 rfl) ?_
  refine lv_iload_n hx hb dL_cell_61 rfl (lv_at hl 2 rfl) ?_
  refine lv_iload_n hx hb dL_cell_62 rfl (lv_at hl 3 rfl) ?_
  obtain ⟨fs, h0⟩ := cl_recv hC
  exact gCx F htb (gRunVx (own := RL) (C := RX3) (ci := 3) (bytes := cX3_plotPriceAt) (n := 2) (As := [.int a, .int b]) (rest := []) F hZ hS (hM wv hC H.size) gL_cell_X3_plotPriceAt rfl rfl hb1.1 hb1.2.1 (by decide +kernel) rfl ⟨by have h9 := hb1.2.2.2.2.1; show rm.frames + 1 ≤ 8; omega, by have h9 := hb1.2.2.2.2.2; show 8 + (3 + 11) + rm.locals ≤ 190; omega⟩ hP hD (lit := wv) (wt := []) (wc := wv) (isC := List.range wv.length) (gRange wv) (gRange_nd _) rfl h0 rfl hl.1 (Nat.le_of_ble_eq_true rfl) dL_cell_63 ⟨by show 0 + mc ≤ mc; omega, by show 0 + ms ≤ ms; omega⟩) hP hD hS (lit := wv) (wt := []) (wc := wv) (isC := List.range wv.length) (wr := []) (isR := []) (gRange wv) rfl rfl (fun _ h_ => by cases h_) (by omega) (by omega) (fun u H hp hP hD => ⟨u, hp, gPl hP, gDl hD⟩)
theorem cell_16 (l : Launch) (G : gG) (lq : Nat) (S S' : SpT) (a b : Int32) (r : Int) (h : DoV l G lq yX3_plotPriceAt wsX3_plotPriceAt [.int a, .int b] S r S') : DoS l G lq yL_cell wsL_cell [.int (nI 16), .int a, .int b] S r S' := by
  rcases h with ⟨rm, mc, ms, hb1, hM⟩ | ⟨E, rm, mc, ms, hb1, rfl, hE, hM⟩
  · exact Or.inl ⟨_, mc, ms, ⟨rfl, rfl, hb1.2.2.1, hb1.2.2.2.1, Nat.le_refl _, Nat.le_refl _⟩, cella_16 l G lq S S' a b hb1 hM⟩
  · exact Or.inr ⟨E, _, mc, ms, ⟨rfl, rfl, hb1.2.2.1, hb1.2.2.2.1, Nat.le_refl _, Nat.le_refl _⟩, rfl, hE, cellx_16 l G lq _ a b hb1 hM⟩

set_option maxHeartbeats 4000000 in
set_option maxRecDepth 100000 in
theorem owneda_17 (l : Launch) (G : gG) (lq : Nat) (S S' : SpT) (a b : Int32) {rm : Room} {mc ms : Nat} {v : Int32} (hb1 : bnd 7 160 rm mc ms) (hM : LQ l G lq yX3_plotsOf wsX3_plotsOf rm [.int a] S v S' mc ms) : LW l G lq yL_owned wsL_owned { frames := 8, cells := mc, slots := ms, locals := 190 } [.int (nI 17), .int a, .int b] S v S' mc ms := by
  intro wv hC
  refine gMetP_mk (cc := cL_owned) (nL := 4) (ret := some .int) (Qc := fun A => va_Qi (S := va_W) (fun r' u => r' = v ∧ clS G lq u S') (gB G A (fun u => u)) A) (by decide) rfl (Nat.le_of_ble_eq_true rfl) ?_
  intro p e s m args below meth c A F hZ ls hl hP hD hS
  have hx := F.1
  have hb := F.2.1
  have hts := F.2.2.2.2.2.2.1
  have hKK := F.2.2.2.2.2.2.2.2.1
  have hl : lv_has ls 4 [(0, .ref lq), (1, .int (nI 17)), (2, .int a), (3, .int b)] := hl
  have hP : va_P G.1 vwCl (wv ++ []) s.heap := by rw [List.append_nil]; exact hP
  have hD : va_D A (wv ++ []) := by rw [List.append_nil]; exact hD
  generalize hH : s.heap = H at hP ⊢
  have hS0 : va_S A s.heap H [] := by rw [← hH]; exact va_S.rf
  clear hS
  have hS := hS0
  clear hS0
  generalize hLo : ([] : List Loc) = locs at hS ⊢
  refine lv_iload_n hx hb dL_owned_0 rfl (lv_at hl 1 rfl) ?_
  refine lv_bipush (v := nI 17) hx hb dL_owned_1 (by decide) ?_
  refine bIF_ne (tgt := 14) hx hb dL_owned_3 (by decide) (by decide) ?_
  refine lv_aload_n hx hb dL_owned_6 rfl (lv_at hl 0 rfl) ?_
  refine lv_iload_n hx hb dL_owned_7 rfl (lv_at hl 2 rfl) ?_
  refine lqV (own := RL) (index := 88) (bytes := cX3_plotsOf) (n := 1) (As := [.int a]) (rest := []) (c2 := mc) (s2 := ms) F hM hC gL_owned_X3_plotsOf rfl rfl hb1.1 hb1.2.1 (by decide +kernel) rfl ⟨by have h9 := hb1.2.2.2.2.1; show rm.frames + 1 ≤ 8; omega, by have h9 := hb1.2.2.2.2.2; show 8 + (2 + 11) + rm.locals ≤ 190; omega⟩ hP hD hS rfl hl.1 (Nat.le_of_ble_eq_true rfl) dL_owned_8 ⟨by omega, by omega⟩ ⟨Nat.le_refl _, Nat.le_refl _⟩ (fun u H locs hC hP hD hS => ?_)
  refine lv_goto (tgt := 161) hx hb dL_owned_11 (by decide) ?_
  exact gRi F dL_owned_161 rfl u ⟨rfl, hC⟩ (gPl hP) (gDl hD) hS (Nat.le_refl _) (Nat.le_refl _)
set_option maxHeartbeats 4000000 in
set_option maxRecDepth 100000 in
theorem ownedx_17 (l : Launch) (G : gG) (lq : Nat) (S : SpT) (a b : Int32) {E : String} {rm : Room} {mc ms : Nat} (hb1 : bnd 7 160 rm mc ms) (hM : LX l G lq yX3_plotsOf wsX3_plotsOf rm [.int a] E S mc ms) : LX l G lq yL_owned wsL_owned { frames := 8, cells := mc, slots := ms, locals := 190 } [.int (nI 17), .int a, .int b] E S mc ms := by
  intro wv hC
  refine gMetX_mk (cc := cL_owned) (nL := 4) (ret := some .int) (XC := fun A => gXC (S := va_W) G A E (fun u => clS G lq u S) (fun u => u)) (by decide) rfl (Nat.le_of_ble_eq_true rfl) ?_
  intro p e s m args below meth c A F htb hZ ls hl hP hD hS
  have hx := F.1
  have hb := F.2.1
  have hts := F.2.2.2.2.2.2.1
  have hKK := F.2.2.2.2.2.2.2.2.1
  have hl : lv_has ls 4 [(0, .ref lq), (1, .int (nI 17)), (2, .int a), (3, .int b)] := hl
  have hP : va_P G.1 vwCl (wv ++ []) s.heap := by rw [List.append_nil]; exact hP
  have hD : va_D A (wv ++ []) := by rw [List.append_nil]; exact hD
  generalize hH : s.heap = H at hP ⊢
  have hS0 : va_S A s.heap H [] := by rw [← hH]; exact va_S.rf
  clear hS
  have hS := hS0
  clear hS0
  generalize hLo : ([] : List Loc) = locs at hS ⊢
  refine lv_iload_n hx hb dL_owned_0 rfl (lv_at hl 1 rfl) ?_
  refine lv_bipush (v := nI 17) hx hb dL_owned_1 (by decide) ?_
  refine bIF_ne (tgt := 14) hx hb dL_owned_3 (by decide) (by decide) ?_
  refine lv_aload_n hx hb dL_owned_6 rfl (lv_at hl 0 rfl) ?_
  refine lv_iload_n hx hb dL_owned_7 rfl (lv_at hl 2 rfl) ?_
  obtain ⟨fs, h0⟩ := cl_recv hC
  exact gCx F htb (gRunVx (own := RL) (C := RX3) (ci := 3) (bytes := cX3_plotsOf) (n := 1) (As := [.int a]) (rest := []) F hZ hS (hM wv hC H.size) gL_owned_X3_plotsOf rfl rfl hb1.1 hb1.2.1 (by decide +kernel) rfl ⟨by have h9 := hb1.2.2.2.2.1; show rm.frames + 1 ≤ 8; omega, by have h9 := hb1.2.2.2.2.2; show 8 + (2 + 11) + rm.locals ≤ 190; omega⟩ hP hD (lit := wv) (wt := []) (wc := wv) (isC := List.range wv.length) (gRange wv) (gRange_nd _) rfl h0 rfl hl.1 (Nat.le_of_ble_eq_true rfl) dL_owned_8 ⟨by show 0 + mc ≤ mc; omega, by show 0 + ms ≤ ms; omega⟩) hP hD hS (lit := wv) (wt := []) (wc := wv) (isC := List.range wv.length) (wr := []) (isR := []) (gRange wv) rfl rfl (fun _ h_ => by cases h_) (by omega) (by omega) (fun u H hp hP hD => ⟨u, hp, gPl hP, gDl hD⟩)
theorem owned_17 (l : Launch) (G : gG) (lq : Nat) (S S' : SpT) (a b : Int32) (r : Int) (h : DoV l G lq yX3_plotsOf wsX3_plotsOf [.int a] S r S') : DoS l G lq yL_owned wsL_owned [.int (nI 17), .int a, .int b] S r S' := by
  rcases h with ⟨rm, mc, ms, hb1, hM⟩ | ⟨E, rm, mc, ms, hb1, rfl, hE, hM⟩
  · exact Or.inl ⟨_, mc, ms, ⟨rfl, rfl, hb1.2.2.1, hb1.2.2.2.1, Nat.le_refl _, Nat.le_refl _⟩, owneda_17 l G lq S S' a b hb1 hM⟩
  · exact Or.inr ⟨E, _, mc, ms, ⟨rfl, rfl, hb1.2.2.1, hb1.2.2.2.1, Nat.le_refl _, Nat.le_refl _⟩, rfl, hE, ownedx_17 l G lq _ a b hb1 hM⟩

set_option maxHeartbeats 4000000 in
set_option maxRecDepth 100000 in
theorem owneda_18 (l : Launch) (G : gG) (lq : Nat) (S S' : SpT) (a b : Int32) {rm : Room} {mc ms : Nat} {v : Int32} (hb1 : bnd 7 160 rm mc ms) (hM : LQ l G lq yX3_areaByPlots wsX3_areaByPlots rm [.int a] S v S' mc ms) : LW l G lq yL_owned wsL_owned { frames := 8, cells := mc, slots := ms, locals := 190 } [.int (nI 18), .int a, .int b] S v S' mc ms := by
  intro wv hC
  refine gMetP_mk (cc := cL_owned) (nL := 4) (ret := some .int) (Qc := fun A => va_Qi (S := va_W) (fun r' u => r' = v ∧ clS G lq u S') (gB G A (fun u => u)) A) (by decide) rfl (Nat.le_of_ble_eq_true rfl) ?_
  intro p e s m args below meth c A F hZ ls hl hP hD hS
  have hx := F.1
  have hb := F.2.1
  have hts := F.2.2.2.2.2.2.1
  have hKK := F.2.2.2.2.2.2.2.2.1
  have hl : lv_has ls 4 [(0, .ref lq), (1, .int (nI 18)), (2, .int a), (3, .int b)] := hl
  have hP : va_P G.1 vwCl (wv ++ []) s.heap := by rw [List.append_nil]; exact hP
  have hD : va_D A (wv ++ []) := by rw [List.append_nil]; exact hD
  generalize hH : s.heap = H at hP ⊢
  have hS0 : va_S A s.heap H [] := by rw [← hH]; exact va_S.rf
  clear hS
  have hS := hS0
  clear hS0
  generalize hLo : ([] : List Loc) = locs at hS ⊢
  refine lv_iload_n hx hb dL_owned_0 rfl (lv_at hl 1 rfl) ?_
  refine lv_bipush (v := nI 17) hx hb dL_owned_1 (by decide) ?_
  refine bIT_ne (tgt := 14) hx hb dL_owned_3 (by decide) (by decide) ?_
  refine lv_iload_n hx hb dL_owned_14 rfl (lv_at hl 1 rfl) ?_
  refine lv_bipush (v := nI 18) hx hb dL_owned_15 (by decide) ?_
  refine bIF_ne (tgt := 28) hx hb dL_owned_17 (by decide) (by decide) ?_
  refine lv_aload_n hx hb dL_owned_20 rfl (lv_at hl 0 rfl) ?_
  refine lv_iload_n hx hb dL_owned_21 rfl (lv_at hl 2 rfl) ?_
  refine lqV (own := RL) (index := 91) (bytes := cX3_areaByPlots) (n := 1) (As := [.int a]) (rest := []) (c2 := mc) (s2 := ms) F hM hC gL_owned_X3_areaByPlots rfl rfl hb1.1 hb1.2.1 (by decide +kernel) rfl ⟨by have h9 := hb1.2.2.2.2.1; show rm.frames + 1 ≤ 8; omega, by have h9 := hb1.2.2.2.2.2; show 8 + (2 + 11) + rm.locals ≤ 190; omega⟩ hP hD hS rfl hl.1 (Nat.le_of_ble_eq_true rfl) dL_owned_22 ⟨by omega, by omega⟩ ⟨Nat.le_refl _, Nat.le_refl _⟩ (fun u H locs hC hP hD hS => ?_)
  refine lv_goto (tgt := 161) hx hb dL_owned_25 (by decide) ?_
  exact gRi F dL_owned_161 rfl u ⟨rfl, hC⟩ (gPl hP) (gDl hD) hS (Nat.le_refl _) (Nat.le_refl _)
set_option maxHeartbeats 4000000 in
set_option maxRecDepth 100000 in
theorem ownedx_18 (l : Launch) (G : gG) (lq : Nat) (S : SpT) (a b : Int32) {E : String} {rm : Room} {mc ms : Nat} (hb1 : bnd 7 160 rm mc ms) (hM : LX l G lq yX3_areaByPlots wsX3_areaByPlots rm [.int a] E S mc ms) : LX l G lq yL_owned wsL_owned { frames := 8, cells := mc, slots := ms, locals := 190 } [.int (nI 18), .int a, .int b] E S mc ms := by
  intro wv hC
  refine gMetX_mk (cc := cL_owned) (nL := 4) (ret := some .int) (XC := fun A => gXC (S := va_W) G A E (fun u => clS G lq u S) (fun u => u)) (by decide) rfl (Nat.le_of_ble_eq_true rfl) ?_
  intro p e s m args below meth c A F htb hZ ls hl hP hD hS
  have hx := F.1
  have hb := F.2.1
  have hts := F.2.2.2.2.2.2.1
  have hKK := F.2.2.2.2.2.2.2.2.1
  have hl : lv_has ls 4 [(0, .ref lq), (1, .int (nI 18)), (2, .int a), (3, .int b)] := hl
  have hP : va_P G.1 vwCl (wv ++ []) s.heap := by rw [List.append_nil]; exact hP
  have hD : va_D A (wv ++ []) := by rw [List.append_nil]; exact hD
  generalize hH : s.heap = H at hP ⊢
  have hS0 : va_S A s.heap H [] := by rw [← hH]; exact va_S.rf
  clear hS
  have hS := hS0
  clear hS0
  generalize hLo : ([] : List Loc) = locs at hS ⊢
  refine lv_iload_n hx hb dL_owned_0 rfl (lv_at hl 1 rfl) ?_
  refine lv_bipush (v := nI 17) hx hb dL_owned_1 (by decide) ?_
  refine bIT_ne (tgt := 14) hx hb dL_owned_3 (by decide) (by decide) ?_
  refine lv_iload_n hx hb dL_owned_14 rfl (lv_at hl 1 rfl) ?_
  refine lv_bipush (v := nI 18) hx hb dL_owned_15 (by decide) ?_
  refine bIF_ne (tgt := 28) hx hb dL_owned_17 (by decide) (by decide) ?_
  refine lv_aload_n hx hb dL_owned_20 rfl (lv_at hl 0 rfl) ?_
  refine lv_iload_n hx hb dL_owned_21 rfl (lv_at hl 2 rfl) ?_
  obtain ⟨fs, h0⟩ := cl_recv hC
  exact gCx F htb (gRunVx (own := RL) (C := RX3) (ci := 3) (bytes := cX3_areaByPlots) (n := 1) (As := [.int a]) (rest := []) F hZ hS (hM wv hC H.size) gL_owned_X3_areaByPlots rfl rfl hb1.1 hb1.2.1 (by decide +kernel) rfl ⟨by have h9 := hb1.2.2.2.2.1; show rm.frames + 1 ≤ 8; omega, by have h9 := hb1.2.2.2.2.2; show 8 + (2 + 11) + rm.locals ≤ 190; omega⟩ hP hD (lit := wv) (wt := []) (wc := wv) (isC := List.range wv.length) (gRange wv) (gRange_nd _) rfl h0 rfl hl.1 (Nat.le_of_ble_eq_true rfl) dL_owned_22 ⟨by show 0 + mc ≤ mc; omega, by show 0 + ms ≤ ms; omega⟩) hP hD hS (lit := wv) (wt := []) (wc := wv) (isC := List.range wv.length) (wr := []) (isR := []) (gRange wv) rfl rfl (fun _ h_ => by cases h_) (by omega) (by omega) (fun u H hp hP hD => ⟨u, hp, gPl hP, gDl hD⟩)
theorem owned_18 (l : Launch) (G : gG) (lq : Nat) (S S' : SpT) (a b : Int32) (r : Int) (h : DoV l G lq yX3_areaByPlots wsX3_areaByPlots [.int a] S r S') : DoS l G lq yL_owned wsL_owned [.int (nI 18), .int a, .int b] S r S' := by
  rcases h with ⟨rm, mc, ms, hb1, hM⟩ | ⟨E, rm, mc, ms, hb1, rfl, hE, hM⟩
  · exact Or.inl ⟨_, mc, ms, ⟨rfl, rfl, hb1.2.2.1, hb1.2.2.2.1, Nat.le_refl _, Nat.le_refl _⟩, owneda_18 l G lq S S' a b hb1 hM⟩
  · exact Or.inr ⟨E, _, mc, ms, ⟨rfl, rfl, hb1.2.2.1, hb1.2.2.2.1, Nat.le_refl _, Nat.le_refl _⟩, rfl, hE, ownedx_18 l G lq _ a b hb1 hM⟩

set_option maxHeartbeats 4000000 in
set_option maxRecDepth 100000 in
theorem owneda_19 (l : Launch) (G : gG) (lq : Nat) (S S' : SpT) (a b : Int32) {rm : Room} {mc ms : Nat} {v : Int32} (hb1 : bnd 7 160 rm mc ms) (hM : LQ l G lq yX3_areaByCells wsX3_areaByCells rm [.int a] S v S' mc ms) : LW l G lq yL_owned wsL_owned { frames := 8, cells := mc, slots := ms, locals := 190 } [.int (nI 19), .int a, .int b] S v S' mc ms := by
  intro wv hC
  refine gMetP_mk (cc := cL_owned) (nL := 4) (ret := some .int) (Qc := fun A => va_Qi (S := va_W) (fun r' u => r' = v ∧ clS G lq u S') (gB G A (fun u => u)) A) (by decide) rfl (Nat.le_of_ble_eq_true rfl) ?_
  intro p e s m args below meth c A F hZ ls hl hP hD hS
  have hx := F.1
  have hb := F.2.1
  have hts := F.2.2.2.2.2.2.1
  have hKK := F.2.2.2.2.2.2.2.2.1
  have hl : lv_has ls 4 [(0, .ref lq), (1, .int (nI 19)), (2, .int a), (3, .int b)] := hl
  have hP : va_P G.1 vwCl (wv ++ []) s.heap := by rw [List.append_nil]; exact hP
  have hD : va_D A (wv ++ []) := by rw [List.append_nil]; exact hD
  generalize hH : s.heap = H at hP ⊢
  have hS0 : va_S A s.heap H [] := by rw [← hH]; exact va_S.rf
  clear hS
  have hS := hS0
  clear hS0
  generalize hLo : ([] : List Loc) = locs at hS ⊢
  refine lv_iload_n hx hb dL_owned_0 rfl (lv_at hl 1 rfl) ?_
  refine lv_bipush (v := nI 17) hx hb dL_owned_1 (by decide) ?_
  refine bIT_ne (tgt := 14) hx hb dL_owned_3 (by decide) (by decide) ?_
  refine lv_iload_n hx hb dL_owned_14 rfl (lv_at hl 1 rfl) ?_
  refine lv_bipush (v := nI 18) hx hb dL_owned_15 (by decide) ?_
  refine bIT_ne (tgt := 28) hx hb dL_owned_17 (by decide) (by decide) ?_
  refine lv_iload_n hx hb dL_owned_28 rfl (lv_at hl 1 rfl) ?_
  refine lv_bipush (v := nI 19) hx hb dL_owned_29 (by decide) ?_
  refine bIF_ne (tgt := 42) hx hb dL_owned_31 (by decide) (by decide) ?_
  refine lv_aload_n hx hb dL_owned_34 rfl (lv_at hl 0 rfl) ?_
  refine lv_iload_n hx hb dL_owned_35 rfl (lv_at hl 2 rfl) ?_
  refine lqV (own := RL) (index := 94) (bytes := cX3_areaByCells) (n := 1) (As := [.int a]) (rest := []) (c2 := mc) (s2 := ms) F hM hC gL_owned_X3_areaByCells rfl rfl hb1.1 hb1.2.1 (by decide +kernel) rfl ⟨by have h9 := hb1.2.2.2.2.1; show rm.frames + 1 ≤ 8; omega, by have h9 := hb1.2.2.2.2.2; show 8 + (2 + 11) + rm.locals ≤ 190; omega⟩ hP hD hS rfl hl.1 (Nat.le_of_ble_eq_true rfl) dL_owned_36 ⟨by omega, by omega⟩ ⟨Nat.le_refl _, Nat.le_refl _⟩ (fun u H locs hC hP hD hS => ?_)
  refine lv_goto (tgt := 161) hx hb dL_owned_39 (by decide) ?_
  exact gRi F dL_owned_161 rfl u ⟨rfl, hC⟩ (gPl hP) (gDl hD) hS (Nat.le_refl _) (Nat.le_refl _)
set_option maxHeartbeats 4000000 in
set_option maxRecDepth 100000 in
theorem ownedx_19 (l : Launch) (G : gG) (lq : Nat) (S : SpT) (a b : Int32) {E : String} {rm : Room} {mc ms : Nat} (hb1 : bnd 7 160 rm mc ms) (hM : LX l G lq yX3_areaByCells wsX3_areaByCells rm [.int a] E S mc ms) : LX l G lq yL_owned wsL_owned { frames := 8, cells := mc, slots := ms, locals := 190 } [.int (nI 19), .int a, .int b] E S mc ms := by
  intro wv hC
  refine gMetX_mk (cc := cL_owned) (nL := 4) (ret := some .int) (XC := fun A => gXC (S := va_W) G A E (fun u => clS G lq u S) (fun u => u)) (by decide) rfl (Nat.le_of_ble_eq_true rfl) ?_
  intro p e s m args below meth c A F htb hZ ls hl hP hD hS
  have hx := F.1
  have hb := F.2.1
  have hts := F.2.2.2.2.2.2.1
  have hKK := F.2.2.2.2.2.2.2.2.1
  have hl : lv_has ls 4 [(0, .ref lq), (1, .int (nI 19)), (2, .int a), (3, .int b)] := hl
  have hP : va_P G.1 vwCl (wv ++ []) s.heap := by rw [List.append_nil]; exact hP
  have hD : va_D A (wv ++ []) := by rw [List.append_nil]; exact hD
  generalize hH : s.heap = H at hP ⊢
  have hS0 : va_S A s.heap H [] := by rw [← hH]; exact va_S.rf
  clear hS
  have hS := hS0
  clear hS0
  generalize hLo : ([] : List Loc) = locs at hS ⊢
  refine lv_iload_n hx hb dL_owned_0 rfl (lv_at hl 1 rfl) ?_
  refine lv_bipush (v := nI 17) hx hb dL_owned_1 (by decide) ?_
  refine bIT_ne (tgt := 14) hx hb dL_owned_3 (by decide) (by decide) ?_
  refine lv_iload_n hx hb dL_owned_14 rfl (lv_at hl 1 rfl) ?_
  refine lv_bipush (v := nI 18) hx hb dL_owned_15 (by decide) ?_
  refine bIT_ne (tgt := 28) hx hb dL_owned_17 (by decide) (by decide) ?_
  refine lv_iload_n hx hb dL_owned_28 rfl (lv_at hl 1 rfl) ?_
  refine lv_bipush (v := nI 19) hx hb dL_owned_29 (by decide) ?_
  refine bIF_ne (tgt := 42) hx hb dL_owned_31 (by decide) (by decide) ?_
  refine lv_aload_n hx hb dL_owned_34 rfl (lv_at hl 0 rfl) ?_
  refine lv_iload_n hx hb dL_owned_35 rfl (lv_at hl 2 rfl) ?_
  obtain ⟨fs, h0⟩ := cl_recv hC
  exact gCx F htb (gRunVx (own := RL) (C := RX3) (ci := 3) (bytes := cX3_areaByCells) (n := 1) (As := [.int a]) (rest := []) F hZ hS (hM wv hC H.size) gL_owned_X3_areaByCells rfl rfl hb1.1 hb1.2.1 (by decide +kernel) rfl ⟨by have h9 := hb1.2.2.2.2.1; show rm.frames + 1 ≤ 8; omega, by have h9 := hb1.2.2.2.2.2; show 8 + (2 + 11) + rm.locals ≤ 190; omega⟩ hP hD (lit := wv) (wt := []) (wc := wv) (isC := List.range wv.length) (gRange wv) (gRange_nd _) rfl h0 rfl hl.1 (Nat.le_of_ble_eq_true rfl) dL_owned_36 ⟨by show 0 + mc ≤ mc; omega, by show 0 + ms ≤ ms; omega⟩) hP hD hS (lit := wv) (wt := []) (wc := wv) (isC := List.range wv.length) (wr := []) (isR := []) (gRange wv) rfl rfl (fun _ h_ => by cases h_) (by omega) (by omega) (fun u H hp hP hD => ⟨u, hp, gPl hP, gDl hD⟩)
theorem owned_19 (l : Launch) (G : gG) (lq : Nat) (S S' : SpT) (a b : Int32) (r : Int) (h : DoV l G lq yX3_areaByCells wsX3_areaByCells [.int a] S r S') : DoS l G lq yL_owned wsL_owned [.int (nI 19), .int a, .int b] S r S' := by
  rcases h with ⟨rm, mc, ms, hb1, hM⟩ | ⟨E, rm, mc, ms, hb1, rfl, hE, hM⟩
  · exact Or.inl ⟨_, mc, ms, ⟨rfl, rfl, hb1.2.2.1, hb1.2.2.2.1, Nat.le_refl _, Nat.le_refl _⟩, owneda_19 l G lq S S' a b hb1 hM⟩
  · exact Or.inr ⟨E, _, mc, ms, ⟨rfl, rfl, hb1.2.2.1, hb1.2.2.2.1, Nat.le_refl _, Nat.le_refl _⟩, rfl, hE, ownedx_19 l G lq _ a b hb1 hM⟩

set_option maxHeartbeats 4000000 in
set_option maxRecDepth 100000 in
theorem owneda_20 (l : Launch) (G : gG) (lq : Nat) (S S' : SpT) (a b : Int32) {rm : Room} {mc ms : Nat} {v : Int32} (hb1 : bnd 7 160 rm mc ms) (hM : LQ l G lq yX3_fenceByPlots wsX3_fenceByPlots rm [.int a] S v S' mc ms) : LW l G lq yL_owned wsL_owned { frames := 8, cells := mc, slots := ms, locals := 190 } [.int (nI 20), .int a, .int b] S v S' mc ms := by
  intro wv hC
  refine gMetP_mk (cc := cL_owned) (nL := 4) (ret := some .int) (Qc := fun A => va_Qi (S := va_W) (fun r' u => r' = v ∧ clS G lq u S') (gB G A (fun u => u)) A) (by decide) rfl (Nat.le_of_ble_eq_true rfl) ?_
  intro p e s m args below meth c A F hZ ls hl hP hD hS
  have hx := F.1
  have hb := F.2.1
  have hts := F.2.2.2.2.2.2.1
  have hKK := F.2.2.2.2.2.2.2.2.1
  have hl : lv_has ls 4 [(0, .ref lq), (1, .int (nI 20)), (2, .int a), (3, .int b)] := hl
  have hP : va_P G.1 vwCl (wv ++ []) s.heap := by rw [List.append_nil]; exact hP
  have hD : va_D A (wv ++ []) := by rw [List.append_nil]; exact hD
  generalize hH : s.heap = H at hP ⊢
  have hS0 : va_S A s.heap H [] := by rw [← hH]; exact va_S.rf
  clear hS
  have hS := hS0
  clear hS0
  generalize hLo : ([] : List Loc) = locs at hS ⊢
  refine lv_iload_n hx hb dL_owned_0 rfl (lv_at hl 1 rfl) ?_
  refine lv_bipush (v := nI 17) hx hb dL_owned_1 (by decide) ?_
  refine bIT_ne (tgt := 14) hx hb dL_owned_3 (by decide) (by decide) ?_
  refine lv_iload_n hx hb dL_owned_14 rfl (lv_at hl 1 rfl) ?_
  refine lv_bipush (v := nI 18) hx hb dL_owned_15 (by decide) ?_
  refine bIT_ne (tgt := 28) hx hb dL_owned_17 (by decide) (by decide) ?_
  refine lv_iload_n hx hb dL_owned_28 rfl (lv_at hl 1 rfl) ?_
  refine lv_bipush (v := nI 19) hx hb dL_owned_29 (by decide) ?_
  refine bIT_ne (tgt := 42) hx hb dL_owned_31 (by decide) (by decide) ?_
  refine lv_iload_n hx hb dL_owned_42 rfl (lv_at hl 1 rfl) ?_
  refine lv_bipush (v := nI 20) hx hb dL_owned_43 (by decide) ?_
  refine bIF_ne (tgt := 56) hx hb dL_owned_45 (by decide) (by decide) ?_
  refine lv_aload_n hx hb dL_owned_48 rfl (lv_at hl 0 rfl) ?_
  refine lv_iload_n hx hb dL_owned_49 rfl (lv_at hl 2 rfl) ?_
  refine lqV (own := RL) (index := 97) (bytes := cX3_fenceByPlots) (n := 1) (As := [.int a]) (rest := []) (c2 := mc) (s2 := ms) F hM hC gL_owned_X3_fenceByPlots rfl rfl hb1.1 hb1.2.1 (by decide +kernel) rfl ⟨by have h9 := hb1.2.2.2.2.1; show rm.frames + 1 ≤ 8; omega, by have h9 := hb1.2.2.2.2.2; show 8 + (2 + 11) + rm.locals ≤ 190; omega⟩ hP hD hS rfl hl.1 (Nat.le_of_ble_eq_true rfl) dL_owned_50 ⟨by omega, by omega⟩ ⟨Nat.le_refl _, Nat.le_refl _⟩ (fun u H locs hC hP hD hS => ?_)
  refine lv_goto (tgt := 161) hx hb dL_owned_53 (by decide) ?_
  exact gRi F dL_owned_161 rfl u ⟨rfl, hC⟩ (gPl hP) (gDl hD) hS (Nat.le_refl _) (Nat.le_refl _)
set_option maxHeartbeats 4000000 in
set_option maxRecDepth 100000 in
theorem ownedx_20 (l : Launch) (G : gG) (lq : Nat) (S : SpT) (a b : Int32) {E : String} {rm : Room} {mc ms : Nat} (hb1 : bnd 7 160 rm mc ms) (hM : LX l G lq yX3_fenceByPlots wsX3_fenceByPlots rm [.int a] E S mc ms) : LX l G lq yL_owned wsL_owned { frames := 8, cells := mc, slots := ms, locals := 190 } [.int (nI 20), .int a, .int b] E S mc ms := by
  intro wv hC
  refine gMetX_mk (cc := cL_owned) (nL := 4) (ret := some .int) (XC := fun A => gXC (S := va_W) G A E (fun u => clS G lq u S) (fun u => u)) (by decide) rfl (Nat.le_of_ble_eq_true rfl) ?_
  intro p e s m args below meth c A F htb hZ ls hl hP hD hS
  have hx := F.1
  have hb := F.2.1
  have hts := F.2.2.2.2.2.2.1
  have hKK := F.2.2.2.2.2.2.2.2.1
  have hl : lv_has ls 4 [(0, .ref lq), (1, .int (nI 20)), (2, .int a), (3, .int b)] := hl
  have hP : va_P G.1 vwCl (wv ++ []) s.heap := by rw [List.append_nil]; exact hP
  have hD : va_D A (wv ++ []) := by rw [List.append_nil]; exact hD
  generalize hH : s.heap = H at hP ⊢
  have hS0 : va_S A s.heap H [] := by rw [← hH]; exact va_S.rf
  clear hS
  have hS := hS0
  clear hS0
  generalize hLo : ([] : List Loc) = locs at hS ⊢
  refine lv_iload_n hx hb dL_owned_0 rfl (lv_at hl 1 rfl) ?_
  refine lv_bipush (v := nI 17) hx hb dL_owned_1 (by decide) ?_
  refine bIT_ne (tgt := 14) hx hb dL_owned_3 (by decide) (by decide) ?_
  refine lv_iload_n hx hb dL_owned_14 rfl (lv_at hl 1 rfl) ?_
  refine lv_bipush (v := nI 18) hx hb dL_owned_15 (by decide) ?_
  refine bIT_ne (tgt := 28) hx hb dL_owned_17 (by decide) (by decide) ?_
  refine lv_iload_n hx hb dL_owned_28 rfl (lv_at hl 1 rfl) ?_
  refine lv_bipush (v := nI 19) hx hb dL_owned_29 (by decide) ?_
  refine bIT_ne (tgt := 42) hx hb dL_owned_31 (by decide) (by decide) ?_
  refine lv_iload_n hx hb dL_owned_42 rfl (lv_at hl 1 rfl) ?_
  refine lv_bipush (v := nI 20) hx hb dL_owned_43 (by decide) ?_
  refine bIF_ne (tgt := 56) hx hb dL_owned_45 (by decide) (by decide) ?_
  refine lv_aload_n hx hb dL_owned_48 rfl (lv_at hl 0 rfl) ?_
  refine lv_iload_n hx hb dL_owned_49 rfl (lv_at hl 2 rfl) ?_
  obtain ⟨fs, h0⟩ := cl_recv hC
  exact gCx F htb (gRunVx (own := RL) (C := RX3) (ci := 3) (bytes := cX3_fenceByPlots) (n := 1) (As := [.int a]) (rest := []) F hZ hS (hM wv hC H.size) gL_owned_X3_fenceByPlots rfl rfl hb1.1 hb1.2.1 (by decide +kernel) rfl ⟨by have h9 := hb1.2.2.2.2.1; show rm.frames + 1 ≤ 8; omega, by have h9 := hb1.2.2.2.2.2; show 8 + (2 + 11) + rm.locals ≤ 190; omega⟩ hP hD (lit := wv) (wt := []) (wc := wv) (isC := List.range wv.length) (gRange wv) (gRange_nd _) rfl h0 rfl hl.1 (Nat.le_of_ble_eq_true rfl) dL_owned_50 ⟨by show 0 + mc ≤ mc; omega, by show 0 + ms ≤ ms; omega⟩) hP hD hS (lit := wv) (wt := []) (wc := wv) (isC := List.range wv.length) (wr := []) (isR := []) (gRange wv) rfl rfl (fun _ h_ => by cases h_) (by omega) (by omega) (fun u H hp hP hD => ⟨u, hp, gPl hP, gDl hD⟩)
theorem owned_20 (l : Launch) (G : gG) (lq : Nat) (S S' : SpT) (a b : Int32) (r : Int) (h : DoV l G lq yX3_fenceByPlots wsX3_fenceByPlots [.int a] S r S') : DoS l G lq yL_owned wsL_owned [.int (nI 20), .int a, .int b] S r S' := by
  rcases h with ⟨rm, mc, ms, hb1, hM⟩ | ⟨E, rm, mc, ms, hb1, rfl, hE, hM⟩
  · exact Or.inl ⟨_, mc, ms, ⟨rfl, rfl, hb1.2.2.1, hb1.2.2.2.1, Nat.le_refl _, Nat.le_refl _⟩, owneda_20 l G lq S S' a b hb1 hM⟩
  · exact Or.inr ⟨E, _, mc, ms, ⟨rfl, rfl, hb1.2.2.1, hb1.2.2.2.1, Nat.le_refl _, Nat.le_refl _⟩, rfl, hE, ownedx_20 l G lq _ a b hb1 hM⟩

set_option maxHeartbeats 4000000 in
set_option maxRecDepth 100000 in
theorem owneda_21 (l : Launch) (G : gG) (lq : Nat) (S S' : SpT) (a b : Int32) {rm : Room} {mc ms : Nat} {v : Int32} (hb1 : bnd 7 160 rm mc ms) (hM : LQ l G lq yX3_fenceByCells wsX3_fenceByCells rm [.int a] S v S' mc ms) : LW l G lq yL_owned wsL_owned { frames := 8, cells := mc, slots := ms, locals := 190 } [.int (nI 21), .int a, .int b] S v S' mc ms := by
  intro wv hC
  refine gMetP_mk (cc := cL_owned) (nL := 4) (ret := some .int) (Qc := fun A => va_Qi (S := va_W) (fun r' u => r' = v ∧ clS G lq u S') (gB G A (fun u => u)) A) (by decide) rfl (Nat.le_of_ble_eq_true rfl) ?_
  intro p e s m args below meth c A F hZ ls hl hP hD hS
  have hx := F.1
  have hb := F.2.1
  have hts := F.2.2.2.2.2.2.1
  have hKK := F.2.2.2.2.2.2.2.2.1
  have hl : lv_has ls 4 [(0, .ref lq), (1, .int (nI 21)), (2, .int a), (3, .int b)] := hl
  have hP : va_P G.1 vwCl (wv ++ []) s.heap := by rw [List.append_nil]; exact hP
  have hD : va_D A (wv ++ []) := by rw [List.append_nil]; exact hD
  generalize hH : s.heap = H at hP ⊢
  have hS0 : va_S A s.heap H [] := by rw [← hH]; exact va_S.rf
  clear hS
  have hS := hS0
  clear hS0
  generalize hLo : ([] : List Loc) = locs at hS ⊢
  refine lv_iload_n hx hb dL_owned_0 rfl (lv_at hl 1 rfl) ?_
  refine lv_bipush (v := nI 17) hx hb dL_owned_1 (by decide) ?_
  refine bIT_ne (tgt := 14) hx hb dL_owned_3 (by decide) (by decide) ?_
  refine lv_iload_n hx hb dL_owned_14 rfl (lv_at hl 1 rfl) ?_
  refine lv_bipush (v := nI 18) hx hb dL_owned_15 (by decide) ?_
  refine bIT_ne (tgt := 28) hx hb dL_owned_17 (by decide) (by decide) ?_
  refine lv_iload_n hx hb dL_owned_28 rfl (lv_at hl 1 rfl) ?_
  refine lv_bipush (v := nI 19) hx hb dL_owned_29 (by decide) ?_
  refine bIT_ne (tgt := 42) hx hb dL_owned_31 (by decide) (by decide) ?_
  refine lv_iload_n hx hb dL_owned_42 rfl (lv_at hl 1 rfl) ?_
  refine lv_bipush (v := nI 20) hx hb dL_owned_43 (by decide) ?_
  refine bIT_ne (tgt := 56) hx hb dL_owned_45 (by decide) (by decide) ?_
  refine lv_iload_n hx hb dL_owned_56 rfl (lv_at hl 1 rfl) ?_
  refine lv_bipush (v := nI 21) hx hb dL_owned_57 (by decide) ?_
  refine bIF_ne (tgt := 70) hx hb dL_owned_59 (by decide) (by decide) ?_
  refine lv_aload_n hx hb dL_owned_62 rfl (lv_at hl 0 rfl) ?_
  refine lv_iload_n hx hb dL_owned_63 rfl (lv_at hl 2 rfl) ?_
  refine lqV (own := RL) (index := 100) (bytes := cX3_fenceByCells) (n := 1) (As := [.int a]) (rest := []) (c2 := mc) (s2 := ms) F hM hC gL_owned_X3_fenceByCells rfl rfl hb1.1 hb1.2.1 (by decide +kernel) rfl ⟨by have h9 := hb1.2.2.2.2.1; show rm.frames + 1 ≤ 8; omega, by have h9 := hb1.2.2.2.2.2; show 8 + (4 + 11) + rm.locals ≤ 190; omega⟩ hP hD hS rfl hl.1 (Nat.le_of_ble_eq_true rfl) dL_owned_64 ⟨by omega, by omega⟩ ⟨Nat.le_refl _, Nat.le_refl _⟩ (fun u H locs hC hP hD hS => ?_)
  refine lv_goto (tgt := 161) hx hb dL_owned_67 (by decide) ?_
  exact gRi F dL_owned_161 rfl u ⟨rfl, hC⟩ (gPl hP) (gDl hD) hS (Nat.le_refl _) (Nat.le_refl _)
set_option maxHeartbeats 4000000 in
set_option maxRecDepth 100000 in
theorem ownedx_21 (l : Launch) (G : gG) (lq : Nat) (S : SpT) (a b : Int32) {E : String} {rm : Room} {mc ms : Nat} (hb1 : bnd 7 160 rm mc ms) (hM : LX l G lq yX3_fenceByCells wsX3_fenceByCells rm [.int a] E S mc ms) : LX l G lq yL_owned wsL_owned { frames := 8, cells := mc, slots := ms, locals := 190 } [.int (nI 21), .int a, .int b] E S mc ms := by
  intro wv hC
  refine gMetX_mk (cc := cL_owned) (nL := 4) (ret := some .int) (XC := fun A => gXC (S := va_W) G A E (fun u => clS G lq u S) (fun u => u)) (by decide) rfl (Nat.le_of_ble_eq_true rfl) ?_
  intro p e s m args below meth c A F htb hZ ls hl hP hD hS
  have hx := F.1
  have hb := F.2.1
  have hts := F.2.2.2.2.2.2.1
  have hKK := F.2.2.2.2.2.2.2.2.1
  have hl : lv_has ls 4 [(0, .ref lq), (1, .int (nI 21)), (2, .int a), (3, .int b)] := hl
  have hP : va_P G.1 vwCl (wv ++ []) s.heap := by rw [List.append_nil]; exact hP
  have hD : va_D A (wv ++ []) := by rw [List.append_nil]; exact hD
  generalize hH : s.heap = H at hP ⊢
  have hS0 : va_S A s.heap H [] := by rw [← hH]; exact va_S.rf
  clear hS
  have hS := hS0
  clear hS0
  generalize hLo : ([] : List Loc) = locs at hS ⊢
  refine lv_iload_n hx hb dL_owned_0 rfl (lv_at hl 1 rfl) ?_
  refine lv_bipush (v := nI 17) hx hb dL_owned_1 (by decide) ?_
  refine bIT_ne (tgt := 14) hx hb dL_owned_3 (by decide) (by decide) ?_
  refine lv_iload_n hx hb dL_owned_14 rfl (lv_at hl 1 rfl) ?_
  refine lv_bipush (v := nI 18) hx hb dL_owned_15 (by decide) ?_
  refine bIT_ne (tgt := 28) hx hb dL_owned_17 (by decide) (by decide) ?_
  refine lv_iload_n hx hb dL_owned_28 rfl (lv_at hl 1 rfl) ?_
  refine lv_bipush (v := nI 19) hx hb dL_owned_29 (by decide) ?_
  refine bIT_ne (tgt := 42) hx hb dL_owned_31 (by decide) (by decide) ?_
  refine lv_iload_n hx hb dL_owned_42 rfl (lv_at hl 1 rfl) ?_
  refine lv_bipush (v := nI 20) hx hb dL_owned_43 (by decide) ?_
  refine bIT_ne (tgt := 56) hx hb dL_owned_45 (by decide) (by decide) ?_
  refine lv_iload_n hx hb dL_owned_56 rfl (lv_at hl 1 rfl) ?_
  refine lv_bipush (v := nI 21) hx hb dL_owned_57 (by decide) ?_
  refine bIF_ne (tgt := 70) hx hb dL_owned_59 (by decide) (by decide) ?_
  refine lv_aload_n hx hb dL_owned_62 rfl (lv_at hl 0 rfl) ?_
  refine lv_iload_n hx hb dL_owned_63 rfl (lv_at hl 2 rfl) ?_
  obtain ⟨fs, h0⟩ := cl_recv hC
  exact gCx F htb (gRunVx (own := RL) (C := RX3) (ci := 3) (bytes := cX3_fenceByCells) (n := 1) (As := [.int a]) (rest := []) F hZ hS (hM wv hC H.size) gL_owned_X3_fenceByCells rfl rfl hb1.1 hb1.2.1 (by decide +kernel) rfl ⟨by have h9 := hb1.2.2.2.2.1; show rm.frames + 1 ≤ 8; omega, by have h9 := hb1.2.2.2.2.2; show 8 + (4 + 11) + rm.locals ≤ 190; omega⟩ hP hD (lit := wv) (wt := []) (wc := wv) (isC := List.range wv.length) (gRange wv) (gRange_nd _) rfl h0 rfl hl.1 (Nat.le_of_ble_eq_true rfl) dL_owned_64 ⟨by show 0 + mc ≤ mc; omega, by show 0 + ms ≤ ms; omega⟩) hP hD hS (lit := wv) (wt := []) (wc := wv) (isC := List.range wv.length) (wr := []) (isR := []) (gRange wv) rfl rfl (fun _ h_ => by cases h_) (by omega) (by omega) (fun u H hp hP hD => ⟨u, hp, gPl hP, gDl hD⟩)
theorem owned_21 (l : Launch) (G : gG) (lq : Nat) (S S' : SpT) (a b : Int32) (r : Int) (h : DoV l G lq yX3_fenceByCells wsX3_fenceByCells [.int a] S r S') : DoS l G lq yL_owned wsL_owned [.int (nI 21), .int a, .int b] S r S' := by
  rcases h with ⟨rm, mc, ms, hb1, hM⟩ | ⟨E, rm, mc, ms, hb1, rfl, hE, hM⟩
  · exact Or.inl ⟨_, mc, ms, ⟨rfl, rfl, hb1.2.2.1, hb1.2.2.2.1, Nat.le_refl _, Nat.le_refl _⟩, owneda_21 l G lq S S' a b hb1 hM⟩
  · exact Or.inr ⟨E, _, mc, ms, ⟨rfl, rfl, hb1.2.2.1, hb1.2.2.2.1, Nat.le_refl _, Nat.le_refl _⟩, rfl, hE, ownedx_21 l G lq _ a b hb1 hM⟩

set_option maxHeartbeats 4000000 in
set_option maxRecDepth 100000 in
theorem owneda_22 (l : Launch) (G : gG) (lq : Nat) (S S' : SpT) (a b : Int32) {rm : Room} {mc ms : Nat} {v : Int32} (hb1 : bnd 7 160 rm mc ms) (hM : LQ l G lq yX3_fenceBetween wsX3_fenceBetween rm [.int a, .int b] S v S' mc ms) : LW l G lq yL_owned wsL_owned { frames := 8, cells := mc, slots := ms, locals := 190 } [.int (nI 22), .int a, .int b] S v S' mc ms := by
  intro wv hC
  refine gMetP_mk (cc := cL_owned) (nL := 4) (ret := some .int) (Qc := fun A => va_Qi (S := va_W) (fun r' u => r' = v ∧ clS G lq u S') (gB G A (fun u => u)) A) (by decide) rfl (Nat.le_of_ble_eq_true rfl) ?_
  intro p e s m args below meth c A F hZ ls hl hP hD hS
  have hx := F.1
  have hb := F.2.1
  have hts := F.2.2.2.2.2.2.1
  have hKK := F.2.2.2.2.2.2.2.2.1
  have hl : lv_has ls 4 [(0, .ref lq), (1, .int (nI 22)), (2, .int a), (3, .int b)] := hl
  have hP : va_P G.1 vwCl (wv ++ []) s.heap := by rw [List.append_nil]; exact hP
  have hD : va_D A (wv ++ []) := by rw [List.append_nil]; exact hD
  generalize hH : s.heap = H at hP ⊢
  have hS0 : va_S A s.heap H [] := by rw [← hH]; exact va_S.rf
  clear hS
  have hS := hS0
  clear hS0
  generalize hLo : ([] : List Loc) = locs at hS ⊢
  refine lv_iload_n hx hb dL_owned_0 rfl (lv_at hl 1 rfl) ?_
  refine lv_bipush (v := nI 17) hx hb dL_owned_1 (by decide) ?_
  refine bIT_ne (tgt := 14) hx hb dL_owned_3 (by decide) (by decide) ?_
  refine lv_iload_n hx hb dL_owned_14 rfl (lv_at hl 1 rfl) ?_
  refine lv_bipush (v := nI 18) hx hb dL_owned_15 (by decide) ?_
  refine bIT_ne (tgt := 28) hx hb dL_owned_17 (by decide) (by decide) ?_
  refine lv_iload_n hx hb dL_owned_28 rfl (lv_at hl 1 rfl) ?_
  refine lv_bipush (v := nI 19) hx hb dL_owned_29 (by decide) ?_
  refine bIT_ne (tgt := 42) hx hb dL_owned_31 (by decide) (by decide) ?_
  refine lv_iload_n hx hb dL_owned_42 rfl (lv_at hl 1 rfl) ?_
  refine lv_bipush (v := nI 20) hx hb dL_owned_43 (by decide) ?_
  refine bIT_ne (tgt := 56) hx hb dL_owned_45 (by decide) (by decide) ?_
  refine lv_iload_n hx hb dL_owned_56 rfl (lv_at hl 1 rfl) ?_
  refine lv_bipush (v := nI 21) hx hb dL_owned_57 (by decide) ?_
  refine bIT_ne (tgt := 70) hx hb dL_owned_59 (by decide) (by decide) ?_
  refine lv_iload_n hx hb dL_owned_70 rfl (lv_at hl 1 rfl) ?_
  refine lv_bipush (v := nI 22) hx hb dL_owned_71 (by decide) ?_
  refine bIF_ne (tgt := 85) hx hb dL_owned_73 (by decide) (by decide) ?_
  refine lv_aload_n hx hb dL_owned_76 rfl (lv_at hl 0 rfl) ?_
  refine lv_iload_n hx hb dL_owned_77 rfl (lv_at hl 2 rfl) ?_
  refine lv_iload_n hx hb dL_owned_78 rfl (lv_at hl 3 rfl) ?_
  refine lqV (own := RL) (index := 103) (bytes := cX3_fenceBetween) (n := 2) (As := [.int a, .int b]) (rest := []) (c2 := mc) (s2 := ms) F hM hC gL_owned_X3_fenceBetween rfl rfl hb1.1 hb1.2.1 (by decide +kernel) rfl ⟨by have h9 := hb1.2.2.2.2.1; show rm.frames + 1 ≤ 8; omega, by have h9 := hb1.2.2.2.2.2; show 8 + (3 + 11) + rm.locals ≤ 190; omega⟩ hP hD hS rfl hl.1 (Nat.le_of_ble_eq_true rfl) dL_owned_79 ⟨by omega, by omega⟩ ⟨Nat.le_refl _, Nat.le_refl _⟩ (fun u H locs hC hP hD hS => ?_)
  refine lv_goto (tgt := 161) hx hb dL_owned_82 (by decide) ?_
  exact gRi F dL_owned_161 rfl u ⟨rfl, hC⟩ (gPl hP) (gDl hD) hS (Nat.le_refl _) (Nat.le_refl _)
set_option maxHeartbeats 4000000 in
set_option maxRecDepth 100000 in
theorem ownedx_22 (l : Launch) (G : gG) (lq : Nat) (S : SpT) (a b : Int32) {E : String} {rm : Room} {mc ms : Nat} (hb1 : bnd 7 160 rm mc ms) (hM : LX l G lq yX3_fenceBetween wsX3_fenceBetween rm [.int a, .int b] E S mc ms) : LX l G lq yL_owned wsL_owned { frames := 8, cells := mc, slots := ms, locals := 190 } [.int (nI 22), .int a, .int b] E S mc ms := by
  intro wv hC
  refine gMetX_mk (cc := cL_owned) (nL := 4) (ret := some .int) (XC := fun A => gXC (S := va_W) G A E (fun u => clS G lq u S) (fun u => u)) (by decide) rfl (Nat.le_of_ble_eq_true rfl) ?_
  intro p e s m args below meth c A F htb hZ ls hl hP hD hS
  have hx := F.1
  have hb := F.2.1
  have hts := F.2.2.2.2.2.2.1
  have hKK := F.2.2.2.2.2.2.2.2.1
  have hl : lv_has ls 4 [(0, .ref lq), (1, .int (nI 22)), (2, .int a), (3, .int b)] := hl
  have hP : va_P G.1 vwCl (wv ++ []) s.heap := by rw [List.append_nil]; exact hP
  have hD : va_D A (wv ++ []) := by rw [List.append_nil]; exact hD
  generalize hH : s.heap = H at hP ⊢
  have hS0 : va_S A s.heap H [] := by rw [← hH]; exact va_S.rf
  clear hS
  have hS := hS0
  clear hS0
  generalize hLo : ([] : List Loc) = locs at hS ⊢
  refine lv_iload_n hx hb dL_owned_0 rfl (lv_at hl 1 rfl) ?_
  refine lv_bipush (v := nI 17) hx hb dL_owned_1 (by decide) ?_
  refine bIT_ne (tgt := 14) hx hb dL_owned_3 (by decide) (by decide) ?_
  refine lv_iload_n hx hb dL_owned_14 rfl (lv_at hl 1 rfl) ?_
  refine lv_bipush (v := nI 18) hx hb dL_owned_15 (by decide) ?_
  refine bIT_ne (tgt := 28) hx hb dL_owned_17 (by decide) (by decide) ?_
  refine lv_iload_n hx hb dL_owned_28 rfl (lv_at hl 1 rfl) ?_
  refine lv_bipush (v := nI 19) hx hb dL_owned_29 (by decide) ?_
  refine bIT_ne (tgt := 42) hx hb dL_owned_31 (by decide) (by decide) ?_
  refine lv_iload_n hx hb dL_owned_42 rfl (lv_at hl 1 rfl) ?_
  refine lv_bipush (v := nI 20) hx hb dL_owned_43 (by decide) ?_
  refine bIT_ne (tgt := 56) hx hb dL_owned_45 (by decide) (by decide) ?_
  refine lv_iload_n hx hb dL_owned_56 rfl (lv_at hl 1 rfl) ?_
  refine lv_bipush (v := nI 21) hx hb dL_owned_57 (by decide) ?_
  refine bIT_ne (tgt := 70) hx hb dL_owned_59 (by decide) (by decide) ?_
  refine lv_iload_n hx hb dL_owned_70 rfl (lv_at hl 1 rfl) ?_
  refine lv_bipush (v := nI 22) hx hb dL_owned_71 (by decide) ?_
  refine bIF_ne (tgt := 85) hx hb dL_owned_73 (by decide) (by decide) ?_
  refine lv_aload_n hx hb dL_owned_76 rfl (lv_at hl 0 rfl) ?_
  refine lv_iload_n hx hb dL_owned_77 rfl (lv_at hl 2 rfl) ?_
  refine lv_iload_n hx hb dL_owned_78 rfl (lv_at hl 3 rfl) ?_
  obtain ⟨fs, h0⟩ := cl_recv hC
  exact gCx F htb (gRunVx (own := RL) (C := RX3) (ci := 3) (bytes := cX3_fenceBetween) (n := 2) (As := [.int a, .int b]) (rest := []) F hZ hS (hM wv hC H.size) gL_owned_X3_fenceBetween rfl rfl hb1.1 hb1.2.1 (by decide +kernel) rfl ⟨by have h9 := hb1.2.2.2.2.1; show rm.frames + 1 ≤ 8; omega, by have h9 := hb1.2.2.2.2.2; show 8 + (3 + 11) + rm.locals ≤ 190; omega⟩ hP hD (lit := wv) (wt := []) (wc := wv) (isC := List.range wv.length) (gRange wv) (gRange_nd _) rfl h0 rfl hl.1 (Nat.le_of_ble_eq_true rfl) dL_owned_79 ⟨by show 0 + mc ≤ mc; omega, by show 0 + ms ≤ ms; omega⟩) hP hD hS (lit := wv) (wt := []) (wc := wv) (isC := List.range wv.length) (wr := []) (isR := []) (gRange wv) rfl rfl (fun _ h_ => by cases h_) (by omega) (by omega) (fun u H hp hP hD => ⟨u, hp, gPl hP, gDl hD⟩)
theorem owned_22 (l : Launch) (G : gG) (lq : Nat) (S S' : SpT) (a b : Int32) (r : Int) (h : DoV l G lq yX3_fenceBetween wsX3_fenceBetween [.int a, .int b] S r S') : DoS l G lq yL_owned wsL_owned [.int (nI 22), .int a, .int b] S r S' := by
  rcases h with ⟨rm, mc, ms, hb1, hM⟩ | ⟨E, rm, mc, ms, hb1, rfl, hE, hM⟩
  · exact Or.inl ⟨_, mc, ms, ⟨rfl, rfl, hb1.2.2.1, hb1.2.2.2.1, Nat.le_refl _, Nat.le_refl _⟩, owneda_22 l G lq S S' a b hb1 hM⟩
  · exact Or.inr ⟨E, _, mc, ms, ⟨rfl, rfl, hb1.2.2.1, hb1.2.2.2.1, Nat.le_refl _, Nat.le_refl _⟩, rfl, hE, ownedx_22 l G lq _ a b hb1 hM⟩

set_option maxHeartbeats 4000000 in
set_option maxRecDepth 100000 in
theorem owneda_23 (l : Launch) (G : gG) (lq : Nat) (S S' : SpT) (a b : Int32) {rm : Room} {mc ms : Nat} {v : Int32} (hb1 : bnd 7 160 rm mc ms) (hM : LQ l G lq yX3_largestPlotOf wsX3_largestPlotOf rm [.int a] S v S' mc ms) : LW l G lq yL_owned wsL_owned { frames := 8, cells := mc, slots := ms, locals := 190 } [.int (nI 23), .int a, .int b] S v S' mc ms := by
  intro wv hC
  refine gMetP_mk (cc := cL_owned) (nL := 4) (ret := some .int) (Qc := fun A => va_Qi (S := va_W) (fun r' u => r' = v ∧ clS G lq u S') (gB G A (fun u => u)) A) (by decide) rfl (Nat.le_of_ble_eq_true rfl) ?_
  intro p e s m args below meth c A F hZ ls hl hP hD hS
  have hx := F.1
  have hb := F.2.1
  have hts := F.2.2.2.2.2.2.1
  have hKK := F.2.2.2.2.2.2.2.2.1
  have hl : lv_has ls 4 [(0, .ref lq), (1, .int (nI 23)), (2, .int a), (3, .int b)] := hl
  have hP : va_P G.1 vwCl (wv ++ []) s.heap := by rw [List.append_nil]; exact hP
  have hD : va_D A (wv ++ []) := by rw [List.append_nil]; exact hD
  generalize hH : s.heap = H at hP ⊢
  have hS0 : va_S A s.heap H [] := by rw [← hH]; exact va_S.rf
  clear hS
  have hS := hS0
  clear hS0
  generalize hLo : ([] : List Loc) = locs at hS ⊢
  refine lv_iload_n hx hb dL_owned_0 rfl (lv_at hl 1 rfl) ?_
  refine lv_bipush (v := nI 17) hx hb dL_owned_1 (by decide) ?_
  refine bIT_ne (tgt := 14) hx hb dL_owned_3 (by decide) (by decide) ?_
  refine lv_iload_n hx hb dL_owned_14 rfl (lv_at hl 1 rfl) ?_
  refine lv_bipush (v := nI 18) hx hb dL_owned_15 (by decide) ?_
  refine bIT_ne (tgt := 28) hx hb dL_owned_17 (by decide) (by decide) ?_
  refine lv_iload_n hx hb dL_owned_28 rfl (lv_at hl 1 rfl) ?_
  refine lv_bipush (v := nI 19) hx hb dL_owned_29 (by decide) ?_
  refine bIT_ne (tgt := 42) hx hb dL_owned_31 (by decide) (by decide) ?_
  refine lv_iload_n hx hb dL_owned_42 rfl (lv_at hl 1 rfl) ?_
  refine lv_bipush (v := nI 20) hx hb dL_owned_43 (by decide) ?_
  refine bIT_ne (tgt := 56) hx hb dL_owned_45 (by decide) (by decide) ?_
  refine lv_iload_n hx hb dL_owned_56 rfl (lv_at hl 1 rfl) ?_
  refine lv_bipush (v := nI 21) hx hb dL_owned_57 (by decide) ?_
  refine bIT_ne (tgt := 70) hx hb dL_owned_59 (by decide) (by decide) ?_
  refine lv_iload_n hx hb dL_owned_70 rfl (lv_at hl 1 rfl) ?_
  refine lv_bipush (v := nI 22) hx hb dL_owned_71 (by decide) ?_
  refine bIT_ne (tgt := 85) hx hb dL_owned_73 (by decide) (by decide) ?_
  refine lv_iload_n hx hb dL_owned_85 rfl (lv_at hl 1 rfl) ?_
  refine lv_bipush (v := nI 23) hx hb dL_owned_86 (by decide) ?_
  refine bIF_ne (tgt := 99) hx hb dL_owned_88 (by decide) (by decide) ?_
  refine lv_aload_n hx hb dL_owned_91 rfl (lv_at hl 0 rfl) ?_
  refine lv_iload_n hx hb dL_owned_92 rfl (lv_at hl 2 rfl) ?_
  refine lqV (own := RL) (index := 106) (bytes := cX3_largestPlotOf) (n := 1) (As := [.int a]) (rest := []) (c2 := mc) (s2 := ms) F hM hC gL_owned_X3_largestPlotOf rfl rfl hb1.1 hb1.2.1 (by decide +kernel) rfl ⟨by have h9 := hb1.2.2.2.2.1; show rm.frames + 1 ≤ 8; omega, by have h9 := hb1.2.2.2.2.2; show 8 + (2 + 11) + rm.locals ≤ 190; omega⟩ hP hD hS rfl hl.1 (Nat.le_of_ble_eq_true rfl) dL_owned_93 ⟨by omega, by omega⟩ ⟨Nat.le_refl _, Nat.le_refl _⟩ (fun u H locs hC hP hD hS => ?_)
  refine lv_goto (tgt := 161) hx hb dL_owned_96 (by decide) ?_
  exact gRi F dL_owned_161 rfl u ⟨rfl, hC⟩ (gPl hP) (gDl hD) hS (Nat.le_refl _) (Nat.le_refl _)
set_option maxHeartbeats 4000000 in
set_option maxRecDepth 100000 in
theorem ownedx_23 (l : Launch) (G : gG) (lq : Nat) (S : SpT) (a b : Int32) {E : String} {rm : Room} {mc ms : Nat} (hb1 : bnd 7 160 rm mc ms) (hM : LX l G lq yX3_largestPlotOf wsX3_largestPlotOf rm [.int a] E S mc ms) : LX l G lq yL_owned wsL_owned { frames := 8, cells := mc, slots := ms, locals := 190 } [.int (nI 23), .int a, .int b] E S mc ms := by
  intro wv hC
  refine gMetX_mk (cc := cL_owned) (nL := 4) (ret := some .int) (XC := fun A => gXC (S := va_W) G A E (fun u => clS G lq u S) (fun u => u)) (by decide) rfl (Nat.le_of_ble_eq_true rfl) ?_
  intro p e s m args below meth c A F htb hZ ls hl hP hD hS
  have hx := F.1
  have hb := F.2.1
  have hts := F.2.2.2.2.2.2.1
  have hKK := F.2.2.2.2.2.2.2.2.1
  have hl : lv_has ls 4 [(0, .ref lq), (1, .int (nI 23)), (2, .int a), (3, .int b)] := hl
  have hP : va_P G.1 vwCl (wv ++ []) s.heap := by rw [List.append_nil]; exact hP
  have hD : va_D A (wv ++ []) := by rw [List.append_nil]; exact hD
  generalize hH : s.heap = H at hP ⊢
  have hS0 : va_S A s.heap H [] := by rw [← hH]; exact va_S.rf
  clear hS
  have hS := hS0
  clear hS0
  generalize hLo : ([] : List Loc) = locs at hS ⊢
  refine lv_iload_n hx hb dL_owned_0 rfl (lv_at hl 1 rfl) ?_
  refine lv_bipush (v := nI 17) hx hb dL_owned_1 (by decide) ?_
  refine bIT_ne (tgt := 14) hx hb dL_owned_3 (by decide) (by decide) ?_
  refine lv_iload_n hx hb dL_owned_14 rfl (lv_at hl 1 rfl) ?_
  refine lv_bipush (v := nI 18) hx hb dL_owned_15 (by decide) ?_
  refine bIT_ne (tgt := 28) hx hb dL_owned_17 (by decide) (by decide) ?_
  refine lv_iload_n hx hb dL_owned_28 rfl (lv_at hl 1 rfl) ?_
  refine lv_bipush (v := nI 19) hx hb dL_owned_29 (by decide) ?_
  refine bIT_ne (tgt := 42) hx hb dL_owned_31 (by decide) (by decide) ?_
  refine lv_iload_n hx hb dL_owned_42 rfl (lv_at hl 1 rfl) ?_
  refine lv_bipush (v := nI 20) hx hb dL_owned_43 (by decide) ?_
  refine bIT_ne (tgt := 56) hx hb dL_owned_45 (by decide) (by decide) ?_
  refine lv_iload_n hx hb dL_owned_56 rfl (lv_at hl 1 rfl) ?_
  refine lv_bipush (v := nI 21) hx hb dL_owned_57 (by decide) ?_
  refine bIT_ne (tgt := 70) hx hb dL_owned_59 (by decide) (by decide) ?_
  refine lv_iload_n hx hb dL_owned_70 rfl (lv_at hl 1 rfl) ?_
  refine lv_bipush (v := nI 22) hx hb dL_owned_71 (by decide) ?_
  refine bIT_ne (tgt := 85) hx hb dL_owned_73 (by decide) (by decide) ?_
  refine lv_iload_n hx hb dL_owned_85 rfl (lv_at hl 1 rfl) ?_
  refine lv_bipush (v := nI 23) hx hb dL_owned_86 (by decide) ?_
  refine bIF_ne (tgt := 99) hx hb dL_owned_88 (by decide) (by decide) ?_
  refine lv_aload_n hx hb dL_owned_91 rfl (lv_at hl 0 rfl) ?_
  refine lv_iload_n hx hb dL_owned_92 rfl (lv_at hl 2 rfl) ?_
  obtain ⟨fs, h0⟩ := cl_recv hC
  exact gCx F htb (gRunVx (own := RL) (C := RX3) (ci := 3) (bytes := cX3_largestPlotOf) (n := 1) (As := [.int a]) (rest := []) F hZ hS (hM wv hC H.size) gL_owned_X3_largestPlotOf rfl rfl hb1.1 hb1.2.1 (by decide +kernel) rfl ⟨by have h9 := hb1.2.2.2.2.1; show rm.frames + 1 ≤ 8; omega, by have h9 := hb1.2.2.2.2.2; show 8 + (2 + 11) + rm.locals ≤ 190; omega⟩ hP hD (lit := wv) (wt := []) (wc := wv) (isC := List.range wv.length) (gRange wv) (gRange_nd _) rfl h0 rfl hl.1 (Nat.le_of_ble_eq_true rfl) dL_owned_93 ⟨by show 0 + mc ≤ mc; omega, by show 0 + ms ≤ ms; omega⟩) hP hD hS (lit := wv) (wt := []) (wc := wv) (isC := List.range wv.length) (wr := []) (isR := []) (gRange wv) rfl rfl (fun _ h_ => by cases h_) (by omega) (by omega) (fun u H hp hP hD => ⟨u, hp, gPl hP, gDl hD⟩)
theorem owned_23 (l : Launch) (G : gG) (lq : Nat) (S S' : SpT) (a b : Int32) (r : Int) (h : DoV l G lq yX3_largestPlotOf wsX3_largestPlotOf [.int a] S r S') : DoS l G lq yL_owned wsL_owned [.int (nI 23), .int a, .int b] S r S' := by
  rcases h with ⟨rm, mc, ms, hb1, hM⟩ | ⟨E, rm, mc, ms, hb1, rfl, hE, hM⟩
  · exact Or.inl ⟨_, mc, ms, ⟨rfl, rfl, hb1.2.2.1, hb1.2.2.2.1, Nat.le_refl _, Nat.le_refl _⟩, owneda_23 l G lq S S' a b hb1 hM⟩
  · exact Or.inr ⟨E, _, mc, ms, ⟨rfl, rfl, hb1.2.2.1, hb1.2.2.2.1, Nat.le_refl _, Nat.le_refl _⟩, rfl, hE, ownedx_23 l G lq _ a b hb1 hM⟩

set_option maxHeartbeats 4000000 in
set_option maxRecDepth 100000 in
theorem owneda_24 (l : Launch) (G : gG) (lq : Nat) (S S' : SpT) (a b : Int32) {rm : Room} {mc ms : Nat} {v : Int32} (hb1 : bnd 7 160 rm mc ms) (hM : LQ l G lq yX3_firstToLose wsX3_firstToLose rm [.int a] S v S' mc ms) : LW l G lq yL_owned wsL_owned { frames := 8, cells := mc, slots := ms, locals := 190 } [.int (nI 24), .int a, .int b] S v S' mc ms := by
  intro wv hC
  refine gMetP_mk (cc := cL_owned) (nL := 4) (ret := some .int) (Qc := fun A => va_Qi (S := va_W) (fun r' u => r' = v ∧ clS G lq u S') (gB G A (fun u => u)) A) (by decide) rfl (Nat.le_of_ble_eq_true rfl) ?_
  intro p e s m args below meth c A F hZ ls hl hP hD hS
  have hx := F.1
  have hb := F.2.1
  have hts := F.2.2.2.2.2.2.1
  have hKK := F.2.2.2.2.2.2.2.2.1
  have hl : lv_has ls 4 [(0, .ref lq), (1, .int (nI 24)), (2, .int a), (3, .int b)] := hl
  have hP : va_P G.1 vwCl (wv ++ []) s.heap := by rw [List.append_nil]; exact hP
  have hD : va_D A (wv ++ []) := by rw [List.append_nil]; exact hD
  generalize hH : s.heap = H at hP ⊢
  have hS0 : va_S A s.heap H [] := by rw [← hH]; exact va_S.rf
  clear hS
  have hS := hS0
  clear hS0
  generalize hLo : ([] : List Loc) = locs at hS ⊢
  refine lv_iload_n hx hb dL_owned_0 rfl (lv_at hl 1 rfl) ?_
  refine lv_bipush (v := nI 17) hx hb dL_owned_1 (by decide) ?_
  refine bIT_ne (tgt := 14) hx hb dL_owned_3 (by decide) (by decide) ?_
  refine lv_iload_n hx hb dL_owned_14 rfl (lv_at hl 1 rfl) ?_
  refine lv_bipush (v := nI 18) hx hb dL_owned_15 (by decide) ?_
  refine bIT_ne (tgt := 28) hx hb dL_owned_17 (by decide) (by decide) ?_
  refine lv_iload_n hx hb dL_owned_28 rfl (lv_at hl 1 rfl) ?_
  refine lv_bipush (v := nI 19) hx hb dL_owned_29 (by decide) ?_
  refine bIT_ne (tgt := 42) hx hb dL_owned_31 (by decide) (by decide) ?_
  refine lv_iload_n hx hb dL_owned_42 rfl (lv_at hl 1 rfl) ?_
  refine lv_bipush (v := nI 20) hx hb dL_owned_43 (by decide) ?_
  refine bIT_ne (tgt := 56) hx hb dL_owned_45 (by decide) (by decide) ?_
  refine lv_iload_n hx hb dL_owned_56 rfl (lv_at hl 1 rfl) ?_
  refine lv_bipush (v := nI 21) hx hb dL_owned_57 (by decide) ?_
  refine bIT_ne (tgt := 70) hx hb dL_owned_59 (by decide) (by decide) ?_
  refine lv_iload_n hx hb dL_owned_70 rfl (lv_at hl 1 rfl) ?_
  refine lv_bipush (v := nI 22) hx hb dL_owned_71 (by decide) ?_
  refine bIT_ne (tgt := 85) hx hb dL_owned_73 (by decide) (by decide) ?_
  refine lv_iload_n hx hb dL_owned_85 rfl (lv_at hl 1 rfl) ?_
  refine lv_bipush (v := nI 23) hx hb dL_owned_86 (by decide) ?_
  refine bIT_ne (tgt := 99) hx hb dL_owned_88 (by decide) (by decide) ?_
  refine lv_iload_n hx hb dL_owned_99 rfl (lv_at hl 1 rfl) ?_
  refine lv_bipush (v := nI 24) hx hb dL_owned_100 (by decide) ?_
  refine bIF_ne (tgt := 113) hx hb dL_owned_102 (by decide) (by decide) ?_
  refine lv_aload_n hx hb dL_owned_105 rfl (lv_at hl 0 rfl) ?_
  refine lv_iload_n hx hb dL_owned_106 rfl (lv_at hl 2 rfl) ?_
  refine lqV (own := RL) (index := 109) (bytes := cX3_firstToLose) (n := 1) (As := [.int a]) (rest := []) (c2 := mc) (s2 := ms) F hM hC gL_owned_X3_firstToLose rfl rfl hb1.1 hb1.2.1 (by decide +kernel) rfl ⟨by have h9 := hb1.2.2.2.2.1; show rm.frames + 1 ≤ 8; omega, by have h9 := hb1.2.2.2.2.2; show 8 + (2 + 11) + rm.locals ≤ 190; omega⟩ hP hD hS rfl hl.1 (Nat.le_of_ble_eq_true rfl) dL_owned_107 ⟨by omega, by omega⟩ ⟨Nat.le_refl _, Nat.le_refl _⟩ (fun u H locs hC hP hD hS => ?_)
  refine lv_goto (tgt := 161) hx hb dL_owned_110 (by decide) ?_
  exact gRi F dL_owned_161 rfl u ⟨rfl, hC⟩ (gPl hP) (gDl hD) hS (Nat.le_refl _) (Nat.le_refl _)
set_option maxHeartbeats 4000000 in
set_option maxRecDepth 100000 in
theorem ownedx_24 (l : Launch) (G : gG) (lq : Nat) (S : SpT) (a b : Int32) {E : String} {rm : Room} {mc ms : Nat} (hb1 : bnd 7 160 rm mc ms) (hM : LX l G lq yX3_firstToLose wsX3_firstToLose rm [.int a] E S mc ms) : LX l G lq yL_owned wsL_owned { frames := 8, cells := mc, slots := ms, locals := 190 } [.int (nI 24), .int a, .int b] E S mc ms := by
  intro wv hC
  refine gMetX_mk (cc := cL_owned) (nL := 4) (ret := some .int) (XC := fun A => gXC (S := va_W) G A E (fun u => clS G lq u S) (fun u => u)) (by decide) rfl (Nat.le_of_ble_eq_true rfl) ?_
  intro p e s m args below meth c A F htb hZ ls hl hP hD hS
  have hx := F.1
  have hb := F.2.1
  have hts := F.2.2.2.2.2.2.1
  have hKK := F.2.2.2.2.2.2.2.2.1
  have hl : lv_has ls 4 [(0, .ref lq), (1, .int (nI 24)), (2, .int a), (3, .int b)] := hl
  have hP : va_P G.1 vwCl (wv ++ []) s.heap := by rw [List.append_nil]; exact hP
  have hD : va_D A (wv ++ []) := by rw [List.append_nil]; exact hD
  generalize hH : s.heap = H at hP ⊢
  have hS0 : va_S A s.heap H [] := by rw [← hH]; exact va_S.rf
  clear hS
  have hS := hS0
  clear hS0
  generalize hLo : ([] : List Loc) = locs at hS ⊢
  refine lv_iload_n hx hb dL_owned_0 rfl (lv_at hl 1 rfl) ?_
  refine lv_bipush (v := nI 17) hx hb dL_owned_1 (by decide) ?_
  refine bIT_ne (tgt := 14) hx hb dL_owned_3 (by decide) (by decide) ?_
  refine lv_iload_n hx hb dL_owned_14 rfl (lv_at hl 1 rfl) ?_
  refine lv_bipush (v := nI 18) hx hb dL_owned_15 (by decide) ?_
  refine bIT_ne (tgt := 28) hx hb dL_owned_17 (by decide) (by decide) ?_
  refine lv_iload_n hx hb dL_owned_28 rfl (lv_at hl 1 rfl) ?_
  refine lv_bipush (v := nI 19) hx hb dL_owned_29 (by decide) ?_
  refine bIT_ne (tgt := 42) hx hb dL_owned_31 (by decide) (by decide) ?_
  refine lv_iload_n hx hb dL_owned_42 rfl (lv_at hl 1 rfl) ?_
  refine lv_bipush (v := nI 20) hx hb dL_owned_43 (by decide) ?_
  refine bIT_ne (tgt := 56) hx hb dL_owned_45 (by decide) (by decide) ?_
  refine lv_iload_n hx hb dL_owned_56 rfl (lv_at hl 1 rfl) ?_
  refine lv_bipush (v := nI 21) hx hb dL_owned_57 (by decide) ?_
  refine bIT_ne (tgt := 70) hx hb dL_owned_59 (by decide) (by decide) ?_
  refine lv_iload_n hx hb dL_owned_70 rfl (lv_at hl 1 rfl) ?_
  refine lv_bipush (v := nI 22) hx hb dL_owned_71 (by decide) ?_
  refine bIT_ne (tgt := 85) hx hb dL_owned_73 (by decide) (by decide) ?_
  refine lv_iload_n hx hb dL_owned_85 rfl (lv_at hl 1 rfl) ?_
  refine lv_bipush (v := nI 23) hx hb dL_owned_86 (by decide) ?_
  refine bIT_ne (tgt := 99) hx hb dL_owned_88 (by decide) (by decide) ?_
  refine lv_iload_n hx hb dL_owned_99 rfl (lv_at hl 1 rfl) ?_
  refine lv_bipush (v := nI 24) hx hb dL_owned_100 (by decide) ?_
  refine bIF_ne (tgt := 113) hx hb dL_owned_102 (by decide) (by decide) ?_
  refine lv_aload_n hx hb dL_owned_105 rfl (lv_at hl 0 rfl) ?_
  refine lv_iload_n hx hb dL_owned_106 rfl (lv_at hl 2 rfl) ?_
  obtain ⟨fs, h0⟩ := cl_recv hC
  exact gCx F htb (gRunVx (own := RL) (C := RX3) (ci := 3) (bytes := cX3_firstToLose) (n := 1) (As := [.int a]) (rest := []) F hZ hS (hM wv hC H.size) gL_owned_X3_firstToLose rfl rfl hb1.1 hb1.2.1 (by decide +kernel) rfl ⟨by have h9 := hb1.2.2.2.2.1; show rm.frames + 1 ≤ 8; omega, by have h9 := hb1.2.2.2.2.2; show 8 + (2 + 11) + rm.locals ≤ 190; omega⟩ hP hD (lit := wv) (wt := []) (wc := wv) (isC := List.range wv.length) (gRange wv) (gRange_nd _) rfl h0 rfl hl.1 (Nat.le_of_ble_eq_true rfl) dL_owned_107 ⟨by show 0 + mc ≤ mc; omega, by show 0 + ms ≤ ms; omega⟩) hP hD hS (lit := wv) (wt := []) (wc := wv) (isC := List.range wv.length) (wr := []) (isR := []) (gRange wv) rfl rfl (fun _ h_ => by cases h_) (by omega) (by omega) (fun u H hp hP hD => ⟨u, hp, gPl hP, gDl hD⟩)
theorem owned_24 (l : Launch) (G : gG) (lq : Nat) (S S' : SpT) (a b : Int32) (r : Int) (h : DoV l G lq yX3_firstToLose wsX3_firstToLose [.int a] S r S') : DoS l G lq yL_owned wsL_owned [.int (nI 24), .int a, .int b] S r S' := by
  rcases h with ⟨rm, mc, ms, hb1, hM⟩ | ⟨E, rm, mc, ms, hb1, rfl, hE, hM⟩
  · exact Or.inl ⟨_, mc, ms, ⟨rfl, rfl, hb1.2.2.1, hb1.2.2.2.1, Nat.le_refl _, Nat.le_refl _⟩, owneda_24 l G lq S S' a b hb1 hM⟩
  · exact Or.inr ⟨E, _, mc, ms, ⟨rfl, rfl, hb1.2.2.1, hb1.2.2.2.1, Nat.le_refl _, Nat.le_refl _⟩, rfl, hE, ownedx_24 l G lq _ a b hb1 hM⟩

set_option maxHeartbeats 4000000 in
set_option maxRecDepth 100000 in
theorem owneda_25 (l : Launch) (G : gG) (lq : Nat) (S S' : SpT) (a b : Int32) {rm : Room} {mc ms : Nat} {v : Int32} (hb1 : bnd 7 160 rm mc ms) (hM : LQ l G lq yX3_coinsOf wsX3_coinsOf rm [.int a] S v S' mc ms) : LW l G lq yL_owned wsL_owned { frames := 8, cells := mc, slots := ms, locals := 190 } [.int (nI 25), .int a, .int b] S v S' mc ms := by
  intro wv hC
  refine gMetP_mk (cc := cL_owned) (nL := 4) (ret := some .int) (Qc := fun A => va_Qi (S := va_W) (fun r' u => r' = v ∧ clS G lq u S') (gB G A (fun u => u)) A) (by decide) rfl (Nat.le_of_ble_eq_true rfl) ?_
  intro p e s m args below meth c A F hZ ls hl hP hD hS
  have hx := F.1
  have hb := F.2.1
  have hts := F.2.2.2.2.2.2.1
  have hKK := F.2.2.2.2.2.2.2.2.1
  have hl : lv_has ls 4 [(0, .ref lq), (1, .int (nI 25)), (2, .int a), (3, .int b)] := hl
  have hP : va_P G.1 vwCl (wv ++ []) s.heap := by rw [List.append_nil]; exact hP
  have hD : va_D A (wv ++ []) := by rw [List.append_nil]; exact hD
  generalize hH : s.heap = H at hP ⊢
  have hS0 : va_S A s.heap H [] := by rw [← hH]; exact va_S.rf
  clear hS
  have hS := hS0
  clear hS0
  generalize hLo : ([] : List Loc) = locs at hS ⊢
  refine lv_iload_n hx hb dL_owned_0 rfl (lv_at hl 1 rfl) ?_
  refine lv_bipush (v := nI 17) hx hb dL_owned_1 (by decide) ?_
  refine bIT_ne (tgt := 14) hx hb dL_owned_3 (by decide) (by decide) ?_
  refine lv_iload_n hx hb dL_owned_14 rfl (lv_at hl 1 rfl) ?_
  refine lv_bipush (v := nI 18) hx hb dL_owned_15 (by decide) ?_
  refine bIT_ne (tgt := 28) hx hb dL_owned_17 (by decide) (by decide) ?_
  refine lv_iload_n hx hb dL_owned_28 rfl (lv_at hl 1 rfl) ?_
  refine lv_bipush (v := nI 19) hx hb dL_owned_29 (by decide) ?_
  refine bIT_ne (tgt := 42) hx hb dL_owned_31 (by decide) (by decide) ?_
  refine lv_iload_n hx hb dL_owned_42 rfl (lv_at hl 1 rfl) ?_
  refine lv_bipush (v := nI 20) hx hb dL_owned_43 (by decide) ?_
  refine bIT_ne (tgt := 56) hx hb dL_owned_45 (by decide) (by decide) ?_
  refine lv_iload_n hx hb dL_owned_56 rfl (lv_at hl 1 rfl) ?_
  refine lv_bipush (v := nI 21) hx hb dL_owned_57 (by decide) ?_
  refine bIT_ne (tgt := 70) hx hb dL_owned_59 (by decide) (by decide) ?_
  refine lv_iload_n hx hb dL_owned_70 rfl (lv_at hl 1 rfl) ?_
  refine lv_bipush (v := nI 22) hx hb dL_owned_71 (by decide) ?_
  refine bIT_ne (tgt := 85) hx hb dL_owned_73 (by decide) (by decide) ?_
  refine lv_iload_n hx hb dL_owned_85 rfl (lv_at hl 1 rfl) ?_
  refine lv_bipush (v := nI 23) hx hb dL_owned_86 (by decide) ?_
  refine bIT_ne (tgt := 99) hx hb dL_owned_88 (by decide) (by decide) ?_
  refine lv_iload_n hx hb dL_owned_99 rfl (lv_at hl 1 rfl) ?_
  refine lv_bipush (v := nI 24) hx hb dL_owned_100 (by decide) ?_
  refine bIT_ne (tgt := 113) hx hb dL_owned_102 (by decide) (by decide) ?_
  refine lv_iload_n hx hb dL_owned_113 rfl (lv_at hl 1 rfl) ?_
  refine lv_bipush (v := nI 25) hx hb dL_owned_114 (by decide) ?_
  refine bIF_ne (tgt := 127) hx hb dL_owned_116 (by decide) (by decide) ?_
  refine lv_aload_n hx hb dL_owned_119 rfl (lv_at hl 0 rfl) ?_
  refine lv_iload_n hx hb dL_owned_120 rfl (lv_at hl 2 rfl) ?_
  refine lqV (own := RL) (index := 112) (bytes := cX3_coinsOf) (n := 1) (As := [.int a]) (rest := []) (c2 := mc) (s2 := ms) F hM hC gL_owned_X3_coinsOf rfl rfl hb1.1 hb1.2.1 (by decide +kernel) rfl ⟨by have h9 := hb1.2.2.2.2.1; show rm.frames + 1 ≤ 8; omega, by have h9 := hb1.2.2.2.2.2; show 8 + (2 + 11) + rm.locals ≤ 190; omega⟩ hP hD hS rfl hl.1 (Nat.le_of_ble_eq_true rfl) dL_owned_121 ⟨by omega, by omega⟩ ⟨Nat.le_refl _, Nat.le_refl _⟩ (fun u H locs hC hP hD hS => ?_)
  refine lv_goto (tgt := 161) hx hb dL_owned_124 (by decide) ?_
  exact gRi F dL_owned_161 rfl u ⟨rfl, hC⟩ (gPl hP) (gDl hD) hS (Nat.le_refl _) (Nat.le_refl _)
set_option maxHeartbeats 4000000 in
set_option maxRecDepth 100000 in
theorem ownedx_25 (l : Launch) (G : gG) (lq : Nat) (S : SpT) (a b : Int32) {E : String} {rm : Room} {mc ms : Nat} (hb1 : bnd 7 160 rm mc ms) (hM : LX l G lq yX3_coinsOf wsX3_coinsOf rm [.int a] E S mc ms) : LX l G lq yL_owned wsL_owned { frames := 8, cells := mc, slots := ms, locals := 190 } [.int (nI 25), .int a, .int b] E S mc ms := by
  intro wv hC
  refine gMetX_mk (cc := cL_owned) (nL := 4) (ret := some .int) (XC := fun A => gXC (S := va_W) G A E (fun u => clS G lq u S) (fun u => u)) (by decide) rfl (Nat.le_of_ble_eq_true rfl) ?_
  intro p e s m args below meth c A F htb hZ ls hl hP hD hS
  have hx := F.1
  have hb := F.2.1
  have hts := F.2.2.2.2.2.2.1
  have hKK := F.2.2.2.2.2.2.2.2.1
  have hl : lv_has ls 4 [(0, .ref lq), (1, .int (nI 25)), (2, .int a), (3, .int b)] := hl
  have hP : va_P G.1 vwCl (wv ++ []) s.heap := by rw [List.append_nil]; exact hP
  have hD : va_D A (wv ++ []) := by rw [List.append_nil]; exact hD
  generalize hH : s.heap = H at hP ⊢
  have hS0 : va_S A s.heap H [] := by rw [← hH]; exact va_S.rf
  clear hS
  have hS := hS0
  clear hS0
  generalize hLo : ([] : List Loc) = locs at hS ⊢
  refine lv_iload_n hx hb dL_owned_0 rfl (lv_at hl 1 rfl) ?_
  refine lv_bipush (v := nI 17) hx hb dL_owned_1 (by decide) ?_
  refine bIT_ne (tgt := 14) hx hb dL_owned_3 (by decide) (by decide) ?_
  refine lv_iload_n hx hb dL_owned_14 rfl (lv_at hl 1 rfl) ?_
  refine lv_bipush (v := nI 18) hx hb dL_owned_15 (by decide) ?_
  refine bIT_ne (tgt := 28) hx hb dL_owned_17 (by decide) (by decide) ?_
  refine lv_iload_n hx hb dL_owned_28 rfl (lv_at hl 1 rfl) ?_
  refine lv_bipush (v := nI 19) hx hb dL_owned_29 (by decide) ?_
  refine bIT_ne (tgt := 42) hx hb dL_owned_31 (by decide) (by decide) ?_
  refine lv_iload_n hx hb dL_owned_42 rfl (lv_at hl 1 rfl) ?_
  refine lv_bipush (v := nI 20) hx hb dL_owned_43 (by decide) ?_
  refine bIT_ne (tgt := 56) hx hb dL_owned_45 (by decide) (by decide) ?_
  refine lv_iload_n hx hb dL_owned_56 rfl (lv_at hl 1 rfl) ?_
  refine lv_bipush (v := nI 21) hx hb dL_owned_57 (by decide) ?_
  refine bIT_ne (tgt := 70) hx hb dL_owned_59 (by decide) (by decide) ?_
  refine lv_iload_n hx hb dL_owned_70 rfl (lv_at hl 1 rfl) ?_
  refine lv_bipush (v := nI 22) hx hb dL_owned_71 (by decide) ?_
  refine bIT_ne (tgt := 85) hx hb dL_owned_73 (by decide) (by decide) ?_
  refine lv_iload_n hx hb dL_owned_85 rfl (lv_at hl 1 rfl) ?_
  refine lv_bipush (v := nI 23) hx hb dL_owned_86 (by decide) ?_
  refine bIT_ne (tgt := 99) hx hb dL_owned_88 (by decide) (by decide) ?_
  refine lv_iload_n hx hb dL_owned_99 rfl (lv_at hl 1 rfl) ?_
  refine lv_bipush (v := nI 24) hx hb dL_owned_100 (by decide) ?_
  refine bIT_ne (tgt := 113) hx hb dL_owned_102 (by decide) (by decide) ?_
  refine lv_iload_n hx hb dL_owned_113 rfl (lv_at hl 1 rfl) ?_
  refine lv_bipush (v := nI 25) hx hb dL_owned_114 (by decide) ?_
  refine bIF_ne (tgt := 127) hx hb dL_owned_116 (by decide) (by decide) ?_
  refine lv_aload_n hx hb dL_owned_119 rfl (lv_at hl 0 rfl) ?_
  refine lv_iload_n hx hb dL_owned_120 rfl (lv_at hl 2 rfl) ?_
  obtain ⟨fs, h0⟩ := cl_recv hC
  exact gCx F htb (gRunVx (own := RL) (C := RX3) (ci := 3) (bytes := cX3_coinsOf) (n := 1) (As := [.int a]) (rest := []) F hZ hS (hM wv hC H.size) gL_owned_X3_coinsOf rfl rfl hb1.1 hb1.2.1 (by decide +kernel) rfl ⟨by have h9 := hb1.2.2.2.2.1; show rm.frames + 1 ≤ 8; omega, by have h9 := hb1.2.2.2.2.2; show 8 + (2 + 11) + rm.locals ≤ 190; omega⟩ hP hD (lit := wv) (wt := []) (wc := wv) (isC := List.range wv.length) (gRange wv) (gRange_nd _) rfl h0 rfl hl.1 (Nat.le_of_ble_eq_true rfl) dL_owned_121 ⟨by show 0 + mc ≤ mc; omega, by show 0 + ms ≤ ms; omega⟩) hP hD hS (lit := wv) (wt := []) (wc := wv) (isC := List.range wv.length) (wr := []) (isR := []) (gRange wv) rfl rfl (fun _ h_ => by cases h_) (by omega) (by omega) (fun u H hp hP hD => ⟨u, hp, gPl hP, gDl hD⟩)
theorem owned_25 (l : Launch) (G : gG) (lq : Nat) (S S' : SpT) (a b : Int32) (r : Int) (h : DoV l G lq yX3_coinsOf wsX3_coinsOf [.int a] S r S') : DoS l G lq yL_owned wsL_owned [.int (nI 25), .int a, .int b] S r S' := by
  rcases h with ⟨rm, mc, ms, hb1, hM⟩ | ⟨E, rm, mc, ms, hb1, rfl, hE, hM⟩
  · exact Or.inl ⟨_, mc, ms, ⟨rfl, rfl, hb1.2.2.1, hb1.2.2.2.1, Nat.le_refl _, Nat.le_refl _⟩, owneda_25 l G lq S S' a b hb1 hM⟩
  · exact Or.inr ⟨E, _, mc, ms, ⟨rfl, rfl, hb1.2.2.1, hb1.2.2.2.1, Nat.le_refl _, Nat.le_refl _⟩, rfl, hE, ownedx_25 l G lq _ a b hb1 hM⟩

set_option maxHeartbeats 4000000 in
set_option maxRecDepth 100000 in
theorem owneda_26 (l : Launch) (G : gG) (lq : Nat) (S S' : SpT) (a b : Int32) {rm : Room} {mc ms : Nat} {v : Int32} (hb1 : bnd 7 160 rm mc ms) (hM : LQ l G lq yX3_lowCells wsX3_lowCells rm [.int a, .int b] S v S' mc ms) : LW l G lq yL_owned wsL_owned { frames := 8, cells := mc, slots := ms, locals := 190 } [.int (nI 26), .int a, .int b] S v S' mc ms := by
  intro wv hC
  refine gMetP_mk (cc := cL_owned) (nL := 4) (ret := some .int) (Qc := fun A => va_Qi (S := va_W) (fun r' u => r' = v ∧ clS G lq u S') (gB G A (fun u => u)) A) (by decide) rfl (Nat.le_of_ble_eq_true rfl) ?_
  intro p e s m args below meth c A F hZ ls hl hP hD hS
  have hx := F.1
  have hb := F.2.1
  have hts := F.2.2.2.2.2.2.1
  have hKK := F.2.2.2.2.2.2.2.2.1
  have hl : lv_has ls 4 [(0, .ref lq), (1, .int (nI 26)), (2, .int a), (3, .int b)] := hl
  have hP : va_P G.1 vwCl (wv ++ []) s.heap := by rw [List.append_nil]; exact hP
  have hD : va_D A (wv ++ []) := by rw [List.append_nil]; exact hD
  generalize hH : s.heap = H at hP ⊢
  have hS0 : va_S A s.heap H [] := by rw [← hH]; exact va_S.rf
  clear hS
  have hS := hS0
  clear hS0
  generalize hLo : ([] : List Loc) = locs at hS ⊢
  refine lv_iload_n hx hb dL_owned_0 rfl (lv_at hl 1 rfl) ?_
  refine lv_bipush (v := nI 17) hx hb dL_owned_1 (by decide) ?_
  refine bIT_ne (tgt := 14) hx hb dL_owned_3 (by decide) (by decide) ?_
  refine lv_iload_n hx hb dL_owned_14 rfl (lv_at hl 1 rfl) ?_
  refine lv_bipush (v := nI 18) hx hb dL_owned_15 (by decide) ?_
  refine bIT_ne (tgt := 28) hx hb dL_owned_17 (by decide) (by decide) ?_
  refine lv_iload_n hx hb dL_owned_28 rfl (lv_at hl 1 rfl) ?_
  refine lv_bipush (v := nI 19) hx hb dL_owned_29 (by decide) ?_
  refine bIT_ne (tgt := 42) hx hb dL_owned_31 (by decide) (by decide) ?_
  refine lv_iload_n hx hb dL_owned_42 rfl (lv_at hl 1 rfl) ?_
  refine lv_bipush (v := nI 20) hx hb dL_owned_43 (by decide) ?_
  refine bIT_ne (tgt := 56) hx hb dL_owned_45 (by decide) (by decide) ?_
  refine lv_iload_n hx hb dL_owned_56 rfl (lv_at hl 1 rfl) ?_
  refine lv_bipush (v := nI 21) hx hb dL_owned_57 (by decide) ?_
  refine bIT_ne (tgt := 70) hx hb dL_owned_59 (by decide) (by decide) ?_
  refine lv_iload_n hx hb dL_owned_70 rfl (lv_at hl 1 rfl) ?_
  refine lv_bipush (v := nI 22) hx hb dL_owned_71 (by decide) ?_
  refine bIT_ne (tgt := 85) hx hb dL_owned_73 (by decide) (by decide) ?_
  refine lv_iload_n hx hb dL_owned_85 rfl (lv_at hl 1 rfl) ?_
  refine lv_bipush (v := nI 23) hx hb dL_owned_86 (by decide) ?_
  refine bIT_ne (tgt := 99) hx hb dL_owned_88 (by decide) (by decide) ?_
  refine lv_iload_n hx hb dL_owned_99 rfl (lv_at hl 1 rfl) ?_
  refine lv_bipush (v := nI 24) hx hb dL_owned_100 (by decide) ?_
  refine bIT_ne (tgt := 113) hx hb dL_owned_102 (by decide) (by decide) ?_
  refine lv_iload_n hx hb dL_owned_113 rfl (lv_at hl 1 rfl) ?_
  refine lv_bipush (v := nI 25) hx hb dL_owned_114 (by decide) ?_
  refine bIT_ne (tgt := 127) hx hb dL_owned_116 (by decide) (by decide) ?_
  refine lv_iload_n hx hb dL_owned_127 rfl (lv_at hl 1 rfl) ?_
  refine lv_bipush (v := nI 26) hx hb dL_owned_128 (by decide) ?_
  refine bIF_ne (tgt := 142) hx hb dL_owned_130 (by decide) (by decide) ?_
  refine lv_aload_n hx hb dL_owned_133 rfl (lv_at hl 0 rfl) ?_
  refine lv_iload_n hx hb dL_owned_134 rfl (lv_at hl 2 rfl) ?_
  refine lv_iload_n hx hb dL_owned_135 rfl (lv_at hl 3 rfl) ?_
  refine lqV (own := RL) (index := 115) (bytes := cX3_lowCells) (n := 2) (As := [.int a, .int b]) (rest := []) (c2 := mc) (s2 := ms) F hM hC gL_owned_X3_lowCells rfl rfl hb1.1 hb1.2.1 (by decide +kernel) rfl ⟨by have h9 := hb1.2.2.2.2.1; show rm.frames + 1 ≤ 8; omega, by have h9 := hb1.2.2.2.2.2; show 8 + (3 + 11) + rm.locals ≤ 190; omega⟩ hP hD hS rfl hl.1 (Nat.le_of_ble_eq_true rfl) dL_owned_136 ⟨by omega, by omega⟩ ⟨Nat.le_refl _, Nat.le_refl _⟩ (fun u H locs hC hP hD hS => ?_)
  refine lv_goto (tgt := 161) hx hb dL_owned_139 (by decide) ?_
  exact gRi F dL_owned_161 rfl u ⟨rfl, hC⟩ (gPl hP) (gDl hD) hS (Nat.le_refl _) (Nat.le_refl _)
set_option maxHeartbeats 4000000 in
set_option maxRecDepth 100000 in
theorem ownedx_26 (l : Launch) (G : gG) (lq : Nat) (S : SpT) (a b : Int32) {E : String} {rm : Room} {mc ms : Nat} (hb1 : bnd 7 160 rm mc ms) (hM : LX l G lq yX3_lowCells wsX3_lowCells rm [.int a, .int b] E S mc ms) : LX l G lq yL_owned wsL_owned { frames := 8, cells := mc, slots := ms, locals := 190 } [.int (nI 26), .int a, .int b] E S mc ms := by
  intro wv hC
  refine gMetX_mk (cc := cL_owned) (nL := 4) (ret := some .int) (XC := fun A => gXC (S := va_W) G A E (fun u => clS G lq u S) (fun u => u)) (by decide) rfl (Nat.le_of_ble_eq_true rfl) ?_
  intro p e s m args below meth c A F htb hZ ls hl hP hD hS
  have hx := F.1
  have hb := F.2.1
  have hts := F.2.2.2.2.2.2.1
  have hKK := F.2.2.2.2.2.2.2.2.1
  have hl : lv_has ls 4 [(0, .ref lq), (1, .int (nI 26)), (2, .int a), (3, .int b)] := hl
  have hP : va_P G.1 vwCl (wv ++ []) s.heap := by rw [List.append_nil]; exact hP
  have hD : va_D A (wv ++ []) := by rw [List.append_nil]; exact hD
  generalize hH : s.heap = H at hP ⊢
  have hS0 : va_S A s.heap H [] := by rw [← hH]; exact va_S.rf
  clear hS
  have hS := hS0
  clear hS0
  generalize hLo : ([] : List Loc) = locs at hS ⊢
  refine lv_iload_n hx hb dL_owned_0 rfl (lv_at hl 1 rfl) ?_
  refine lv_bipush (v := nI 17) hx hb dL_owned_1 (by decide) ?_
  refine bIT_ne (tgt := 14) hx hb dL_owned_3 (by decide) (by decide) ?_
  refine lv_iload_n hx hb dL_owned_14 rfl (lv_at hl 1 rfl) ?_
  refine lv_bipush (v := nI 18) hx hb dL_owned_15 (by decide) ?_
  refine bIT_ne (tgt := 28) hx hb dL_owned_17 (by decide) (by decide) ?_
  refine lv_iload_n hx hb dL_owned_28 rfl (lv_at hl 1 rfl) ?_
  refine lv_bipush (v := nI 19) hx hb dL_owned_29 (by decide) ?_
  refine bIT_ne (tgt := 42) hx hb dL_owned_31 (by decide) (by decide) ?_
  refine lv_iload_n hx hb dL_owned_42 rfl (lv_at hl 1 rfl) ?_
  refine lv_bipush (v := nI 20) hx hb dL_owned_43 (by decide) ?_
  refine bIT_ne (tgt := 56) hx hb dL_owned_45 (by decide) (by decide) ?_
  refine lv_iload_n hx hb dL_owned_56 rfl (lv_at hl 1 rfl) ?_
  refine lv_bipush (v := nI 21) hx hb dL_owned_57 (by decide) ?_
  refine bIT_ne (tgt := 70) hx hb dL_owned_59 (by decide) (by decide) ?_
  refine lv_iload_n hx hb dL_owned_70 rfl (lv_at hl 1 rfl) ?_
  refine lv_bipush (v := nI 22) hx hb dL_owned_71 (by decide) ?_
  refine bIT_ne (tgt := 85) hx hb dL_owned_73 (by decide) (by decide) ?_
  refine lv_iload_n hx hb dL_owned_85 rfl (lv_at hl 1 rfl) ?_
  refine lv_bipush (v := nI 23) hx hb dL_owned_86 (by decide) ?_
  refine bIT_ne (tgt := 99) hx hb dL_owned_88 (by decide) (by decide) ?_
  refine lv_iload_n hx hb dL_owned_99 rfl (lv_at hl 1 rfl) ?_
  refine lv_bipush (v := nI 24) hx hb dL_owned_100 (by decide) ?_
  refine bIT_ne (tgt := 113) hx hb dL_owned_102 (by decide) (by decide) ?_
  refine lv_iload_n hx hb dL_owned_113 rfl (lv_at hl 1 rfl) ?_
  refine lv_bipush (v := nI 25) hx hb dL_owned_114 (by decide) ?_
  refine bIT_ne (tgt := 127) hx hb dL_owned_116 (by decide) (by decide) ?_
  refine lv_iload_n hx hb dL_owned_127 rfl (lv_at hl 1 rfl) ?_
  refine lv_bipush (v := nI 26) hx hb dL_owned_128 (by decide) ?_
  refine bIF_ne (tgt := 142) hx hb dL_owned_130 (by decide) (by decide) ?_
  refine lv_aload_n hx hb dL_owned_133 rfl (lv_at hl 0 rfl) ?_
  refine lv_iload_n hx hb dL_owned_134 rfl (lv_at hl 2 rfl) ?_
  refine lv_iload_n hx hb dL_owned_135 rfl (lv_at hl 3 rfl) ?_
  obtain ⟨fs, h0⟩ := cl_recv hC
  exact gCx F htb (gRunVx (own := RL) (C := RX3) (ci := 3) (bytes := cX3_lowCells) (n := 2) (As := [.int a, .int b]) (rest := []) F hZ hS (hM wv hC H.size) gL_owned_X3_lowCells rfl rfl hb1.1 hb1.2.1 (by decide +kernel) rfl ⟨by have h9 := hb1.2.2.2.2.1; show rm.frames + 1 ≤ 8; omega, by have h9 := hb1.2.2.2.2.2; show 8 + (3 + 11) + rm.locals ≤ 190; omega⟩ hP hD (lit := wv) (wt := []) (wc := wv) (isC := List.range wv.length) (gRange wv) (gRange_nd _) rfl h0 rfl hl.1 (Nat.le_of_ble_eq_true rfl) dL_owned_136 ⟨by show 0 + mc ≤ mc; omega, by show 0 + ms ≤ ms; omega⟩) hP hD hS (lit := wv) (wt := []) (wc := wv) (isC := List.range wv.length) (wr := []) (isR := []) (gRange wv) rfl rfl (fun _ h_ => by cases h_) (by omega) (by omega) (fun u H hp hP hD => ⟨u, hp, gPl hP, gDl hD⟩)
theorem owned_26 (l : Launch) (G : gG) (lq : Nat) (S S' : SpT) (a b : Int32) (r : Int) (h : DoV l G lq yX3_lowCells wsX3_lowCells [.int a, .int b] S r S') : DoS l G lq yL_owned wsL_owned [.int (nI 26), .int a, .int b] S r S' := by
  rcases h with ⟨rm, mc, ms, hb1, hM⟩ | ⟨E, rm, mc, ms, hb1, rfl, hE, hM⟩
  · exact Or.inl ⟨_, mc, ms, ⟨rfl, rfl, hb1.2.2.1, hb1.2.2.2.1, Nat.le_refl _, Nat.le_refl _⟩, owneda_26 l G lq S S' a b hb1 hM⟩
  · exact Or.inr ⟨E, _, mc, ms, ⟨rfl, rfl, hb1.2.2.1, hb1.2.2.2.1, Nat.le_refl _, Nat.le_refl _⟩, rfl, hE, ownedx_26 l G lq _ a b hb1 hM⟩

set_option maxHeartbeats 4000000 in
set_option maxRecDepth 100000 in
theorem owneda_27 (l : Launch) (G : gG) (lq : Nat) (S S' : SpT) (a b : Int32) {rm : Room} {mc ms : Nat} {v : Int32} (hb1 : bnd 7 160 rm mc ms) (hM : LQ l G lq yX3_lossesIfTaxed wsX3_lossesIfTaxed rm [.int a] S v S' mc ms) : LW l G lq yL_owned wsL_owned { frames := 8, cells := mc, slots := ms, locals := 190 } [.int (nI 27), .int a, .int b] S v S' mc ms := by
  intro wv hC
  refine gMetP_mk (cc := cL_owned) (nL := 4) (ret := some .int) (Qc := fun A => va_Qi (S := va_W) (fun r' u => r' = v ∧ clS G lq u S') (gB G A (fun u => u)) A) (by decide) rfl (Nat.le_of_ble_eq_true rfl) ?_
  intro p e s m args below meth c A F hZ ls hl hP hD hS
  have hx := F.1
  have hb := F.2.1
  have hts := F.2.2.2.2.2.2.1
  have hKK := F.2.2.2.2.2.2.2.2.1
  have hl : lv_has ls 4 [(0, .ref lq), (1, .int (nI 27)), (2, .int a), (3, .int b)] := hl
  have hP : va_P G.1 vwCl (wv ++ []) s.heap := by rw [List.append_nil]; exact hP
  have hD : va_D A (wv ++ []) := by rw [List.append_nil]; exact hD
  generalize hH : s.heap = H at hP ⊢
  have hS0 : va_S A s.heap H [] := by rw [← hH]; exact va_S.rf
  clear hS
  have hS := hS0
  clear hS0
  generalize hLo : ([] : List Loc) = locs at hS ⊢
  refine lv_iload_n hx hb dL_owned_0 rfl (lv_at hl 1 rfl) ?_
  refine lv_bipush (v := nI 17) hx hb dL_owned_1 (by decide) ?_
  refine bIT_ne (tgt := 14) hx hb dL_owned_3 (by decide) (by decide) ?_
  refine lv_iload_n hx hb dL_owned_14 rfl (lv_at hl 1 rfl) ?_
  refine lv_bipush (v := nI 18) hx hb dL_owned_15 (by decide) ?_
  refine bIT_ne (tgt := 28) hx hb dL_owned_17 (by decide) (by decide) ?_
  refine lv_iload_n hx hb dL_owned_28 rfl (lv_at hl 1 rfl) ?_
  refine lv_bipush (v := nI 19) hx hb dL_owned_29 (by decide) ?_
  refine bIT_ne (tgt := 42) hx hb dL_owned_31 (by decide) (by decide) ?_
  refine lv_iload_n hx hb dL_owned_42 rfl (lv_at hl 1 rfl) ?_
  refine lv_bipush (v := nI 20) hx hb dL_owned_43 (by decide) ?_
  refine bIT_ne (tgt := 56) hx hb dL_owned_45 (by decide) (by decide) ?_
  refine lv_iload_n hx hb dL_owned_56 rfl (lv_at hl 1 rfl) ?_
  refine lv_bipush (v := nI 21) hx hb dL_owned_57 (by decide) ?_
  refine bIT_ne (tgt := 70) hx hb dL_owned_59 (by decide) (by decide) ?_
  refine lv_iload_n hx hb dL_owned_70 rfl (lv_at hl 1 rfl) ?_
  refine lv_bipush (v := nI 22) hx hb dL_owned_71 (by decide) ?_
  refine bIT_ne (tgt := 85) hx hb dL_owned_73 (by decide) (by decide) ?_
  refine lv_iload_n hx hb dL_owned_85 rfl (lv_at hl 1 rfl) ?_
  refine lv_bipush (v := nI 23) hx hb dL_owned_86 (by decide) ?_
  refine bIT_ne (tgt := 99) hx hb dL_owned_88 (by decide) (by decide) ?_
  refine lv_iload_n hx hb dL_owned_99 rfl (lv_at hl 1 rfl) ?_
  refine lv_bipush (v := nI 24) hx hb dL_owned_100 (by decide) ?_
  refine bIT_ne (tgt := 113) hx hb dL_owned_102 (by decide) (by decide) ?_
  refine lv_iload_n hx hb dL_owned_113 rfl (lv_at hl 1 rfl) ?_
  refine lv_bipush (v := nI 25) hx hb dL_owned_114 (by decide) ?_
  refine bIT_ne (tgt := 127) hx hb dL_owned_116 (by decide) (by decide) ?_
  refine lv_iload_n hx hb dL_owned_127 rfl (lv_at hl 1 rfl) ?_
  refine lv_bipush (v := nI 26) hx hb dL_owned_128 (by decide) ?_
  refine bIT_ne (tgt := 142) hx hb dL_owned_130 (by decide) (by decide) ?_
  refine lv_iload_n hx hb dL_owned_142 rfl (lv_at hl 1 rfl) ?_
  refine lv_bipush (v := nI 27) hx hb dL_owned_143 (by decide) ?_
  refine bIF_ne (tgt := 156) hx hb dL_owned_145 (by decide) (by decide) ?_
  refine lv_aload_n hx hb dL_owned_148 rfl (lv_at hl 0 rfl) ?_
  refine lv_iload_n hx hb dL_owned_149 rfl (lv_at hl 2 rfl) ?_
  refine lqV (own := RL) (index := 118) (bytes := cX3_lossesIfTaxed) (n := 1) (As := [.int a]) (rest := []) (c2 := mc) (s2 := ms) F hM hC gL_owned_X3_lossesIfTaxed rfl rfl hb1.1 hb1.2.1 (by decide +kernel) rfl ⟨by have h9 := hb1.2.2.2.2.1; show rm.frames + 1 ≤ 8; omega, by have h9 := hb1.2.2.2.2.2; show 8 + (2 + 11) + rm.locals ≤ 190; omega⟩ hP hD hS rfl hl.1 (Nat.le_of_ble_eq_true rfl) dL_owned_150 ⟨by omega, by omega⟩ ⟨Nat.le_refl _, Nat.le_refl _⟩ (fun u H locs hC hP hD hS => ?_)
  refine lv_goto (tgt := 161) hx hb dL_owned_153 (by decide) ?_
  exact gRi F dL_owned_161 rfl u ⟨rfl, hC⟩ (gPl hP) (gDl hD) hS (Nat.le_refl _) (Nat.le_refl _)
set_option maxHeartbeats 4000000 in
set_option maxRecDepth 100000 in
theorem ownedx_27 (l : Launch) (G : gG) (lq : Nat) (S : SpT) (a b : Int32) {E : String} {rm : Room} {mc ms : Nat} (hb1 : bnd 7 160 rm mc ms) (hM : LX l G lq yX3_lossesIfTaxed wsX3_lossesIfTaxed rm [.int a] E S mc ms) : LX l G lq yL_owned wsL_owned { frames := 8, cells := mc, slots := ms, locals := 190 } [.int (nI 27), .int a, .int b] E S mc ms := by
  intro wv hC
  refine gMetX_mk (cc := cL_owned) (nL := 4) (ret := some .int) (XC := fun A => gXC (S := va_W) G A E (fun u => clS G lq u S) (fun u => u)) (by decide) rfl (Nat.le_of_ble_eq_true rfl) ?_
  intro p e s m args below meth c A F htb hZ ls hl hP hD hS
  have hx := F.1
  have hb := F.2.1
  have hts := F.2.2.2.2.2.2.1
  have hKK := F.2.2.2.2.2.2.2.2.1
  have hl : lv_has ls 4 [(0, .ref lq), (1, .int (nI 27)), (2, .int a), (3, .int b)] := hl
  have hP : va_P G.1 vwCl (wv ++ []) s.heap := by rw [List.append_nil]; exact hP
  have hD : va_D A (wv ++ []) := by rw [List.append_nil]; exact hD
  generalize hH : s.heap = H at hP ⊢
  have hS0 : va_S A s.heap H [] := by rw [← hH]; exact va_S.rf
  clear hS
  have hS := hS0
  clear hS0
  generalize hLo : ([] : List Loc) = locs at hS ⊢
  refine lv_iload_n hx hb dL_owned_0 rfl (lv_at hl 1 rfl) ?_
  refine lv_bipush (v := nI 17) hx hb dL_owned_1 (by decide) ?_
  refine bIT_ne (tgt := 14) hx hb dL_owned_3 (by decide) (by decide) ?_
  refine lv_iload_n hx hb dL_owned_14 rfl (lv_at hl 1 rfl) ?_
  refine lv_bipush (v := nI 18) hx hb dL_owned_15 (by decide) ?_
  refine bIT_ne (tgt := 28) hx hb dL_owned_17 (by decide) (by decide) ?_
  refine lv_iload_n hx hb dL_owned_28 rfl (lv_at hl 1 rfl) ?_
  refine lv_bipush (v := nI 19) hx hb dL_owned_29 (by decide) ?_
  refine bIT_ne (tgt := 42) hx hb dL_owned_31 (by decide) (by decide) ?_
  refine lv_iload_n hx hb dL_owned_42 rfl (lv_at hl 1 rfl) ?_
  refine lv_bipush (v := nI 20) hx hb dL_owned_43 (by decide) ?_
  refine bIT_ne (tgt := 56) hx hb dL_owned_45 (by decide) (by decide) ?_
  refine lv_iload_n hx hb dL_owned_56 rfl (lv_at hl 1 rfl) ?_
  refine lv_bipush (v := nI 21) hx hb dL_owned_57 (by decide) ?_
  refine bIT_ne (tgt := 70) hx hb dL_owned_59 (by decide) (by decide) ?_
  refine lv_iload_n hx hb dL_owned_70 rfl (lv_at hl 1 rfl) ?_
  refine lv_bipush (v := nI 22) hx hb dL_owned_71 (by decide) ?_
  refine bIT_ne (tgt := 85) hx hb dL_owned_73 (by decide) (by decide) ?_
  refine lv_iload_n hx hb dL_owned_85 rfl (lv_at hl 1 rfl) ?_
  refine lv_bipush (v := nI 23) hx hb dL_owned_86 (by decide) ?_
  refine bIT_ne (tgt := 99) hx hb dL_owned_88 (by decide) (by decide) ?_
  refine lv_iload_n hx hb dL_owned_99 rfl (lv_at hl 1 rfl) ?_
  refine lv_bipush (v := nI 24) hx hb dL_owned_100 (by decide) ?_
  refine bIT_ne (tgt := 113) hx hb dL_owned_102 (by decide) (by decide) ?_
  refine lv_iload_n hx hb dL_owned_113 rfl (lv_at hl 1 rfl) ?_
  refine lv_bipush (v := nI 25) hx hb dL_owned_114 (by decide) ?_
  refine bIT_ne (tgt := 127) hx hb dL_owned_116 (by decide) (by decide) ?_
  refine lv_iload_n hx hb dL_owned_127 rfl (lv_at hl 1 rfl) ?_
  refine lv_bipush (v := nI 26) hx hb dL_owned_128 (by decide) ?_
  refine bIT_ne (tgt := 142) hx hb dL_owned_130 (by decide) (by decide) ?_
  refine lv_iload_n hx hb dL_owned_142 rfl (lv_at hl 1 rfl) ?_
  refine lv_bipush (v := nI 27) hx hb dL_owned_143 (by decide) ?_
  refine bIF_ne (tgt := 156) hx hb dL_owned_145 (by decide) (by decide) ?_
  refine lv_aload_n hx hb dL_owned_148 rfl (lv_at hl 0 rfl) ?_
  refine lv_iload_n hx hb dL_owned_149 rfl (lv_at hl 2 rfl) ?_
  obtain ⟨fs, h0⟩ := cl_recv hC
  exact gCx F htb (gRunVx (own := RL) (C := RX3) (ci := 3) (bytes := cX3_lossesIfTaxed) (n := 1) (As := [.int a]) (rest := []) F hZ hS (hM wv hC H.size) gL_owned_X3_lossesIfTaxed rfl rfl hb1.1 hb1.2.1 (by decide +kernel) rfl ⟨by have h9 := hb1.2.2.2.2.1; show rm.frames + 1 ≤ 8; omega, by have h9 := hb1.2.2.2.2.2; show 8 + (2 + 11) + rm.locals ≤ 190; omega⟩ hP hD (lit := wv) (wt := []) (wc := wv) (isC := List.range wv.length) (gRange wv) (gRange_nd _) rfl h0 rfl hl.1 (Nat.le_of_ble_eq_true rfl) dL_owned_150 ⟨by show 0 + mc ≤ mc; omega, by show 0 + ms ≤ ms; omega⟩) hP hD hS (lit := wv) (wt := []) (wc := wv) (isC := List.range wv.length) (wr := []) (isR := []) (gRange wv) rfl rfl (fun _ h_ => by cases h_) (by omega) (by omega) (fun u H hp hP hD => ⟨u, hp, gPl hP, gDl hD⟩)
theorem owned_27 (l : Launch) (G : gG) (lq : Nat) (S S' : SpT) (a b : Int32) (r : Int) (h : DoV l G lq yX3_lossesIfTaxed wsX3_lossesIfTaxed [.int a] S r S') : DoS l G lq yL_owned wsL_owned [.int (nI 27), .int a, .int b] S r S' := by
  rcases h with ⟨rm, mc, ms, hb1, hM⟩ | ⟨E, rm, mc, ms, hb1, rfl, hE, hM⟩
  · exact Or.inl ⟨_, mc, ms, ⟨rfl, rfl, hb1.2.2.1, hb1.2.2.2.1, Nat.le_refl _, Nat.le_refl _⟩, owneda_27 l G lq S S' a b hb1 hM⟩
  · exact Or.inr ⟨E, _, mc, ms, ⟨rfl, rfl, hb1.2.2.1, hb1.2.2.2.1, Nat.le_refl _, Nat.le_refl _⟩, rfl, hE, ownedx_27 l G lq _ a b hb1 hM⟩

set_option maxHeartbeats 4000000 in
set_option maxRecDepth 100000 in
theorem owneda_28 (l : Launch) (G : gG) (lq : Nat) (S S' : SpT) (a b : Int32) {rm : Room} {mc ms : Nat} {v : Int32} (hb1 : bnd 7 160 rm mc ms) (hM : LQ l G lq yX3_nearestNeighbour wsX3_nearestNeighbour rm [.int a] S v S' mc ms) : LW l G lq yL_owned wsL_owned { frames := 8, cells := mc, slots := ms, locals := 190 } [.int (nI 28), .int a, .int b] S v S' mc ms := by
  intro wv hC
  refine gMetP_mk (cc := cL_owned) (nL := 4) (ret := some .int) (Qc := fun A => va_Qi (S := va_W) (fun r' u => r' = v ∧ clS G lq u S') (gB G A (fun u => u)) A) (by decide) rfl (Nat.le_of_ble_eq_true rfl) ?_
  intro p e s m args below meth c A F hZ ls hl hP hD hS
  have hx := F.1
  have hb := F.2.1
  have hts := F.2.2.2.2.2.2.1
  have hKK := F.2.2.2.2.2.2.2.2.1
  have hl : lv_has ls 4 [(0, .ref lq), (1, .int (nI 28)), (2, .int a), (3, .int b)] := hl
  have hP : va_P G.1 vwCl (wv ++ []) s.heap := by rw [List.append_nil]; exact hP
  have hD : va_D A (wv ++ []) := by rw [List.append_nil]; exact hD
  generalize hH : s.heap = H at hP ⊢
  have hS0 : va_S A s.heap H [] := by rw [← hH]; exact va_S.rf
  clear hS
  have hS := hS0
  clear hS0
  generalize hLo : ([] : List Loc) = locs at hS ⊢
  refine lv_iload_n hx hb dL_owned_0 rfl (lv_at hl 1 rfl) ?_
  refine lv_bipush (v := nI 17) hx hb dL_owned_1 (by decide) ?_
  refine bIT_ne (tgt := 14) hx hb dL_owned_3 (by decide) (by decide) ?_
  refine lv_iload_n hx hb dL_owned_14 rfl (lv_at hl 1 rfl) ?_
  refine lv_bipush (v := nI 18) hx hb dL_owned_15 (by decide) ?_
  refine bIT_ne (tgt := 28) hx hb dL_owned_17 (by decide) (by decide) ?_
  refine lv_iload_n hx hb dL_owned_28 rfl (lv_at hl 1 rfl) ?_
  refine lv_bipush (v := nI 19) hx hb dL_owned_29 (by decide) ?_
  refine bIT_ne (tgt := 42) hx hb dL_owned_31 (by decide) (by decide) ?_
  refine lv_iload_n hx hb dL_owned_42 rfl (lv_at hl 1 rfl) ?_
  refine lv_bipush (v := nI 20) hx hb dL_owned_43 (by decide) ?_
  refine bIT_ne (tgt := 56) hx hb dL_owned_45 (by decide) (by decide) ?_
  refine lv_iload_n hx hb dL_owned_56 rfl (lv_at hl 1 rfl) ?_
  refine lv_bipush (v := nI 21) hx hb dL_owned_57 (by decide) ?_
  refine bIT_ne (tgt := 70) hx hb dL_owned_59 (by decide) (by decide) ?_
  refine lv_iload_n hx hb dL_owned_70 rfl (lv_at hl 1 rfl) ?_
  refine lv_bipush (v := nI 22) hx hb dL_owned_71 (by decide) ?_
  refine bIT_ne (tgt := 85) hx hb dL_owned_73 (by decide) (by decide) ?_
  refine lv_iload_n hx hb dL_owned_85 rfl (lv_at hl 1 rfl) ?_
  refine lv_bipush (v := nI 23) hx hb dL_owned_86 (by decide) ?_
  refine bIT_ne (tgt := 99) hx hb dL_owned_88 (by decide) (by decide) ?_
  refine lv_iload_n hx hb dL_owned_99 rfl (lv_at hl 1 rfl) ?_
  refine lv_bipush (v := nI 24) hx hb dL_owned_100 (by decide) ?_
  refine bIT_ne (tgt := 113) hx hb dL_owned_102 (by decide) (by decide) ?_
  refine lv_iload_n hx hb dL_owned_113 rfl (lv_at hl 1 rfl) ?_
  refine lv_bipush (v := nI 25) hx hb dL_owned_114 (by decide) ?_
  refine bIT_ne (tgt := 127) hx hb dL_owned_116 (by decide) (by decide) ?_
  refine lv_iload_n hx hb dL_owned_127 rfl (lv_at hl 1 rfl) ?_
  refine lv_bipush (v := nI 26) hx hb dL_owned_128 (by decide) ?_
  refine bIT_ne (tgt := 142) hx hb dL_owned_130 (by decide) (by decide) ?_
  refine lv_iload_n hx hb dL_owned_142 rfl (lv_at hl 1 rfl) ?_
  refine lv_bipush (v := nI 27) hx hb dL_owned_143 (by decide) ?_
  refine bIT_ne (tgt := 156) hx hb dL_owned_145 (by decide) (by decide) ?_
  refine lv_aload_n hx hb dL_owned_156 rfl (lv_at hl 0 rfl) ?_
  refine lv_iload_n hx hb dL_owned_157 rfl (lv_at hl 2 rfl) ?_
  refine lqV (own := RL) (index := 121) (bytes := cX3_nearestNeighbour) (n := 1) (As := [.int a]) (rest := []) (c2 := mc) (s2 := ms) F hM hC gL_owned_X3_nearestNeighbour rfl rfl hb1.1 hb1.2.1 (by decide +kernel) rfl ⟨by have h9 := hb1.2.2.2.2.1; show rm.frames + 1 ≤ 8; omega, by have h9 := hb1.2.2.2.2.2; show 8 + (6 + 11) + rm.locals ≤ 190; omega⟩ hP hD hS rfl hl.1 (Nat.le_of_ble_eq_true rfl) dL_owned_158 ⟨by omega, by omega⟩ ⟨Nat.le_refl _, Nat.le_refl _⟩ (fun u H locs hC hP hD hS => ?_)
  exact gRi F dL_owned_161 rfl u ⟨rfl, hC⟩ (gPl hP) (gDl hD) hS (Nat.le_refl _) (Nat.le_refl _)
set_option maxHeartbeats 4000000 in
set_option maxRecDepth 100000 in
theorem ownedx_28 (l : Launch) (G : gG) (lq : Nat) (S : SpT) (a b : Int32) {E : String} {rm : Room} {mc ms : Nat} (hb1 : bnd 7 160 rm mc ms) (hM : LX l G lq yX3_nearestNeighbour wsX3_nearestNeighbour rm [.int a] E S mc ms) : LX l G lq yL_owned wsL_owned { frames := 8, cells := mc, slots := ms, locals := 190 } [.int (nI 28), .int a, .int b] E S mc ms := by
  intro wv hC
  refine gMetX_mk (cc := cL_owned) (nL := 4) (ret := some .int) (XC := fun A => gXC (S := va_W) G A E (fun u => clS G lq u S) (fun u => u)) (by decide) rfl (Nat.le_of_ble_eq_true rfl) ?_
  intro p e s m args below meth c A F htb hZ ls hl hP hD hS
  have hx := F.1
  have hb := F.2.1
  have hts := F.2.2.2.2.2.2.1
  have hKK := F.2.2.2.2.2.2.2.2.1
  have hl : lv_has ls 4 [(0, .ref lq), (1, .int (nI 28)), (2, .int a), (3, .int b)] := hl
  have hP : va_P G.1 vwCl (wv ++ []) s.heap := by rw [List.append_nil]; exact hP
  have hD : va_D A (wv ++ []) := by rw [List.append_nil]; exact hD
  generalize hH : s.heap = H at hP ⊢
  have hS0 : va_S A s.heap H [] := by rw [← hH]; exact va_S.rf
  clear hS
  have hS := hS0
  clear hS0
  generalize hLo : ([] : List Loc) = locs at hS ⊢
  refine lv_iload_n hx hb dL_owned_0 rfl (lv_at hl 1 rfl) ?_
  refine lv_bipush (v := nI 17) hx hb dL_owned_1 (by decide) ?_
  refine bIT_ne (tgt := 14) hx hb dL_owned_3 (by decide) (by decide) ?_
  refine lv_iload_n hx hb dL_owned_14 rfl (lv_at hl 1 rfl) ?_
  refine lv_bipush (v := nI 18) hx hb dL_owned_15 (by decide) ?_
  refine bIT_ne (tgt := 28) hx hb dL_owned_17 (by decide) (by decide) ?_
  refine lv_iload_n hx hb dL_owned_28 rfl (lv_at hl 1 rfl) ?_
  refine lv_bipush (v := nI 19) hx hb dL_owned_29 (by decide) ?_
  refine bIT_ne (tgt := 42) hx hb dL_owned_31 (by decide) (by decide) ?_
  refine lv_iload_n hx hb dL_owned_42 rfl (lv_at hl 1 rfl) ?_
  refine lv_bipush (v := nI 20) hx hb dL_owned_43 (by decide) ?_
  refine bIT_ne (tgt := 56) hx hb dL_owned_45 (by decide) (by decide) ?_
  refine lv_iload_n hx hb dL_owned_56 rfl (lv_at hl 1 rfl) ?_
  refine lv_bipush (v := nI 21) hx hb dL_owned_57 (by decide) ?_
  refine bIT_ne (tgt := 70) hx hb dL_owned_59 (by decide) (by decide) ?_
  refine lv_iload_n hx hb dL_owned_70 rfl (lv_at hl 1 rfl) ?_
  refine lv_bipush (v := nI 22) hx hb dL_owned_71 (by decide) ?_
  refine bIT_ne (tgt := 85) hx hb dL_owned_73 (by decide) (by decide) ?_
  refine lv_iload_n hx hb dL_owned_85 rfl (lv_at hl 1 rfl) ?_
  refine lv_bipush (v := nI 23) hx hb dL_owned_86 (by decide) ?_
  refine bIT_ne (tgt := 99) hx hb dL_owned_88 (by decide) (by decide) ?_
  refine lv_iload_n hx hb dL_owned_99 rfl (lv_at hl 1 rfl) ?_
  refine lv_bipush (v := nI 24) hx hb dL_owned_100 (by decide) ?_
  refine bIT_ne (tgt := 113) hx hb dL_owned_102 (by decide) (by decide) ?_
  refine lv_iload_n hx hb dL_owned_113 rfl (lv_at hl 1 rfl) ?_
  refine lv_bipush (v := nI 25) hx hb dL_owned_114 (by decide) ?_
  refine bIT_ne (tgt := 127) hx hb dL_owned_116 (by decide) (by decide) ?_
  refine lv_iload_n hx hb dL_owned_127 rfl (lv_at hl 1 rfl) ?_
  refine lv_bipush (v := nI 26) hx hb dL_owned_128 (by decide) ?_
  refine bIT_ne (tgt := 142) hx hb dL_owned_130 (by decide) (by decide) ?_
  refine lv_iload_n hx hb dL_owned_142 rfl (lv_at hl 1 rfl) ?_
  refine lv_bipush (v := nI 27) hx hb dL_owned_143 (by decide) ?_
  refine bIT_ne (tgt := 156) hx hb dL_owned_145 (by decide) (by decide) ?_
  refine lv_aload_n hx hb dL_owned_156 rfl (lv_at hl 0 rfl) ?_
  refine lv_iload_n hx hb dL_owned_157 rfl (lv_at hl 2 rfl) ?_
  obtain ⟨fs, h0⟩ := cl_recv hC
  exact gCx F htb (gRunVx (own := RL) (C := RX3) (ci := 3) (bytes := cX3_nearestNeighbour) (n := 1) (As := [.int a]) (rest := []) F hZ hS (hM wv hC H.size) gL_owned_X3_nearestNeighbour rfl rfl hb1.1 hb1.2.1 (by decide +kernel) rfl ⟨by have h9 := hb1.2.2.2.2.1; show rm.frames + 1 ≤ 8; omega, by have h9 := hb1.2.2.2.2.2; show 8 + (6 + 11) + rm.locals ≤ 190; omega⟩ hP hD (lit := wv) (wt := []) (wc := wv) (isC := List.range wv.length) (gRange wv) (gRange_nd _) rfl h0 rfl hl.1 (Nat.le_of_ble_eq_true rfl) dL_owned_158 ⟨by show 0 + mc ≤ mc; omega, by show 0 + ms ≤ ms; omega⟩) hP hD hS (lit := wv) (wt := []) (wc := wv) (isC := List.range wv.length) (wr := []) (isR := []) (gRange wv) rfl rfl (fun _ h_ => by cases h_) (by omega) (by omega) (fun u H hp hP hD => ⟨u, hp, gPl hP, gDl hD⟩)
theorem owned_28 (l : Launch) (G : gG) (lq : Nat) (S S' : SpT) (a b : Int32) (r : Int) (h : DoV l G lq yX3_nearestNeighbour wsX3_nearestNeighbour [.int a] S r S') : DoS l G lq yL_owned wsL_owned [.int (nI 28), .int a, .int b] S r S' := by
  rcases h with ⟨rm, mc, ms, hb1, hM⟩ | ⟨E, rm, mc, ms, hb1, rfl, hE, hM⟩
  · exact Or.inl ⟨_, mc, ms, ⟨rfl, rfl, hb1.2.2.1, hb1.2.2.2.1, Nat.le_refl _, Nat.le_refl _⟩, owneda_28 l G lq S S' a b hb1 hM⟩
  · exact Or.inr ⟨E, _, mc, ms, ⟨rfl, rfl, hb1.2.2.1, hb1.2.2.2.1, Nat.le_refl _, Nat.le_refl _⟩, rfl, hE, ownedx_28 l G lq _ a b hb1 hM⟩
