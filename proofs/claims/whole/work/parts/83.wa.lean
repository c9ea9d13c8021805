set_option maxHeartbeats 4000000 in
set_option maxRecDepth 100000 in
theorem wa_grant (l : Launch) (G : gG) (lq ol : Nat) {wv : va_W} {f : Nat → Int64} {rm : Room} {mc ms : Nat} {post : Int32 → va_W → Prop} (a1 a2 a3 a4 : Int32) (h0 : ∃ fs, wv[0]? = some (lq, .inr (3, fs))) (hM : gMi (S := va_W) l yX3_grant wsX3_grant rm G [.ref lq, .int a1, .int a2, .int a3, .int a4] wv post (fun u => u) mc ms) (hrc : rm.cells = mc) (hrs : rm.slots = ms) : gMw (S := va_W × Int32) l yL_grant wsL_grant { frames := rm.frames + 1, cells := mc, slots := ms, locals := 8 + (6 + 11) + rm.locals } G [.ref lq, .int a1, .int a2, .int a3, .int a4, .ref ol] (wv ++ [outc G ol f]) (fun (r : Int32) (u : va_W × Int32) => r = nI 0 ∧ post u.2 u.1) (fun (u : va_W × Int32) => u.1 ++ [outc G ol (vp_updL f 0 u.2.toInt64)]) mc ms := by
  refine gMw_mk (cc := cL_grant) (nL := 7) (ret := some .int) (hh := [(0, 14, 17, 13), (0, 14, 21, 15)]) (Qc := fun A => va_Qi (S := va_W × Int32) (fun (r : Int32) (u : va_W × Int32) => r = nI 0 ∧ post u.2 u.1) (gB G A (fun (u : va_W × Int32) => u.1 ++ [outc G ol (vp_updL f 0 u.2.toInt64)])) A) (by decide) rfl (Nat.le_of_ble_eq_true rfl) ?_
  intro p e s m args below meth c A F htb hZ ls hl hP hD hS
  have hx := F.1
  have hb := F.2.1
  have hKK := F.2.2.2.2.2.2.2.2.1
  have hl : lv_has ls 7 [(0, .ref lq), (1, .int a1), (2, .int a2), (3, .int a3), (4, .int a4), (5, .ref ol)] := hl
  obtain ⟨fs, h0⟩ := h0
  generalize hH : s.heap = H at hP ⊢
  have hS : va_S A s.heap H [] := by rw [← hH]; exact va_S.rf
  generalize hLo : ([] : List Loc) = locs at hS ⊢
  refine lv_aload hx hb dL_grant_0 (lv_at hl 5 rfl) ?_
  refine lv_iconst (v := nI 0) hx hb dL_grant_2 (by decide) ?_
  refine lv_aload_n hx hb dL_grant_3 rfl (lv_at hl 0 rfl) ?_
  refine lv_iload_n hx hb dL_grant_4 rfl (lv_at hl 1 rfl) ?_
  refine lv_iload_n hx hb dL_grant_5 rfl (lv_at hl 2 rfl) ?_
  refine lv_iload_n hx hb dL_grant_6 rfl (lv_at hl 3 rfl) ?_
  refine lv_iload hx hb dL_grant_7 (lv_at hl 4 rfl) ?_
  refine gCi F (gRunV (own := RL) (C := RX3) (ci := 3) (bytes := cX3_grant) (n := 4) (As := [.int a1, .int a2, .int a3, .int a4]) (rest := [.int (nI 0), .ref ol]) F (hM H.size) gL_grant_X3_grant rfl rfl hrc hrs (by decide +kernel) rfl ⟨Nat.le_refl _, Nat.le_refl _⟩ hP hD (lit := wv) (wt := [outc G ol f]) (wc := wv) (isC := List.range wv.length) (gRange wv) (gRange_nd _) rfl h0 rfl hl.1 (Nat.le_of_ble_eq_true rfl) dL_grant_9 ⟨by show 0 + mc ≤ mc; omega, by show 0 + ms ≤ ms; omega⟩) hP hD hS (lit := wv) (wt := [outc G ol f]) (wc := wv) (wr := []) (isC := List.range wv.length) (isR := []) (gRange wv) rfl rfl (fun _ h_ => by cases h_) (fun r5 u H locs hp hP hD hS => ?_)
  have hP : va_P G.1 vwCl (u ++ [outc G ol f]) H := hP
  have hD : va_D A (u ++ [outc G ol f]) := hD
  refine lv_i2l (v := r5.toInt64) hx hb dL_grant_12 rfl ?_
  refine gLast hx hb hKK.1 hP hD hS dL_grant_13 (fun H locs hP hD hS => ?_)
  refine lv_goto (tgt := 25) hx hb dL_grant_14 (by decide) ?_
  refine lv_iconst (v := nI 0) hx hb dL_grant_25 (by decide) ?_
  exact gRi F dL_grant_26 rfl (u, r5) ⟨rfl, hp⟩ hP hD hS (by omega) (by omega)

set_option maxHeartbeats 4000000 in
set_option maxRecDepth 100000 in
theorem wa_raise (l : Launch) (G : gG) (lq ol : Nat) {wv : va_W} {f : Nat → Int64} {rm : Room} {mc ms : Nat} {post : Int32 → va_W → Prop} (a1 a2 a3 a4 : Int32) (h0 : ∃ fs, wv[0]? = some (lq, .inr (3, fs))) (hM : gMi (S := va_W) l yX3_raise wsX3_raise rm G [.ref lq, .int a1, .int a2, .int a3, .int a4] wv post (fun u => u) mc ms) (hrc : rm.cells = mc) (hrs : rm.slots = ms) : gMw (S := va_W × Int32) l yL_raise wsL_raise { frames := rm.frames + 1, cells := mc, slots := ms, locals := 8 + (5 + 11) + rm.locals } G [.ref lq, .int a1, .int a2, .int a3, .int a4, .ref ol] (wv ++ [outc G ol f]) (fun (r : Int32) (u : va_W × Int32) => r = nI 0 ∧ post u.2 u.1) (fun (u : va_W × Int32) => u.1 ++ [outc G ol (vp_updL f 0 u.2.toInt64)]) mc ms := by
  refine gMw_mk (cc := cL_raise) (nL := 7) (ret := some .int) (hh := [(0, 14, 17, 13), (0, 14, 21, 15)]) (Qc := fun A => va_Qi (S := va_W × Int32) (fun (r : Int32) (u : va_W × Int32) => r = nI 0 ∧ post u.2 u.1) (gB G A (fun (u : va_W × Int32) => u.1 ++ [outc G ol (vp_updL f 0 u.2.toInt64)])) A) (by decide) rfl (Nat.le_of_ble_eq_true rfl) ?_
  intro p e s m args below meth c A F htb hZ ls hl hP hD hS
  have hx := F.1
  have hb := F.2.1
  have hKK := F.2.2.2.2.2.2.2.2.1
  have hl : lv_has ls 7 [(0, .ref lq), (1, .int a1), (2, .int a2), (3, .int a3), (4, .int a4), (5, .ref ol)] := hl
  obtain ⟨fs, h0⟩ := h0
  generalize hH : s.heap = H at hP ⊢
  have hS : va_S A s.heap H [] := by rw [← hH]; exact va_S.rf
  generalize hLo : ([] : List Loc) = locs at hS ⊢
  refine lv_aload hx hb dL_raise_0 (lv_at hl 5 rfl) ?_
  refine lv_iconst (v := nI 0) hx hb dL_raise_2 (by decide) ?_
  refine lv_aload_n hx hb dL_raise_3 rfl (lv_at hl 0 rfl) ?_
  refine lv_iload_n hx hb dL_raise_4 rfl (lv_at hl 1 rfl) ?_
  refine lv_iload_n hx hb dL_raise_5 rfl (lv_at hl 2 rfl) ?_
  refine lv_iload_n hx hb dL_raise_6 rfl (lv_at hl 3 rfl) ?_
  refine lv_iload hx hb dL_raise_7 (lv_at hl 4 rfl) ?_
  refine gCi F (gRunV (own := RL) (C := RX3) (ci := 3) (bytes := cX3_raise) (n := 4) (As := [.int a1, .int a2, .int a3, .int a4]) (rest := [.int (nI 0), .ref ol]) F (hM H.size) gL_raise_X3_raise rfl rfl hrc hrs (by decide +kernel) rfl ⟨Nat.le_refl _, Nat.le_refl _⟩ hP hD (lit := wv) (wt := [outc G ol f]) (wc := wv) (isC := List.range wv.length) (gRange wv) (gRange_nd _) rfl h0 rfl hl.1 (Nat.le_of_ble_eq_true rfl) dL_raise_9 ⟨by show 0 + mc ≤ mc; omega, by show 0 + ms ≤ ms; omega⟩) hP hD hS (lit := wv) (wt := [outc G ol f]) (wc := wv) (wr := []) (isC := List.range wv.length) (isR := []) (gRange wv) rfl rfl (fun _ h_ => by cases h_) (fun r5 u H locs hp hP hD hS => ?_)
  have hP : va_P G.1 vwCl (u ++ [outc G ol f]) H := hP
  have hD : va_D A (u ++ [outc G ol f]) := hD
  refine lv_i2l (v := r5.toInt64) hx hb dL_raise_12 rfl ?_
  refine gLast hx hb hKK.1 hP hD hS dL_raise_13 (fun H locs hP hD hS => ?_)
  refine lv_goto (tgt := 25) hx hb dL_raise_14 (by decide) ?_
  refine lv_iconst (v := nI 0) hx hb dL_raise_25 (by decide) ?_
  exact gRi F dL_raise_26 rfl (u, r5) ⟨rfl, hp⟩ hP hD hS (by omega) (by omega)

set_option maxHeartbeats 4000000 in
set_option maxRecDepth 100000 in
theorem wa_flood (l : Launch) (G : gG) (lq ol : Nat) {wv : va_W} {f : Nat → Int64} {rm : Room} {mc ms : Nat} {post : Int32 → va_W → Prop} (a1 : Int32) (h0 : ∃ fs, wv[0]? = some (lq, .inr (3, fs))) (hM : gMi (S := va_W) l yX3_flood wsX3_flood rm G [.ref lq, .int a1] wv post (fun u => u) mc ms) (hrc : rm.cells = mc) (hrs : rm.slots = ms) : gMw (S := va_W × Int32) l yL_flood wsL_flood { frames := rm.frames + 1, cells := mc, slots := ms, locals := 8 + (3 + 11) + rm.locals } G [.ref lq, .int a1, .ref ol] (wv ++ [outc G ol f]) (fun (r : Int32) (u : va_W × Int32) => r = nI 0 ∧ post u.2 u.1) (fun (u : va_W × Int32) => u.1 ++ [outc G ol (vp_updL f 0 u.2.toInt64)]) mc ms := by
  refine gMw_mk (cc := cL_flood) (nL := 4) (ret := some .int) (hh := [(0, 9, 12, 15)]) (Qc := fun A => va_Qi (S := va_W × Int32) (fun (r : Int32) (u : va_W × Int32) => r = nI 0 ∧ post u.2 u.1) (gB G A (fun (u : va_W × Int32) => u.1 ++ [outc G ol (vp_updL f 0 u.2.toInt64)])) A) (by decide) rfl (Nat.le_of_ble_eq_true rfl) ?_
  intro p e s m args below meth c A F htb hZ ls hl hP hD hS
  have hx := F.1
  have hb := F.2.1
  have hKK := F.2.2.2.2.2.2.2.2.1
  have hl : lv_has ls 4 [(0, .ref lq), (1, .int a1), (2, .ref ol)] := hl
  obtain ⟨fs, h0⟩ := h0
  generalize hH : s.heap = H at hP ⊢
  have hS : va_S A s.heap H [] := by rw [← hH]; exact va_S.rf
  generalize hLo : ([] : List Loc) = locs at hS ⊢
  refine lv_aload_n hx hb dL_flood_0 rfl (lv_at hl 2 rfl) ?_
  refine lv_iconst (v := nI 0) hx hb dL_flood_1 (by decide) ?_
  refine lv_aload_n hx hb dL_flood_2 rfl (lv_at hl 0 rfl) ?_
  refine lv_iload_n hx hb dL_flood_3 rfl (lv_at hl 1 rfl) ?_
  refine gCi F (gRunV (own := RL) (C := RX3) (ci := 3) (bytes := cX3_flood) (n := 1) (As := [.int a1]) (rest := [.int (nI 0), .ref ol]) F (hM H.size) gL_flood_X3_flood rfl rfl hrc hrs (by decide +kernel) rfl ⟨Nat.le_refl _, Nat.le_refl _⟩ hP hD (lit := wv) (wt := [outc G ol f]) (wc := wv) (isC := List.range wv.length) (gRange wv) (gRange_nd _) rfl h0 rfl hl.1 (Nat.le_of_ble_eq_true rfl) dL_flood_4 ⟨by show 0 + mc ≤ mc; omega, by show 0 + ms ≤ ms; omega⟩) hP hD hS (lit := wv) (wt := [outc G ol f]) (wc := wv) (wr := []) (isC := List.range wv.length) (isR := []) (gRange wv) rfl rfl (fun _ h_ => by cases h_) (fun r5 u H locs hp hP hD hS => ?_)
  have hP : va_P G.1 vwCl (u ++ [outc G ol f]) H := hP
  have hD : va_D A (u ++ [outc G ol f]) := hD
  refine lv_i2l (v := r5.toInt64) hx hb dL_flood_7 rfl ?_
  refine gLast hx hb hKK.1 hP hD hS dL_flood_8 (fun H locs hP hD hS => ?_)
  refine lv_goto (tgt := 15) hx hb dL_flood_9 (by decide) ?_
  refine lv_iconst (v := nI 0) hx hb dL_flood_15 (by decide) ?_
  exact gRi F dL_flood_16 rfl (u, r5) ⟨rfl, hp⟩ hP hD hS (by omega) (by omega)

set_option maxHeartbeats 4000000 in
set_option maxRecDepth 100000 in
theorem wa_buyPlot (l : Launch) (G : gG) (lq ol : Nat) {wv : va_W} {f : Nat → Int64} {rm : Room} {mc ms : Nat} {post : Int32 → va_W → Prop} (a1 a2 a3 : Int32) (h0 : ∃ fs, wv[0]? = some (lq, .inr (3, fs))) (hM : gMi (S := va_W) l yX3_buyPlot wsX3_buyPlot rm G [.ref lq, .int a1, .int a2, .int a3] wv post (fun u => u) mc ms) (hrc : rm.cells = mc) (hrs : rm.slots = ms) : gMw (S := va_W × Int32) l yL_buyPlot wsL_buyPlot { frames := rm.frames + 1, cells := mc, slots := ms, locals := 8 + (9 + 11) + rm.locals } G [.ref lq, .int a1, .int a2, .int a3, .ref ol] (wv ++ [outc G ol f]) (fun (r : Int32) (u : va_W × Int32) => r = nI 0 ∧ post u.2 u.1) (fun (u : va_W × Int32) => u.1 ++ [outc G ol (vp_updL f 0 u.2.toInt64)]) mc ms := by
  refine gMw_mk (cc := cL_buyPlot) (nL := 6) (ret := some .int) (hh := [(0, 12, 15, 13), (0, 12, 19, 28)]) (Qc := fun A => va_Qi (S := va_W × Int32) (fun (r : Int32) (u : va_W × Int32) => r = nI 0 ∧ post u.2 u.1) (gB G A (fun (u : va_W × Int32) => u.1 ++ [outc G ol (vp_updL f 0 u.2.toInt64)])) A) (by decide) rfl (Nat.le_of_ble_eq_true rfl) ?_
  intro p e s m args below meth c A F htb hZ ls hl hP hD hS
  have hx := F.1
  have hb := F.2.1
  have hKK := F.2.2.2.2.2.2.2.2.1
  have hl : lv_has ls 6 [(0, .ref lq), (1, .int a1), (2, .int a2), (3, .int a3), (4, .ref ol)] := hl
  obtain ⟨fs, h0⟩ := h0
  generalize hH : s.heap = H at hP ⊢
  have hS : va_S A s.heap H [] := by rw [← hH]; exact va_S.rf
  generalize hLo : ([] : List Loc) = locs at hS ⊢
  refine lv_aload hx hb dL_buyPlot_0 (lv_at hl 4 rfl) ?_
  refine lv_iconst (v := nI 0) hx hb dL_buyPlot_2 (by decide) ?_
  refine lv_aload_n hx hb dL_buyPlot_3 rfl (lv_at hl 0 rfl) ?_
  refine lv_iload_n hx hb dL_buyPlot_4 rfl (lv_at hl 1 rfl) ?_
  refine lv_iload_n hx hb dL_buyPlot_5 rfl (lv_at hl 2 rfl) ?_
  refine lv_iload_n hx hb dL_buyPlot_6 rfl (lv_at hl 3 rfl) ?_
  refine gCi F (gRunV (own := RL) (C := RX3) (ci := 3) (bytes := cX3_buyPlot) (n := 3) (As := [.int a1, .int a2, .int a3]) (rest := [.int (nI 0), .ref ol]) F (hM H.size) gL_buyPlot_X3_buyPlot rfl rfl hrc hrs (by decide +kernel) rfl ⟨Nat.le_refl _, Nat.le_refl _⟩ hP hD (lit := wv) (wt := [outc G ol f]) (wc := wv) (isC := List.range wv.length) (gRange wv) (gRange_nd _) rfl h0 rfl hl.1 (Nat.le_of_ble_eq_true rfl) dL_buyPlot_7 ⟨by show 0 + mc ≤ mc; omega, by show 0 + ms ≤ ms; omega⟩) hP hD hS (lit := wv) (wt := [outc G ol f]) (wc := wv) (wr := []) (isC := List.range wv.length) (isR := []) (gRange wv) rfl rfl (fun _ h_ => by cases h_) (fun r5 u H locs hp hP hD hS => ?_)
  have hP : va_P G.1 vwCl (u ++ [outc G ol f]) H := hP
  have hD : va_D A (u ++ [outc G ol f]) := hD
  refine lv_i2l (v := r5.toInt64) hx hb dL_buyPlot_10 rfl ?_
  refine gLast hx hb hKK.1 hP hD hS dL_buyPlot_11 (fun H locs hP hD hS => ?_)
  refine lv_goto (tgt := 23) hx hb dL_buyPlot_12 (by decide) ?_
  refine lv_iconst (v := nI 0) hx hb dL_buyPlot_23 (by decide) ?_
  exact gRi F dL_buyPlot_24 rfl (u, r5) ⟨rfl, hp⟩ hP hD hS (by omega) (by omega)

set_option maxHeartbeats 4000000 in
set_option maxRecDepth 100000 in
theorem wa_buySquare (l : Launch) (G : gG) (lq ol : Nat) {wv : va_W} {f : Nat → Int64} {rm : Room} {mc ms : Nat} {post : Int32 → va_W → Prop} (a1 a2 a3 a4 : Int32) (h0 : ∃ fs, wv[0]? = some (lq, .inr (3, fs))) (hM : gMi (S := va_W) l yX3_buySquare wsX3_buySquare rm G [.ref lq, .int a1, .int a2, .int a3, .int a4] wv post (fun u => u) mc ms) (hrc : rm.cells = mc) (hrs : rm.slots = ms) : gMw (S := va_W × Int32) l yL_buySquare wsL_buySquare { frames := rm.frames + 1, cells := mc, slots := ms, locals := 8 + (6 + 11) + rm.locals } G [.ref lq, .int a1, .int a2, .int a3, .int a4, .ref ol] (wv ++ [outc G ol f]) (fun (r : Int32) (u : va_W × Int32) => r = nI 0 ∧ post u.2 u.1) (fun (u : va_W × Int32) => u.1 ++ [outc G ol (vp_updL f 0 u.2.toInt64)]) mc ms := by
  refine gMw_mk (cc := cL_buySquare) (nL := 7) (ret := some .int) (hh := [(0, 14, 17, 13), (0, 14, 21, 15), (0, 14, 25, 28)]) (Qc := fun A => va_Qi (S := va_W × Int32) (fun (r : Int32) (u : va_W × Int32) => r = nI 0 ∧ post u.2 u.1) (gB G A (fun (u : va_W × Int32) => u.1 ++ [outc G ol (vp_updL f 0 u.2.toInt64)])) A) (by decide) rfl (Nat.le_of_ble_eq_true rfl) ?_
  intro p e s m args below meth c A F htb hZ ls hl hP hD hS
  have hx := F.1
  have hb := F.2.1
  have hKK := F.2.2.2.2.2.2.2.2.1
  have hl : lv_has ls 7 [(0, .ref lq), (1, .int a1), (2, .int a2), (3, .int a3), (4, .int a4), (5, .ref ol)] := hl
  obtain ⟨fs, h0⟩ := h0
  generalize hH : s.heap = H at hP ⊢
  have hS : va_S A s.heap H [] := by rw [← hH]; exact va_S.rf
  generalize hLo : ([] : List Loc) = locs at hS ⊢
  refine lv_aload hx hb dL_buySquare_0 (lv_at hl 5 rfl) ?_
  refine lv_iconst (v := nI 0) hx hb dL_buySquare_2 (by decide) ?_
  refine lv_aload_n hx hb dL_buySquare_3 rfl (lv_at hl 0 rfl) ?_
  refine lv_iload_n hx hb dL_buySquare_4 rfl (lv_at hl 1 rfl) ?_
  refine lv_iload_n hx hb dL_buySquare_5 rfl (lv_at hl 2 rfl) ?_
  refine lv_iload_n hx hb dL_buySquare_6 rfl (lv_at hl 3 rfl) ?_
  refine lv_iload hx hb dL_buySquare_7 (lv_at hl 4 rfl) ?_
  refine gCi F (gRunV (own := RL) (C := RX3) (ci := 3) (bytes := cX3_buySquare) (n := 4) (As := [.int a1, .int a2, .int a3, .int a4]) (rest := [.int (nI 0), .ref ol]) F (hM H.size) gL_buySquare_X3_buySquare rfl rfl hrc hrs (by decide +kernel) rfl ⟨Nat.le_refl _, Nat.le_refl _⟩ hP hD (lit := wv) (wt := [outc G ol f]) (wc := wv) (isC := List.range wv.length) (gRange wv) (gRange_nd _) rfl h0 rfl hl.1 (Nat.le_of_ble_eq_true rfl) dL_buySquare_9 ⟨by show 0 + mc ≤ mc; omega, by show 0 + ms ≤ ms; omega⟩) hP hD hS (lit := wv) (wt := [outc G ol f]) (wc := wv) (wr := []) (isC := List.range wv.length) (isR := []) (gRange wv) rfl rfl (fun _ h_ => by cases h_) (fun r5 u H locs hp hP hD hS => ?_)
  have hP : va_P G.1 vwCl (u ++ [outc G ol f]) H := hP
  have hD : va_D A (u ++ [outc G ol f]) := hD
  refine lv_i2l (v := r5.toInt64) hx hb dL_buySquare_12 rfl ?_
  refine gLast hx hb hKK.1 hP hD hS dL_buySquare_13 (fun H locs hP hD hS => ?_)
  refine lv_goto (tgt := 29) hx hb dL_buySquare_14 (by decide) ?_
  refine lv_iconst (v := nI 0) hx hb dL_buySquare_29 (by decide) ?_
  exact gRi F dL_buySquare_30 rfl (u, r5) ⟨rfl, hp⟩ hP hD hS (by omega) (by omega)

set_option maxHeartbeats 4000000 in
set_option maxRecDepth 100000 in
theorem wa_setPrice (l : Launch) (G : gG) (lq ol : Nat) {wv : va_W} {f : Nat → Int64} {rm : Room} {mc ms : Nat} {post : Int32 → va_W → Prop} (a1 : Int32) (h0 : ∃ fs, wv[0]? = some (lq, .inr (3, fs))) (hM : gMi (S := va_W) l yX3_setPrice wsX3_setPrice rm G [.ref lq, .int a1] wv post (fun u => u) mc ms) (hrc : rm.cells = mc) (hrs : rm.slots = ms) : gMw (S := va_W × Int32) l yL_setPrice wsL_setPrice { frames := rm.frames + 1, cells := mc, slots := ms, locals := 8 + (3 + 11) + rm.locals } G [.ref lq, .int a1, .ref ol] (wv ++ [outc G ol f]) (fun (r : Int32) (u : va_W × Int32) => r = nI 0 ∧ post u.2 u.1) (fun (u : va_W × Int32) => u.1 ++ [outc G ol (vp_updL f 0 u.2.toInt64)]) mc ms := by
  refine gMw_mk (cc := cL_setPrice) (nL := 4) (ret := some .int) (hh := [(0, 9, 12, 15)]) (Qc := fun A => va_Qi (S := va_W × Int32) (fun (r : Int32) (u : va_W × Int32) => r = nI 0 ∧ post u.2 u.1) (gB G A (fun (u : va_W × Int32) => u.1 ++ [outc G ol (vp_updL f 0 u.2.toInt64)])) A) (by decide) rfl (Nat.le_of_ble_eq_true rfl) ?_
  intro p e s m args below meth c A F htb hZ ls hl hP hD hS
  have hx := F.1
  have hb := F.2.1
  have hKK := F.2.2.2.2.2.2.2.2.1
  have hl : lv_has ls 4 [(0, .ref lq), (1, .int a1), (2, .ref ol)] := hl
  obtain ⟨fs, h0⟩ := h0
  generalize hH : s.heap = H at hP ⊢
  have hS : va_S A s.heap H [] := by rw [← hH]; exact va_S.rf
  generalize hLo : ([] : List Loc) = locs at hS ⊢
  refine lv_aload_n hx hb dL_setPrice_0 rfl (lv_at hl 2 rfl) ?_
  refine lv_iconst (v := nI 0) hx hb dL_setPrice_1 (by decide) ?_
  refine lv_aload_n hx hb dL_setPrice_2 rfl (lv_at hl 0 rfl) ?_
  refine lv_iload_n hx hb dL_setPrice_3 rfl (lv_at hl 1 rfl) ?_
  refine gCi F (gRunV (own := RL) (C := RX3) (ci := 3) (bytes := cX3_setPrice) (n := 1) (As := [.int a1]) (rest := [.int (nI 0), .ref ol]) F (hM H.size) gL_setPrice_X3_setPrice rfl rfl hrc hrs (by decide +kernel) rfl ⟨Nat.le_refl _, Nat.le_refl _⟩ hP hD (lit := wv) (wt := [outc G ol f]) (wc := wv) (isC := List.range wv.length) (gRange wv) (gRange_nd _) rfl h0 rfl hl.1 (Nat.le_of_ble_eq_true rfl) dL_setPrice_4 ⟨by show 0 + mc ≤ mc; omega, by show 0 + ms ≤ ms; omega⟩) hP hD hS (lit := wv) (wt := [outc G ol f]) (wc := wv) (wr := []) (isC := List.range wv.length) (isR := []) (gRange wv) rfl rfl (fun _ h_ => by cases h_) (fun r5 u H locs hp hP hD hS => ?_)
  have hP : va_P G.1 vwCl (u ++ [outc G ol f]) H := hP
  have hD : va_D A (u ++ [outc G ol f]) := hD
  refine lv_i2l (v := r5.toInt64) hx hb dL_setPrice_7 rfl ?_
  refine gLast hx hb hKK.1 hP hD hS dL_setPrice_8 (fun H locs hP hD hS => ?_)
  refine lv_goto (tgt := 15) hx hb dL_setPrice_9 (by decide) ?_
  refine lv_iconst (v := nI 0) hx hb dL_setPrice_15 (by decide) ?_
  exact gRi F dL_setPrice_16 rfl (u, r5) ⟨rfl, hp⟩ hP hD hS (by omega) (by omega)

set_option maxHeartbeats 4000000 in
set_option maxRecDepth 100000 in
theorem wa_setTax (l : Launch) (G : gG) (lq ol : Nat) {wv : va_W} {f : Nat → Int64} {rm : Room} {mc ms : Nat} {post : Int32 → va_W → Prop} (a1 : Int32) (h0 : ∃ fs, wv[0]? = some (lq, .inr (3, fs))) (hM : gMi (S := va_W) l yX3_setTax wsX3_setTax rm G [.ref lq, .int a1] wv post (fun u => u) mc ms) (hrc : rm.cells = mc) (hrs : rm.slots = ms) : gMw (S := va_W × Int32) l yL_setTax wsL_setTax { frames := rm.frames + 1, cells := mc, slots := ms, locals := 8 + (3 + 11) + rm.locals } G [.ref lq, .int a1, .ref ol] (wv ++ [outc G ol f]) (fun (r : Int32) (u : va_W × Int32) => r = nI 0 ∧ post u.2 u.1) (fun (u : va_W × Int32) => u.1 ++ [outc G ol (vp_updL f 0 u.2.toInt64)]) mc ms := by
  refine gMw_mk (cc := cL_setTax) (nL := 4) (ret := some .int) (hh := [(0, 9, 12, 15)]) (Qc := fun A => va_Qi (S := va_W × Int32) (fun (r : Int32) (u : va_W × Int32) => r = nI 0 ∧ post u.2 u.1) (gB G A (fun (u : va_W × Int32) => u.1 ++ [outc G ol (vp_updL f 0 u.2.toInt64)])) A) (by decide) rfl (Nat.le_of_ble_eq_true rfl) ?_
  intro p e s m args below meth c A F htb hZ ls hl hP hD hS
  have hx := F.1
  have hb := F.2.1
  have hKK := F.2.2.2.2.2.2.2.2.1
  have hl : lv_has ls 4 [(0, .ref lq), (1, .int a1), (2, .ref ol)] := hl
  obtain ⟨fs, h0⟩ := h0
  generalize hH : s.heap = H at hP ⊢
  have hS : va_S A s.heap H [] := by rw [← hH]; exact va_S.rf
  generalize hLo : ([] : List Loc) = locs at hS ⊢
  refine lv_aload_n hx hb dL_setTax_0 rfl (lv_at hl 2 rfl) ?_
  refine lv_iconst (v := nI 0) hx hb dL_setTax_1 (by decide) ?_
  refine lv_aload_n hx hb dL_setTax_2 rfl (lv_at hl 0 rfl) ?_
  refine lv_iload_n hx hb dL_setTax_3 rfl (lv_at hl 1 rfl) ?_
  refine gCi F (gRunV (own := RL) (C := RX3) (ci := 3) (bytes := cX3_setTax) (n := 1) (As := [.int a1]) (rest := [.int (nI 0), .ref ol]) F (hM H.size) gL_setTax_X3_setTax rfl rfl hrc hrs (by decide +kernel) rfl ⟨Nat.le_refl _, Nat.le_refl _⟩ hP hD (lit := wv) (wt := [outc G ol f]) (wc := wv) (isC := List.range wv.length) (gRange wv) (gRange_nd _) rfl h0 rfl hl.1 (Nat.le_of_ble_eq_true rfl) dL_setTax_4 ⟨by show 0 + mc ≤ mc; omega, by show 0 + ms ≤ ms; omega⟩) hP hD hS (lit := wv) (wt := [outc G ol f]) (wc := wv) (wr := []) (isC := List.range wv.length) (isR := []) (gRange wv) rfl rfl (fun _ h_ => by cases h_) (fun r5 u H locs hp hP hD hS => ?_)
  have hP : va_P G.1 vwCl (u ++ [outc G ol f]) H := hP
  have hD : va_D A (u ++ [outc G ol f]) := hD
  refine lv_i2l (v := r5.toInt64) hx hb dL_setTax_7 rfl ?_
  refine gLast hx hb hKK.1 hP hD hS dL_setTax_8 (fun H locs hP hD hS => ?_)
  refine lv_goto (tgt := 15) hx hb dL_setTax_9 (by decide) ?_
  refine lv_iconst (v := nI 0) hx hb dL_setTax_15 (by decide) ?_
  exact gRi F dL_setTax_16 rfl (u, r5) ⟨rfl, hp⟩ hP hD hS (by omega) (by omega)

set_option maxHeartbeats 4000000 in
set_option maxRecDepth 100000 in
theorem wa_append (l : Launch) (G : gG) (lq ol : Nat) {wv : va_W} {f : Nat → Int64} {rm : Room} {mc ms : Nat} {post : Int32 → va_W → Prop} (a1 : Int32) (h0 : ∃ fs, wv[0]? = some (lq, .inr (3, fs))) (hM : gMi (S := va_W) l yX3_append wsX3_append rm G [.ref lq, .int a1] wv post (fun u => u) mc ms) (hrc : rm.cells = mc) (hrs : rm.slots = ms) : gMw (S := va_W × Int32) l yL_append wsL_append { frames := rm.frames + 1, cells := mc, slots := ms, locals := 8 + (2 + 11) + rm.locals } G [.ref lq, .int a1, .ref ol] (wv ++ [outc G ol f]) (fun (r : Int32) (u : va_W × Int32) => r = nI 0 ∧ post u.2 u.1) (fun (u : va_W × Int32) => u.1 ++ [outc G ol (vp_updL f 0 u.2.toInt64)]) mc ms := by
  refine gMw_mk (cc := cL_append) (nL := 4) (ret := some .int) (hh := [(0, 9, 12, 15), (0, 9, 15, 28)]) (Qc := fun A => va_Qi (S := va_W × Int32) (fun (r : Int32) (u : va_W × Int32) => r = nI 0 ∧ post u.2 u.1) (gB G A (fun (u : va_W × Int32) => u.1 ++ [outc G ol (vp_updL f 0 u.2.toInt64)])) A) (by decide) rfl (Nat.le_of_ble_eq_true rfl) ?_
  intro p e s m args below meth c A F htb hZ ls hl hP hD hS
  have hx := F.1
  have hb := F.2.1
  have hKK := F.2.2.2.2.2.2.2.2.1
  have hl : lv_has ls 4 [(0, .ref lq), (1, .int a1), (2, .ref ol)] := hl
  obtain ⟨fs, h0⟩ := h0
  generalize hH : s.heap = H at hP ⊢
  have hS : va_S A s.heap H [] := by rw [← hH]; exact va_S.rf
  generalize hLo : ([] : List Loc) = locs at hS ⊢
  refine lv_aload_n hx hb dL_append_0 rfl (lv_at hl 2 rfl) ?_
  refine lv_iconst (v := nI 0) hx hb dL_append_1 (by decide) ?_
  refine lv_aload_n hx hb dL_append_2 rfl (lv_at hl 0 rfl) ?_
  refine lv_iload_n hx hb dL_append_3 rfl (lv_at hl 1 rfl) ?_
  refine gCi F (gRunV (own := RL) (C := RX3) (ci := 3) (bytes := cX3_append) (n := 1) (As := [.int a1]) (rest := [.int (nI 0), .ref ol]) F (hM H.size) gL_append_X3_append rfl rfl hrc hrs (by decide +kernel) rfl ⟨Nat.le_refl _, Nat.le_refl _⟩ hP hD (lit := wv) (wt := [outc G ol f]) (wc := wv) (isC := List.range wv.length) (gRange wv) (gRange_nd _) rfl h0 rfl hl.1 (Nat.le_of_ble_eq_true rfl) dL_append_4 ⟨by show 0 + mc ≤ mc; omega, by show 0 + ms ≤ ms; omega⟩) hP hD hS (lit := wv) (wt := [outc G ol f]) (wc := wv) (wr := []) (isC := List.range wv.length) (isR := []) (gRange wv) rfl rfl (fun _ h_ => by cases h_) (fun r5 u H locs hp hP hD hS => ?_)
  have hP : va_P G.1 vwCl (u ++ [outc G ol f]) H := hP
  have hD : va_D A (u ++ [outc G ol f]) := hD
  refine lv_i2l (v := r5.toInt64) hx hb dL_append_7 rfl ?_
  refine gLast hx hb hKK.1 hP hD hS dL_append_8 (fun H locs hP hD hS => ?_)
  refine lv_goto (tgt := 18) hx hb dL_append_9 (by decide) ?_
  refine lv_iconst (v := nI 0) hx hb dL_append_18 (by decide) ?_
  exact gRi F dL_append_19 rfl (u, r5) ⟨rfl, hp⟩ hP hD hS (by omega) (by omega)

set_option maxHeartbeats 4000000 in
set_option maxRecDepth 100000 in
theorem wa_carryOut (l : Launch) (G : gG) (lq ol : Nat) {wv : va_W} {f : Nat → Int64} {rm : Room} {mc ms : Nat} {post : Int32 → va_W → Prop}  (h0 : ∃ fs, wv[0]? = some (lq, .inr (3, fs))) (hM : gMi (S := va_W) l yX3_carryOut wsX3_carryOut rm G [.ref lq] wv post (fun u => u) mc ms) (hrc : rm.cells = mc) (hrs : rm.slots = ms) : gMw (S := va_W × Int32) l yL_carryOut wsL_carryOut { frames := rm.frames + 1, cells := mc, slots := ms, locals := 8 + (2 + 11) + rm.locals } G [.ref lq, .ref ol] (wv ++ [outc G ol f]) (fun (r : Int32) (u : va_W × Int32) => r = nI 0 ∧ post u.2 u.1) (fun (u : va_W × Int32) => u.1 ++ [outc G ol (vp_updL f 0 u.2.toInt64)]) mc ms := by
  refine gMw_mk (cc := cL_carryOut) (nL := 3) (ret := some .int) (hh := [(0, 8, 11, 15)]) (Qc := fun A => va_Qi (S := va_W × Int32) (fun (r : Int32) (u : va_W × Int32) => r = nI 0 ∧ post u.2 u.1) (gB G A (fun (u : va_W × Int32) => u.1 ++ [outc G ol (vp_updL f 0 u.2.toInt64)])) A) (by decide) rfl (Nat.le_of_ble_eq_true rfl) ?_
  intro p e s m args below meth c A F htb hZ ls hl hP hD hS
  have hx := F.1
  have hb := F.2.1
  have hKK := F.2.2.2.2.2.2.2.2.1
  have hl : lv_has ls 3 [(0, .ref lq), (1, .ref ol)] := hl
  obtain ⟨fs, h0⟩ := h0
  generalize hH : s.heap = H at hP ⊢
  have hS : va_S A s.heap H [] := by rw [← hH]; exact va_S.rf
  generalize hLo : ([] : List Loc) = locs at hS ⊢
  refine lv_aload_n hx hb dL_carryOut_0 rfl (lv_at hl 1 rfl) ?_
  refine lv_iconst (v := nI 0) hx hb dL_carryOut_1 (by decide) ?_
  refine lv_aload_n hx hb dL_carryOut_2 rfl (lv_at hl 0 rfl) ?_
  refine gCi F (gRunV (own := RL) (C := RX3) (ci := 3) (bytes := cX3_carryOut) (n := 0) (As := []) (rest := [.int (nI 0), .ref ol]) F (hM H.size) gL_carryOut_X3_carryOut rfl rfl hrc hrs (by decide +kernel) rfl ⟨Nat.le_refl _, Nat.le_refl _⟩ hP hD (lit := wv) (wt := [outc G ol f]) (wc := wv) (isC := List.range wv.length) (gRange wv) (gRange_nd _) rfl h0 rfl hl.1 (Nat.le_of_ble_eq_true rfl) dL_carryOut_3 ⟨by show 0 + mc ≤ mc; omega, by show 0 + ms ≤ ms; omega⟩) hP hD hS (lit := wv) (wt := [outc G ol f]) (wc := wv) (wr := []) (isC := List.range wv.length) (isR := []) (gRange wv) rfl rfl (fun _ h_ => by cases h_) (fun r5 u H locs hp hP hD hS => ?_)
  have hP : va_P G.1 vwCl (u ++ [outc G ol f]) H := hP
  have hD : va_D A (u ++ [outc G ol f]) := hD
  refine lv_i2l (v := r5.toInt64) hx hb dL_carryOut_6 rfl ?_
  refine gLast hx hb hKK.1 hP hD hS dL_carryOut_7 (fun H locs hP hD hS => ?_)
  refine lv_goto (tgt := 14) hx hb dL_carryOut_8 (by decide) ?_
  refine lv_iconst (v := nI 0) hx hb dL_carryOut_14 (by decide) ?_
  exact gRi F dL_carryOut_15 rfl (u, r5) ⟨rfl, hp⟩ hP hD hS (by omega) (by omega)

set_option maxHeartbeats 4000000 in
set_option maxRecDepth 100000 in
theorem wa_undo (l : Launch) (G : gG) (lq ol : Nat) {wv : va_W} {f : Nat → Int64} {rm : Room} {mc ms : Nat} {post : Int32 → va_W → Prop}  (h0 : ∃ fs, wv[0]? = some (lq, .inr (3, fs))) (hM : gMi (S := va_W) l yX3_undo wsX3_undo rm G [.ref lq] wv post (fun u => u) mc ms) (hrc : rm.cells = mc) (hrs : rm.slots = ms) : gMw (S := va_W × Int32) l yL_undo wsL_undo { frames := rm.frames + 1, cells := mc, slots := ms, locals := 8 + (2 + 11) + rm.locals } G [.ref lq, .ref ol] (wv ++ [outc G ol f]) (fun (r : Int32) (u : va_W × Int32) => r = nI 0 ∧ post u.2 u.1) (fun (u : va_W × Int32) => u.1 ++ [outc G ol (vp_updL f 0 u.2.toInt64)]) mc ms := by
  refine gMw_mk (cc := cL_undo) (nL := 3) (ret := some .int) (hh := [(0, 8, 11, 28)]) (Qc := fun A => va_Qi (S := va_W × Int32) (fun (r : Int32) (u : va_W × Int32) => r = nI 0 ∧ post u.2 u.1) (gB G A (fun (u : va_W × Int32) => u.1 ++ [outc G ol (vp_updL f 0 u.2.toInt64)])) A) (by decide) rfl (Nat.le_of_ble_eq_true rfl) ?_
  intro p e s m args below meth c A F htb hZ ls hl hP hD hS
  have hx := F.1
  have hb := F.2.1
  have hKK := F.2.2.2.2.2.2.2.2.1
  have hl : lv_has ls 3 [(0, .ref lq), (1, .ref ol)] := hl
  obtain ⟨fs, h0⟩ := h0
  generalize hH : s.heap = H at hP ⊢
  have hS : va_S A s.heap H [] := by rw [← hH]; exact va_S.rf
  generalize hLo : ([] : List Loc) = locs at hS ⊢
  refine lv_aload_n hx hb dL_undo_0 rfl (lv_at hl 1 rfl) ?_
  refine lv_iconst (v := nI 0) hx hb dL_undo_1 (by decide) ?_
  refine lv_aload_n hx hb dL_undo_2 rfl (lv_at hl 0 rfl) ?_
  refine gCi F (gRunV (own := RL) (C := RX3) (ci := 3) (bytes := cX3_undo) (n := 0) (As := []) (rest := [.int (nI 0), .ref ol]) F (hM H.size) gL_undo_X3_undo rfl rfl hrc hrs (by decide +kernel) rfl ⟨Nat.le_refl _, Nat.le_refl _⟩ hP hD (lit := wv) (wt := [outc G ol f]) (wc := wv) (isC := List.range wv.length) (gRange wv) (gRange_nd _) rfl h0 rfl hl.1 (Nat.le_of_ble_eq_true rfl) dL_undo_3 ⟨by show 0 + mc ≤ mc; omega, by show 0 + ms ≤ ms; omega⟩) hP hD hS (lit := wv) (wt := [outc G ol f]) (wc := wv) (wr := []) (isC := List.range wv.length) (isR := []) (gRange wv) rfl rfl (fun _ h_ => by cases h_) (fun r5 u H locs hp hP hD hS => ?_)
  have hP : va_P G.1 vwCl (u ++ [outc G ol f]) H := hP
  have hD : va_D A (u ++ [outc G ol f]) := hD
  refine lv_i2l (v := r5.toInt64) hx hb dL_undo_6 rfl ?_
  refine gLast hx hb hKK.1 hP hD hS dL_undo_7 (fun H locs hP hD hS => ?_)
  refine lv_goto (tgt := 14) hx hb dL_undo_8 (by decide) ?_
  refine lv_iconst (v := nI 0) hx hb dL_undo_14 (by decide) ?_
  exact gRi F dL_undo_15 rfl (u, r5) ⟨rfl, hp⟩ hP hD hS (by omega) (by omega)

set_option maxHeartbeats 4000000 in
set_option maxRecDepth 100000 in
theorem wa_keep (l : Launch) (G : gG) (lq ol : Nat) {wv : va_W} {f : Nat → Int64} {rm : Room} {mc ms : Nat} {post : Int32 → va_W → Prop} (a1 : Int32) (h0 : ∃ fs, wv[0]? = some (lq, .inr (3, fs))) (hM : gMi (S := va_W) l yX3_keep wsX3_keep rm G [.ref lq, .int a1] wv post (fun u => u) mc ms) (hrc : rm.cells = mc) (hrs : rm.slots = ms) : gMw (S := va_W × Int32) l yL_keep wsL_keep { frames := rm.frames + 1, cells := mc, slots := ms, locals := 8 + (2 + 11) + rm.locals } G [.ref lq, .int a1, .ref ol] (wv ++ [outc G ol f]) (fun (r : Int32) (u : va_W × Int32) => r = nI 0 ∧ post u.2 u.1) (fun (u : va_W × Int32) => u.1 ++ [outc G ol (vp_updL f 0 u.2.toInt64)]) mc ms := by
  refine gMw_mk (cc := cL_keep) (nL := 4) (ret := some .int) (hh := [(0, 9, 12, 13)]) (Qc := fun A => va_Qi (S := va_W × Int32) (fun (r : Int32) (u : va_W × Int32) => r = nI 0 ∧ post u.2 u.1) (gB G A (fun (u : va_W × Int32) => u.1 ++ [outc G ol (vp_updL f 0 u.2.toInt64)])) A) (by decide) rfl (Nat.le_of_ble_eq_true rfl) ?_
  intro p e s m args below meth c A F htb hZ ls hl hP hD hS
  have hx := F.1
  have hb := F.2.1
  have hKK := F.2.2.2.2.2.2.2.2.1
  have hl : lv_has ls 4 [(0, .ref lq), (1, .int a1), (2, .ref ol)] := hl
  obtain ⟨fs, h0⟩ := h0
  generalize hH : s.heap = H at hP ⊢
  have hS : va_S A s.heap H [] := by rw [← hH]; exact va_S.rf
  generalize hLo : ([] : List Loc) = locs at hS ⊢
  refine lv_aload_n hx hb dL_keep_0 rfl (lv_at hl 2 rfl) ?_
  refine lv_iconst (v := nI 0) hx hb dL_keep_1 (by decide) ?_
  refine lv_aload_n hx hb dL_keep_2 rfl (lv_at hl 0 rfl) ?_
  refine lv_iload_n hx hb dL_keep_3 rfl (lv_at hl 1 rfl) ?_
  refine gCi F (gRunV (own := RL) (C := RX3) (ci := 3) (bytes := cX3_keep) (n := 1) (As := [.int a1]) (rest := [.int (nI 0), .ref ol]) F (hM H.size) gL_keep_X3_keep rfl rfl hrc hrs (by decide +kernel) rfl ⟨Nat.le_refl _, Nat.le_refl _⟩ hP hD (lit := wv) (wt := [outc G ol f]) (wc := wv) (isC := List.range wv.length) (gRange wv) (gRange_nd _) rfl h0 rfl hl.1 (Nat.le_of_ble_eq_true rfl) dL_keep_4 ⟨by show 0 + mc ≤ mc; omega, by show 0 + ms ≤ ms; omega⟩) hP hD hS (lit := wv) (wt := [outc G ol f]) (wc := wv) (wr := []) (isC := List.range wv.length) (isR := []) (gRange wv) rfl rfl (fun _ h_ => by cases h_) (fun r5 u H locs hp hP hD hS => ?_)
  have hP : va_P G.1 vwCl (u ++ [outc G ol f]) H := hP
  have hD : va_D A (u ++ [outc G ol f]) := hD
  refine lv_i2l (v := r5.toInt64) hx hb dL_keep_7 rfl ?_
  refine gLast hx hb hKK.1 hP hD hS dL_keep_8 (fun H locs hP hD hS => ?_)
  refine lv_goto (tgt := 15) hx hb dL_keep_9 (by decide) ?_
  refine lv_iconst (v := nI 0) hx hb dL_keep_15 (by decide) ?_
  exact gRi F dL_keep_16 rfl (u, r5) ⟨rfl, hp⟩ hP hD hS (by omega) (by omega)

set_option maxHeartbeats 4000000 in
set_option maxRecDepth 100000 in
theorem wa_goBack (l : Launch) (G : gG) (lq ol : Nat) {wv : va_W} {f : Nat → Int64} {rm : Room} {mc ms : Nat} {post : Int32 → va_W → Prop} (a1 : Int32) (h0 : ∃ fs, wv[0]? = some (lq, .inr (3, fs))) (hM : gMi (S := va_W) l yX3_goBack wsX3_goBack rm G [.ref lq, .int a1] wv post (fun u => u) mc ms) (hrc : rm.cells = mc) (hrs : rm.slots = ms) : gMw (S := va_W × Int32) l yL_goBack wsL_goBack { frames := rm.frames + 1, cells := mc, slots := ms, locals := 8 + (3 + 11) + rm.locals } G [.ref lq, .int a1, .ref ol] (wv ++ [outc G ol f]) (fun (r : Int32) (u : va_W × Int32) => r = nI 0 ∧ post u.2 u.1) (fun (u : va_W × Int32) => u.1 ++ [outc G ol (vp_updL f 0 u.2.toInt64)]) mc ms := by
  refine gMw_mk (cc := cL_goBack) (nL := 4) (ret := some .int) (hh := [(0, 9, 12, 13), (0, 9, 15, 28)]) (Qc := fun A => va_Qi (S := va_W × Int32) (fun (r : Int32) (u : va_W × Int32) => r = nI 0 ∧ post u.2 u.1) (gB G A (fun (u : va_W × Int32) => u.1 ++ [outc G ol (vp_updL f 0 u.2.toInt64)])) A) (by decide) rfl (Nat.le_of_ble_eq_true rfl) ?_
  intro p e s m args below meth c A F htb hZ ls hl hP hD hS
  have hx := F.1
  have hb := F.2.1
  have hKK := F.2.2.2.2.2.2.2.2.1
  have hl : lv_has ls 4 [(0, .ref lq), (1, .int a1), (2, .ref ol)] := hl
  obtain ⟨fs, h0⟩ := h0
  generalize hH : s.heap = H at hP ⊢
  have hS : va_S A s.heap H [] := by rw [← hH]; exact va_S.rf
  generalize hLo : ([] : List Loc) = locs at hS ⊢
  refine lv_aload_n hx hb dL_goBack_0 rfl (lv_at hl 2 rfl) ?_
  refine lv_iconst (v := nI 0) hx hb dL_goBack_1 (by decide) ?_
  refine lv_aload_n hx hb dL_goBack_2 rfl (lv_at hl 0 rfl) ?_
  refine lv_iload_n hx hb dL_goBack_3 rfl (lv_at hl 1 rfl) ?_
  refine gCi F (gRunV (own := RL) (C := RX3) (ci := 3) (bytes := cX3_goBack) (n := 1) (As := [.int a1]) (rest := [.int (nI 0), .ref ol]) F (hM H.size) gL_goBack_X3_goBack rfl rfl hrc hrs (by decide +kernel) rfl ⟨Nat.le_refl _, Nat.le_refl _⟩ hP hD (lit := wv) (wt := [outc G ol f]) (wc := wv) (isC := List.range wv.length) (gRange wv) (gRange_nd _) rfl h0 rfl hl.1 (Nat.le_of_ble_eq_true rfl) dL_goBack_4 ⟨by show 0 + mc ≤ mc; omega, by show 0 + ms ≤ ms; omega⟩) hP hD hS (lit := wv) (wt := [outc G ol f]) (wc := wv) (wr := []) (isC := List.range wv.length) (isR := []) (gRange wv) rfl rfl (fun _ h_ => by cases h_) (fun r5 u H locs hp hP hD hS => ?_)
  have hP : va_P G.1 vwCl (u ++ [outc G ol f]) H := hP
  have hD : va_D A (u ++ [outc G ol f]) := hD
  refine lv_i2l (v := r5.toInt64) hx hb dL_goBack_7 rfl ?_
  refine gLast hx hb hKK.1 hP hD hS dL_goBack_8 (fun H locs hP hD hS => ?_)
  refine lv_goto (tgt := 18) hx hb dL_goBack_9 (by decide) ?_
  refine lv_iconst (v := nI 0) hx hb dL_goBack_18 (by decide) ?_
  exact gRi F dL_goBack_19 rfl (u, r5) ⟨rfl, hp⟩ hP hD hS (by omega) (by omega)

set_option maxHeartbeats 4000000 in
set_option maxRecDepth 100000 in
theorem wa_ownerAt (l : Launch) (G : gG) (lq ol : Nat) {wv : va_W} {f : Nat → Int64} {rm : Room} {mc ms : Nat} {post : Int32 → va_W → Prop} (a1 a2 : Int32) (h0 : ∃ fs, wv[0]? = some (lq, .inr (3, fs))) (hM : gMi (S := va_W) l yX3_ownerAt wsX3_ownerAt rm G [.ref lq, .int a1, .int a2] wv post (fun u => u) mc ms) (hrc : rm.cells = mc) (hrs : rm.slots = ms) : gMw (S := va_W × Int32) l yL_ownerAt wsL_ownerAt { frames := rm.frames + 1, cells := mc, slots := ms, locals := 8 + (3 + 11) + rm.locals } G [.ref lq, .int a1, .int a2, .ref ol] (wv ++ [outc G ol f]) (fun (r : Int32) (u : va_W × Int32) => r = nI 0 ∧ post u.2 u.1) (fun (u : va_W × Int32) => u.1 ++ [outc G ol (vp_updL f 0 u.2.toInt64)]) mc ms := by
  refine gMw_mk (cc := cL_ownerAt) (nL := 5) (ret := some .int) (hh := [(0, 10, 13, 13)]) (Qc := fun A => va_Qi (S := va_W × Int32) (fun (r : Int32) (u : va_W × Int32) => r = nI 0 ∧ post u.2 u.1) (gB G A (fun (u : va_W × Int32) => u.1 ++ [outc G ol (vp_updL f 0 u.2.toInt64)])) A) (by decide) rfl (Nat.le_of_ble_eq_true rfl) ?_
  intro p e s m args below meth c A F htb hZ ls hl hP hD hS
  have hx := F.1
  have hb := F.2.1
  have hKK := F.2.2.2.2.2.2.2.2.1
  have hl : lv_has ls 5 [(0, .ref lq), (1, .int a1), (2, .int a2), (3, .ref ol)] := hl
  obtain ⟨fs, h0⟩ := h0
  generalize hH : s.heap = H at hP ⊢
  have hS : va_S A s.heap H [] := by rw [← hH]; exact va_S.rf
  generalize hLo : ([] : List Loc) = locs at hS ⊢
  refine lv_aload_n hx hb dL_ownerAt_0 rfl (lv_at hl 3 rfl) ?_
  refine lv_iconst (v := nI 0) hx hb dL_ownerAt_1 (by decide) ?_
  refine lv_aload_n hx hb dL_ownerAt_2 rfl (lv_at hl 0 rfl) ?_
  refine lv_iload_n hx hb dL_ownerAt_3 rfl (lv_at hl 1 rfl) ?_
  refine lv_iload_n hx hb dL_ownerAt_4 rfl (lv_at hl 2 rfl) ?_
  refine gCi F (gRunV (own := RL) (C := RX3) (ci := 3) (bytes := cX3_ownerAt) (n := 2) (As := [.int a1, .int a2]) (rest := [.int (nI 0), .ref ol]) F (hM H.size) gL_ownerAt_X3_ownerAt rfl rfl hrc hrs (by decide +kernel) rfl ⟨Nat.le_refl _, Nat.le_refl _⟩ hP hD (lit := wv) (wt := [outc G ol f]) (wc := wv) (isC := List.range wv.length) (gRange wv) (gRange_nd _) rfl h0 rfl hl.1 (Nat.le_of_ble_eq_true rfl) dL_ownerAt_5 ⟨by show 0 + mc ≤ mc; omega, by show 0 + ms ≤ ms; omega⟩) hP hD hS (lit := wv) (wt := [outc G ol f]) (wc := wv) (wr := []) (isC := List.range wv.length) (isR := []) (gRange wv) rfl rfl (fun _ h_ => by cases h_) (fun r5 u H locs hp hP hD hS => ?_)
  have hP : va_P G.1 vwCl (u ++ [outc G ol f]) H := hP
  have hD : va_D A (u ++ [outc G ol f]) := hD
  refine lv_i2l (v := r5.toInt64) hx hb dL_ownerAt_8 rfl ?_
  refine gLast hx hb hKK.1 hP hD hS dL_ownerAt_9 (fun H locs hP hD hS => ?_)
  refine lv_goto (tgt := 17) hx hb dL_ownerAt_10 (by decide) ?_
  refine lv_iconst (v := nI 0) hx hb dL_ownerAt_17 (by decide) ?_
  exact gRi F dL_ownerAt_18 rfl (u, r5) ⟨rfl, hp⟩ hP hD hS (by omega) (by omega)

set_option maxHeartbeats 4000000 in
set_option maxRecDepth 100000 in
theorem wa_heightAt (l : Launch) (G : gG) (lq ol : Nat) {wv : va_W} {f : Nat → Int64} {rm : Room} {mc ms : Nat} {post : Int32 → va_W → Prop} (a1 a2 : Int32) (h0 : ∃ fs, wv[0]? = some (lq, .inr (3, fs))) (hM : gMi (S := va_W) l yX3_heightAt wsX3_heightAt rm G [.ref lq, .int a1, .int a2] wv post (fun u => u) mc ms) (hrc : rm.cells = mc) (hrs : rm.slots = ms) : gMw (S := va_W × Int32) l yL_heightAt wsL_heightAt { frames := rm.frames + 1, cells := mc, slots := ms, locals := 8 + (3 + 11) + rm.locals } G [.ref lq, .int a1, .int a2, .ref ol] (wv ++ [outc G ol f]) (fun (r : Int32) (u : va_W × Int32) => r = nI 0 ∧ post u.2 u.1) (fun (u : va_W × Int32) => u.1 ++ [outc G ol (vp_updL f 0 u.2.toInt64)]) mc ms := by
  refine gMw_mk (cc := cL_heightAt) (nL := 5) (ret := some .int) (hh := [(0, 10, 13, 13)]) (Qc := fun A => va_Qi (S := va_W × Int32) (fun (r : Int32) (u : va_W × Int32) => r = nI 0 ∧ post u.2 u.1) (gB G A (fun (u : va_W × Int32) => u.1 ++ [outc G ol (vp_updL f 0 u.2.toInt64)])) A) (by decide) rfl (Nat.le_of_ble_eq_true rfl) ?_
  intro p e s m args below meth c A F htb hZ ls hl hP hD hS
  have hx := F.1
  have hb := F.2.1
  have hKK := F.2.2.2.2.2.2.2.2.1
  have hl : lv_has ls 5 [(0, .ref lq), (1, .int a1), (2, .int a2), (3, .ref ol)] := hl
  obtain ⟨fs, h0⟩ := h0
  generalize hH : s.heap = H at hP ⊢
  have hS : va_S A s.heap H [] := by rw [← hH]; exact va_S.rf
  generalize hLo : ([] : List Loc) = locs at hS ⊢
  refine lv_aload_n hx hb dL_heightAt_0 rfl (lv_at hl 3 rfl) ?_
  refine lv_iconst (v := nI 0) hx hb dL_heightAt_1 (by decide) ?_
  refine lv_aload_n hx hb dL_heightAt_2 rfl (lv_at hl 0 rfl) ?_
  refine lv_iload_n hx hb dL_heightAt_3 rfl (lv_at hl 1 rfl) ?_
  refine lv_iload_n hx hb dL_heightAt_4 rfl (lv_at hl 2 rfl) ?_
  refine gCi F (gRunV (own := RL) (C := RX3) (ci := 3) (bytes := cX3_heightAt) (n := 2) (As := [.int a1, .int a2]) (rest := [.int (nI 0), .ref ol]) F (hM H.size) gL_heightAt_X3_heightAt rfl rfl hrc hrs (by decide +kernel) rfl ⟨Nat.le_refl _, Nat.le_refl _⟩ hP hD (lit := wv) (wt := [outc G ol f]) (wc := wv) (isC := List.range wv.length) (gRange wv) (gRange_nd _) rfl h0 rfl hl.1 (Nat.le_of_ble_eq_true rfl) dL_heightAt_5 ⟨by show 0 + mc ≤ mc; omega, by show 0 + ms ≤ ms; omega⟩) hP hD hS (lit := wv) (wt := [outc G ol f]) (wc := wv) (wr := []) (isC := List.range wv.length) (isR := []) (gRange wv) rfl rfl (fun _ h_ => by cases h_) (fun r5 u H locs hp hP hD hS => ?_)
  have hP : va_P G.1 vwCl (u ++ [outc G ol f]) H := hP
  have hD : va_D A (u ++ [outc G ol f]) := hD
  refine lv_i2l (v := r5.toInt64) hx hb dL_heightAt_8 rfl ?_
  refine gLast hx hb hKK.1 hP hD hS dL_heightAt_9 (fun H locs hP hD hS => ?_)
  refine lv_goto (tgt := 17) hx hb dL_heightAt_10 (by decide) ?_
  refine lv_iconst (v := nI 0) hx hb dL_heightAt_17 (by decide) ?_
  exact gRi F dL_heightAt_18 rfl (u, r5) ⟨rfl, hp⟩ hP hD hS (by omega) (by omega)

set_option maxHeartbeats 4000000 in
set_option maxRecDepth 100000 in
theorem wa_plotSizeAt (l : Launch) (G : gG) (lq ol : Nat) {wv : va_W} {f : Nat → Int64} {rm : Room} {mc ms : Nat} {post : Int32 → va_W → Prop} (a1 a2 : Int32) (h0 : ∃ fs, wv[0]? = some (lq, .inr (3, fs))) (hM : gMi (S := va_W) l yX3_plotSizeAt wsX3_plotSizeAt rm G [.ref lq, .int a1, .int a2] wv post (fun u => u) mc ms) (hrc : rm.cells = mc) (hrs : rm.slots = ms) : gMw (S := va_W × Int32) l yL_plotSizeAt wsL_plotSizeAt { frames := rm.frames + 1, cells := mc, slots := ms, locals := 8 + (3 + 11) + rm.locals } G [.ref lq, .int a1, .int a2, .ref ol] (wv ++ [outc G ol f]) (fun (r : Int32) (u : va_W × Int32) => r = nI 0 ∧ post u.2 u.1) (fun (u : va_W × Int32) => u.1 ++ [outc G ol (vp_updL f 0 u.2.toInt64)]) mc ms := by
  refine gMw_mk (cc := cL_plotSizeAt) (nL := 5) (ret := some .int) (hh := [(0, 10, 13, 13)]) (Qc := fun A => va_Qi (S := va_W × Int32) (fun (r : Int32) (u : va_W × Int32) => r = nI 0 ∧ post u.2 u.1) (gB G A (fun (u : va_W × Int32) => u.1 ++ [outc G ol (vp_updL f 0 u.2.toInt64)])) A) (by decide) rfl (Nat.le_of_ble_eq_true rfl) ?_
  intro p e s m args below meth c A F htb hZ ls hl hP hD hS
  have hx := F.1
  have hb := F.2.1
  have hKK := F.2.2.2.2.2.2.2.2.1
  have hl : lv_has ls 5 [(0, .ref lq), (1, .int a1), (2, .int a2), (3, .ref ol)] := hl
  obtain ⟨fs, h0⟩ := h0
  generalize hH : s.heap = H at hP ⊢
  have hS : va_S A s.heap H [] := by rw [← hH]; exact va_S.rf
  generalize hLo : ([] : List Loc) = locs at hS ⊢
  refine lv_aload_n hx hb dL_plotSizeAt_0 rfl (lv_at hl 3 rfl) ?_
  refine lv_iconst (v := nI 0) hx hb dL_plotSizeAt_1 (by decide) ?_
  refine lv_aload_n hx hb dL_plotSizeAt_2 rfl (lv_at hl 0 rfl) ?_
  refine lv_iload_n hx hb dL_plotSizeAt_3 rfl (lv_at hl 1 rfl) ?_
  refine lv_iload_n hx hb dL_plotSizeAt_4 rfl (lv_at hl 2 rfl) ?_
  refine gCi F (gRunV (own := RL) (C := RX3) (ci := 3) (bytes := cX3_plotSizeAt) (n := 2) (As := [.int a1, .int a2]) (rest := [.int (nI 0), .ref ol]) F (hM H.size) gL_plotSizeAt_X3_plotSizeAt rfl rfl hrc hrs (by decide +kernel) rfl ⟨Nat.le_refl _, Nat.le_refl _⟩ hP hD (lit := wv) (wt := [outc G ol f]) (wc := wv) (isC := List.range wv.length) (gRange wv) (gRange_nd _) rfl h0 rfl hl.1 (Nat.le_of_ble_eq_true rfl) dL_plotSizeAt_5 ⟨by show 0 + mc ≤ mc; omega, by show 0 + ms ≤ ms; omega⟩) hP hD hS (lit := wv) (wt := [outc G ol f]) (wc := wv) (wr := []) (isC := List.range wv.length) (isR := []) (gRange wv) rfl rfl (fun _ h_ => by cases h_) (fun r5 u H locs hp hP hD hS => ?_)
  have hP : va_P G.1 vwCl (u ++ [outc G ol f]) H := hP
  have hD : va_D A (u ++ [outc G ol f]) := hD
  refine lv_i2l (v := r5.toInt64) hx hb dL_plotSizeAt_8 rfl ?_
  refine gLast hx hb hKK.1 hP hD hS dL_plotSizeAt_9 (fun H locs hP hD hS => ?_)
  refine lv_goto (tgt := 17) hx hb dL_plotSizeAt_10 (by decide) ?_
  refine lv_iconst (v := nI 0) hx hb dL_plotSizeAt_17 (by decide) ?_
  exact gRi F dL_plotSizeAt_18 rfl (u, r5) ⟨rfl, hp⟩ hP hD hS (by omega) (by omega)

set_option maxHeartbeats 4000000 in
set_option maxRecDepth 100000 in
theorem wa_plotRankAt (l : Launch) (G : gG) (lq ol : Nat) {wv : va_W} {f : Nat → Int64} {rm : Room} {mc ms : Nat} {post : Int32 → va_W → Prop} (a1 a2 : Int32) (h0 : ∃ fs, wv[0]? = some (lq, .inr (3, fs))) (hM : gMi (S := va_W) l yX3_plotRankAt wsX3_plotRankAt rm G [.ref lq, .int a1, .int a2] wv post (fun u => u) mc ms) (hrc : rm.cells = mc) (hrs : rm.slots = ms) : gMw (S := va_W × Int32) l yL_plotRankAt wsL_plotRankAt { frames := rm.frames + 1, cells := mc, slots := ms, locals := 8 + (3 + 11) + rm.locals } G [.ref lq, .int a1, .int a2, .ref ol] (wv ++ [outc G ol f]) (fun (r : Int32) (u : va_W × Int32) => r = nI 0 ∧ post u.2 u.1) (fun (u : va_W × Int32) => u.1 ++ [outc G ol (vp_updL f 0 u.2.toInt64)]) mc ms := by
  refine gMw_mk (cc := cL_plotRankAt) (nL := 5) (ret := some .int) (hh := [(0, 10, 13, 13)]) (Qc := fun A => va_Qi (S := va_W × Int32) (fun (r : Int32) (u : va_W × Int32) => r = nI 0 ∧ post u.2 u.1) (gB G A (fun (u : va_W × Int32) => u.1 ++ [outc G ol (vp_updL f 0 u.2.toInt64)])) A) (by decide) rfl (Nat.le_of_ble_eq_true rfl) ?_
  intro p e s m args below meth c A F htb hZ ls hl hP hD hS
  have hx := F.1
  have hb := F.2.1
  have hKK := F.2.2.2.2.2.2.2.2.1
  have hl : lv_has ls 5 [(0, .ref lq), (1, .int a1), (2, .int a2), (3, .ref ol)] := hl
  obtain ⟨fs, h0⟩ := h0
  generalize hH : s.heap = H at hP ⊢
  have hS : va_S A s.heap H [] := by rw [← hH]; exact va_S.rf
  generalize hLo : ([] : List Loc) = locs at hS ⊢
  refine lv_aload_n hx hb dL_plotRankAt_0 rfl (lv_at hl 3 rfl) ?_
  refine lv_iconst (v := nI 0) hx hb dL_plotRankAt_1 (by decide) ?_
  refine lv_aload_n hx hb dL_plotRankAt_2 rfl (lv_at hl 0 rfl) ?_
  refine lv_iload_n hx hb dL_plotRankAt_3 rfl (lv_at hl 1 rfl) ?_
  refine lv_iload_n hx hb dL_plotRankAt_4 rfl (lv_at hl 2 rfl) ?_
  refine gCi F (gRunV (own := RL) (C := RX3) (ci := 3) (bytes := cX3_plotRankAt) (n := 2) (As := [.int a1, .int a2]) (rest := [.int (nI 0), .ref ol]) F (hM H.size) gL_plotRankAt_X3_plotRankAt rfl rfl hrc hrs (by decide +kernel) rfl ⟨Nat.le_refl _, Nat.le_refl _⟩ hP hD (lit := wv) (wt := [outc G ol f]) (wc := wv) (isC := List.range wv.length) (gRange wv) (gRange_nd _) rfl h0 rfl hl.1 (Nat.le_of_ble_eq_true rfl) dL_plotRankAt_5 ⟨by show 0 + mc ≤ mc; omega, by show 0 + ms ≤ ms; omega⟩) hP hD hS (lit := wv) (wt := [outc G ol f]) (wc := wv) (wr := []) (isC := List.range wv.length) (isR := []) (gRange wv) rfl rfl (fun _ h_ => by cases h_) (fun r5 u H locs hp hP hD hS => ?_)
  have hP : va_P G.1 vwCl (u ++ [outc G ol f]) H := hP
  have hD : va_D A (u ++ [outc G ol f]) := hD
  refine lv_i2l (v := r5.toInt64) hx hb dL_plotRankAt_8 rfl ?_
  refine gLast hx hb hKK.1 hP hD hS dL_plotRankAt_9 (fun H locs hP hD hS => ?_)
  refine lv_goto (tgt := 17) hx hb dL_plotRankAt_10 (by decide) ?_
  refine lv_iconst (v := nI 0) hx hb dL_plotRankAt_17 (by decide) ?_
  exact gRi F dL_plotRankAt_18 rfl (u, r5) ⟨rfl, hp⟩ hP hD hS (by omega) (by omega)

set_option maxHeartbeats 4000000 in
set_option maxRecDepth 100000 in
theorem wa_plotPriceAt (l : Launch) (G : gG) (lq ol : Nat) {wv : va_W} {f : Nat → Int64} {rm : Room} {mc ms : Nat} {post : Int32 → va_W → Prop} (a1 a2 : Int32) (h0 : ∃ fs, wv[0]? = some (lq, .inr (3, fs))) (hM : gMi (S := va_W) l yX3_plotPriceAt wsX3_plotPriceAt rm G [.ref lq, .int a1, .int a2] wv post (fun u => u) mc ms) (hrc : rm.cells = mc) (hrs : rm.slots = ms) : gMw (S := va_W × Int32) l yL_plotPriceAt wsL_plotPriceAt { frames := rm.frames + 1, cells := mc, slots := ms, locals := 8 + (3 + 11) + rm.locals } G [.ref lq, .int a1, .int a2, .ref ol] (wv ++ [outc G ol f]) (fun (r : Int32) (u : va_W × Int32) => r = nI 0 ∧ post u.2 u.1) (fun (u : va_W × Int32) => u.1 ++ [outc G ol (vp_updL f 0 u.2.toInt64)]) mc ms := by
  refine gMw_mk (cc := cL_plotPriceAt) (nL := 5) (ret := some .int) (hh := [(0, 10, 13, 13)]) (Qc := fun A => va_Qi (S := va_W × Int32) (fun (r : Int32) (u : va_W × Int32) => r = nI 0 ∧ post u.2 u.1) (gB G A (fun (u : va_W × Int32) => u.1 ++ [outc G ol (vp_updL f 0 u.2.toInt64)])) A) (by decide) rfl (Nat.le_of_ble_eq_true rfl) ?_
  intro p e s m args below meth c A F htb hZ ls hl hP hD hS
  have hx := F.1
  have hb := F.2.1
  have hKK := F.2.2.2.2.2.2.2.2.1
  have hl : lv_has ls 5 [(0, .ref lq), (1, .int a1), (2, .int a2), (3, .ref ol)] := hl
  obtain ⟨fs, h0⟩ := h0
  generalize hH : s.heap = H at hP ⊢
  have hS : va_S A s.heap H [] := by rw [← hH]; exact va_S.rf
  generalize hLo : ([] : List Loc) = locs at hS ⊢
  refine lv_aload_n hx hb dL_plotPriceAt_0 rfl (lv_at hl 3 rfl) ?_
  refine lv_iconst (v := nI 0) hx hb dL_plotPriceAt_1 (by decide) ?_
  refine lv_aload_n hx hb dL_plotPriceAt_2 rfl (lv_at hl 0 rfl) ?_
  refine lv_iload_n hx hb dL_plotPriceAt_3 rfl (lv_at hl 1 rfl) ?_
  refine lv_iload_n hx hb dL_plotPriceAt_4 rfl (lv_at hl 2 rfl) ?_
  refine gCi F (gRunV (own := RL) (C := RX3) (ci := 3) (bytes := cX3_plotPriceAt) (n := 2) (As := [.int a1, .int a2]) (rest := [.int (nI 0), .ref ol]) F (hM H.size) gL_plotPriceAt_X3_plotPriceAt rfl rfl hrc hrs (by decide +kernel) rfl ⟨Nat.le_refl _, Nat.le_refl _⟩ hP hD (lit := wv) (wt := [outc G ol f]) (wc := wv) (isC := List.range wv.length) (gRange wv) (gRange_nd _) rfl h0 rfl hl.1 (Nat.le_of_ble_eq_true rfl) dL_plotPriceAt_5 ⟨by show 0 + mc ≤ mc; omega, by show 0 + ms ≤ ms; omega⟩) hP hD hS (lit := wv) (wt := [outc G ol f]) (wc := wv) (wr := []) (isC := List.range wv.length) (isR := []) (gRange wv) rfl rfl (fun _ h_ => by cases h_) (fun r5 u H locs hp hP hD hS => ?_)
  have hP : va_P G.1 vwCl (u ++ [outc G ol f]) H := hP
  have hD : va_D A (u ++ [outc G ol f]) := hD
  refine lv_i2l (v := r5.toInt64) hx hb dL_plotPriceAt_8 rfl ?_
  refine gLast hx hb hKK.1 hP hD hS dL_plotPriceAt_9 (fun H locs hP hD hS => ?_)
  refine lv_goto (tgt := 17) hx hb dL_plotPriceAt_10 (by decide) ?_
  refine lv_iconst (v := nI 0) hx hb dL_plotPriceAt_17 (by decide) ?_
  exact gRi F dL_plotPriceAt_18 rfl (u, r5) ⟨rfl, hp⟩ hP hD hS (by omega) (by omega)

set_option maxHeartbeats 4000000 in
set_option maxRecDepth 100000 in
theorem wa_plotOwner (l : Launch) (G : gG) (lq ol : Nat) {wv : va_W} {f : Nat → Int64} {rm : Room} {mc ms : Nat} {post : Int32 → va_W → Prop} (a1 : Int32) (h0 : ∃ fs, wv[0]? = some (lq, .inr (3, fs))) (hM : gMi (S := va_W) l yX3_plotOwner wsX3_plotOwner rm G [.ref lq, .int a1] wv post (fun u => u) mc ms) (hrc : rm.cells = mc) (hrs : rm.slots = ms) : gMw (S := va_W × Int32) l yL_plotOwner wsL_plotOwner { frames := rm.frames + 1, cells := mc, slots := ms, locals := 8 + (2 + 11) + rm.locals } G [.ref lq, .int a1, .ref ol] (wv ++ [outc G ol f]) (fun (r : Int32) (u : va_W × Int32) => r = nI 0 ∧ post u.2 u.1) (fun (u : va_W × Int32) => u.1 ++ [outc G ol (vp_updL f 0 u.2.toInt64)]) mc ms := by
  refine gMw_mk (cc := cL_plotOwner) (nL := 4) (ret := some .int) (hh := [(0, 9, 12, 13)]) (Qc := fun A => va_Qi (S := va_W × Int32) (fun (r : Int32) (u : va_W × Int32) => r = nI 0 ∧ post u.2 u.1) (gB G A (fun (u : va_W × Int32) => u.1 ++ [outc G ol (vp_updL f 0 u.2.toInt64)])) A) (by decide) rfl (Nat.le_of_ble_eq_true rfl) ?_
  intro p e s m args below meth c A F htb hZ ls hl hP hD hS
  have hx := F.1
  have hb := F.2.1
  have hKK := F.2.2.2.2.2.2.2.2.1
  have hl : lv_has ls 4 [(0, .ref lq), (1, .int a1), (2, .ref ol)] := hl
  obtain ⟨fs, h0⟩ := h0
  generalize hH : s.heap = H at hP ⊢
  have hS : va_S A s.heap H [] := by rw [← hH]; exact va_S.rf
  generalize hLo : ([] : List Loc) = locs at hS ⊢
  refine lv_aload_n hx hb dL_plotOwner_0 rfl (lv_at hl 2 rfl) ?_
  refine lv_iconst (v := nI 0) hx hb dL_plotOwner_1 (by decide) ?_
  refine lv_aload_n hx hb dL_plotOwner_2 rfl (lv_at hl 0 rfl) ?_
  refine lv_iload_n hx hb dL_plotOwner_3 rfl (lv_at hl 1 rfl) ?_
  refine gCi F (gRunV (own := RL) (C := RX3) (ci := 3) (bytes := cX3_plotOwner) (n := 1) (As := [.int a1]) (rest := [.int (nI 0), .ref ol]) F (hM H.size) gL_plotOwner_X3_plotOwner rfl rfl hrc hrs (by decide +kernel) rfl ⟨Nat.le_refl _, Nat.le_refl _⟩ hP hD (lit := wv) (wt := [outc G ol f]) (wc := wv) (isC := List.range wv.length) (gRange wv) (gRange_nd _) rfl h0 rfl hl.1 (Nat.le_of_ble_eq_true rfl) dL_plotOwner_4 ⟨by show 0 + mc ≤ mc; omega, by show 0 + ms ≤ ms; omega⟩) hP hD hS (lit := wv) (wt := [outc G ol f]) (wc := wv) (wr := []) (isC := List.range wv.length) (isR := []) (gRange wv) rfl rfl (fun _ h_ => by cases h_) (fun r5 u H locs hp hP hD hS => ?_)
  have hP : va_P G.1 vwCl (u ++ [outc G ol f]) H := hP
  have hD : va_D A (u ++ [outc G ol f]) := hD
  refine lv_i2l (v := r5.toInt64) hx hb dL_plotOwner_7 rfl ?_
  refine gLast hx hb hKK.1 hP hD hS dL_plotOwner_8 (fun H locs hP hD hS => ?_)
  refine lv_goto (tgt := 15) hx hb dL_plotOwner_9 (by decide) ?_
  refine lv_iconst (v := nI 0) hx hb dL_plotOwner_15 (by decide) ?_
  exact gRi F dL_plotOwner_16 rfl (u, r5) ⟨rfl, hp⟩ hP hD hS (by omega) (by omega)

set_option maxHeartbeats 4000000 in
set_option maxRecDepth 100000 in
theorem wa_plotX (l : Launch) (G : gG) (lq ol : Nat) {wv : va_W} {f : Nat → Int64} {rm : Room} {mc ms : Nat} {post : Int32 → va_W → Prop} (a1 : Int32) (h0 : ∃ fs, wv[0]? = some (lq, .inr (3, fs))) (hM : gMi (S := va_W) l yX3_plotX wsX3_plotX rm G [.ref lq, .int a1] wv post (fun u => u) mc ms) (hrc : rm.cells = mc) (hrs : rm.slots = ms) : gMw (S := va_W × Int32) l yL_plotX wsL_plotX { frames := rm.frames + 1, cells := mc, slots := ms, locals := 8 + (2 + 11) + rm.locals } G [.ref lq, .int a1, .ref ol] (wv ++ [outc G ol f]) (fun (r : Int32) (u : va_W × Int32) => r = nI 0 ∧ post u.2 u.1) (fun (u : va_W × Int32) => u.1 ++ [outc G ol (vp_updL f 0 u.2.toInt64)]) mc ms := by
  refine gMw_mk (cc := cL_plotX) (nL := 4) (ret := some .int) (hh := [(0, 9, 12, 13)]) (Qc := fun A => va_Qi (S := va_W × Int32) (fun (r : Int32) (u : va_W × Int32) => r = nI 0 ∧ post u.2 u.1) (gB G A (fun (u : va_W × Int32) => u.1 ++ [outc G ol (vp_updL f 0 u.2.toInt64)])) A) (by decide) rfl (Nat.le_of_ble_eq_true rfl) ?_
  intro p e s m args below meth c A F htb hZ ls hl hP hD hS
  have hx := F.1
  have hb := F.2.1
  have hKK := F.2.2.2.2.2.2.2.2.1
  have hl : lv_has ls 4 [(0, .ref lq), (1, .int a1), (2, .ref ol)] := hl
  obtain ⟨fs, h0⟩ := h0
  generalize hH : s.heap = H at hP ⊢
  have hS : va_S A s.heap H [] := by rw [← hH]; exact va_S.rf
  generalize hLo : ([] : List Loc) = locs at hS ⊢
  refine lv_aload_n hx hb dL_plotX_0 rfl (lv_at hl 2 rfl) ?_
  refine lv_iconst (v := nI 0) hx hb dL_plotX_1 (by decide) ?_
  refine lv_aload_n hx hb dL_plotX_2 rfl (lv_at hl 0 rfl) ?_
  refine lv_iload_n hx hb dL_plotX_3 rfl (lv_at hl 1 rfl) ?_
  refine gCi F (gRunV (own := RL) (C := RX3) (ci := 3) (bytes := cX3_plotX) (n := 1) (As := [.int a1]) (rest := [.int (nI 0), .ref ol]) F (hM H.size) gL_plotX_X3_plotX rfl rfl hrc hrs (by decide +kernel) rfl ⟨Nat.le_refl _, Nat.le_refl _⟩ hP hD (lit := wv) (wt := [outc G ol f]) (wc := wv) (isC := List.range wv.length) (gRange wv) (gRange_nd _) rfl h0 rfl hl.1 (Nat.le_of_ble_eq_true rfl) dL_plotX_4 ⟨by show 0 + mc ≤ mc; omega, by show 0 + ms ≤ ms; omega⟩) hP hD hS (lit := wv) (wt := [outc G ol f]) (wc := wv) (wr := []) (isC := List.range wv.length) (isR := []) (gRange wv) rfl rfl (fun _ h_ => by cases h_) (fun r5 u H locs hp hP hD hS => ?_)
  have hP : va_P G.1 vwCl (u ++ [outc G ol f]) H := hP
  have hD : va_D A (u ++ [outc G ol f]) := hD
  refine lv_i2l (v := r5.toInt64) hx hb dL_plotX_7 rfl ?_
  refine gLast hx hb hKK.1 hP hD hS dL_plotX_8 (fun H locs hP hD hS => ?_)
  refine lv_goto (tgt := 15) hx hb dL_plotX_9 (by decide) ?_
  refine lv_iconst (v := nI 0) hx hb dL_plotX_15 (by decide) ?_
  exact gRi F dL_plotX_16 rfl (u, r5) ⟨rfl, hp⟩ hP hD hS (by omega) (by omega)

set_option maxHeartbeats 4000000 in
set_option maxRecDepth 100000 in
theorem wa_plotY (l : Launch) (G : gG) (lq ol : Nat) {wv : va_W} {f : Nat → Int64} {rm : Room} {mc ms : Nat} {post : Int32 → va_W → Prop} (a1 : Int32) (h0 : ∃ fs, wv[0]? = some (lq, .inr (3, fs))) (hM : gMi (S := va_W) l yX3_plotY wsX3_plotY rm G [.ref lq, .int a1] wv post (fun u => u) mc ms) (hrc : rm.cells = mc) (hrs : rm.slots = ms) : gMw (S := va_W × Int32) l yL_plotY wsL_plotY { frames := rm.frames + 1, cells := mc, slots := ms, locals := 8 + (2 + 11) + rm.locals } G [.ref lq, .int a1, .ref ol] (wv ++ [outc G ol f]) (fun (r : Int32) (u : va_W × Int32) => r = nI 0 ∧ post u.2 u.1) (fun (u : va_W × Int32) => u.1 ++ [outc G ol (vp_updL f 0 u.2.toInt64)]) mc ms := by
  refine gMw_mk (cc := cL_plotY) (nL := 4) (ret := some .int) (hh := [(0, 9, 12, 13)]) (Qc := fun A => va_Qi (S := va_W × Int32) (fun (r : Int32) (u : va_W × Int32) => r = nI 0 ∧ post u.2 u.1) (gB G A (fun (u : va_W × Int32) => u.1 ++ [outc G ol (vp_updL f 0 u.2.toInt64)])) A) (by decide) rfl (Nat.le_of_ble_eq_true rfl) ?_
  intro p e s m args below meth c A F htb hZ ls hl hP hD hS
  have hx := F.1
  have hb := F.2.1
  have hKK := F.2.2.2.2.2.2.2.2.1
  have hl : lv_has ls 4 [(0, .ref lq), (1, .int a1), (2, .ref ol)] := hl
  obtain ⟨fs, h0⟩ := h0
  generalize hH : s.heap = H at hP ⊢
  have hS : va_S A s.heap H [] := by rw [← hH]; exact va_S.rf
  generalize hLo : ([] : List Loc) = locs at hS ⊢
  refine lv_aload_n hx hb dL_plotY_0 rfl (lv_at hl 2 rfl) ?_
  refine lv_iconst (v := nI 0) hx hb dL_plotY_1 (by decide) ?_
  refine lv_aload_n hx hb dL_plotY_2 rfl (lv_at hl 0 rfl) ?_
  refine lv_iload_n hx hb dL_plotY_3 rfl (lv_at hl 1 rfl) ?_
  refine gCi F (gRunV (own := RL) (C := RX3) (ci := 3) (bytes := cX3_plotY) (n := 1) (As := [.int a1]) (rest := [.int (nI 0), .ref ol]) F (hM H.size) gL_plotY_X3_plotY rfl rfl hrc hrs (by decide +kernel) rfl ⟨Nat.le_refl _, Nat.le_refl _⟩ hP hD (lit := wv) (wt := [outc G ol f]) (wc := wv) (isC := List.range wv.length) (gRange wv) (gRange_nd _) rfl h0 rfl hl.1 (Nat.le_of_ble_eq_true rfl) dL_plotY_4 ⟨by show 0 + mc ≤ mc; omega, by show 0 + ms ≤ ms; omega⟩) hP hD hS (lit := wv) (wt := [outc G ol f]) (wc := wv) (wr := []) (isC := List.range wv.length) (isR := []) (gRange wv) rfl rfl (fun _ h_ => by cases h_) (fun r5 u H locs hp hP hD hS => ?_)
  have hP : va_P G.1 vwCl (u ++ [outc G ol f]) H := hP
  have hD : va_D A (u ++ [outc G ol f]) := hD
  refine lv_i2l (v := r5.toInt64) hx hb dL_plotY_7 rfl ?_
  refine gLast hx hb hKK.1 hP hD hS dL_plotY_8 (fun H locs hP hD hS => ?_)
  refine lv_goto (tgt := 15) hx hb dL_plotY_9 (by decide) ?_
  refine lv_iconst (v := nI 0) hx hb dL_plotY_15 (by decide) ?_
  exact gRi F dL_plotY_16 rfl (u, r5) ⟨rfl, hp⟩ hP hD hS (by omega) (by omega)

set_option maxHeartbeats 4000000 in
set_option maxRecDepth 100000 in
theorem wa_plotSize (l : Launch) (G : gG) (lq ol : Nat) {wv : va_W} {f : Nat → Int64} {rm : Room} {mc ms : Nat} {post : Int32 → va_W → Prop} (a1 : Int32) (h0 : ∃ fs, wv[0]? = some (lq, .inr (3, fs))) (hM : gMi (S := va_W) l yX3_plotSize wsX3_plotSize rm G [.ref lq, .int a1] wv post (fun u => u) mc ms) (hrc : rm.cells = mc) (hrs : rm.slots = ms) : gMw (S := va_W × Int32) l yL_plotSize wsL_plotSize { frames := rm.frames + 1, cells := mc, slots := ms, locals := 8 + (2 + 11) + rm.locals } G [.ref lq, .int a1, .ref ol] (wv ++ [outc G ol f]) (fun (r : Int32) (u : va_W × Int32) => r = nI 0 ∧ post u.2 u.1) (fun (u : va_W × Int32) => u.1 ++ [outc G ol (vp_updL f 0 u.2.toInt64)]) mc ms := by
  refine gMw_mk (cc := cL_plotSize) (nL := 4) (ret := some .int) (hh := [(0, 9, 12, 13)]) (Qc := fun A => va_Qi (S := va_W × Int32) (fun (r : Int32) (u : va_W × Int32) => r = nI 0 ∧ post u.2 u.1) (gB G A (fun (u : va_W × Int32) => u.1 ++ [outc G ol (vp_updL f 0 u.2.toInt64)])) A) (by decide) rfl (Nat.le_of_ble_eq_true rfl) ?_
  intro p e s m args below meth c A F htb hZ ls hl hP hD hS
  have hx := F.1
  have hb := F.2.1
  have hKK := F.2.2.2.2.2.2.2.2.1
  have hl : lv_has ls 4 [(0, .ref lq), (1, .int a1), (2, .ref ol)] := hl
  obtain ⟨fs, h0⟩ := h0
  generalize hH : s.heap = H at hP ⊢
  have hS : va_S A s.heap H [] := by rw [← hH]; exact va_S.rf
  generalize hLo : ([] : List Loc) = locs at hS ⊢
  refine lv_aload_n hx hb dL_plotSize_0 rfl (lv_at hl 2 rfl) ?_
  refine lv_iconst (v := nI 0) hx hb dL_plotSize_1 (by decide) ?_
  refine lv_aload_n hx hb dL_plotSize_2 rfl (lv_at hl 0 rfl) ?_
  refine lv_iload_n hx hb dL_plotSize_3 rfl (lv_at hl 1 rfl) ?_
  refine gCi F (gRunV (own := RL) (C := RX3) (ci := 3) (bytes := cX3_plotSize) (n := 1) (As := [.int a1]) (rest := [.int (nI 0), .ref ol]) F (hM H.size) gL_plotSize_X3_plotSize rfl rfl hrc hrs (by decide +kernel) rfl ⟨Nat.le_refl _, Nat.le_refl _⟩ hP hD (lit := wv) (wt := [outc G ol f]) (wc := wv) (isC := List.range wv.length) (gRange wv) (gRange_nd _) rfl h0 rfl hl.1 (Nat.le_of_ble_eq_true rfl) dL_plotSize_4 ⟨by show 0 + mc ≤ mc; omega, by show 0 + ms ≤ ms; omega⟩) hP hD hS (lit := wv) (wt := [outc G ol f]) (wc := wv) (wr := []) (isC := List.range wv.length) (isR := []) (gRange wv) rfl rfl (fun _ h_ => by cases h_) (fun r5 u H locs hp hP hD hS => ?_)
  have hP : va_P G.1 vwCl (u ++ [outc G ol f]) H := hP
  have hD : va_D A (u ++ [outc G ol f]) := hD
  refine lv_i2l (v := r5.toInt64) hx hb dL_plotSize_7 rfl ?_
  refine gLast hx hb hKK.1 hP hD hS dL_plotSize_8 (fun H locs hP hD hS => ?_)
  refine lv_goto (tgt := 15) hx hb dL_plotSize_9 (by decide) ?_
  refine lv_iconst (v := nI 0) hx hb dL_plotSize_15 (by decide) ?_
  exact gRi F dL_plotSize_16 rfl (u, r5) ⟨rfl, hp⟩ hP hD hS (by omega) (by omega)

set_option maxHeartbeats 4000000 in
set_option maxRecDepth 100000 in
theorem wa_plotsOf (l : Launch) (G : gG) (lq ol : Nat) {wv : va_W} {f : Nat → Int64} {rm : Room} {mc ms : Nat} {post : Int32 → va_W → Prop} (a1 : Int32) (h0 : ∃ fs, wv[0]? = some (lq, .inr (3, fs))) (hM : gMi (S := va_W) l yX3_plotsOf wsX3_plotsOf rm G [.ref lq, .int a1] wv post (fun u => u) mc ms) (hrc : rm.cells = mc) (hrs : rm.slots = ms) : gMw (S := va_W × Int32) l yL_plotsOf wsL_plotsOf { frames := rm.frames + 1, cells := mc, slots := ms, locals := 8 + (2 + 11) + rm.locals } G [.ref lq, .int a1, .ref ol] (wv ++ [outc G ol f]) (fun (r : Int32) (u : va_W × Int32) => r = nI 0 ∧ post u.2 u.1) (fun (u : va_W × Int32) => u.1 ++ [outc G ol (vp_updL f 0 u.2.toInt64)]) mc ms := by
  refine gMw_mk (cc := cL_plotsOf) (nL := 4) (ret := some .int) (hh := [(0, 9, 12, 13)]) (Qc := fun A => va_Qi (S := va_W × Int32) (fun (r : Int32) (u : va_W × Int32) => r = nI 0 ∧ post u.2 u.1) (gB G A (fun (u : va_W × Int32) => u.1 ++ [outc G ol (vp_updL f 0 u.2.toInt64)])) A) (by decide) rfl (Nat.le_of_ble_eq_true rfl) ?_
  intro p e s m args below meth c A F htb hZ ls hl hP hD hS
  have hx := F.1
  have hb := F.2.1
  have hKK := F.2.2.2.2.2.2.2.2.1
  have hl : lv_has ls 4 [(0, .ref lq), (1, .int a1), (2, .ref ol)] := hl
  obtain ⟨fs, h0⟩ := h0
  generalize hH : s.heap = H at hP ⊢
  have hS : va_S A s.heap H [] := by rw [← hH]; exact va_S.rf
  generalize hLo : ([] : List Loc) = locs at hS ⊢
  refine lv_aload_n hx hb dL_plotsOf_0 rfl (lv_at hl 2 rfl) ?_
  refine lv_iconst (v := nI 0) hx hb dL_plotsOf_1 (by decide) ?_
  refine lv_aload_n hx hb dL_plotsOf_2 rfl (lv_at hl 0 rfl) ?_
  refine lv_iload_n hx hb dL_plotsOf_3 rfl (lv_at hl 1 rfl) ?_
  refine gCi F (gRunV (own := RL) (C := RX3) (ci := 3) (bytes := cX3_plotsOf) (n := 1) (As := [.int a1]) (rest := [.int (nI 0), .ref ol]) F (hM H.size) gL_plotsOf_X3_plotsOf rfl rfl hrc hrs (by decide +kernel) rfl ⟨Nat.le_refl _, Nat.le_refl _⟩ hP hD (lit := wv) (wt := [outc G ol f]) (wc := wv) (isC := List.range wv.length) (gRange wv) (gRange_nd _) rfl h0 rfl hl.1 (Nat.le_of_ble_eq_true rfl) dL_plotsOf_4 ⟨by show 0 + mc ≤ mc; omega, by show 0 + ms ≤ ms; omega⟩) hP hD hS (lit := wv) (wt := [outc G ol f]) (wc := wv) (wr := []) (isC := List.range wv.length) (isR := []) (gRange wv) rfl rfl (fun _ h_ => by cases h_) (fun r5 u H locs hp hP hD hS => ?_)
  have hP : va_P G.1 vwCl (u ++ [outc G ol f]) H := hP
  have hD : va_D A (u ++ [outc G ol f]) := hD
  refine lv_i2l (v := r5.toInt64) hx hb dL_plotsOf_7 rfl ?_
  refine gLast hx hb hKK.1 hP hD hS dL_plotsOf_8 (fun H locs hP hD hS => ?_)
  refine lv_goto (tgt := 15) hx hb dL_plotsOf_9 (by decide) ?_
  refine lv_iconst (v := nI 0) hx hb dL_plotsOf_15 (by decide) ?_
  exact gRi F dL_plotsOf_16 rfl (u, r5) ⟨rfl, hp⟩ hP hD hS (by omega) (by omega)

set_option maxHeartbeats 4000000 in
set_option maxRecDepth 100000 in
theorem wa_areaByPlots (l : Launch) (G : gG) (lq ol : Nat) {wv : va_W} {f : Nat → Int64} {rm : Room} {mc ms : Nat} {post : Int32 → va_W → Prop} (a1 : Int32) (h0 : ∃ fs, wv[0]? = some (lq, .inr (3, fs))) (hM : gMi (S := va_W) l yX3_areaByPlots wsX3_areaByPlots rm G [.ref lq, .int a1] wv post (fun u => u) mc ms) (hrc : rm.cells = mc) (hrs : rm.slots = ms) : gMw (S := va_W × Int32) l yL_areaByPlots wsL_areaByPlots { frames := rm.frames + 1, cells := mc, slots := ms, locals := 8 + (2 + 11) + rm.locals } G [.ref lq, .int a1, .ref ol] (wv ++ [outc G ol f]) (fun (r : Int32) (u : va_W × Int32) => r = nI 0 ∧ post u.2 u.1) (fun (u : va_W × Int32) => u.1 ++ [outc G ol (vp_updL f 0 u.2.toInt64)]) mc ms := by
  refine gMw_mk (cc := cL_areaByPlots) (nL := 4) (ret := some .int) (hh := [(0, 9, 12, 13)]) (Qc := fun A => va_Qi (S := va_W × Int32) (fun (r : Int32) (u : va_W × Int32) => r = nI 0 ∧ post u.2 u.1) (gB G A (fun (u : va_W × Int32) => u.1 ++ [outc G ol (vp_updL f 0 u.2.toInt64)])) A) (by decide) rfl (Nat.le_of_ble_eq_true rfl) ?_
  intro p e s m args below meth c A F htb hZ ls hl hP hD hS
  have hx := F.1
  have hb := F.2.1
  have hKK := F.2.2.2.2.2.2.2.2.1
  have hl : lv_has ls 4 [(0, .ref lq), (1, .int a1), (2, .ref ol)] := hl
  obtain ⟨fs, h0⟩ := h0
  generalize hH : s.heap = H at hP ⊢
  have hS : va_S A s.heap H [] := by rw [← hH]; exact va_S.rf
  generalize hLo : ([] : List Loc) = locs at hS ⊢
  refine lv_aload_n hx hb dL_areaByPlots_0 rfl (lv_at hl 2 rfl) ?_
  refine lv_iconst (v := nI 0) hx hb dL_areaByPlots_1 (by decide) ?_
  refine lv_aload_n hx hb dL_areaByPlots_2 rfl (lv_at hl 0 rfl) ?_
  refine lv_iload_n hx hb dL_areaByPlots_3 rfl (lv_at hl 1 rfl) ?_
  refine gCi F (gRunV (own := RL) (C := RX3) (ci := 3) (bytes := cX3_areaByPlots) (n := 1) (As := [.int a1]) (rest := [.int (nI 0), .ref ol]) F (hM H.size) gL_areaByPlots_X3_areaByPlots rfl rfl hrc hrs (by decide +kernel) rfl ⟨Nat.le_refl _, Nat.le_refl _⟩ hP hD (lit := wv) (wt := [outc G ol f]) (wc := wv) (isC := List.range wv.length) (gRange wv) (gRange_nd _) rfl h0 rfl hl.1 (Nat.le_of_ble_eq_true rfl) dL_areaByPlots_4 ⟨by show 0 + mc ≤ mc; omega, by show 0 + ms ≤ ms; omega⟩) hP hD hS (lit := wv) (wt := [outc G ol f]) (wc := wv) (wr := []) (isC := List.range wv.length) (isR := []) (gRange wv) rfl rfl (fun _ h_ => by cases h_) (fun r5 u H locs hp hP hD hS => ?_)
  have hP : va_P G.1 vwCl (u ++ [outc G ol f]) H := hP
  have hD : va_D A (u ++ [outc G ol f]) := hD
  refine lv_i2l (v := r5.toInt64) hx hb dL_areaByPlots_7 rfl ?_
  refine gLast hx hb hKK.1 hP hD hS dL_areaByPlots_8 (fun H locs hP hD hS => ?_)
  refine lv_goto (tgt := 15) hx hb dL_areaByPlots_9 (by decide) ?_
  refine lv_iconst (v := nI 0) hx hb dL_areaByPlots_15 (by decide) ?_
  exact gRi F dL_areaByPlots_16 rfl (u, r5) ⟨rfl, hp⟩ hP hD hS (by omega) (by omega)

set_option maxHeartbeats 4000000 in
set_option maxRecDepth 100000 in
theorem wa_areaByCells (l : Launch) (G : gG) (lq ol : Nat) {wv : va_W} {f : Nat → Int64} {rm : Room} {mc ms : Nat} {post : Int32 → va_W → Prop} (a1 : Int32) (h0 : ∃ fs, wv[0]? = some (lq, .inr (3, fs))) (hM : gMi (S := va_W) l yX3_areaByCells wsX3_areaByCells rm G [.ref lq, .int a1] wv post (fun u => u) mc ms) (hrc : rm.cells = mc) (hrs : rm.slots = ms) : gMw (S := va_W × Int32) l yL_areaByCells wsL_areaByCells { frames := rm.frames + 1, cells := mc, slots := ms, locals := 8 + (2 + 11) + rm.locals } G [.ref lq, .int a1, .ref ol] (wv ++ [outc G ol f]) (fun (r : Int32) (u : va_W × Int32) => r = nI 0 ∧ post u.2 u.1) (fun (u : va_W × Int32) => u.1 ++ [outc G ol (vp_updL f 0 u.2.toInt64)]) mc ms := by
  refine gMw_mk (cc := cL_areaByCells) (nL := 4) (ret := some .int) (hh := [(0, 9, 12, 13)]) (Qc := fun A => va_Qi (S := va_W × Int32) (fun (r : Int32) (u : va_W × Int32) => r = nI 0 ∧ post u.2 u.1) (gB G A (fun (u : va_W × Int32) => u.1 ++ [outc G ol (vp_updL f 0 u.2.toInt64)])) A) (by decide) rfl (Nat.le_of_ble_eq_true rfl) ?_
  intro p e s m args below meth c A F htb hZ ls hl hP hD hS
  have hx := F.1
  have hb := F.2.1
  have hKK := F.2.2.2.2.2.2.2.2.1
  have hl : lv_has ls 4 [(0, .ref lq), (1, .int a1), (2, .ref ol)] := hl
  obtain ⟨fs, h0⟩ := h0
  generalize hH : s.heap = H at hP ⊢
  have hS : va_S A s.heap H [] := by rw [← hH]; exact va_S.rf
  generalize hLo : ([] : List Loc) = locs at hS ⊢
  refine lv_aload_n hx hb dL_areaByCells_0 rfl (lv_at hl 2 rfl) ?_
  refine lv_iconst (v := nI 0) hx hb dL_areaByCells_1 (by decide) ?_
  refine lv_aload_n hx hb dL_areaByCells_2 rfl (lv_at hl 0 rfl) ?_
  refine lv_iload_n hx hb dL_areaByCells_3 rfl (lv_at hl 1 rfl) ?_
  refine gCi F (gRunV (own := RL) (C := RX3) (ci := 3) (bytes := cX3_areaByCells) (n := 1) (As := [.int a1]) (rest := [.int (nI 0), .ref ol]) F (hM H.size) gL_areaByCells_X3_areaByCells rfl rfl hrc hrs (by decide +kernel) rfl ⟨Nat.le_refl _, Nat.le_refl _⟩ hP hD (lit := wv) (wt := [outc G ol f]) (wc := wv) (isC := List.range wv.length) (gRange wv) (gRange_nd _) rfl h0 rfl hl.1 (Nat.le_of_ble_eq_true rfl) dL_areaByCells_4 ⟨by show 0 + mc ≤ mc; omega, by show 0 + ms ≤ ms; omega⟩) hP hD hS (lit := wv) (wt := [outc G ol f]) (wc := wv) (wr := []) (isC := List.range wv.length) (isR := []) (gRange wv) rfl rfl (fun _ h_ => by cases h_) (fun r5 u H locs hp hP hD hS => ?_)
  have hP : va_P G.1 vwCl (u ++ [outc G ol f]) H := hP
  have hD : va_D A (u ++ [outc G ol f]) := hD
  refine lv_i2l (v := r5.toInt64) hx hb dL_areaByCells_7 rfl ?_
  refine gLast hx hb hKK.1 hP hD hS dL_areaByCells_8 (fun H locs hP hD hS => ?_)
  refine lv_goto (tgt := 15) hx hb dL_areaByCells_9 (by decide) ?_
  refine lv_iconst (v := nI 0) hx hb dL_areaByCells_15 (by decide) ?_
  exact gRi F dL_areaByCells_16 rfl (u, r5) ⟨rfl, hp⟩ hP hD hS (by omega) (by omega)

set_option maxHeartbeats 4000000 in
set_option maxRecDepth 100000 in
theorem wa_fenceByPlots (l : Launch) (G : gG) (lq ol : Nat) {wv : va_W} {f : Nat → Int64} {rm : Room} {mc ms : Nat} {post : Int32 → va_W → Prop} (a1 : Int32) (h0 : ∃ fs, wv[0]? = some (lq, .inr (3, fs))) (hM : gMi (S := va_W) l yX3_fenceByPlots wsX3_fenceByPlots rm G [.ref lq, .int a1] wv post (fun u => u) mc ms) (hrc : rm.cells = mc) (hrs : rm.slots = ms) : gMw (S := va_W × Int32) l yL_fenceByPlots wsL_fenceByPlots { frames := rm.frames + 1, cells := mc, slots := ms, locals := 8 + (2 + 11) + rm.locals } G [.ref lq, .int a1, .ref ol] (wv ++ [outc G ol f]) (fun (r : Int32) (u : va_W × Int32) => r = nI 0 ∧ post u.2 u.1) (fun (u : va_W × Int32) => u.1 ++ [outc G ol (vp_updL f 0 u.2.toInt64)]) mc ms := by
  refine gMw_mk (cc := cL_fenceByPlots) (nL := 4) (ret := some .int) (hh := [(0, 9, 12, 13)]) (Qc := fun A => va_Qi (S := va_W × Int32) (fun (r : Int32) (u : va_W × Int32) => r = nI 0 ∧ post u.2 u.1) (gB G A (fun (u : va_W × Int32) => u.1 ++ [outc G ol (vp_updL f 0 u.2.toInt64)])) A) (by decide) rfl (Nat.le_of_ble_eq_true rfl) ?_
  intro p e s m args below meth c A F htb hZ ls hl hP hD hS
  have hx := F.1
  have hb := F.2.1
  have hKK := F.2.2.2.2.2.2.2.2.1
  have hl : lv_has ls 4 [(0, .ref lq), (1, .int a1), (2, .ref ol)] := hl
  obtain ⟨fs, h0⟩ := h0
  generalize hH : s.heap = H at hP ⊢
  have hS : va_S A s.heap H [] := by rw [← hH]; exact va_S.rf
  generalize hLo : ([] : List Loc) = locs at hS ⊢
  refine lv_aload_n hx hb dL_fenceByPlots_0 rfl (lv_at hl 2 rfl) ?_
  refine lv_iconst (v := nI 0) hx hb dL_fenceByPlots_1 (by decide) ?_
  refine lv_aload_n hx hb dL_fenceByPlots_2 rfl (lv_at hl 0 rfl) ?_
  refine lv_iload_n hx hb dL_fenceByPlots_3 rfl (lv_at hl 1 rfl) ?_
  refine gCi F (gRunV (own := RL) (C := RX3) (ci := 3) (bytes := cX3_fenceByPlots) (n := 1) (As := [.int a1]) (rest := [.int (nI 0), .ref ol]) F (hM H.size) gL_fenceByPlots_X3_fenceByPlots rfl rfl hrc hrs (by decide +kernel) rfl ⟨Nat.le_refl _, Nat.le_refl _⟩ hP hD (lit := wv) (wt := [outc G ol f]) (wc := wv) (isC := List.range wv.length) (gRange wv) (gRange_nd _) rfl h0 rfl hl.1 (Nat.le_of_ble_eq_true rfl) dL_fenceByPlots_4 ⟨by show 0 + mc ≤ mc; omega, by show 0 + ms ≤ ms; omega⟩) hP hD hS (lit := wv) (wt := [outc G ol f]) (wc := wv) (wr := []) (isC := List.range wv.length) (isR := []) (gRange wv) rfl rfl (fun _ h_ => by cases h_) (fun r5 u H locs hp hP hD hS => ?_)
  have hP : va_P G.1 vwCl (u ++ [outc G ol f]) H := hP
  have hD : va_D A (u ++ [outc G ol f]) := hD
  refine lv_i2l (v := r5.toInt64) hx hb dL_fenceByPlots_7 rfl ?_
  refine gLast hx hb hKK.1 hP hD hS dL_fenceByPlots_8 (fun H locs hP hD hS => ?_)
  refine lv_goto (tgt := 15) hx hb dL_fenceByPlots_9 (by decide) ?_
  refine lv_iconst (v := nI 0) hx hb dL_fenceByPlots_15 (by decide) ?_
  exact gRi F dL_fenceByPlots_16 rfl (u, r5) ⟨rfl, hp⟩ hP hD hS (by omega) (by omega)

set_option maxHeartbeats 4000000 in
set_option maxRecDepth 100000 in
theorem wa_fenceByCells (l : Launch) (G : gG) (lq ol : Nat) {wv : va_W} {f : Nat → Int64} {rm : Room} {mc ms : Nat} {post : Int32 → va_W → Prop} (a1 : Int32) (h0 : ∃ fs, wv[0]? = some (lq, .inr (3, fs))) (hM : gMi (S := va_W) l yX3_fenceByCells wsX3_fenceByCells rm G [.ref lq, .int a1] wv post (fun u => u) mc ms) (hrc : rm.cells = mc) (hrs : rm.slots = ms) : gMw (S := va_W × Int32) l yL_fenceByCells wsL_fenceByCells { frames := rm.frames + 1, cells := mc, slots := ms, locals := 8 + (4 + 11) + rm.locals } G [.ref lq, .int a1, .ref ol] (wv ++ [outc G ol f]) (fun (r : Int32) (u : va_W × Int32) => r = nI 0 ∧ post u.2 u.1) (fun (u : va_W × Int32) => u.1 ++ [outc G ol (vp_updL f 0 u.2.toInt64)]) mc ms := by
  refine gMw_mk (cc := cL_fenceByCells) (nL := 4) (ret := some .int) (hh := [(0, 9, 12, 13)]) (Qc := fun A => va_Qi (S := va_W × Int32) (fun (r : Int32) (u : va_W × Int32) => r = nI 0 ∧ post u.2 u.1) (gB G A (fun (u : va_W × Int32) => u.1 ++ [outc G ol (vp_updL f 0 u.2.toInt64)])) A) (by decide) rfl (Nat.le_of_ble_eq_true rfl) ?_
  intro p e s m args below meth c A F htb hZ ls hl hP hD hS
  have hx := F.1
  have hb := F.2.1
  have hKK := F.2.2.2.2.2.2.2.2.1
  have hl : lv_has ls 4 [(0, .ref lq), (1, .int a1), (2, .ref ol)] := hl
  obtain ⟨fs, h0⟩ := h0
  generalize hH : s.heap = H at hP ⊢
  have hS : va_S A s.heap H [] := by rw [← hH]; exact va_S.rf
  generalize hLo : ([] : List Loc) = locs at hS ⊢
  refine lv_aload_n hx hb dL_fenceByCells_0 rfl (lv_at hl 2 rfl) ?_
  refine lv_iconst (v := nI 0) hx hb dL_fenceByCells_1 (by decide) ?_
  refine lv_aload_n hx hb dL_fenceByCells_2 rfl (lv_at hl 0 rfl) ?_
  refine lv_iload_n hx hb dL_fenceByCells_3 rfl (lv_at hl 1 rfl) ?_
  refine gCi F (gRunV (own := RL) (C := RX3) (ci := 3) (bytes := cX3_fenceByCells) (n := 1) (As := [.int a1]) (rest := [.int (nI 0), .ref ol]) F (hM H.size) gL_fenceByCells_X3_fenceByCells rfl rfl hrc hrs (by decide +kernel) rfl ⟨Nat.le_refl _, Nat.le_refl _⟩ hP hD (lit := wv) (wt := [outc G ol f]) (wc := wv) (isC := List.range wv.length) (gRange wv) (gRange_nd _) rfl h0 rfl hl.1 (Nat.le_of_ble_eq_true rfl) dL_fenceByCells_4 ⟨by show 0 + mc ≤ mc; omega, by show 0 + ms ≤ ms; omega⟩) hP hD hS (lit := wv) (wt := [outc G ol f]) (wc := wv) (wr := []) (isC := List.range wv.length) (isR := []) (gRange wv) rfl rfl (fun _ h_ => by cases h_) (fun r5 u H locs hp hP hD hS => ?_)
  have hP : va_P G.1 vwCl (u ++ [outc G ol f]) H := hP
  have hD : va_D A (u ++ [outc G ol f]) := hD
  refine lv_i2l (v := r5.toInt64) hx hb dL_fenceByCells_7 rfl ?_
  refine gLast hx hb hKK.1 hP hD hS dL_fenceByCells_8 (fun H locs hP hD hS => ?_)
  refine lv_goto (tgt := 15) hx hb dL_fenceByCells_9 (by decide) ?_
  refine lv_iconst (v := nI 0) hx hb dL_fenceByCells_15 (by decide) ?_
  exact gRi F dL_fenceByCells_16 rfl (u, r5) ⟨rfl, hp⟩ hP hD hS (by omega) (by omega)

set_option maxHeartbeats 4000000 in
set_option maxRecDepth 100000 in
theorem wa_fenceBetween (l : Launch) (G : gG) (lq ol : Nat) {wv : va_W} {f : Nat → Int64} {rm : Room} {mc ms : Nat} {post : Int32 → va_W → Prop} (a1 a2 : Int32) (h0 : ∃ fs, wv[0]? = some (lq, .inr (3, fs))) (hM : gMi (S := va_W) l yX3_fenceBetween wsX3_fenceBetween rm G [.ref lq, .int a1, .int a2] wv post (fun u => u) mc ms) (hrc : rm.cells = mc) (hrs : rm.slots = ms) : gMw (S := va_W × Int32) l yL_fenceBetween wsL_fenceBetween { frames := rm.frames + 1, cells := mc, slots := ms, locals := 8 + (3 + 11) + rm.locals } G [.ref lq, .int a1, .int a2, .ref ol] (wv ++ [outc G ol f]) (fun (r : Int32) (u : va_W × Int32) => r = nI 0 ∧ post u.2 u.1) (fun (u : va_W × Int32) => u.1 ++ [outc G ol (vp_updL f 0 u.2.toInt64)]) mc ms := by
  refine gMw_mk (cc := cL_fenceBetween) (nL := 5) (ret := some .int) (hh := [(0, 10, 13, 13)]) (Qc := fun A => va_Qi (S := va_W × Int32) (fun (r : Int32) (u : va_W × Int32) => r = nI 0 ∧ post u.2 u.1) (gB G A (fun (u : va_W × Int32) => u.1 ++ [outc G ol (vp_updL f 0 u.2.toInt64)])) A) (by decide) rfl (Nat.le_of_ble_eq_true rfl) ?_
  intro p e s m args below meth c A F htb hZ ls hl hP hD hS
  have hx := F.1
  have hb := F.2.1
  have hKK := F.2.2.2.2.2.2.2.2.1
  have hl : lv_has ls 5 [(0, .ref lq), (1, .int a1), (2, .int a2), (3, .ref ol)] := hl
  obtain ⟨fs, h0⟩ := h0
  generalize hH : s.heap = H at hP ⊢
  have hS : va_S A s.heap H [] := by rw [← hH]; exact va_S.rf
  generalize hLo : ([] : List Loc) = locs at hS ⊢
  refine lv_aload_n hx hb dL_fenceBetween_0 rfl (lv_at hl 3 rfl) ?_
  refine lv_iconst (v := nI 0) hx hb dL_fenceBetween_1 (by decide) ?_
  refine lv_aload_n hx hb dL_fenceBetween_2 rfl (lv_at hl 0 rfl) ?_
  refine lv_iload_n hx hb dL_fenceBetween_3 rfl (lv_at hl 1 rfl) ?_
  refine lv_iload_n hx hb dL_fenceBetween_4 rfl (lv_at hl 2 rfl) ?_
  refine gCi F (gRunV (own := RL) (C := RX3) (ci := 3) (bytes := cX3_fenceBetween) (n := 2) (As := [.int a1, .int a2]) (rest := [.int (nI 0), .ref ol]) F (hM H.size) gL_fenceBetween_X3_fenceBetween rfl rfl hrc hrs (by decide +kernel) rfl ⟨Nat.le_refl _, Nat.le_refl _⟩ hP hD (lit := wv) (wt := [outc G ol f]) (wc := wv) (isC := List.range wv.length) (gRange wv) (gRange_nd _) rfl h0 rfl hl.1 (Nat.le_of_ble_eq_true rfl) dL_fenceBetween_5 ⟨by show 0 + mc ≤ mc; omega, by show 0 + ms ≤ ms; omega⟩) hP hD hS (lit := wv) (wt := [outc G ol f]) (wc := wv) (wr := []) (isC := List.range wv.length) (isR := []) (gRange wv) rfl rfl (fun _ h_ => by cases h_) (fun r5 u H locs hp hP hD hS => ?_)
  have hP : va_P G.1 vwCl (u ++ [outc G ol f]) H := hP
  have hD : va_D A (u ++ [outc G ol f]) := hD
  refine lv_i2l (v := r5.toInt64) hx hb dL_fenceBetween_8 rfl ?_
  refine gLast hx hb hKK.1 hP hD hS dL_fenceBetween_9 (fun H locs hP hD hS => ?_)
  refine lv_goto (tgt := 17) hx hb dL_fenceBetween_10 (by decide) ?_
  refine lv_iconst (v := nI 0) hx hb dL_fenceBetween_17 (by decide) ?_
  exact gRi F dL_fenceBetween_18 rfl (u, r5) ⟨rfl, hp⟩ hP hD hS (by omega) (by omega)

set_option maxHeartbeats 4000000 in
set_option maxRecDepth 100000 in
theorem wa_largestPlotOf (l : Launch) (G : gG) (lq ol : Nat) {wv : va_W} {f : Nat → Int64} {rm : Room} {mc ms : Nat} {post : Int32 → va_W → Prop} (a1 : Int32) (h0 : ∃ fs, wv[0]? = some (lq, .inr (3, fs))) (hM : gMi (S := va_W) l yX3_largestPlotOf wsX3_largestPlotOf rm G [.ref lq, .int a1] wv post (fun u => u) mc ms) (hrc : rm.cells = mc) (hrs : rm.slots = ms) : gMw (S := va_W × Int32) l yL_largestPlotOf wsL_largestPlotOf { frames := rm.frames + 1, cells := mc, slots := ms, locals := 8 + (2 + 11) + rm.locals } G [.ref lq, .int a1, .ref ol] (wv ++ [outc G ol f]) (fun (r : Int32) (u : va_W × Int32) => r = nI 0 ∧ post u.2 u.1) (fun (u : va_W × Int32) => u.1 ++ [outc G ol (vp_updL f 0 u.2.toInt64)]) mc ms := by
  refine gMw_mk (cc := cL_largestPlotOf) (nL := 4) (ret := some .int) (hh := [(0, 9, 12, 13)]) (Qc := fun A => va_Qi (S := va_W × Int32) (fun (r : Int32) (u : va_W × Int32) => r = nI 0 ∧ post u.2 u.1) (gB G A (fun (u : va_W × Int32) => u.1 ++ [outc G ol (vp_updL f 0 u.2.toInt64)])) A) (by decide) rfl (Nat.le_of_ble_eq_true rfl) ?_
  intro p e s m args below meth c A F htb hZ ls hl hP hD hS
  have hx := F.1
  have hb := F.2.1
  have hKK := F.2.2.2.2.2.2.2.2.1
  have hl : lv_has ls 4 [(0, .ref lq), (1, .int a1), (2, .ref ol)] := hl
  obtain ⟨fs, h0⟩ := h0
  generalize hH : s.heap = H at hP ⊢
  have hS : va_S A s.heap H [] := by rw [← hH]; exact va_S.rf
  generalize hLo : ([] : List Loc) = locs at hS ⊢
  refine lv_aload_n hx hb dL_largestPlotOf_0 rfl (lv_at hl 2 rfl) ?_
  refine lv_iconst (v := nI 0) hx hb dL_largestPlotOf_1 (by decide) ?_
  refine lv_aload_n hx hb dL_largestPlotOf_2 rfl (lv_at hl 0 rfl) ?_
  refine lv_iload_n hx hb dL_largestPlotOf_3 rfl (lv_at hl 1 rfl) ?_
  refine gCi F (gRunV (own := RL) (C := RX3) (ci := 3) (bytes := cX3_largestPlotOf) (n := 1) (As := [.int a1]) (rest := [.int (nI 0), .ref ol]) F (hM H.size) gL_largestPlotOf_X3_largestPlotOf rfl rfl hrc hrs (by decide +kernel) rfl ⟨Nat.le_refl _, Nat.le_refl _⟩ hP hD (lit := wv) (wt := [outc G ol f]) (wc := wv) (isC := List.range wv.length) (gRange wv) (gRange_nd _) rfl h0 rfl hl.1 (Nat.le_of_ble_eq_true rfl) dL_largestPlotOf_4 ⟨by show 0 + mc ≤ mc; omega, by show 0 + ms ≤ ms; omega⟩) hP hD hS (lit := wv) (wt := [outc G ol f]) (wc := wv) (wr := []) (isC := List.range wv.length) (isR := []) (gRange wv) rfl rfl (fun _ h_ => by cases h_) (fun r5 u H locs hp hP hD hS => ?_)
  have hP : va_P G.1 vwCl (u ++ [outc G ol f]) H := hP
  have hD : va_D A (u ++ [outc G ol f]) := hD
  refine lv_i2l (v := r5.toInt64) hx hb dL_largestPlotOf_7 rfl ?_
  refine gLast hx hb hKK.1 hP hD hS dL_largestPlotOf_8 (fun H locs hP hD hS => ?_)
  refine lv_goto (tgt := 15) hx hb dL_largestPlotOf_9 (by decide) ?_
  refine lv_iconst (v := nI 0) hx hb dL_largestPlotOf_15 (by decide) ?_
  exact gRi F dL_largestPlotOf_16 rfl (u, r5) ⟨rfl, hp⟩ hP hD hS (by omega) (by omega)

set_option maxHeartbeats 4000000 in
set_option maxRecDepth 100000 in
theorem wa_firstToLose (l : Launch) (G : gG) (lq ol : Nat) {wv : va_W} {f : Nat → Int64} {rm : Room} {mc ms : Nat} {post : Int32 → va_W → Prop} (a1 : Int32) (h0 : ∃ fs, wv[0]? = some (lq, .inr (3, fs))) (hM : gMi (S := va_W) l yX3_firstToLose wsX3_firstToLose rm G [.ref lq, .int a1] wv post (fun u => u) mc ms) (hrc : rm.cells = mc) (hrs : rm.slots = ms) : gMw (S := va_W × Int32) l yL_firstToLose wsL_firstToLose { frames := rm.frames + 1, cells := mc, slots := ms, locals := 8 + (2 + 11) + rm.locals } G [.ref lq, .int a1, .ref ol] (wv ++ [outc G ol f]) (fun (r : Int32) (u : va_W × Int32) => r = nI 0 ∧ post u.2 u.1) (fun (u : va_W × Int32) => u.1 ++ [outc G ol (vp_updL f 0 u.2.toInt64)]) mc ms := by
  refine gMw_mk (cc := cL_firstToLose) (nL := 4) (ret := some .int) (hh := [(0, 9, 12, 13)]) (Qc := fun A => va_Qi (S := va_W × Int32) (fun (r : Int32) (u : va_W × Int32) => r = nI 0 ∧ post u.2 u.1) (gB G A (fun (u : va_W × Int32) => u.1 ++ [outc G ol (vp_updL f 0 u.2.toInt64)])) A) (by decide) rfl (Nat.le_of_ble_eq_true rfl) ?_
  intro p e s m args below meth c A F htb hZ ls hl hP hD hS
  have hx := F.1
  have hb := F.2.1
  have hKK := F.2.2.2.2.2.2.2.2.1
  have hl : lv_has ls 4 [(0, .ref lq), (1, .int a1), (2, .ref ol)] := hl
  obtain ⟨fs, h0⟩ := h0
  generalize hH : s.heap = H at hP ⊢
  have hS : va_S A s.heap H [] := by rw [← hH]; exact va_S.rf
  generalize hLo : ([] : List Loc) = locs at hS ⊢
  refine lv_aload_n hx hb dL_firstToLose_0 rfl (lv_at hl 2 rfl) ?_
  refine lv_iconst (v := nI 0) hx hb dL_firstToLose_1 (by decide) ?_
  refine lv_aload_n hx hb dL_firstToLose_2 rfl (lv_at hl 0 rfl) ?_
  refine lv_iload_n hx hb dL_firstToLose_3 rfl (lv_at hl 1 rfl) ?_
  refine gCi F (gRunV (own := RL) (C := RX3) (ci := 3) (bytes := cX3_firstToLose) (n := 1) (As := [.int a1]) (rest := [.int (nI 0), .ref ol]) F (hM H.size) gL_firstToLose_X3_firstToLose rfl rfl hrc hrs (by decide +kernel) rfl ⟨Nat.le_refl _, Nat.le_refl _⟩ hP hD (lit := wv) (wt := [outc G ol f]) (wc := wv) (isC := List.range wv.length) (gRange wv) (gRange_nd _) rfl h0 rfl hl.1 (Nat.le_of_ble_eq_true rfl) dL_firstToLose_4 ⟨by show 0 + mc ≤ mc; omega, by show 0 + ms ≤ ms; omega⟩) hP hD hS (lit := wv) (wt := [outc G ol f]) (wc := wv) (wr := []) (isC := List.range wv.length) (isR := []) (gRange wv) rfl rfl (fun _ h_ => by cases h_) (fun r5 u H locs hp hP hD hS => ?_)
  have hP : va_P G.1 vwCl (u ++ [outc G ol f]) H := hP
  have hD : va_D A (u ++ [outc G ol f]) := hD
  refine lv_i2l (v := r5.toInt64) hx hb dL_firstToLose_7 rfl ?_
  refine gLast hx hb hKK.1 hP hD hS dL_firstToLose_8 (fun H locs hP hD hS => ?_)
  refine lv_goto (tgt := 15) hx hb dL_firstToLose_9 (by decide) ?_
  refine lv_iconst (v := nI 0) hx hb dL_firstToLose_15 (by decide) ?_
  exact gRi F dL_firstToLose_16 rfl (u, r5) ⟨rfl, hp⟩ hP hD hS (by omega) (by omega)

set_option maxHeartbeats 4000000 in
set_option maxRecDepth 100000 in
theorem wa_coinsOf (l : Launch) (G : gG) (lq ol : Nat) {wv : va_W} {f : Nat → Int64} {rm : Room} {mc ms : Nat} {post : Int32 → va_W → Prop} (a1 : Int32) (h0 : ∃ fs, wv[0]? = some (lq, .inr (3, fs))) (hM : gMi (S := va_W) l yX3_coinsOf wsX3_coinsOf rm G [.ref lq, .int a1] wv post (fun u => u) mc ms) (hrc : rm.cells = mc) (hrs : rm.slots = ms) : gMw (S := va_W × Int32) l yL_coinsOf wsL_coinsOf { frames := rm.frames + 1, cells := mc, slots := ms, locals := 8 + (2 + 11) + rm.locals } G [.ref lq, .int a1, .ref ol] (wv ++ [outc G ol f]) (fun (r : Int32) (u : va_W × Int32) => r = nI 0 ∧ post u.2 u.1) (fun (u : va_W × Int32) => u.1 ++ [outc G ol (vp_updL f 0 u.2.toInt64)]) mc ms := by
  refine gMw_mk (cc := cL_coinsOf) (nL := 4) (ret := some .int) (hh := [(0, 9, 12, 13)]) (Qc := fun A => va_Qi (S := va_W × Int32) (fun (r : Int32) (u : va_W × Int32) => r = nI 0 ∧ post u.2 u.1) (gB G A (fun (u : va_W × Int32) => u.1 ++ [outc G ol (vp_updL f 0 u.2.toInt64)])) A) (by decide) rfl (Nat.le_of_ble_eq_true rfl) ?_
  intro p e s m args below meth c A F htb hZ ls hl hP hD hS
  have hx := F.1
  have hb := F.2.1
  have hKK := F.2.2.2.2.2.2.2.2.1
  have hl : lv_has ls 4 [(0, .ref lq), (1, .int a1), (2, .ref ol)] := hl
  obtain ⟨fs, h0⟩ := h0
  generalize hH : s.heap = H at hP ⊢
  have hS : va_S A s.heap H [] := by rw [← hH]; exact va_S.rf
  generalize hLo : ([] : List Loc) = locs at hS ⊢
  refine lv_aload_n hx hb dL_coinsOf_0 rfl (lv_at hl 2 rfl) ?_
  refine lv_iconst (v := nI 0) hx hb dL_coinsOf_1 (by decide) ?_
  refine lv_aload_n hx hb dL_coinsOf_2 rfl (lv_at hl 0 rfl) ?_
  refine lv_iload_n hx hb dL_coinsOf_3 rfl (lv_at hl 1 rfl) ?_
  refine gCi F (gRunV (own := RL) (C := RX3) (ci := 3) (bytes := cX3_coinsOf) (n := 1) (As := [.int a1]) (rest := [.int (nI 0), .ref ol]) F (hM H.size) gL_coinsOf_X3_coinsOf rfl rfl hrc hrs (by decide +kernel) rfl ⟨Nat.le_refl _, Nat.le_refl _⟩ hP hD (lit := wv) (wt := [outc G ol f]) (wc := wv) (isC := List.range wv.length) (gRange wv) (gRange_nd _) rfl h0 rfl hl.1 (Nat.le_of_ble_eq_true rfl) dL_coinsOf_4 ⟨by show 0 + mc ≤ mc; omega, by show 0 + ms ≤ ms; omega⟩) hP hD hS (lit := wv) (wt := [outc G ol f]) (wc := wv) (wr := []) (isC := List.range wv.length) (isR := []) (gRange wv) rfl rfl (fun _ h_ => by cases h_) (fun r5 u H locs hp hP hD hS => ?_)
  have hP : va_P G.1 vwCl (u ++ [outc G ol f]) H := hP
  have hD : va_D A (u ++ [outc G ol f]) := hD
  refine lv_i2l (v := r5.toInt64) hx hb dL_coinsOf_7 rfl ?_
  refine gLast hx hb hKK.1 hP hD hS dL_coinsOf_8 (fun H locs hP hD hS => ?_)
  refine lv_goto (tgt := 15) hx hb dL_coinsOf_9 (by decide) ?_
  refine lv_iconst (v := nI 0) hx hb dL_coinsOf_15 (by decide) ?_
  exact gRi F dL_coinsOf_16 rfl (u, r5) ⟨rfl, hp⟩ hP hD hS (by omega) (by omega)

set_option maxHeartbeats 4000000 in
set_option maxRecDepth 100000 in
theorem wa_lowCells (l : Launch) (G : gG) (lq ol : Nat) {wv : va_W} {f : Nat → Int64} {rm : Room} {mc ms : Nat} {post : Int32 → va_W → Prop} (a1 a2 : Int32) (h0 : ∃ fs, wv[0]? = some (lq, .inr (3, fs))) (hM : gMi (S := va_W) l yX3_lowCells wsX3_lowCells rm G [.ref lq, .int a1, .int a2] wv post (fun u => u) mc ms) (hrc : rm.cells = mc) (hrs : rm.slots = ms) : gMw (S := va_W × Int32) l yL_lowCells wsL_lowCells { frames := rm.frames + 1, cells := mc, slots := ms, locals := 8 + (3 + 11) + rm.locals } G [.ref lq, .int a1, .int a2, .ref ol] (wv ++ [outc G ol f]) (fun (r : Int32) (u : va_W × Int32) => r = nI 0 ∧ post u.2 u.1) (fun (u : va_W × Int32) => u.1 ++ [outc G ol (vp_updL f 0 u.2.toInt64)]) mc ms := by
  refine gMw_mk (cc := cL_lowCells) (nL := 5) (ret := some .int) (hh := [(0, 10, 13, 13), (0, 10, 17, 15)]) (Qc := fun A => va_Qi (S := va_W × Int32) (fun (r : Int32) (u : va_W × Int32) => r = nI 0 ∧ post u.2 u.1) (gB G A (fun (u : va_W × Int32) => u.1 ++ [outc G ol (vp_updL f 0 u.2.toInt64)])) A) (by decide) rfl (Nat.le_of_ble_eq_true rfl) ?_
  intro p e s m args below meth c A F htb hZ ls hl hP hD hS
  have hx := F.1
  have hb := F.2.1
  have hKK := F.2.2.2.2.2.2.2.2.1
  have hl : lv_has ls 5 [(0, .ref lq), (1, .int a1), (2, .int a2), (3, .ref ol)] := hl
  obtain ⟨fs, h0⟩ := h0
  generalize hH : s.heap = H at hP ⊢
  have hS : va_S A s.heap H [] := by rw [← hH]; exact va_S.rf
  generalize hLo : ([] : List Loc) = locs at hS ⊢
  refine lv_aload_n hx hb dL_lowCells_0 rfl (lv_at hl 3 rfl) ?_
  refine lv_iconst (v := nI 0) hx hb dL_lowCells_1 (by decide) ?_
  refine lv_aload_n hx hb dL_lowCells_2 rfl (lv_at hl 0 rfl) ?_
  refine lv_iload_n hx hb dL_lowCells_3 rfl (lv_at hl 1 rfl) ?_
  refine lv_iload_n hx hb dL_lowCells_4 rfl (lv_at hl 2 rfl) ?_
  refine gCi F (gRunV (own := RL) (C := RX3) (ci := 3) (bytes := cX3_lowCells) (n := 2) (As := [.int a1, .int a2]) (rest := [.int (nI 0), .ref ol]) F (hM H.size) gL_lowCells_X3_lowCells rfl rfl hrc hrs (by decide +kernel) rfl ⟨Nat.le_refl _, Nat.le_refl _⟩ hP hD (lit := wv) (wt := [outc G ol f]) (wc := wv) (isC := List.range wv.length) (gRange wv) (gRange_nd _) rfl h0 rfl hl.1 (Nat.le_of_ble_eq_true rfl) dL_lowCells_5 ⟨by show 0 + mc ≤ mc; omega, by show 0 + ms ≤ ms; omega⟩) hP hD hS (lit := wv) (wt := [outc G ol f]) (wc := wv) (wr := []) (isC := List.range wv.length) (isR := []) (gRange wv) rfl rfl (fun _ h_ => by cases h_) (fun r5 u H locs hp hP hD hS => ?_)
  have hP : va_P G.1 vwCl (u ++ [outc G ol f]) H := hP
  have hD : va_D A (u ++ [outc G ol f]) := hD
  refine lv_i2l (v := r5.toInt64) hx hb dL_lowCells_8 rfl ?_
  refine gLast hx hb hKK.1 hP hD hS dL_lowCells_9 (fun H locs hP hD hS => ?_)
  refine lv_goto (tgt := 21) hx hb dL_lowCells_10 (by decide) ?_
  refine lv_iconst (v := nI 0) hx hb dL_lowCells_21 (by decide) ?_
  exact gRi F dL_lowCells_22 rfl (u, r5) ⟨rfl, hp⟩ hP hD hS (by omega) (by omega)

set_option maxHeartbeats 4000000 in
set_option maxRecDepth 100000 in
theorem wa_plotsIfFlooded (l : Launch) (G : gG) (lq ol : Nat) {wv : va_W} {f : Nat → Int64} {rm : Room} {mc ms : Nat} {post : Int32 → va_W → Prop} (a1 : Int32) (h0 : ∃ fs, wv[0]? = some (lq, .inr (3, fs))) (hM : gMi (S := va_W) l yX3_plotsIfFlooded wsX3_plotsIfFlooded rm G [.ref lq, .int a1] wv post (fun u => u) mc ms) (hrc : rm.cells = mc) (hrs : rm.slots = ms) : gMw (S := va_W × Int32) l yL_plotsIfFlooded wsL_plotsIfFlooded { frames := rm.frames + 1, cells := mc, slots := ms, locals := 8 + (2 + 11) + rm.locals } G [.ref lq, .int a1, .ref ol] (wv ++ [outc G ol f]) (fun (r : Int32) (u : va_W × Int32) => r = nI 0 ∧ post u.2 u.1) (fun (u : va_W × Int32) => u.1 ++ [outc G ol (vp_updL f 0 u.2.toInt64)]) mc ms := by
  refine gMw_mk (cc := cL_plotsIfFlooded) (nL := 4) (ret := some .int) (hh := [(0, 9, 12, 15)]) (Qc := fun A => va_Qi (S := va_W × Int32) (fun (r : Int32) (u : va_W × Int32) => r = nI 0 ∧ post u.2 u.1) (gB G A (fun (u : va_W × Int32) => u.1 ++ [outc G ol (vp_updL f 0 u.2.toInt64)])) A) (by decide) rfl (Nat.le_of_ble_eq_true rfl) ?_
  intro p e s m args below meth c A F htb hZ ls hl hP hD hS
  have hx := F.1
  have hb := F.2.1
  have hKK := F.2.2.2.2.2.2.2.2.1
  have hl : lv_has ls 4 [(0, .ref lq), (1, .int a1), (2, .ref ol)] := hl
  obtain ⟨fs, h0⟩ := h0
  generalize hH : s.heap = H at hP ⊢
  have hS : va_S A s.heap H [] := by rw [← hH]; exact va_S.rf
  generalize hLo : ([] : List Loc) = locs at hS ⊢
  refine lv_aload_n hx hb dL_plotsIfFlooded_0 rfl (lv_at hl 2 rfl) ?_
  refine lv_iconst (v := nI 0) hx hb dL_plotsIfFlooded_1 (by decide) ?_
  refine lv_aload_n hx hb dL_plotsIfFlooded_2 rfl (lv_at hl 0 rfl) ?_
  refine lv_iload_n hx hb dL_plotsIfFlooded_3 rfl (lv_at hl 1 rfl) ?_
  refine gCi F (gRunV (own := RL) (C := RX3) (ci := 3) (bytes := cX3_plotsIfFlooded) (n := 1) (As := [.int a1]) (rest := [.int (nI 0), .ref ol]) F (hM H.size) gL_plotsIfFlooded_X3_plotsIfFlooded rfl rfl hrc hrs (by decide +kernel) rfl ⟨Nat.le_refl _, Nat.le_refl _⟩ hP hD (lit := wv) (wt := [outc G ol f]) (wc := wv) (isC := List.range wv.length) (gRange wv) (gRange_nd _) rfl h0 rfl hl.1 (Nat.le_of_ble_eq_true rfl) dL_plotsIfFlooded_4 ⟨by show 0 + mc ≤ mc; omega, by show 0 + ms ≤ ms; omega⟩) hP hD hS (lit := wv) (wt := [outc G ol f]) (wc := wv) (wr := []) (isC := List.range wv.length) (isR := []) (gRange wv) rfl rfl (fun _ h_ => by cases h_) (fun r5 u H locs hp hP hD hS => ?_)
  have hP : va_P G.1 vwCl (u ++ [outc G ol f]) H := hP
  have hD : va_D A (u ++ [outc G ol f]) := hD
  refine lv_i2l (v := r5.toInt64) hx hb dL_plotsIfFlooded_7 rfl ?_
  refine gLast hx hb hKK.1 hP hD hS dL_plotsIfFlooded_8 (fun H locs hP hD hS => ?_)
  refine lv_goto (tgt := 15) hx hb dL_plotsIfFlooded_9 (by decide) ?_
  refine lv_iconst (v := nI 0) hx hb dL_plotsIfFlooded_15 (by decide) ?_
  exact gRi F dL_plotsIfFlooded_16 rfl (u, r5) ⟨rfl, hp⟩ hP hD hS (by omega) (by omega)

set_option maxHeartbeats 4000000 in
set_option maxRecDepth 100000 in
theorem wa_lossesIfTaxed (l : Launch) (G : gG) (lq ol : Nat) {wv : va_W} {f : Nat → Int64} {rm : Room} {mc ms : Nat} {post : Int32 → va_W → Prop} (a1 : Int32) (h0 : ∃ fs, wv[0]? = some (lq, .inr (3, fs))) (hM : gMi (S := va_W) l yX3_lossesIfTaxed wsX3_lossesIfTaxed rm G [.ref lq, .int a1] wv post (fun u => u) mc ms) (hrc : rm.cells = mc) (hrs : rm.slots = ms) : gMw (S := va_W × Int32) l yL_lossesIfTaxed wsL_lossesIfTaxed { frames := rm.frames + 1, cells := mc, slots := ms, locals := 8 + (2 + 11) + rm.locals } G [.ref lq, .int a1, .ref ol] (wv ++ [outc G ol f]) (fun (r : Int32) (u : va_W × Int32) => r = nI 0 ∧ post u.2 u.1) (fun (u : va_W × Int32) => u.1 ++ [outc G ol (vp_updL f 0 u.2.toInt64)]) mc ms := by
  refine gMw_mk (cc := cL_lossesIfTaxed) (nL := 4) (ret := some .int) (hh := [(0, 9, 12, 13)]) (Qc := fun A => va_Qi (S := va_W × Int32) (fun (r : Int32) (u : va_W × Int32) => r = nI 0 ∧ post u.2 u.1) (gB G A (fun (u : va_W × Int32) => u.1 ++ [outc G ol (vp_updL f 0 u.2.toInt64)])) A) (by decide) rfl (Nat.le_of_ble_eq_true rfl) ?_
  intro p e s m args below meth c A F htb hZ ls hl hP hD hS
  have hx := F.1
  have hb := F.2.1
  have hKK := F.2.2.2.2.2.2.2.2.1
  have hl : lv_has ls 4 [(0, .ref lq), (1, .int a1), (2, .ref ol)] := hl
  obtain ⟨fs, h0⟩ := h0
  generalize hH : s.heap = H at hP ⊢
  have hS : va_S A s.heap H [] := by rw [← hH]; exact va_S.rf
  generalize hLo : ([] : List Loc) = locs at hS ⊢
  refine lv_aload_n hx hb dL_lossesIfTaxed_0 rfl (lv_at hl 2 rfl) ?_
  refine lv_iconst (v := nI 0) hx hb dL_lossesIfTaxed_1 (by decide) ?_
  refine lv_aload_n hx hb dL_lossesIfTaxed_2 rfl (lv_at hl 0 rfl) ?_
  refine lv_iload_n hx hb dL_lossesIfTaxed_3 rfl (lv_at hl 1 rfl) ?_
  refine gCi F (gRunV (own := RL) (C := RX3) (ci := 3) (bytes := cX3_lossesIfTaxed) (n := 1) (As := [.int a1]) (rest := [.int (nI 0), .ref ol]) F (hM H.size) gL_lossesIfTaxed_X3_lossesIfTaxed rfl rfl hrc hrs (by decide +kernel) rfl ⟨Nat.le_refl _, Nat.le_refl _⟩ hP hD (lit := wv) (wt := [outc G ol f]) (wc := wv) (isC := List.range wv.length) (gRange wv) (gRange_nd _) rfl h0 rfl hl.1 (Nat.le_of_ble_eq_true rfl) dL_lossesIfTaxed_4 ⟨by show 0 + mc ≤ mc; omega, by show 0 + ms ≤ ms; omega⟩) hP hD hS (lit := wv) (wt := [outc G ol f]) (wc := wv) (wr := []) (isC := List.range wv.length) (isR := []) (gRange wv) rfl rfl (fun _ h_ => by cases h_) (fun r5 u H locs hp hP hD hS => ?_)
  have hP : va_P G.1 vwCl (u ++ [outc G ol f]) H := hP
  have hD : va_D A (u ++ [outc G ol f]) := hD
  refine lv_i2l (v := r5.toInt64) hx hb dL_lossesIfTaxed_7 rfl ?_
  refine gLast hx hb hKK.1 hP hD hS dL_lossesIfTaxed_8 (fun H locs hP hD hS => ?_)
  refine lv_goto (tgt := 15) hx hb dL_lossesIfTaxed_9 (by decide) ?_
  refine lv_iconst (v := nI 0) hx hb dL_lossesIfTaxed_15 (by decide) ?_
  exact gRi F dL_lossesIfTaxed_16 rfl (u, r5) ⟨rfl, hp⟩ hP hD hS (by omega) (by omega)

set_option maxHeartbeats 4000000 in
set_option maxRecDepth 100000 in
theorem wa_nearestNeighbour (l : Launch) (G : gG) (lq ol : Nat) {wv : va_W} {f : Nat → Int64} {rm : Room} {mc ms : Nat} {post : Int32 → va_W → Prop} (a1 : Int32) (h0 : ∃ fs, wv[0]? = some (lq, .inr (3, fs))) (hM : gMi (S := va_W) l yX3_nearestNeighbour wsX3_nearestNeighbour rm G [.ref lq, .int a1] wv post (fun u => u) mc ms) (hrc : rm.cells = mc) (hrs : rm.slots = ms) : gMw (S := va_W × Int32) l yL_nearestNeighbour wsL_nearestNeighbour { frames := rm.frames + 1, cells := mc, slots := ms, locals := 8 + (6 + 11) + rm.locals } G [.ref lq, .int a1, .ref ol] (wv ++ [outc G ol f]) (fun (r : Int32) (u : va_W × Int32) => r = nI 0 ∧ post u.2 u.1) (fun (u : va_W × Int32) => u.1 ++ [outc G ol (vp_updL f 0 u.2.toInt64)]) mc ms := by
  refine gMw_mk (cc := cL_nearestNeighbour) (nL := 4) (ret := some .int) (hh := [(0, 9, 12, 13)]) (Qc := fun A => va_Qi (S := va_W × Int32) (fun (r : Int32) (u : va_W × Int32) => r = nI 0 ∧ post u.2 u.1) (gB G A (fun (u : va_W × Int32) => u.1 ++ [outc G ol (vp_updL f 0 u.2.toInt64)])) A) (by decide) rfl (Nat.le_of_ble_eq_true rfl) ?_
  intro p e s m args below meth c A F htb hZ ls hl hP hD hS
  have hx := F.1
  have hb := F.2.1
  have hKK := F.2.2.2.2.2.2.2.2.1
  have hl : lv_has ls 4 [(0, .ref lq), (1, .int a1), (2, .ref ol)] := hl
  obtain ⟨fs, h0⟩ := h0
  generalize hH : s.heap = H at hP ⊢
  have hS : va_S A s.heap H [] := by rw [← hH]; exact va_S.rf
  generalize hLo : ([] : List Loc) = locs at hS ⊢
  refine lv_aload_n hx hb dL_nearestNeighbour_0 rfl (lv_at hl 2 rfl) ?_
  refine lv_iconst (v := nI 0) hx hb dL_nearestNeighbour_1 (by decide) ?_
  refine lv_aload_n hx hb dL_nearestNeighbour_2 rfl (lv_at hl 0 rfl) ?_
  refine lv_iload_n hx hb dL_nearestNeighbour_3 rfl (lv_at hl 1 rfl) ?_
  refine gCi F (gRunV (own := RL) (C := RX3) (ci := 3) (bytes := cX3_nearestNeighbour) (n := 1) (As := [.int a1]) (rest := [.int (nI 0), .ref ol]) F (hM H.size) gL_nearestNeighbour_X3_nearestNeighbour rfl rfl hrc hrs (by decide +kernel) rfl ⟨Nat.le_refl _, Nat.le_refl _⟩ hP hD (lit := wv) (wt := [outc G ol f]) (wc := wv) (isC := List.range wv.length) (gRange wv) (gRange_nd _) rfl h0 rfl hl.1 (Nat.le_of_ble_eq_true rfl) dL_nearestNeighbour_4 ⟨by show 0 + mc ≤ mc; omega, by show 0 + ms ≤ ms; omega⟩) hP hD hS (lit := wv) (wt := [outc G ol f]) (wc := wv) (wr := []) (isC := List.range wv.length) (isR := []) (gRange wv) rfl rfl (fun _ h_ => by cases h_) (fun r5 u H locs hp hP hD hS => ?_)
  have hP : va_P G.1 vwCl (u ++ [outc G ol f]) H := hP
  have hD : va_D A (u ++ [outc G ol f]) := hD
  refine lv_i2l (v := r5.toInt64) hx hb dL_nearestNeighbour_7 rfl ?_
  refine gLast hx hb hKK.1 hP hD hS dL_nearestNeighbour_8 (fun H locs hP hD hS => ?_)
  refine lv_goto (tgt := 15) hx hb dL_nearestNeighbour_9 (by decide) ?_
  refine lv_iconst (v := nI 0) hx hb dL_nearestNeighbour_15 (by decide) ?_
  exact gRi F dL_nearestNeighbour_16 rfl (u, r5) ⟨rfl, hp⟩ hP hD hS (by omega) (by omega)
