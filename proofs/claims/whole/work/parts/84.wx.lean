set_option maxHeartbeats 4000000 in
set_option maxRecDepth 100000 in
theorem wx1_grant (l : Launch) (G : gG) (lq ol : Nat) {wv : va_W} {f : Nat → Int64} {rm : Room} {mc ms : Nat} {post : va_W → Prop} (a1 a2 a3 a4 : Int32) (h0 : ∃ fs, wv[0]? = some (lq, .inr (3, fs))) (hM : gMx (S := va_W) l yX3_grant wsX3_grant rm G [.ref lq, .int a1, .int a2, .int a3, .int a4] wv gIO post (fun u => u) mc ms) (hrc : rm.cells = mc) (hrs : rm.slots = ms) : gMw (S := va_W) l yL_grant wsL_grant { frames := rm.frames + 1, cells := mc, slots := ms, locals := 8 + (6 + 11) + rm.locals } G [.ref lq, .int a1, .int a2, .int a3, .int a4, .ref ol] (wv ++ [outc G ol f]) (fun (r : Int32) (u : va_W) => r = nI 1 ∧ post u) (fun (u : va_W) => u ++ [outc G ol f]) mc ms := by
  refine gMw_mk (cc := cL_grant) (nL := 7) (ret := some .int) (hh := [(0, 14, 17, 13), (0, 14, 21, 15)]) (Qc := fun A => va_Qi (S := va_W) (fun (r : Int32) (u : va_W) => r = nI 1 ∧ post u) (gB G A (fun (u : va_W) => u ++ [outc G ol f])) A) (by decide) rfl (Nat.le_of_ble_eq_true rfl) ?_
  intro p e s m args below meth c A F htb hZ ls hl hP hD hS
  have hx := F.1
  have hb := F.2.1
  have hKK := F.2.2.2.2.2.2.2.2.1
  have hl : lv_has ls 7 [(0, .ref lq), (1, .int a1), (2, .int a2), (3, .int a3), (4, .int a4), (5, .ref ol)] := hl
  obtain ⟨fs, h0⟩ := h0
  generalize hH : s.heap = H at hP ⊢
  have hS : va_S A s.heap H [] := by rw [← hH]; exact va_S.rf
  generalize hLo : ([] : List Loc) = locs at hS ⊢
  refine lv_aload hx hb dL_grant_0 (lv_at hl 5 rfl) ?_
  refine lv_iconst (v := nI 0) hx hb dL_grant_2 (by decide) ?_
  refine lv_aload_n hx hb dL_grant_3 rfl (lv_at hl 0 rfl) ?_
  refine lv_iload_n hx hb dL_grant_4 rfl (lv_at hl 1 rfl) ?_
  refine lv_iload_n hx hb dL_grant_5 rfl (lv_at hl 2 rfl) ?_
  refine lv_iload_n hx hb dL_grant_6 rfl (lv_at hl 3 rfl) ?_
  refine lv_iload hx hb dL_grant_7 (lv_at hl 4 rfl) ?_
  refine gXrun F (gRunVx (own := RL) (C := RX3) (ci := 3) (bytes := cX3_grant) (n := 4) (As := [.int a1, .int a2, .int a3, .int a4]) (rest := [.int (nI 0), .ref ol]) F hZ hS (hM H.size) gL_grant_X3_grant rfl rfl hrc hrs (by decide +kernel) rfl ⟨Nat.le_refl _, Nat.le_refl _⟩ hP hD (lit := wv) (wt := [outc G ol f]) (wc := wv) (isC := List.range wv.length) (gRange wv) (gRange_nd _) rfl h0 rfl hl.1 (Nat.le_of_ble_eq_true rfl) dL_grant_9 ⟨by show 0 + mc ≤ mc; omega, by show 0 + ms ≤ ms; omega⟩) hP hD hS (lit := wv) (wt := [outc G ol f]) (wc := wv) (wr := []) (isC := List.range wv.length) (isR := []) (gRange wv) rfl rfl (fun _ h_ => by cases h_) (fun ce q9 u H locs hp hP hD hS hce hcv hcl => ?_)
  have hP : va_P G.1 vwCl (u ++ [outc G ol f]) H := hP
  have hD : va_D A (u ++ [outc G ol f]) := hD
  refine vx_catch (own := RL) (name := gIO) (E := gIO) F.2.2.2.2.2.1 [] ⟨0, 14, 17, 13⟩ [⟨0, 14, 21, 15⟩] (by rw [htb]; rfl) (fun _ h_ => by cases h_) rfl (by decide) (F.2.2.2.2.2.2.1 (.classLink RL 13 gIO) (by decide +kernel)) (va_Nw.use rfl (hKK.2.2.2.2.2.1 (gIO, gIO) (by decide +kernel))) hce hcv hcl ?_
  refine lv_astore (lv' := [(6, .ref q9), (0, .ref lq), (1, .int a1), (2, .int a2), (3, .int a3), (4, .int a4), (5, .ref ol)]) hx hb dL_grant_17 hl (by decide) rfl (fun ls hl => ?_)
  refine lv_iconst (v := nI 1) hx hb dL_grant_19 (by decide) ?_
  exact gRi F dL_grant_20 rfl u ⟨rfl, hp⟩ hP hD hS (by omega) (by omega)

set_option maxHeartbeats 4000000 in
set_option maxRecDepth 100000 in
theorem wx2_grant (l : Launch) (G : gG) (lq ol : Nat) {wv : va_W} {f : Nat → Int64} {rm : Room} {mc ms : Nat} {post : va_W → Prop} (a1 a2 a3 a4 : Int32) (h0 : ∃ fs, wv[0]? = some (lq, .inr (3, fs))) (hM : gMx (S := va_W) l yX3_grant wsX3_grant rm G [.ref lq, .int a1, .int a2, .int a3, .int a4] wv gIA post (fun u => u) mc ms) (hrc : rm.cells = mc) (hrs : rm.slots = ms) : gMw (S := va_W) l yL_grant wsL_grant { frames := rm.frames + 1, cells := mc, slots := ms, locals := 8 + (6 + 11) + rm.locals } G [.ref lq, .int a1, .int a2, .int a3, .int a4, .ref ol] (wv ++ [outc G ol f]) (fun (r : Int32) (u : va_W) => r = nI 2 ∧ post u) (fun (u : va_W) => u ++ [outc G ol f]) mc ms := by
  refine gMw_mk (cc := cL_grant) (nL := 7) (ret := some .int) (hh := [(0, 14, 17, 13), (0, 14, 21, 15)]) (Qc := fun A => va_Qi (S := va_W) (fun (r : Int32) (u : va_W) => r = nI 2 ∧ post u) (gB G A (fun (u : va_W) => u ++ [outc G ol f])) A) (by decide) rfl (Nat.le_of_ble_eq_true rfl) ?_
  intro p e s m args below meth c A F htb hZ ls hl hP hD hS
  have hx := F.1
  have hb := F.2.1
  have hKK := F.2.2.2.2.2.2.2.2.1
  have hl : lv_has ls 7 [(0, .ref lq), (1, .int a1), (2, .int a2), (3, .int a3), (4, .int a4), (5, .ref ol)] := hl
  obtain ⟨fs, h0⟩ := h0
  generalize hH : s.heap = H at hP ⊢
  have hS : va_S A s.heap H [] := by rw [← hH]; exact va_S.rf
  generalize hLo : ([] : List Loc) = locs at hS ⊢
  refine lv_aload hx hb dL_grant_0 (lv_at hl 5 rfl) ?_
  refine lv_iconst (v := nI 0) hx hb dL_grant_2 (by decide) ?_
  refine lv_aload_n hx hb dL_grant_3 rfl (lv_at hl 0 rfl) ?_
  refine lv_iload_n hx hb dL_grant_4 rfl (lv_at hl 1 rfl) ?_
  refine lv_iload_n hx hb dL_grant_5 rfl (lv_at hl 2 rfl) ?_
  refine lv_iload_n hx hb dL_grant_6 rfl (lv_at hl 3 rfl) ?_
  refine lv_iload hx hb dL_grant_7 (lv_at hl 4 rfl) ?_
  refine gXrun F (gRunVx (own := RL) (C := RX3) (ci := 3) (bytes := cX3_grant) (n := 4) (As := [.int a1, .int a2, .int a3, .int a4]) (rest := [.int (nI 0), .ref ol]) F hZ hS (hM H.size) gL_grant_X3_grant rfl rfl hrc hrs (by decide +kernel) rfl ⟨Nat.le_refl _, Nat.le_refl _⟩ hP hD (lit := wv) (wt := [outc G ol f]) (wc := wv) (isC := List.range wv.length) (gRange wv) (gRange_nd _) rfl h0 rfl hl.1 (Nat.le_of_ble_eq_true rfl) dL_grant_9 ⟨by show 0 + mc ≤ mc; omega, by show 0 + ms ≤ ms; omega⟩) hP hD hS (lit := wv) (wt := [outc G ol f]) (wc := wv) (wr := []) (isC := List.range wv.length) (isR := []) (gRange wv) rfl rfl (fun _ h_ => by cases h_) (fun ce q9 u H locs hp hP hD hS hce hcv hcl => ?_)
  have hP : va_P G.1 vwCl (u ++ [outc G ol f]) H := hP
  have hD : va_D A (u ++ [outc G ol f]) := hD
  refine vx_catch (own := RL) (name := gIA) (E := gIA) F.2.2.2.2.2.1 [⟨0, 14, 17, 13⟩] ⟨0, 14, 21, 15⟩ [] (by rw [htb]; rfl) (List.forall_mem_cons.mpr ⟨Or.inr ⟨by decide, gIO, F.2.2.2.2.2.2.1 (.classLink RL 13 gIO) (by decide +kernel), hKK.2.2.2.2.2.2.1 (gIA, gIO) (by decide +kernel)⟩, fun _ h_ => by cases h_⟩) rfl (by decide) (F.2.2.2.2.2.2.1 (.classLink RL 15 gIA) (by decide +kernel)) (va_Nw.use rfl (hKK.2.2.2.2.2.1 (gIA, gIA) (by decide +kernel))) hce hcv hcl ?_
  refine lv_astore (lv' := [(6, .ref q9), (0, .ref lq), (1, .int a1), (2, .int a2), (3, .int a3), (4, .int a4), (5, .ref ol)]) hx hb dL_grant_21 hl (by decide) rfl (fun ls hl => ?_)
  refine lv_iconst (v := nI 2) hx hb dL_grant_23 (by decide) ?_
  exact gRi F dL_grant_24 rfl u ⟨rfl, hp⟩ hP hD hS (by omega) (by omega)

set_option maxHeartbeats 4000000 in
set_option maxRecDepth 100000 in
theorem wx1_raise (l : Launch) (G : gG) (lq ol : Nat) {wv : va_W} {f : Nat → Int64} {rm : Room} {mc ms : Nat} {post : va_W → Prop} (a1 a2 a3 a4 : Int32) (h0 : ∃ fs, wv[0]? = some (lq, .inr (3, fs))) (hM : gMx (S := va_W) l yX3_raise wsX3_raise rm G [.ref lq, .int a1, .int a2, .int a3, .int a4] wv gIO post (fun u => u) mc ms) (hrc : rm.cells = mc) (hrs : rm.slots = ms) : gMw (S := va_W) l yL_raise wsL_raise { frames := rm.frames + 1, cells := mc, slots := ms, locals := 8 + (5 + 11) + rm.locals } G [.ref lq, .int a1, .int a2, .int a3, .int a4, .ref ol] (wv ++ [outc G ol f]) (fun (r : Int32) (u : va_W) => r = nI 1 ∧ post u) (fun (u : va_W) => u ++ [outc G ol f]) mc ms := by
  refine gMw_mk (cc := cL_raise) (nL := 7) (ret := some .int) (hh := [(0, 14, 17, 13), (0, 14, 21, 15)]) (Qc := fun A => va_Qi (S := va_W) (fun (r : Int32) (u : va_W) => r = nI 1 ∧ post u) (gB G A (fun (u : va_W) => u ++ [outc G ol f])) A) (by decide) rfl (Nat.le_of_ble_eq_true rfl) ?_
  intro p e s m args below meth c A F htb hZ ls hl hP hD hS
  have hx := F.1
  have hb := F.2.1
  have hKK := F.2.2.2.2.2.2.2.2.1
  have hl : lv_has ls 7 [(0, .ref lq), (1, .int a1), (2, .int a2), (3, .int a3), (4, .int a4), (5, .ref ol)] := hl
  obtain ⟨fs, h0⟩ := h0
  generalize hH : s.heap = H at hP ⊢
  have hS : va_S A s.heap H [] := by rw [← hH]; exact va_S.rf
  generalize hLo : ([] : List Loc) = locs at hS ⊢
  refine lv_aload hx hb dL_raise_0 (lv_at hl 5 rfl) ?_
  refine lv_iconst (v := nI 0) hx hb dL_raise_2 (by decide) ?_
  refine lv_aload_n hx hb dL_raise_3 rfl (lv_at hl 0 rfl) ?_
  refine lv_iload_n hx hb dL_raise_4 rfl (lv_at hl 1 rfl) ?_
  refine lv_iload_n hx hb dL_raise_5 rfl (lv_at hl 2 rfl) ?_
  refine lv_iload_n hx hb dL_raise_6 rfl (lv_at hl 3 rfl) ?_
  refine lv_iload hx hb dL_raise_7 (lv_at hl 4 rfl) ?_
  refine gXrun F (gRunVx (own := RL) (C := RX3) (ci := 3) (bytes := cX3_raise) (n := 4) (As := [.int a1, .int a2, .int a3, .int a4]) (rest := [.int (nI 0), .ref ol]) F hZ hS (hM H.size) gL_raise_X3_raise rfl rfl hrc hrs (by decide +kernel) rfl ⟨Nat.le_refl _, Nat.le_refl _⟩ hP hD (lit := wv) (wt := [outc G ol f]) (wc := wv) (isC := List.range wv.length) (gRange wv) (gRange_nd _) rfl h0 rfl hl.1 (Nat.le_of_ble_eq_true rfl) dL_raise_9 ⟨by show 0 + mc ≤ mc; omega, by show 0 + ms ≤ ms; omega⟩) hP hD hS (lit := wv) (wt := [outc G ol f]) (wc := wv) (wr := []) (isC := List.range wv.length) (isR := []) (gRange wv) rfl rfl (fun _ h_ => by cases h_) (fun ce q9 u H locs hp hP hD hS hce hcv hcl => ?_)
  have hP : va_P G.1 vwCl (u ++ [outc G ol f]) H := hP
  have hD : va_D A (u ++ [outc G ol f]) := hD
  refine vx_catch (own := RL) (name := gIO) (E := gIO) F.2.2.2.2.2.1 [] ⟨0, 14, 17, 13⟩ [⟨0, 14, 21, 15⟩] (by rw [htb]; rfl) (fun _ h_ => by cases h_) rfl (by decide) (F.2.2.2.2.2.2.1 (.classLink RL 13 gIO) (by decide +kernel)) (va_Nw.use rfl (hKK.2.2.2.2.2.1 (gIO, gIO) (by decide +kernel))) hce hcv hcl ?_
  refine lv_astore (lv' := [(6, .ref q9), (0, .ref lq), (1, .int a1), (2, .int a2), (3, .int a3), (4, .int a4), (5, .ref ol)]) hx hb dL_raise_17 hl (by decide) rfl (fun ls hl => ?_)
  refine lv_iconst (v := nI 1) hx hb dL_raise_19 (by decide) ?_
  exact gRi F dL_raise_20 rfl u ⟨rfl, hp⟩ hP hD hS (by omega) (by omega)

set_option maxHeartbeats 4000000 in
set_option maxRecDepth 100000 in
theorem wx2_raise (l : Launch) (G : gG) (lq ol : Nat) {wv : va_W} {f : Nat → Int64} {rm : Room} {mc ms : Nat} {post : va_W → Prop} (a1 a2 a3 a4 : Int32) (h0 : ∃ fs, wv[0]? = some (lq, .inr (3, fs))) (hM : gMx (S := va_W) l yX3_raise wsX3_raise rm G [.ref lq, .int a1, .int a2, .int a3, .int a4] wv gIA post (fun u => u) mc ms) (hrc : rm.cells = mc) (hrs : rm.slots = ms) : gMw (S := va_W) l yL_raise wsL_raise { frames := rm.frames + 1, cells := mc, slots := ms, locals := 8 + (5 + 11) + rm.locals } G [.ref lq, .int a1, .int a2, .int a3, .int a4, .ref ol] (wv ++ [outc G ol f]) (fun (r : Int32) (u : va_W) => r = nI 2 ∧ post u) (fun (u : va_W) => u ++ [outc G ol f]) mc ms := by
  refine gMw_mk (cc := cL_raise) (nL := 7) (ret := some .int) (hh := [(0, 14, 17, 13), (0, 14, 21, 15)]) (Qc := fun A => va_Qi (S := va_W) (fun (r : Int32) (u : va_W) => r = nI 2 ∧ post u) (gB G A (fun (u : va_W) => u ++ [outc G ol f])) A) (by decide) rfl (Nat.le_of_ble_eq_true rfl) ?_
  intro p e s m args below meth c A F htb hZ ls hl hP hD hS
  have hx := F.1
  have hb := F.2.1
  have hKK := F.2.2.2.2.2.2.2.2.1
  have hl : lv_has ls 7 [(0, .ref lq), (1, .int a1), (2, .int a2), (3, .int a3), (4, .int a4), (5, .ref ol)] := hl
  obtain ⟨fs, h0⟩ := h0
  generalize hH : s.heap = H at hP ⊢
  have hS : va_S A s.heap H [] := by rw [← hH]; exact va_S.rf
  generalize hLo : ([] : List Loc) = locs at hS ⊢
  refine lv_aload hx hb dL_raise_0 (lv_at hl 5 rfl) ?_
  refine lv_iconst (v := nI 0) hx hb dL_raise_2 (by decide) ?_
  refine lv_aload_n hx hb dL_raise_3 rfl (lv_at hl 0 rfl) ?_
  refine lv_iload_n hx hb dL_raise_4 rfl (lv_at hl 1 rfl) ?_
  refine lv_iload_n hx hb dL_raise_5 rfl (lv_at hl 2 rfl) ?_
  refine lv_iload_n hx hb dL_raise_6 rfl (lv_at hl 3 rfl) ?_
  refine lv_iload hx hb dL_raise_7 (lv_at hl 4 rfl) ?_
  refine gXrun F (gRunVx (own := RL) (C := RX3) (ci := 3) (bytes := cX3_raise) (n := 4) (As := [.int a1, .int a2, .int a3, .int a4]) (rest := [.int (nI 0), .ref ol]) F hZ hS (hM H.size) gL_raise_X3_raise rfl rfl hrc hrs (by decide +kernel) rfl ⟨Nat.le_refl _, Nat.le_refl _⟩ hP hD (lit := wv) (wt := [outc G ol f]) (wc := wv) (isC := List.range wv.length) (gRange wv) (gRange_nd _) rfl h0 rfl hl.1 (Nat.le_of_ble_eq_true rfl) dL_raise_9 ⟨by show 0 + mc ≤ mc; omega, by show 0 + ms ≤ ms; omega⟩) hP hD hS (lit := wv) (wt := [outc G ol f]) (wc := wv) (wr := []) (isC := List.range wv.length) (isR := []) (gRange wv) rfl rfl (fun _ h_ => by cases h_) (fun ce q9 u H locs hp hP hD hS hce hcv hcl => ?_)
  have hP : va_P G.1 vwCl (u ++ [outc G ol f]) H := hP
  have hD : va_D A (u ++ [outc G ol f]) := hD
  refine vx_catch (own := RL) (name := gIA) (E := gIA) F.2.2.2.2.2.1 [⟨0, 14, 17, 13⟩] ⟨0, 14, 21, 15⟩ [] (by rw [htb]; rfl) (List.forall_mem_cons.mpr ⟨Or.inr ⟨by decide, gIO, F.2.2.2.2.2.2.1 (.classLink RL 13 gIO) (by decide +kernel), hKK.2.2.2.2.2.2.1 (gIA, gIO) (by decide +kernel)⟩, fun _ h_ => by cases h_⟩) rfl (by decide) (F.2.2.2.2.2.2.1 (.classLink RL 15 gIA) (by decide +kernel)) (va_Nw.use rfl (hKK.2.2.2.2.2.1 (gIA, gIA) (by decide +kernel))) hce hcv hcl ?_
  refine lv_astore (lv' := [(6, .ref q9), (0, .ref lq), (1, .int a1), (2, .int a2), (3, .int a3), (4, .int a4), (5, .ref ol)]) hx hb dL_raise_21 hl (by decide) rfl (fun ls hl => ?_)
  refine lv_iconst (v := nI 2) hx hb dL_raise_23 (by decide) ?_
  exact gRi F dL_raise_24 rfl u ⟨rfl, hp⟩ hP hD hS (by omega) (by omega)

set_option maxHeartbeats 4000000 in
set_option maxRecDepth 100000 in
theorem wx1_flood (l : Launch) (G : gG) (lq ol : Nat) {wv : va_W} {f : Nat → Int64} {rm : Room} {mc ms : Nat} {post : va_W → Prop} (a1 : Int32) (h0 : ∃ fs, wv[0]? = some (lq, .inr (3, fs))) (hM : gMx (S := va_W) l yX3_flood wsX3_flood rm G [.ref lq, .int a1] wv gIA post (fun u => u) mc ms) (hrc : rm.cells = mc) (hrs : rm.slots = ms) : gMw (S := va_W) l yL_flood wsL_flood { frames := rm.frames + 1, cells := mc, slots := ms, locals := 8 + (3 + 11) + rm.locals } G [.ref lq, .int a1, .ref ol] (wv ++ [outc G ol f]) (fun (r : Int32) (u : va_W) => r = nI 1 ∧ post u) (fun (u : va_W) => u ++ [outc G ol f]) mc ms := by
  refine gMw_mk (cc := cL_flood) (nL := 4) (ret := some .int) (hh := [(0, 9, 12, 15)]) (Qc := fun A => va_Qi (S := va_W) (fun (r : Int32) (u : va_W) => r = nI 1 ∧ post u) (gB G A (fun (u : va_W) => u ++ [outc G ol f])) A) (by decide) rfl (Nat.le_of_ble_eq_true rfl) ?_
  intro p e s m args below meth c A F htb hZ ls hl hP hD hS
  have hx := F.1
  have hb := F.2.1
  have hKK := F.2.2.2.2.2.2.2.2.1
  have hl : lv_has ls 4 [(0, .ref lq), (1, .int a1), (2, .ref ol)] := hl
  obtain ⟨fs, h0⟩ := h0
  generalize hH : s.heap = H at hP ⊢
  have hS : va_S A s.heap H [] := by rw [← hH]; exact va_S.rf
  generalize hLo : ([] : List Loc) = locs at hS ⊢
  refine lv_aload_n hx hb dL_flood_0 rfl (lv_at hl 2 rfl) ?_
  refine lv_iconst (v := nI 0) hx hb dL_flood_1 (by decide) ?_
  refine lv_aload_n hx hb dL_flood_2 rfl (lv_at hl 0 rfl) ?_
  refine lv_iload_n hx hb dL_flood_3 rfl (lv_at hl 1 rfl) ?_
  refine gXrun F (gRunVx (own := RL) (C := RX3) (ci := 3) (bytes := cX3_flood) (n := 1) (As := [.int a1]) (rest := [.int (nI 0), .ref ol]) F hZ hS (hM H.size) gL_flood_X3_flood rfl rfl hrc hrs (by decide +kernel) rfl ⟨Nat.le_refl _, Nat.le_refl _⟩ hP hD (lit := wv) (wt := [outc G ol f]) (wc := wv) (isC := List.range wv.length) (gRange wv) (gRange_nd _) rfl h0 rfl hl.1 (Nat.le_of_ble_eq_true rfl) dL_flood_4 ⟨by show 0 + mc ≤ mc; omega, by show 0 + ms ≤ ms; omega⟩) hP hD hS (lit := wv) (wt := [outc G ol f]) (wc := wv) (wr := []) (isC := List.range wv.length) (isR := []) (gRange wv) rfl rfl (fun _ h_ => by cases h_) (fun ce q9 u H locs hp hP hD hS hce hcv hcl => ?_)
  have hP : va_P G.1 vwCl (u ++ [outc G ol f]) H := hP
  have hD : va_D A (u ++ [outc G ol f]) := hD
  refine vx_catch (own := RL) (name := gIA) (E := gIA) F.2.2.2.2.2.1 [] ⟨0, 9, 12, 15⟩ [] (by rw [htb]; rfl) (fun _ h_ => by cases h_) rfl (by decide) (F.2.2.2.2.2.2.1 (.classLink RL 15 gIA) (by decide +kernel)) (va_Nw.use rfl (hKK.2.2.2.2.2.1 (gIA, gIA) (by decide +kernel))) hce hcv hcl ?_
  refine lv_astore_n (lv' := [(3, .ref q9), (0, .ref lq), (1, .int a1), (2, .ref ol)]) hx hb dL_flood_12 rfl hl (by decide) rfl (fun ls hl => ?_)
  refine lv_iconst (v := nI 1) hx hb dL_flood_13 (by decide) ?_
  exact gRi F dL_flood_14 rfl u ⟨rfl, hp⟩ hP hD hS (by omega) (by omega)

set_option maxHeartbeats 4000000 in
set_option maxRecDepth 100000 in
theorem wx1_buyPlot (l : Launch) (G : gG) (lq ol : Nat) {wv : va_W} {f : Nat → Int64} {rm : Room} {mc ms : Nat} {post : va_W → Prop} (a1 a2 a3 : Int32) (h0 : ∃ fs, wv[0]? = some (lq, .inr (3, fs))) (hM : gMx (S := va_W) l yX3_buyPlot wsX3_buyPlot rm G [.ref lq, .int a1, .int a2, .int a3] wv gIO post (fun u => u) mc ms) (hrc : rm.cells = mc) (hrs : rm.slots = ms) : gMw (S := va_W) l yL_buyPlot wsL_buyPlot { frames := rm.frames + 1, cells := mc, slots := ms, locals := 8 + (9 + 11) + rm.locals } G [.ref lq, .int a1, .int a2, .int a3, .ref ol] (wv ++ [outc G ol f]) (fun (r : Int32) (u : va_W) => r = nI 1 ∧ post u) (fun (u : va_W) => u ++ [outc G ol f]) mc ms := by
  refine gMw_mk (cc := cL_buyPlot) (nL := 6) (ret := some .int) (hh := [(0, 12, 15, 13), (0, 12, 19, 28)]) (Qc := fun A => va_Qi (S := va_W) (fun (r : Int32) (u : va_W) => r = nI 1 ∧ post u) (gB G A (fun (u : va_W) => u ++ [outc G ol f])) A) (by decide) rfl (Nat.le_of_ble_eq_true rfl) ?_
  intro p e s m args below meth c A F htb hZ ls hl hP hD hS
  have hx := F.1
  have hb := F.2.1
  have hKK := F.2.2.2.2.2.2.2.2.1
  have hl : lv_has ls 6 [(0, .ref lq), (1, .int a1), (2, .int a2), (3, .int a3), (4, .ref ol)] := hl
  obtain ⟨fs, h0⟩ := h0
  generalize hH : s.heap = H at hP ⊢
  have hS : va_S A s.heap H [] := by rw [← hH]; exact va_S.rf
  generalize hLo : ([] : List Loc) = locs at hS ⊢
  refine lv_aload hx hb dL_buyPlot_0 (lv_at hl 4 rfl) ?_
  refine lv_iconst (v := nI 0) hx hb dL_buyPlot_2 (by decide) ?_
  refine lv_aload_n hx hb dL_buyPlot_3 rfl (lv_at hl 0 rfl) ?_
  refine lv_iload_n hx hb dL_buyPlot_4 rfl (lv_at hl 1 rfl) ?_
  refine lv_iload_n hx hb dL_buyPlot_5 rfl (lv_at hl 2 rfl) ?_
  refine lv_iload_n hx hb dL_buyPlot_6 rfl (lv_at hl 3 rfl) ?_
  refine gXrun F (gRunVx (own := RL) (C := RX3) (ci := 3) (bytes := cX3_buyPlot) (n := 3) (As := [.int a1, .int a2, .int a3]) (rest := [.int (nI 0), .ref ol]) F hZ hS (hM H.size) gL_buyPlot_X3_buyPlot rfl rfl hrc hrs (by decide +kernel) rfl ⟨Nat.le_refl _, Nat.le_refl _⟩ hP hD (lit := wv) (wt := [outc G ol f]) (wc := wv) (isC := List.range wv.length) (gRange wv) (gRange_nd _) rfl h0 rfl hl.1 (Nat.le_of_ble_eq_true rfl) dL_buyPlot_7 ⟨by show 0 + mc ≤ mc; omega, by show 0 + ms ≤ ms; omega⟩) hP hD hS (lit := wv) (wt := [outc G ol f]) (wc := wv) (wr := []) (isC := List.range wv.length) (isR := []) (gRange wv) rfl rfl (fun _ h_ => by cases h_) (fun ce q9 u H locs hp hP hD hS hce hcv hcl => ?_)
  have hP : va_P G.1 vwCl (u ++ [outc G ol f]) H := hP
  have hD : va_D A (u ++ [outc G ol f]) := hD
  refine vx_catch (own := RL) (name := gIO) (E := gIO) F.2.2.2.2.2.1 [] ⟨0, 12, 15, 13⟩ [⟨0, 12, 19, 28⟩] (by rw [htb]; rfl) (fun _ h_ => by cases h_) rfl (by decide) (F.2.2.2.2.2.2.1 (.classLink RL 13 gIO) (by decide +kernel)) (va_Nw.use rfl (hKK.2.2.2.2.2.1 (gIO, gIO) (by decide +kernel))) hce hcv hcl ?_
  refine lv_astore (lv' := [(5, .ref q9), (0, .ref lq), (1, .int a1), (2, .int a2), (3, .int a3), (4, .ref ol)]) hx hb dL_buyPlot_15 hl (by decide) rfl (fun ls hl => ?_)
  refine lv_iconst (v := nI 1) hx hb dL_buyPlot_17 (by decide) ?_
  exact gRi F dL_buyPlot_18 rfl u ⟨rfl, hp⟩ hP hD hS (by omega) (by omega)

set_option maxHeartbeats 4000000 in
set_option maxRecDepth 100000 in
theorem wx2_buyPlot (l : Launch) (G : gG) (lq ol : Nat) {wv : va_W} {f : Nat → Int64} {rm : Room} {mc ms : Nat} {post : va_W → Prop} (a1 a2 a3 : Int32) (h0 : ∃ fs, wv[0]? = some (lq, .inr (3, fs))) (hM : gMx (S := va_W) l yX3_buyPlot wsX3_buyPlot rm G [.ref lq, .int a1, .int a2, .int a3] wv gIS post (fun u => u) mc ms) (hrc : rm.cells = mc) (hrs : rm.slots = ms) : gMw (S := va_W) l yL_buyPlot wsL_buyPlot { frames := rm.frames + 1, cells := mc, slots := ms, locals := 8 + (9 + 11) + rm.locals } G [.ref lq, .int a1, .int a2, .int a3, .ref ol] (wv ++ [outc G ol f]) (fun (r : Int32) (u : va_W) => r = nI 2 ∧ post u) (fun (u : va_W) => u ++ [outc G ol f]) mc ms := by
  refine gMw_mk (cc := cL_buyPlot) (nL := 6) (ret := some .int) (hh := [(0, 12, 15, 13), (0, 12, 19, 28)]) (Qc := fun A => va_Qi (S := va_W) (fun (r : Int32) (u : va_W) => r = nI 2 ∧ post u) (gB G A (fun (u : va_W) => u ++ [outc G ol f])) A) (by decide) rfl (Nat.le_of_ble_eq_true rfl) ?_
  intro p e s m args below meth c A F htb hZ ls hl hP hD hS
  have hx := F.1
  have hb := F.2.1
  have hKK := F.2.2.2.2.2.2.2.2.1
  have hl : lv_has ls 6 [(0, .ref lq), (1, .int a1), (2, .int a2), (3, .int a3), (4, .ref ol)] := hl
  obtain ⟨fs, h0⟩ := h0
  generalize hH : s.heap = H at hP ⊢
  have hS : va_S A s.heap H [] := by rw [← hH]; exact va_S.rf
  generalize hLo : ([] : List Loc) = locs at hS ⊢
  refine lv_aload hx hb dL_buyPlot_0 (lv_at hl 4 rfl) ?_
  refine lv_iconst (v := nI 0) hx hb dL_buyPlot_2 (by decide) ?_
  refine lv_aload_n hx hb dL_buyPlot_3 rfl (lv_at hl 0 rfl) ?_
  refine lv_iload_n hx hb dL_buyPlot_4 rfl (lv_at hl 1 rfl) ?_
  refine lv_iload_n hx hb dL_buyPlot_5 rfl (lv_at hl 2 rfl) ?_
  refine lv_iload_n hx hb dL_buyPlot_6 rfl (lv_at hl 3 rfl) ?_
  refine gXrun F (gRunVx (own := RL) (C := RX3) (ci := 3) (bytes := cX3_buyPlot) (n := 3) (As := [.int a1, .int a2, .int a3]) (rest := [.int (nI 0), .ref ol]) F hZ hS (hM H.size) gL_buyPlot_X3_buyPlot rfl rfl hrc hrs (by decide +kernel) rfl ⟨Nat.le_refl _, Nat.le_refl _⟩ hP hD (lit := wv) (wt := [outc G ol f]) (wc := wv) (isC := List.range wv.length) (gRange wv) (gRange_nd _) rfl h0 rfl hl.1 (Nat.le_of_ble_eq_true rfl) dL_buyPlot_7 ⟨by show 0 + mc ≤ mc; omega, by show 0 + ms ≤ ms; omega⟩) hP hD hS (lit := wv) (wt := [outc G ol f]) (wc := wv) (wr := []) (isC := List.range wv.length) (isR := []) (gRange wv) rfl rfl (fun _ h_ => by cases h_) (fun ce q9 u H locs hp hP hD hS hce hcv hcl => ?_)
  have hP : va_P G.1 vwCl (u ++ [outc G ol f]) H := hP
  have hD : va_D A (u ++ [outc G ol f]) := hD
  refine vx_catch (own := RL) (name := gIS) (E := gIS) F.2.2.2.2.2.1 [⟨0, 12, 15, 13⟩] ⟨0, 12, 19, 28⟩ [] (by rw [htb]; rfl) (List.forall_mem_cons.mpr ⟨Or.inr ⟨by decide, gIO, F.2.2.2.2.2.2.1 (.classLink RL 13 gIO) (by decide +kernel), hKK.2.2.2.2.2.2.1 (gIS, gIO) (by decide +kernel)⟩, fun _ h_ => by cases h_⟩) rfl (by decide) (F.2.2.2.2.2.2.1 (.classLink RL 28 gIS) (by decide +kernel)) (va_Nw.use rfl (hKK.2.2.2.2.2.1 (gIS, gIS) (by decide +kernel))) hce hcv hcl ?_
  refine lv_astore (lv' := [(5, .ref q9), (0, .ref lq), (1, .int a1), (2, .int a2), (3, .int a3), (4, .ref ol)]) hx hb dL_buyPlot_19 hl (by decide) rfl (fun ls hl => ?_)
  refine lv_iconst (v := nI 2) hx hb dL_buyPlot_21 (by decide) ?_
  exact gRi F dL_buyPlot_22 rfl u ⟨rfl, hp⟩ hP hD hS (by omega) (by omega)

set_option maxHeartbeats 4000000 in
set_option maxRecDepth 100000 in
theorem wx1_buySquare (l : Launch) (G : gG) (lq ol : Nat) {wv : va_W} {f : Nat → Int64} {rm : Room} {mc ms : Nat} {post : va_W → Prop} (a1 a2 a3 a4 : Int32) (h0 : ∃ fs, wv[0]? = some (lq, .inr (3, fs))) (hM : gMx (S := va_W) l yX3_buySquare wsX3_buySquare rm G [.ref lq, .int a1, .int a2, .int a3, .int a4] wv gIO post (fun u => u) mc ms) (hrc : rm.cells = mc) (hrs : rm.slots = ms) : gMw (S := va_W) l yL_buySquare wsL_buySquare { frames := rm.frames + 1, cells := mc, slots := ms, locals := 8 + (6 + 11) + rm.locals } G [.ref lq, .int a1, .int a2, .int a3, .int a4, .ref ol] (wv ++ [outc G ol f]) (fun (r : Int32) (u : va_W) => r = nI 1 ∧ post u) (fun (u : va_W) => u ++ [outc G ol f]) mc ms := by
  refine gMw_mk (cc := cL_buySquare) (nL := 7) (ret := some .int) (hh := [(0, 14, 17, 13), (0, 14, 21, 15), (0, 14, 25, 28)]) (Qc := fun A => va_Qi (S := va_W) (fun (r : Int32) (u : va_W) => r = nI 1 ∧ post u) (gB G A (fun (u : va_W) => u ++ [outc G ol f])) A) (by decide) rfl (Nat.le_of_ble_eq_true rfl) ?_
  intro p e s m args below meth c A F htb hZ ls hl hP hD hS
  have hx := F.1
  have hb := F.2.1
  have hKK := F.2.2.2.2.2.2.2.2.1
  have hl : lv_has ls 7 [(0, .ref lq), (1, .int a1), (2, .int a2), (3, .int a3), (4, .int a4), (5, .ref ol)] := hl
  obtain ⟨fs, h0⟩ := h0
  generalize hH : s.heap = H at hP ⊢
  have hS : va_S A s.heap H [] := by rw [← hH]; exact va_S.rf
  generalize hLo : ([] : List Loc) = locs at hS ⊢
  refine lv_aload hx hb dL_buySquare_0 (lv_at hl 5 rfl) ?_
  refine lv_iconst (v := nI 0) hx hb dL_buySquare_2 (by decide) ?_
  refine lv_aload_n hx hb dL_buySquare_3 rfl (lv_at hl 0 rfl) ?_
  refine lv_iload_n hx hb dL_buySquare_4 rfl (lv_at hl 1 rfl) ?_
  refine lv_iload_n hx hb dL_buySquare_5 rfl (lv_at hl 2 rfl) ?_
  refine lv_iload_n hx hb dL_buySquare_6 rfl (lv_at hl 3 rfl) ?_
  refine lv_iload hx hb dL_buySquare_7 (lv_at hl 4 rfl) ?_
  refine gXrun F (gRunVx (own := RL) (C := RX3) (ci := 3) (bytes := cX3_buySquare) (n := 4) (As := [.int a1, .int a2, .int a3, .int a4]) (rest := [.int (nI 0), .ref ol]) F hZ hS (hM H.size) gL_buySquare_X3_buySquare rfl rfl hrc hrs (by decide +kernel) rfl ⟨Nat.le_refl _, Nat.le_refl _⟩ hP hD (lit := wv) (wt := [outc G ol f]) (wc := wv) (isC := List.range wv.length) (gRange wv) (gRange_nd _) rfl h0 rfl hl.1 (Nat.le_of_ble_eq_true rfl) dL_buySquare_9 ⟨by show 0 + mc ≤ mc; omega, by show 0 + ms ≤ ms; omega⟩) hP hD hS (lit := wv) (wt := [outc G ol f]) (wc := wv) (wr := []) (isC := List.range wv.length) (isR := []) (gRange wv) rfl rfl (fun _ h_ => by cases h_) (fun ce q9 u H locs hp hP hD hS hce hcv hcl => ?_)
  have hP : va_P G.1 vwCl (u ++ [outc G ol f]) H := hP
  have hD : va_D A (u ++ [outc G ol f]) := hD
  refine vx_catch (own := RL) (name := gIO) (E := gIO) F.2.2.2.2.2.1 [] ⟨0, 14, 17, 13⟩ [⟨0, 14, 21, 15⟩, ⟨0, 14, 25, 28⟩] (by rw [htb]; rfl) (fun _ h_ => by cases h_) rfl (by decide) (F.2.2.2.2.2.2.1 (.classLink RL 13 gIO) (by decide +kernel)) (va_Nw.use rfl (hKK.2.2.2.2.2.1 (gIO, gIO) (by decide +kernel))) hce hcv hcl ?_
  refine lv_astore (lv' := [(6, .ref q9), (0, .ref lq), (1, .int a1), (2, .int a2), (3, .int a3), (4, .int a4), (5, .ref ol)]) hx hb dL_buySquare_17 hl (by decide) rfl (fun ls hl => ?_)
  refine lv_iconst (v := nI 1) hx hb dL_buySquare_19 (by decide) ?_
  exact gRi F dL_buySquare_20 rfl u ⟨rfl, hp⟩ hP hD hS (by omega) (by omega)

set_option maxHeartbeats 4000000 in
set_option maxRecDepth 100000 in
theorem wx2_buySquare (l : Launch) (G : gG) (lq ol : Nat) {wv : va_W} {f : Nat → Int64} {rm : Room} {mc ms : Nat} {post : va_W → Prop} (a1 a2 a3 a4 : Int32) (h0 : ∃ fs, wv[0]? = some (lq, .inr (3, fs))) (hM : gMx (S := va_W) l yX3_buySquare wsX3_buySquare rm G [.ref lq, .int a1, .int a2, .int a3, .int a4] wv gIA post (fun u => u) mc ms) (hrc : rm.cells = mc) (hrs : rm.slots = ms) : gMw (S := va_W) l yL_buySquare wsL_buySquare { frames := rm.frames + 1, cells := mc, slots := ms, locals := 8 + (6 + 11) + rm.locals } G [.ref lq, .int a1, .int a2, .int a3, .int a4, .ref ol] (wv ++ [outc G ol f]) (fun (r : Int32) (u : va_W) => r = nI 2 ∧ post u) (fun (u : va_W) => u ++ [outc G ol f]) mc ms := by
  refine gMw_mk (cc := cL_buySquare) (nL := 7) (ret := some .int) (hh := [(0, 14, 17, 13), (0, 14, 21, 15), (0, 14, 25, 28)]) (Qc := fun A => va_Qi (S := va_W) (fun (r : Int32) (u : va_W) => r = nI 2 ∧ post u) (gB G A (fun (u : va_W) => u ++ [outc G ol f])) A) (by decide) rfl (Nat.le_of_ble_eq_true rfl) ?_
  intro p e s m args below meth c A F htb hZ ls hl hP hD hS
  have hx := F.1
  have hb := F.2.1
  have hKK := F.2.2.2.2.2.2.2.2.1
  have hl : lv_has ls 7 [(0, .ref lq), (1, .int a1), (2, .int a2), (3, .int a3), (4, .int a4), (5, .ref ol)] := hl
  obtain ⟨fs, h0⟩ := h0
  generalize hH : s.heap = H at hP ⊢
  have hS : va_S A s.heap H [] := by rw [← hH]; exact va_S.rf
  generalize hLo : ([] : List Loc) = locs at hS ⊢
  refine lv_aload hx hb dL_buySquare_0 (lv_at hl 5 rfl) ?_
  refine lv_iconst (v := nI 0) hx hb dL_buySquare_2 (by decide) ?_
  refine lv_aload_n hx hb dL_buySquare_3 rfl (lv_at hl 0 rfl) ?_
  refine lv_iload_n hx hb dL_buySquare_4 rfl (lv_at hl 1 rfl) ?_
  refine lv_iload_n hx hb dL_buySquare_5 rfl (lv_at hl 2 rfl) ?_
  refine lv_iload_n hx hb dL_buySquare_6 rfl (lv_at hl 3 rfl) ?_
  refine lv_iload hx hb dL_buySquare_7 (lv_at hl 4 rfl) ?_
  refine gXrun F (gRunVx (own := RL) (C := RX3) (ci := 3) (bytes := cX3_buySquare) (n := 4) (As := [.int a1, .int a2, .int a3, .int a4]) (rest := [.int (nI 0), .ref ol]) F hZ hS (hM H.size) gL_buySquare_X3_buySquare rfl rfl hrc hrs (by decide +kernel) rfl ⟨Nat.le_refl _, Nat.le_refl _⟩ hP hD (lit := wv) (wt := [outc G ol f]) (wc := wv) (isC := List.range wv.length) (gRange wv) (gRange_nd _) rfl h0 rfl hl.1 (Nat.le_of_ble_eq_true rfl) dL_buySquare_9 ⟨by show 0 + mc ≤ mc; omega, by show 0 + ms ≤ ms; omega⟩) hP hD hS (lit := wv) (wt := [outc G ol f]) (wc := wv) (wr := []) (isC := List.range wv.length) (isR := []) (gRange wv) rfl rfl (fun _ h_ => by cases h_) (fun ce q9 u H locs hp hP hD hS hce hcv hcl => ?_)
  have hP : va_P G.1 vwCl (u ++ [outc G ol f]) H := hP
  have hD : va_D A (u ++ [outc G ol f]) := hD
  refine vx_catch (own := RL) (name := gIA) (E := gIA) F.2.2.2.2.2.1 [⟨0, 14, 17, 13⟩] ⟨0, 14, 21, 15⟩ [⟨0, 14, 25, 28⟩] (by rw [htb]; rfl) (List.forall_mem_cons.mpr ⟨Or.inr ⟨by decide, gIO, F.2.2.2.2.2.2.1 (.classLink RL 13 gIO) (by decide +kernel), hKK.2.2.2.2.2.2.1 (gIA, gIO) (by decide +kernel)⟩, fun _ h_ => by cases h_⟩) rfl (by decide) (F.2.2.2.2.2.2.1 (.classLink RL 15 gIA) (by decide +kernel)) (va_Nw.use rfl (hKK.2.2.2.2.2.1 (gIA, gIA) (by decide +kernel))) hce hcv hcl ?_
  refine lv_astore (lv' := [(6, .ref q9), (0, .ref lq), (1, .int a1), (2, .int a2), (3, .int a3), (4, .int a4), (5, .ref ol)]) hx hb dL_buySquare_21 hl (by decide) rfl (fun ls hl => ?_)
  refine lv_iconst (v := nI 2) hx hb dL_buySquare_23 (by decide) ?_
  exact gRi F dL_buySquare_24 rfl u ⟨rfl, hp⟩ hP hD hS (by omega) (by omega)

set_option maxHeartbeats 4000000 in
set_option maxRecDepth 100000 in
theorem wx3_buySquare (l : Launch) (G : gG) (lq ol : Nat) {wv : va_W} {f : Nat → Int64} {rm : Room} {mc ms : Nat} {post : va_W → Prop} (a1 a2 a3 a4 : Int32) (h0 : ∃ fs, wv[0]? = some (lq, .inr (3, fs))) (hM : gMx (S := va_W) l yX3_buySquare wsX3_buySquare rm G [.ref lq, .int a1, .int a2, .int a3, .int a4] wv gIS post (fun u => u) mc ms) (hrc : rm.cells = mc) (hrs : rm.slots = ms) : gMw (S := va_W) l yL_buySquare wsL_buySquare { frames := rm.frames + 1, cells := mc, slots := ms, locals := 8 + (6 + 11) + rm.locals } G [.ref lq, .int a1, .int a2, .int a3, .int a4, .ref ol] (wv ++ [outc G ol f]) (fun (r : Int32) (u : va_W) => r = nI 3 ∧ post u) (fun (u : va_W) => u ++ [outc G ol f]) mc ms := by
  refine gMw_mk (cc := cL_buySquare) (nL := 7) (ret := some .int) (hh := [(0, 14, 17, 13), (0, 14, 21, 15), (0, 14, 25, 28)]) (Qc := fun A => va_Qi (S := va_W) (fun (r : Int32) (u : va_W) => r = nI 3 ∧ post u) (gB G A (fun (u : va_W) => u ++ [outc G ol f])) A) (by decide) rfl (Nat.le_of_ble_eq_true rfl) ?_
  intro p e s m args below meth c A F htb hZ ls hl hP hD hS
  have hx := F.1
  have hb := F.2.1
  have hKK := F.2.2.2.2.2.2.2.2.1
  have hl : lv_has ls 7 [(0, .ref lq), (1, .int a1), (2, .int a2), (3, .int a3), (4, .int a4), (5, .ref ol)] := hl
  obtain ⟨fs, h0⟩ := h0
  generalize hH : s.heap = H at hP ⊢
  have hS : va_S A s.heap H [] := by rw [← hH]; exact va_S.rf
  generalize hLo : ([] : List Loc) = locs at hS ⊢
  refine lv_aload hx hb dL_buySquare_0 (lv_at hl 5 rfl) ?_
  refine lv_iconst (v := nI 0) hx hb dL_buySquare_2 (by decide) ?_
  refine lv_aload_n hx hb dL_buySquare_3 rfl (lv_at hl 0 rfl) ?_
  refine lv_iload_n hx hb dL_buySquare_4 rfl (lv_at hl 1 rfl) ?_
  refine lv_iload_n hx hb dL_buySquare_5 rfl (lv_at hl 2 rfl) ?_
  refine lv_iload_n hx hb dL_buySquare_6 rfl (lv_at hl 3 rfl) ?_
  refine lv_iload hx hb dL_buySquare_7 (lv_at hl 4 rfl) ?_
  refine gXrun F (gRunVx (own := RL) (C := RX3) (ci := 3) (bytes := cX3_buySquare) (n := 4) (As := [.int a1, .int a2, .int a3, .int a4]) (rest := [.int (nI 0), .ref ol]) F hZ hS (hM H.size) gL_buySquare_X3_buySquare rfl rfl hrc hrs (by decide +kernel) rfl ⟨Nat.le_refl _, Nat.le_refl _⟩ hP hD (lit := wv) (wt := [outc G ol f]) (wc := wv) (isC := List.range wv.length) (gRange wv) (gRange_nd _) rfl h0 rfl hl.1 (Nat.le_of_ble_eq_true rfl) dL_buySquare_9 ⟨by show 0 + mc ≤ mc; omega, by show 0 + ms ≤ ms; omega⟩) hP hD hS (lit := wv) (wt := [outc G ol f]) (wc := wv) (wr := []) (isC := List.range wv.length) (isR := []) (gRange wv) rfl rfl (fun _ h_ => by cases h_) (fun ce q9 u H locs hp hP hD hS hce hcv hcl => ?_)
  have hP : va_P G.1 vwCl (u ++ [outc G ol f]) H := hP
  have hD : va_D A (u ++ [outc G ol f]) := hD
  refine vx_catch (own := RL) (name := gIS) (E := gIS) F.2.2.2.2.2.1 [⟨0, 14, 17, 13⟩, ⟨0, 14, 21, 15⟩] ⟨0, 14, 25, 28⟩ [] (by rw [htb]; rfl) (List.forall_mem_cons.mpr ⟨Or.inr ⟨by decide, gIO, F.2.2.2.2.2.2.1 (.classLink RL 13 gIO) (by decide +kernel), hKK.2.2.2.2.2.2.1 (gIS, gIO) (by decide +kernel)⟩, List.forall_mem_cons.mpr ⟨Or.inr ⟨by decide, gIA, F.2.2.2.2.2.2.1 (.classLink RL 15 gIA) (by decide +kernel), hKK.2.2.2.2.2.2.1 (gIS, gIA) (by decide +kernel)⟩, fun _ h_ => by cases h_⟩⟩) rfl (by decide) (F.2.2.2.2.2.2.1 (.classLink RL 28 gIS) (by decide +kernel)) (va_Nw.use rfl (hKK.2.2.2.2.2.1 (gIS, gIS) (by decide +kernel))) hce hcv hcl ?_
  refine lv_astore (lv' := [(6, .ref q9), (0, .ref lq), (1, .int a1), (2, .int a2), (3, .int a3), (4, .int a4), (5, .ref ol)]) hx hb dL_buySquare_25 hl (by decide) rfl (fun ls hl => ?_)
  refine lv_iconst (v := nI 3) hx hb dL_buySquare_27 (by decide) ?_
  exact gRi F dL_buySquare_28 rfl u ⟨rfl, hp⟩ hP hD hS (by omega) (by omega)

set_option maxHeartbeats 4000000 in
set_option maxRecDepth 100000 in
theorem wx1_setPrice (l : Launch) (G : gG) (lq ol : Nat) {wv : va_W} {f : Nat → Int64} {rm : Room} {mc ms : Nat} {post : va_W → Prop} (a1 : Int32) (h0 : ∃ fs, wv[0]? = some (lq, .inr (3, fs))) (hM : gMx (S := va_W) l yX3_setPrice wsX3_setPrice rm G [.ref lq, .int a1] wv gIA post (fun u => u) mc ms) (hrc : rm.cells = mc) (hrs : rm.slots = ms) : gMw (S := va_W) l yL_setPrice wsL_setPrice { frames := rm.frames + 1, cells := mc, slots := ms, locals := 8 + (3 + 11) + rm.locals } G [.ref lq, .int a1, .ref ol] (wv ++ [outc G ol f]) (fun (r : Int32) (u : va_W) => r = nI 1 ∧ post u) (fun (u : va_W) => u ++ [outc G ol f]) mc ms := by
  refine gMw_mk (cc := cL_setPrice) (nL := 4) (ret := some .int) (hh := [(0, 9, 12, 15)]) (Qc := fun A => va_Qi (S := va_W) (fun (r : Int32) (u : va_W) => r = nI 1 ∧ post u) (gB G A (fun (u : va_W) => u ++ [outc G ol f])) A) (by decide) rfl (Nat.le_of_ble_eq_true rfl) ?_
  intro p e s m args below meth c A F htb hZ ls hl hP hD hS
  have hx := F.1
  have hb := F.2.1
  have hKK := F.2.2.2.2.2.2.2.2.1
  have hl : lv_has ls 4 [(0, .ref lq), (1, .int a1), (2, .ref ol)] := hl
  obtain ⟨fs, h0⟩ := h0
  generalize hH : s.heap = H at hP ⊢
  have hS : va_S A s.heap H [] := by rw [← hH]; exact va_S.rf
  generalize hLo : ([] : List Loc) = locs at hS ⊢
  refine lv_aload_n hx hb dL_setPrice_0 rfl (lv_at hl 2 rfl) ?_
  refine lv_iconst (v := nI 0) hx hb dL_setPrice_1 (by decide) ?_
  refine lv_aload_n hx hb dL_setPrice_2 rfl (lv_at hl 0 rfl) ?_
  refine lv_iload_n hx hb dL_setPrice_3 rfl (lv_at hl 1 rfl) ?_
  refine gXrun F (gRunVx (own := RL) (C := RX3) (ci := 3) (bytes := cX3_setPrice) (n := 1) (As := [.int a1]) (rest := [.int (nI 0), .ref ol]) F hZ hS (hM H.size) gL_setPrice_X3_setPrice rfl rfl hrc hrs (by decide +kernel) rfl ⟨Nat.le_refl _, Nat.le_refl _⟩ hP hD (lit := wv) (wt := [outc G ol f]) (wc := wv) (isC := List.range wv.length) (gRange wv) (gRange_nd _) rfl h0 rfl hl.1 (Nat.le_of_ble_eq_true rfl) dL_setPrice_4 ⟨by show 0 + mc ≤ mc; omega, by show 0 + ms ≤ ms; omega⟩) hP hD hS (lit := wv) (wt := [outc G ol f]) (wc := wv) (wr := []) (isC := List.range wv.length) (isR := []) (gRange wv) rfl rfl (fun _ h_ => by cases h_) (fun ce q9 u H locs hp hP hD hS hce hcv hcl => ?_)
  have hP : va_P G.1 vwCl (u ++ [outc G ol f]) H := hP
  have hD : va_D A (u ++ [outc G ol f]) := hD
  refine vx_catch (own := RL) (name := gIA) (E := gIA) F.2.2.2.2.2.1 [] ⟨0, 9, 12, 15⟩ [] (by rw [htb]; rfl) (fun _ h_ => by cases h_) rfl (by decide) (F.2.2.2.2.2.2.1 (.classLink RL 15 gIA) (by decide +kernel)) (va_Nw.use rfl (hKK.2.2.2.2.2.1 (gIA, gIA) (by decide +kernel))) hce hcv hcl ?_
  refine lv_astore_n (lv' := [(3, .ref q9), (0, .ref lq), (1, .int a1), (2, .ref ol)]) hx hb dL_setPrice_12 rfl hl (by decide) rfl (fun ls hl => ?_)
  refine lv_iconst (v := nI 1) hx hb dL_setPrice_13 (by decide) ?_
  exact gRi F dL_setPrice_14 rfl u ⟨rfl, hp⟩ hP hD hS (by omega) (by omega)

set_option maxHeartbeats 4000000 in
set_option maxRecDepth 100000 in
theorem wx1_setTax (l : Launch) (G : gG) (lq ol : Nat) {wv : va_W} {f : Nat → Int64} {rm : Room} {mc ms : Nat} {post : va_W → Prop} (a1 : Int32) (h0 : ∃ fs, wv[0]? = some (lq, .inr (3, fs))) (hM : gMx (S := va_W) l yX3_setTax wsX3_setTax rm G [.ref lq, .int a1] wv gIA post (fun u => u) mc ms) (hrc : rm.cells = mc) (hrs : rm.slots = ms) : gMw (S := va_W) l yL_setTax wsL_setTax { frames := rm.frames + 1, cells := mc, slots := ms, locals := 8 + (3 + 11) + rm.locals } G [.ref lq, .int a1, .ref ol] (wv ++ [outc G ol f]) (fun (r : Int32) (u : va_W) => r = nI 1 ∧ post u) (fun (u : va_W) => u ++ [outc G ol f]) mc ms := by
  refine gMw_mk (cc := cL_setTax) (nL := 4) (ret := some .int) (hh := [(0, 9, 12, 15)]) (Qc := fun A => va_Qi (S := va_W) (fun (r : Int32) (u : va_W) => r = nI 1 ∧ post u) (gB G A (fun (u : va_W) => u ++ [outc G ol f])) A) (by decide) rfl (Nat.le_of_ble_eq_true rfl) ?_
  intro p e s m args below meth c A F htb hZ ls hl hP hD hS
  have hx := F.1
  have hb := F.2.1
  have hKK := F.2.2.2.2.2.2.2.2.1
  have hl : lv_has ls 4 [(0, .ref lq), (1, .int a1), (2, .ref ol)] := hl
  obtain ⟨fs, h0⟩ := h0
  generalize hH : s.heap = H at hP ⊢
  have hS : va_S A s.heap H [] := by rw [← hH]; exact va_S.rf
  generalize hLo : ([] : List Loc) = locs at hS ⊢
  refine lv_aload_n hx hb dL_setTax_0 rfl (lv_at hl 2 rfl) ?_
  refine lv_iconst (v := nI 0) hx hb dL_setTax_1 (by decide) ?_
  refine lv_aload_n hx hb dL_setTax_2 rfl (lv_at hl 0 rfl) ?_
  refine lv_iload_n hx hb dL_setTax_3 rfl (lv_at hl 1 rfl) ?_
  refine gXrun F (gRunVx (own := RL) (C := RX3) (ci := 3) (bytes := cX3_setTax) (n := 1) (As := [.int a1]) (rest := [.int (nI 0), .ref ol]) F hZ hS (hM H.size) gL_setTax_X3_setTax rfl rfl hrc hrs (by decide +kernel) rfl ⟨Nat.le_refl _, Nat.le_refl _⟩ hP hD (lit := wv) (wt := [outc G ol f]) (wc := wv) (isC := List.range wv.length) (gRange wv) (gRange_nd _) rfl h0 rfl hl.1 (Nat.le_of_ble_eq_true rfl) dL_setTax_4 ⟨by show 0 + mc ≤ mc; omega, by show 0 + ms ≤ ms; omega⟩) hP hD hS (lit := wv) (wt := [outc G ol f]) (wc := wv) (wr := []) (isC := List.range wv.length) (isR := []) (gRange wv) rfl rfl (fun _ h_ => by cases h_) (fun ce q9 u H locs hp hP hD hS hce hcv hcl => ?_)
  have hP : va_P G.1 vwCl (u ++ [outc G ol f]) H := hP
  have hD : va_D A (u ++ [outc G ol f]) := hD
  refine vx_catch (own := RL) (name := gIA) (E := gIA) F.2.2.2.2.2.1 [] ⟨0, 9, 12, 15⟩ [] (by rw [htb]; rfl) (fun _ h_ => by cases h_) rfl (by decide) (F.2.2.2.2.2.2.1 (.classLink RL 15 gIA) (by decide +kernel)) (va_Nw.use rfl (hKK.2.2.2.2.2.1 (gIA, gIA) (by decide +kernel))) hce hcv hcl ?_
  refine lv_astore_n (lv' := [(3, .ref q9), (0, .ref lq), (1, .int a1), (2, .ref ol)]) hx hb dL_setTax_12 rfl hl (by decide) rfl (fun ls hl => ?_)
  refine lv_iconst (v := nI 1) hx hb dL_setTax_13 (by decide) ?_
  exact gRi F dL_setTax_14 rfl u ⟨rfl, hp⟩ hP hD hS (by omega) (by omega)

set_option maxHeartbeats 4000000 in
set_option maxRecDepth 100000 in
theorem wx1_append (l : Launch) (G : gG) (lq ol : Nat) {wv : va_W} {f : Nat → Int64} {rm : Room} {mc ms : Nat} {post : va_W → Prop} (a1 : Int32) (h0 : ∃ fs, wv[0]? = some (lq, .inr (3, fs))) (hM : gMx (S := va_W) l yX3_append wsX3_append rm G [.ref lq, .int a1] wv gIA post (fun u => u) mc ms) (hrc : rm.cells = mc) (hrs : rm.slots = ms) : gMw (S := va_W) l yL_append wsL_append { frames := rm.frames + 1, cells := mc, slots := ms, locals := 8 + (2 + 11) + rm.locals } G [.ref lq, .int a1, .ref ol] (wv ++ [outc G ol f]) (fun (r : Int32) (u : va_W) => r = nI 1 ∧ post u) (fun (u : va_W) => u ++ [outc G ol f]) mc ms := by
  refine gMw_mk (cc := cL_append) (nL := 4) (ret := some .int) (hh := [(0, 9, 12, 15), (0, 9, 15, 28)]) (Qc := fun A => va_Qi (S := va_W) (fun (r : Int32) (u : va_W) => r = nI 1 ∧ post u) (gB G A (fun (u : va_W) => u ++ [outc G ol f])) A) (by decide) rfl (Nat.le_of_ble_eq_true rfl) ?_
  intro p e s m args below meth c A F htb hZ ls hl hP hD hS
  have hx := F.1
  have hb := F.2.1
  have hKK := F.2.2.2.2.2.2.2.2.1
  have hl : lv_has ls 4 [(0, .ref lq), (1, .int a1), (2, .ref ol)] := hl
  obtain ⟨fs, h0⟩ := h0
  generalize hH : s.heap = H at hP ⊢
  have hS : va_S A s.heap H [] := by rw [← hH]; exact va_S.rf
  generalize hLo : ([] : List Loc) = locs at hS ⊢
  refine lv_aload_n hx hb dL_append_0 rfl (lv_at hl 2 rfl) ?_
  refine lv_iconst (v := nI 0) hx hb dL_append_1 (by decide) ?_
  refine lv_aload_n hx hb dL_append_2 rfl (lv_at hl 0 rfl) ?_
  refine lv_iload_n hx hb dL_append_3 rfl (lv_at hl 1 rfl) ?_
  refine gXrun F (gRunVx (own := RL) (C := RX3) (ci := 3) (bytes := cX3_append) (n := 1) (As := [.int a1]) (rest := [.int (nI 0), .ref ol]) F hZ hS (hM H.size) gL_append_X3_append rfl rfl hrc hrs (by decide +kernel) rfl ⟨Nat.le_refl _, Nat.le_refl _⟩ hP hD (lit := wv) (wt := [outc G ol f]) (wc := wv) (isC := List.range wv.length) (gRange wv) (gRange_nd _) rfl h0 rfl hl.1 (Nat.le_of_ble_eq_true rfl) dL_append_4 ⟨by show 0 + mc ≤ mc; omega, by show 0 + ms ≤ ms; omega⟩) hP hD hS (lit := wv) (wt := [outc G ol f]) (wc := wv) (wr := []) (isC := List.range wv.length) (isR := []) (gRange wv) rfl rfl (fun _ h_ => by cases h_) (fun ce q9 u H locs hp hP hD hS hce hcv hcl => ?_)
  have hP : va_P G.1 vwCl (u ++ [outc G ol f]) H := hP
  have hD : va_D A (u ++ [outc G ol f]) := hD
  refine vx_catch (own := RL) (name := gIA) (E := gIA) F.2.2.2.2.2.1 [] ⟨0, 9, 12, 15⟩ [⟨0, 9, 15, 28⟩] (by rw [htb]; rfl) (fun _ h_ => by cases h_) rfl (by decide) (F.2.2.2.2.2.2.1 (.classLink RL 15 gIA) (by decide +kernel)) (va_Nw.use rfl (hKK.2.2.2.2.2.1 (gIA, gIA) (by decide +kernel))) hce hcv hcl ?_
  refine lv_astore_n (lv' := [(3, .ref q9), (0, .ref lq), (1, .int a1), (2, .ref ol)]) hx hb dL_append_12 rfl hl (by decide) rfl (fun ls hl => ?_)
  refine lv_iconst (v := nI 1) hx hb dL_append_13 (by decide) ?_
  exact gRi F dL_append_14 rfl u ⟨rfl, hp⟩ hP hD hS (by omega) (by omega)

set_option maxHeartbeats 4000000 in
set_option maxRecDepth 100000 in
theorem wx2_append (l : Launch) (G : gG) (lq ol : Nat) {wv : va_W} {f : Nat → Int64} {rm : Room} {mc ms : Nat} {post : va_W → Prop} (a1 : Int32) (h0 : ∃ fs, wv[0]? = some (lq, .inr (3, fs))) (hM : gMx (S := va_W) l yX3_append wsX3_append rm G [.ref lq, .int a1] wv gIS post (fun u => u) mc ms) (hrc : rm.cells = mc) (hrs : rm.slots = ms) : gMw (S := va_W) l yL_append wsL_append { frames := rm.frames + 1, cells := mc, slots := ms, locals := 8 + (2 + 11) + rm.locals } G [.ref lq, .int a1, .ref ol] (wv ++ [outc G ol f]) (fun (r : Int32) (u : va_W) => r = nI 2 ∧ post u) (fun (u : va_W) => u ++ [outc G ol f]) mc ms := by
  refine gMw_mk (cc := cL_append) (nL := 4) (ret := some .int) (hh := [(0, 9, 12, 15), (0, 9, 15, 28)]) (Qc := fun A => va_Qi (S := va_W) (fun (r : Int32) (u : va_W) => r = nI 2 ∧ post u) (gB G A (fun (u : va_W) => u ++ [outc G ol f])) A) (by decide) rfl (Nat.le_of_ble_eq_true rfl) ?_
  intro p e s m args below meth c A F htb hZ ls hl hP hD hS
  have hx := F.1
  have hb := F.2.1
  have hKK := F.2.2.2.2.2.2.2.2.1
  have hl : lv_has ls 4 [(0, .ref lq), (1, .int a1), (2, .ref ol)] := hl
  obtain ⟨fs, h0⟩ := h0
  generalize hH : s.heap = H at hP ⊢
  have hS : va_S A s.heap H [] := by rw [← hH]; exact va_S.rf
  generalize hLo : ([] : List Loc) = locs at hS ⊢
  refine lv_aload_n hx hb dL_append_0 rfl (lv_at hl 2 rfl) ?_
  refine lv_iconst (v := nI 0) hx hb dL_append_1 (by decide) ?_
  refine lv_aload_n hx hb dL_append_2 rfl (lv_at hl 0 rfl) ?_
  refine lv_iload_n hx hb dL_append_3 rfl (lv_at hl 1 rfl) ?_
  refine gXrun F (gRunVx (own := RL) (C := RX3) (ci := 3) (bytes := cX3_append) (n := 1) (As := [.int a1]) (rest := [.int (nI 0), .ref ol]) F hZ hS (hM H.size) gL_append_X3_append rfl rfl hrc hrs (by decide +kernel) rfl ⟨Nat.le_refl _, Nat.le_refl _⟩ hP hD (lit := wv) (wt := [outc G ol f]) (wc := wv) (isC := List.range wv.length) (gRange wv) (gRange_nd _) rfl h0 rfl hl.1 (Nat.le_of_ble_eq_true rfl) dL_append_4 ⟨by show 0 + mc ≤ mc; omega, by show 0 + ms ≤ ms; omega⟩) hP hD hS (lit := wv) (wt := [outc G ol f]) (wc := wv) (wr := []) (isC := List.range wv.length) (isR := []) (gRange wv) rfl rfl (fun _ h_ => by cases h_) (fun ce q9 u H locs hp hP hD hS hce hcv hcl => ?_)
  have hP : va_P G.1 vwCl (u ++ [outc G ol f]) H := hP
  have hD : va_D A (u ++ [outc G ol f]) := hD
  refine vx_catch (own := RL) (name := gIS) (E := gIS) F.2.2.2.2.2.1 [⟨0, 9, 12, 15⟩] ⟨0, 9, 15, 28⟩ [] (by rw [htb]; rfl) (List.forall_mem_cons.mpr ⟨Or.inr ⟨by decide, gIA, F.2.2.2.2.2.2.1 (.classLink RL 15 gIA) (by decide +kernel), hKK.2.2.2.2.2.2.1 (gIS, gIA) (by decide +kernel)⟩, fun _ h_ => by cases h_⟩) rfl (by decide) (F.2.2.2.2.2.2.1 (.classLink RL 28 gIS) (by decide +kernel)) (va_Nw.use rfl (hKK.2.2.2.2.2.1 (gIS, gIS) (by decide +kernel))) hce hcv hcl ?_
  refine lv_astore_n (lv' := [(3, .ref q9), (0, .ref lq), (1, .int a1), (2, .ref ol)]) hx hb dL_append_15 rfl hl (by decide) rfl (fun ls hl => ?_)
  refine lv_iconst (v := nI 2) hx hb dL_append_16 (by decide) ?_
  exact gRi F dL_append_17 rfl u ⟨rfl, hp⟩ hP hD hS (by omega) (by omega)

set_option maxHeartbeats 4000000 in
set_option maxRecDepth 100000 in
theorem wx1_carryOut (l : Launch) (G : gG) (lq ol : Nat) {wv : va_W} {f : Nat → Int64} {rm : Room} {mc ms : Nat} {post : va_W → Prop}  (h0 : ∃ fs, wv[0]? = some (lq, .inr (3, fs))) (hM : gMx (S := va_W) l yX3_carryOut wsX3_carryOut rm G [.ref lq] wv gIA post (fun u => u) mc ms) (hrc : rm.cells = mc) (hrs : rm.slots = ms) : gMw (S := va_W) l yL_carryOut wsL_carryOut { frames := rm.frames + 1, cells := mc, slots := ms, locals := 8 + (2 + 11) + rm.locals } G [.ref lq, .ref ol] (wv ++ [outc G ol f]) (fun (r : Int32) (u : va_W) => r = nI 1 ∧ post u) (fun (u : va_W) => u ++ [outc G ol f]) mc ms := by
  refine gMw_mk (cc := cL_carryOut) (nL := 3) (ret := some .int) (hh := [(0, 8, 11, 15)]) (Qc := fun A => va_Qi (S := va_W) (fun (r : Int32) (u : va_W) => r = nI 1 ∧ post u) (gB G A (fun (u : va_W) => u ++ [outc G ol f])) A) (by decide) rfl (Nat.le_of_ble_eq_true rfl) ?_
  intro p e s m args below meth c A F htb hZ ls hl hP hD hS
  have hx := F.1
  have hb := F.2.1
  have hKK := F.2.2.2.2.2.2.2.2.1
  have hl : lv_has ls 3 [(0, .ref lq), (1, .ref ol)] := hl
  obtain ⟨fs, h0⟩ := h0
  generalize hH : s.heap = H at hP ⊢
  have hS : va_S A s.heap H [] := by rw [← hH]; exact va_S.rf
  generalize hLo : ([] : List Loc) = locs at hS ⊢
  refine lv_aload_n hx hb dL_carryOut_0 rfl (lv_at hl 1 rfl) ?_
  refine lv_iconst (v := nI 0) hx hb dL_carryOut_1 (by decide) ?_
  refine lv_aload_n hx hb dL_carryOut_2 rfl (lv_at hl 0 rfl) ?_
  refine gXrun F (gRunVx (own := RL) (C := RX3) (ci := 3) (bytes := cX3_carryOut) (n := 0) (As := []) (rest := [.int (nI 0), .ref ol]) F hZ hS (hM H.size) gL_carryOut_X3_carryOut rfl rfl hrc hrs (by decide +kernel) rfl ⟨Nat.le_refl _, Nat.le_refl _⟩ hP hD (lit := wv) (wt := [outc G ol f]) (wc := wv) (isC := List.range wv.length) (gRange wv) (gRange_nd _) rfl h0 rfl hl.1 (Nat.le_of_ble_eq_true rfl) dL_carryOut_3 ⟨by show 0 + mc ≤ mc; omega, by show 0 + ms ≤ ms; omega⟩) hP hD hS (lit := wv) (wt := [outc G ol f]) (wc := wv) (wr := []) (isC := List.range wv.length) (isR := []) (gRange wv) rfl rfl (fun _ h_ => by cases h_) (fun ce q9 u H locs hp hP hD hS hce hcv hcl => ?_)
  have hP : va_P G.1 vwCl (u ++ [outc G ol f]) H := hP
  have hD : va_D A (u ++ [outc G ol f]) := hD
  refine vx_catch (own := RL) (name := gIA) (E := gIA) F.2.2.2.2.2.1 [] ⟨0, 8, 11, 15⟩ [] (by rw [htb]; rfl) (fun _ h_ => by cases h_) rfl (by decide) (F.2.2.2.2.2.2.1 (.classLink RL 15 gIA) (by decide +kernel)) (va_Nw.use rfl (hKK.2.2.2.2.2.1 (gIA, gIA) (by decide +kernel))) hce hcv hcl ?_
  refine lv_astore_n (lv' := [(2, .ref q9), (0, .ref lq), (1, .ref ol)]) hx hb dL_carryOut_11 rfl hl (by decide) rfl (fun ls hl => ?_)
  refine lv_iconst (v := nI 1) hx hb dL_carryOut_12 (by decide) ?_
  exact gRi F dL_carryOut_13 rfl u ⟨rfl, hp⟩ hP hD hS (by omega) (by omega)

set_option maxHeartbeats 4000000 in
set_option maxRecDepth 100000 in
theorem wx1_undo (l : Launch) (G : gG) (lq ol : Nat) {wv : va_W} {f : Nat → Int64} {rm : Room} {mc ms : Nat} {post : va_W → Prop}  (h0 : ∃ fs, wv[0]? = some (lq, .inr (3, fs))) (hM : gMx (S := va_W) l yX3_undo wsX3_undo rm G [.ref lq] wv gIS post (fun u => u) mc ms) (hrc : rm.cells = mc) (hrs : rm.slots = ms) : gMw (S := va_W) l yL_undo wsL_undo { frames := rm.frames + 1, cells := mc, slots := ms, locals := 8 + (2 + 11) + rm.locals } G [.ref lq, .ref ol] (wv ++ [outc G ol f]) (fun (r : Int32) (u : va_W) => r = nI 1 ∧ post u) (fun (u : va_W) => u ++ [outc G ol f]) mc ms := by
  refine gMw_mk (cc := cL_undo) (nL := 3) (ret := some .int) (hh := [(0, 8, 11, 28)]) (Qc := fun A => va_Qi (S := va_W) (fun (r : Int32) (u : va_W) => r = nI 1 ∧ post u) (gB G A (fun (u : va_W) => u ++ [outc G ol f])) A) (by decide) rfl (Nat.le_of_ble_eq_true rfl) ?_
  intro p e s m args below meth c A F htb hZ ls hl hP hD hS
  have hx := F.1
  have hb := F.2.1
  have hKK := F.2.2.2.2.2.2.2.2.1
  have hl : lv_has ls 3 [(0, .ref lq), (1, .ref ol)] := hl
  obtain ⟨fs, h0⟩ := h0
  generalize hH : s.heap = H at hP ⊢
  have hS : va_S A s.heap H [] := by rw [← hH]; exact va_S.rf
  generalize hLo : ([] : List Loc) = locs at hS ⊢
  refine lv_aload_n hx hb dL_undo_0 rfl (lv_at hl 1 rfl) ?_
  refine lv_iconst (v := nI 0) hx hb dL_undo_1 (by decide) ?_
  refine lv_aload_n hx hb dL_undo_2 rfl (lv_at hl 0 rfl) ?_
  refine gXrun F (gRunVx (own := RL) (C := RX3) (ci := 3) (bytes := cX3_undo) (n := 0) (As := []) (rest := [.int (nI 0), .ref ol]) F hZ hS (hM H.size) gL_undo_X3_undo rfl rfl hrc hrs (by decide +kernel) rfl ⟨Nat.le_refl _, Nat.le_refl _⟩ hP hD (lit := wv) (wt := [outc G ol f]) (wc := wv) (isC := List.range wv.length) (gRange wv) (gRange_nd _) rfl h0 rfl hl.1 (Nat.le_of_ble_eq_true rfl) dL_undo_3 ⟨by show 0 + mc ≤ mc; omega, by show 0 + ms ≤ ms; omega⟩) hP hD hS (lit := wv) (wt := [outc G ol f]) (wc := wv) (wr := []) (isC := List.range wv.length) (isR := []) (gRange wv) rfl rfl (fun _ h_ => by cases h_) (fun ce q9 u H locs hp hP hD hS hce hcv hcl => ?_)
  have hP : va_P G.1 vwCl (u ++ [outc G ol f]) H := hP
  have hD : va_D A (u ++ [outc G ol f]) := hD
  refine vx_catch (own := RL) (name := gIS) (E := gIS) F.2.2.2.2.2.1 [] ⟨0, 8, 11, 28⟩ [] (by rw [htb]; rfl) (fun _ h_ => by cases h_) rfl (by decide) (F.2.2.2.2.2.2.1 (.classLink RL 28 gIS) (by decide +kernel)) (va_Nw.use rfl (hKK.2.2.2.2.2.1 (gIS, gIS) (by decide +kernel))) hce hcv hcl ?_
  refine lv_astore_n (lv' := [(2, .ref q9), (0, .ref lq), (1, .ref ol)]) hx hb dL_undo_11 rfl hl (by decide) rfl (fun ls hl => ?_)
  refine lv_iconst (v := nI 1) hx hb dL_undo_12 (by decide) ?_
  exact gRi F dL_undo_13 rfl u ⟨rfl, hp⟩ hP hD hS (by omega) (by omega)

set_option maxHeartbeats 4000000 in
set_option maxRecDepth 100000 in
theorem wx1_keep (l : Launch) (G : gG) (lq ol : Nat) {wv : va_W} {f : Nat → Int64} {rm : Room} {mc ms : Nat} {post : va_W → Prop} (a1 : Int32) (h0 : ∃ fs, wv[0]? = some (lq, .inr (3, fs))) (hM : gMx (S := va_W) l yX3_keep wsX3_keep rm G [.ref lq, .int a1] wv gIO post (fun u => u) mc ms) (hrc : rm.cells = mc) (hrs : rm.slots = ms) : gMw (S := va_W) l yL_keep wsL_keep { frames := rm.frames + 1, cells := mc, slots := ms, locals := 8 + (2 + 11) + rm.locals } G [.ref lq, .int a1, .ref ol] (wv ++ [outc G ol f]) (fun (r : Int32) (u : va_W) => r = nI 1 ∧ post u) (fun (u : va_W) => u ++ [outc G ol f]) mc ms := by
  refine gMw_mk (cc := cL_keep) (nL := 4) (ret := some .int) (hh := [(0, 9, 12, 13)]) (Qc := fun A => va_Qi (S := va_W) (fun (r : Int32) (u : va_W) => r = nI 1 ∧ post u) (gB G A (fun (u : va_W) => u ++ [outc G ol f])) A) (by decide) rfl (Nat.le_of_ble_eq_true rfl) ?_
  intro p e s m args below meth c A F htb hZ ls hl hP hD hS
  have hx := F.1
  have hb := F.2.1
  have hKK := F.2.2.2.2.2.2.2.2.1
  have hl : lv_has ls 4 [(0, .ref lq), (1, .int a1), (2, .ref ol)] := hl
  obtain ⟨fs, h0⟩ := h0
  generalize hH : s.heap = H at hP ⊢
  have hS : va_S A s.heap H [] := by rw [← hH]; exact va_S.rf
  generalize hLo : ([] : List Loc) = locs at hS ⊢
  refine lv_aload_n hx hb dL_keep_0 rfl (lv_at hl 2 rfl) ?_
  refine lv_iconst (v := nI 0) hx hb dL_keep_1 (by decide) ?_
  refine lv_aload_n hx hb dL_keep_2 rfl (lv_at hl 0 rfl) ?_
  refine lv_iload_n hx hb dL_keep_3 rfl (lv_at hl 1 rfl) ?_
  refine gXrun F (gRunVx (own := RL) (C := RX3) (ci := 3) (bytes := cX3_keep) (n := 1) (As := [.int a1]) (rest := [.int (nI 0), .ref ol]) F hZ hS (hM H.size) gL_keep_X3_keep rfl rfl hrc hrs (by decide +kernel) rfl ⟨Nat.le_refl _, Nat.le_refl _⟩ hP hD (lit := wv) (wt := [outc G ol f]) (wc := wv) (isC := List.range wv.length) (gRange wv) (gRange_nd _) rfl h0 rfl hl.1 (Nat.le_of_ble_eq_true rfl) dL_keep_4 ⟨by show 0 + mc ≤ mc; omega, by show 0 + ms ≤ ms; omega⟩) hP hD hS (lit := wv) (wt := [outc G ol f]) (wc := wv) (wr := []) (isC := List.range wv.length) (isR := []) (gRange wv) rfl rfl (fun _ h_ => by cases h_) (fun ce q9 u H locs hp hP hD hS hce hcv hcl => ?_)
  have hP : va_P G.1 vwCl (u ++ [outc G ol f]) H := hP
  have hD : va_D A (u ++ [outc G ol f]) := hD
  refine vx_catch (own := RL) (name := gIO) (E := gIO) F.2.2.2.2.2.1 [] ⟨0, 9, 12, 13⟩ [] (by rw [htb]; rfl) (fun _ h_ => by cases h_) rfl (by decide) (F.2.2.2.2.2.2.1 (.classLink RL 13 gIO) (by decide +kernel)) (va_Nw.use rfl (hKK.2.2.2.2.2.1 (gIO, gIO) (by decide +kernel))) hce hcv hcl ?_
  refine lv_astore_n (lv' := [(3, .ref q9), (0, .ref lq), (1, .int a1), (2, .ref ol)]) hx hb dL_keep_12 rfl hl (by decide) rfl (fun ls hl => ?_)
  refine lv_iconst (v := nI 1) hx hb dL_keep_13 (by decide) ?_
  exact gRi F dL_keep_14 rfl u ⟨rfl, hp⟩ hP hD hS (by omega) (by omega)

set_option maxHeartbeats 4000000 in
set_option maxRecDepth 100000 in
theorem wx1_goBack (l : Launch) (G : gG) (lq ol : Nat) {wv : va_W} {f : Nat → Int64} {rm : Room} {mc ms : Nat} {post : va_W → Prop} (a1 : Int32) (h0 : ∃ fs, wv[0]? = some (lq, .inr (3, fs))) (hM : gMx (S := va_W) l yX3_goBack wsX3_goBack rm G [.ref lq, .int a1] wv gIO post (fun u => u) mc ms) (hrc : rm.cells = mc) (hrs : rm.slots = ms) : gMw (S := va_W) l yL_goBack wsL_goBack { frames := rm.frames + 1, cells := mc, slots := ms, locals := 8 + (3 + 11) + rm.locals } G [.ref lq, .int a1, .ref ol] (wv ++ [outc G ol f]) (fun (r : Int32) (u : va_W) => r = nI 1 ∧ post u) (fun (u : va_W) => u ++ [outc G ol f]) mc ms := by
  refine gMw_mk (cc := cL_goBack) (nL := 4) (ret := some .int) (hh := [(0, 9, 12, 13), (0, 9, 15, 28)]) (Qc := fun A => va_Qi (S := va_W) (fun (r : Int32) (u : va_W) => r = nI 1 ∧ post u) (gB G A (fun (u : va_W) => u ++ [outc G ol f])) A) (by decide) rfl (Nat.le_of_ble_eq_true rfl) ?_
  intro p e s m args below meth c A F htb hZ ls hl hP hD hS
  have hx := F.1
  have hb := F.2.1
  have hKK := F.2.2.2.2.2.2.2.2.1
  have hl : lv_has ls 4 [(0, .ref lq), (1, .int a1), (2, .ref ol)] := hl
  obtain ⟨fs, h0⟩ := h0
  generalize hH : s.heap = H at hP ⊢
  have hS : va_S A s.heap H [] := by rw [← hH]; exact va_S.rf
  generalize hLo : ([] : List Loc) = locs at hS ⊢
  refine lv_aload_n hx hb dL_goBack_0 rfl (lv_at hl 2 rfl) ?_
  refine lv_iconst (v := nI 0) hx hb dL_goBack_1 (by decide) ?_
  refine lv_aload_n hx hb dL_goBack_2 rfl (lv_at hl 0 rfl) ?_
  refine lv_iload_n hx hb dL_goBack_3 rfl (lv_at hl 1 rfl) ?_
  refine gXrun F (gRunVx (own := RL) (C := RX3) (ci := 3) (bytes := cX3_goBack) (n := 1) (As := [.int a1]) (rest := [.int (nI 0), .ref ol]) F hZ hS (hM H.size) gL_goBack_X3_goBack rfl rfl hrc hrs (by decide +kernel) rfl ⟨Nat.le_refl _, Nat.le_refl _⟩ hP hD (lit := wv) (wt := [outc G ol f]) (wc := wv) (isC := List.range wv.length) (gRange wv) (gRange_nd _) rfl h0 rfl hl.1 (Nat.le_of_ble_eq_true rfl) dL_goBack_4 ⟨by show 0 + mc ≤ mc; omega, by show 0 + ms ≤ ms; omega⟩) hP hD hS (lit := wv) (wt := [outc G ol f]) (wc := wv) (wr := []) (isC := List.range wv.length) (isR := []) (gRange wv) rfl rfl (fun _ h_ => by cases h_) (fun ce q9 u H locs hp hP hD hS hce hcv hcl => ?_)
  have hP : va_P G.1 vwCl (u ++ [outc G ol f]) H := hP
  have hD : va_D A (u ++ [outc G ol f]) := hD
  refine vx_catch (own := RL) (name := gIO) (E := gIO) F.2.2.2.2.2.1 [] ⟨0, 9, 12, 13⟩ [⟨0, 9, 15, 28⟩] (by rw [htb]; rfl) (fun _ h_ => by cases h_) rfl (by decide) (F.2.2.2.2.2.2.1 (.classLink RL 13 gIO) (by decide +kernel)) (va_Nw.use rfl (hKK.2.2.2.2.2.1 (gIO, gIO) (by decide +kernel))) hce hcv hcl ?_
  refine lv_astore_n (lv' := [(3, .ref q9), (0, .ref lq), (1, .int a1), (2, .ref ol)]) hx hb dL_goBack_12 rfl hl (by decide) rfl (fun ls hl => ?_)
  refine lv_iconst (v := nI 1) hx hb dL_goBack_13 (by decide) ?_
  exact gRi F dL_goBack_14 rfl u ⟨rfl, hp⟩ hP hD hS (by omega) (by omega)

set_option maxHeartbeats 4000000 in
set_option maxRecDepth 100000 in
theorem wx2_goBack (l : Launch) (G : gG) (lq ol : Nat) {wv : va_W} {f : Nat → Int64} {rm : Room} {mc ms : Nat} {post : va_W → Prop} (a1 : Int32) (h0 : ∃ fs, wv[0]? = some (lq, .inr (3, fs))) (hM : gMx (S := va_W) l yX3_goBack wsX3_goBack rm G [.ref lq, .int a1] wv gIS post (fun u => u) mc ms) (hrc : rm.cells = mc) (hrs : rm.slots = ms) : gMw (S := va_W) l yL_goBack wsL_goBack { frames := rm.frames + 1, cells := mc, slots := ms, locals := 8 + (3 + 11) + rm.locals } G [.ref lq, .int a1, .ref ol] (wv ++ [outc G ol f]) (fun (r : Int32) (u : va_W) => r = nI 2 ∧ post u) (fun (u : va_W) => u ++ [outc G ol f]) mc ms := by
  refine gMw_mk (cc := cL_goBack) (nL := 4) (ret := some .int) (hh := [(0, 9, 12, 13), (0, 9, 15, 28)]) (Qc := fun A => va_Qi (S := va_W) (fun (r : Int32) (u : va_W) => r = nI 2 ∧ post u) (gB G A (fun (u : va_W) => u ++ [outc G ol f])) A) (by decide) rfl (Nat.le_of_ble_eq_true rfl) ?_
  intro p e s m args below meth c A F htb hZ ls hl hP hD hS
  have hx := F.1
  have hb := F.2.1
  have hKK := F.2.2.2.2.2.2.2.2.1
  have hl : lv_has ls 4 [(0, .ref lq), (1, .int a1), (2, .ref ol)] := hl
  obtain ⟨fs, h0⟩ := h0
  generalize hH : s.heap = H at hP ⊢
  have hS : va_S A s.heap H [] := by rw [← hH]; exact va_S.rf
  generalize hLo : ([] : List Loc) = locs at hS ⊢
  refine lv_aload_n hx hb dL_goBack_0 rfl (lv_at hl 2 rfl) ?_
  refine lv_iconst (v := nI 0) hx hb dL_goBack_1 (by decide) ?_
  refine lv_aload_n hx hb dL_goBack_2 rfl (lv_at hl 0 rfl) ?_
  refine lv_iload_n hx hb dL_goBack_3 rfl (lv_at hl 1 rfl) ?_
  refine gXrun F (gRunVx (own := RL) (C := RX3) (ci := 3) (bytes := cX3_goBack) (n := 1) (As := [.int a1]) (rest := [.int (nI 0), .ref ol]) F hZ hS (hM H.size) gL_goBack_X3_goBack rfl rfl hrc hrs (by decide +kernel) rfl ⟨Nat.le_refl _, Nat.le_refl _⟩ hP hD (lit := wv) (wt := [outc G ol f]) (wc := wv) (isC := List.range wv.length) (gRange wv) (gRange_nd _) rfl h0 rfl hl.1 (Nat.le_of_ble_eq_true rfl) dL_goBack_4 ⟨by show 0 + mc ≤ mc; omega, by show 0 + ms ≤ ms; omega⟩) hP hD hS (lit := wv) (wt := [outc G ol f]) (wc := wv) (wr := []) (isC := List.range wv.length) (isR := []) (gRange wv) rfl rfl (fun _ h_ => by cases h_) (fun ce q9 u H locs hp hP hD hS hce hcv hcl => ?_)
  have hP : va_P G.1 vwCl (u ++ [outc G ol f]) H := hP
  have hD : va_D A (u ++ [outc G ol f]) := hD
  refine vx_catch (own := RL) (name := gIS) (E := gIS) F.2.2.2.2.2.1 [⟨0, 9, 12, 13⟩] ⟨0, 9, 15, 28⟩ [] (by rw [htb]; rfl) (List.forall_mem_cons.mpr ⟨Or.inr ⟨by decide, gIO, F.2.2.2.2.2.2.1 (.classLink RL 13 gIO) (by decide +kernel), hKK.2.2.2.2.2.2.1 (gIS, gIO) (by decide +kernel)⟩, fun _ h_ => by cases h_⟩) rfl (by decide) (F.2.2.2.2.2.2.1 (.classLink RL 28 gIS) (by decide +kernel)) (va_Nw.use rfl (hKK.2.2.2.2.2.1 (gIS, gIS) (by decide +kernel))) hce hcv hcl ?_
  refine lv_astore_n (lv' := [(3, .ref q9), (0, .ref lq), (1, .int a1), (2, .ref ol)]) hx hb dL_goBack_15 rfl hl (by decide) rfl (fun ls hl => ?_)
  refine lv_iconst (v := nI 2) hx hb dL_goBack_16 (by decide) ?_
  exact gRi F dL_goBack_17 rfl u ⟨rfl, hp⟩ hP hD hS (by omega) (by omega)

set_option maxHeartbeats 4000000 in
set_option maxRecDepth 100000 in
theorem wx1_ownerAt (l : Launch) (G : gG) (lq ol : Nat) {wv : va_W} {f : Nat → Int64} {rm : Room} {mc ms : Nat} {post : va_W → Prop} (a1 a2 : Int32) (h0 : ∃ fs, wv[0]? = some (lq, .inr (3, fs))) (hM : gMx (S := va_W) l yX3_ownerAt wsX3_ownerAt rm G [.ref lq, .int a1, .int a2] wv gIO post (fun u => u) mc ms) (hrc : rm.cells = mc) (hrs : rm.slots = ms) : gMw (S := va_W) l yL_ownerAt wsL_ownerAt { frames := rm.frames + 1, cells := mc, slots := ms, locals := 8 + (3 + 11) + rm.locals } G [.ref lq, .int a1, .int a2, .ref ol] (wv ++ [outc G ol f]) (fun (r : Int32) (u : va_W) => r = nI 1 ∧ post u) (fun (u : va_W) => u ++ [outc G ol f]) mc ms := by
  refine gMw_mk (cc := cL_ownerAt) (nL := 5) (ret := some .int) (hh := [(0, 10, 13, 13)]) (Qc := fun A => va_Qi (S := va_W) (fun (r : Int32) (u : va_W) => r = nI 1 ∧ post u) (gB G A (fun (u : va_W) => u ++ [outc G ol f])) A) (by decide) rfl (Nat.le_of_ble_eq_true rfl) ?_
  intro p e s m args below meth c A F htb hZ ls hl hP hD hS
  have hx := F.1
  have hb := F.2.1
  have hKK := F.2.2.2.2.2.2.2.2.1
  have hl : lv_has ls 5 [(0, .ref lq), (1, .int a1), (2, .int a2), (3, .ref ol)] := hl
  obtain ⟨fs, h0⟩ := h0
  generalize hH : s.heap = H at hP ⊢
  have hS : va_S A s.heap H [] := by rw [← hH]; exact va_S.rf
  generalize hLo : ([] : List Loc) = locs at hS ⊢
  refine lv_aload_n hx hb dL_ownerAt_0 rfl (lv_at hl 3 rfl) ?_
  refine lv_iconst (v := nI 0) hx hb dL_ownerAt_1 (by decide) ?_
  refine lv_aload_n hx hb dL_ownerAt_2 rfl (lv_at hl 0 rfl) ?_
  refine lv_iload_n hx hb dL_ownerAt_3 rfl (lv_at hl 1 rfl) ?_
  refine lv_iload_n hx hb dL_ownerAt_4 rfl (lv_at hl 2 rfl) ?_
  refine gXrun F (gRunVx (own := RL) (C := RX3) (ci := 3) (bytes := cX3_ownerAt) (n := 2) (As := [.int a1, .int a2]) (rest := [.int (nI 0), .ref ol]) F hZ hS (hM H.size) gL_ownerAt_X3_ownerAt rfl rfl hrc hrs (by decide +kernel) rfl ⟨Nat.le_refl _, Nat.le_refl _⟩ hP hD (lit := wv) (wt := [outc G ol f]) (wc := wv) (isC := List.range wv.length) (gRange wv) (gRange_nd _) rfl h0 rfl hl.1 (Nat.le_of_ble_eq_true rfl) dL_ownerAt_5 ⟨by show 0 + mc ≤ mc; omega, by show 0 + ms ≤ ms; omega⟩) hP hD hS (lit := wv) (wt := [outc G ol f]) (wc := wv) (wr := []) (isC := List.range wv.length) (isR := []) (gRange wv) rfl rfl (fun _ h_ => by cases h_) (fun ce q9 u H locs hp hP hD hS hce hcv hcl => ?_)
  have hP : va_P G.1 vwCl (u ++ [outc G ol f]) H := hP
  have hD : va_D A (u ++ [outc G ol f]) := hD
  refine vx_catch (own := RL) (name := gIO) (E := gIO) F.2.2.2.2.2.1 [] ⟨0, 10, 13, 13⟩ [] (by rw [htb]; rfl) (fun _ h_ => by cases h_) rfl (by decide) (F.2.2.2.2.2.2.1 (.classLink RL 13 gIO) (by decide +kernel)) (va_Nw.use rfl (hKK.2.2.2.2.2.1 (gIO, gIO) (by decide +kernel))) hce hcv hcl ?_
  refine lv_astore (lv' := [(4, .ref q9), (0, .ref lq), (1, .int a1), (2, .int a2), (3, .ref ol)]) hx hb dL_ownerAt_13 hl (by decide) rfl (fun ls hl => ?_)
  refine lv_iconst (v := nI 1) hx hb dL_ownerAt_15 (by decide) ?_
  exact gRi F dL_ownerAt_16 rfl u ⟨rfl, hp⟩ hP hD hS (by omega) (by omega)

set_option maxHeartbeats 4000000 in
set_option maxRecDepth 100000 in
theorem wx1_heightAt (l : Launch) (G : gG) (lq ol : Nat) {wv : va_W} {f : Nat → Int64} {rm : Room} {mc ms : Nat} {post : va_W → Prop} (a1 a2 : Int32) (h0 : ∃ fs, wv[0]? = some (lq, .inr (3, fs))) (hM : gMx (S := va_W) l yX3_heightAt wsX3_heightAt rm G [.ref lq, .int a1, .int a2] wv gIO post (fun u => u) mc ms) (hrc : rm.cells = mc) (hrs : rm.slots = ms) : gMw (S := va_W) l yL_heightAt wsL_heightAt { frames := rm.frames + 1, cells := mc, slots := ms, locals := 8 + (3 + 11) + rm.locals } G [.ref lq, .int a1, .int a2, .ref ol] (wv ++ [outc G ol f]) (fun (r : Int32) (u : va_W) => r = nI 1 ∧ post u) (fun (u : va_W) => u ++ [outc G ol f]) mc ms := by
  refine gMw_mk (cc := cL_heightAt) (nL := 5) (ret := some .int) (hh := [(0, 10, 13, 13)]) (Qc := fun A => va_Qi (S := va_W) (fun (r : Int32) (u : va_W) => r = nI 1 ∧ post u) (gB G A (fun (u : va_W) => u ++ [outc G ol f])) A) (by decide) rfl (Nat.le_of_ble_eq_true rfl) ?_
  intro p e s m args below meth c A F htb hZ ls hl hP hD hS
  have hx := F.1
  have hb := F.2.1
  have hKK := F.2.2.2.2.2.2.2.2.1
  have hl : lv_has ls 5 [(0, .ref lq), (1, .int a1), (2, .int a2), (3, .ref ol)] := hl
  obtain ⟨fs, h0⟩ := h0
  generalize hH : s.heap = H at hP ⊢
  have hS : va_S A s.heap H [] := by rw [← hH]; exact va_S.rf
  generalize hLo : ([] : List Loc) = locs at hS ⊢
  refine lv_aload_n hx hb dL_heightAt_0 rfl (lv_at hl 3 rfl) ?_
  refine lv_iconst (v := nI 0) hx hb dL_heightAt_1 (by decide) ?_
  refine lv_aload_n hx hb dL_heightAt_2 rfl (lv_at hl 0 rfl) ?_
  refine lv_iload_n hx hb dL_heightAt_3 rfl (lv_at hl 1 rfl) ?_
  refine lv_iload_n hx hb dL_heightAt_4 rfl (lv_at hl 2 rfl) ?_
  refine gXrun F (gRunVx (own := RL) (C := RX3) (ci := 3) (bytes := cX3_heightAt) (n := 2) (As := [.int a1, .int a2]) (rest := [.int (nI 0), .ref ol]) F hZ hS (hM H.size) gL_heightAt_X3_heightAt rfl rfl hrc hrs (by decide +kernel) rfl ⟨Nat.le_refl _, Nat.le_refl _⟩ hP hD (lit := wv) (wt := [outc G ol f]) (wc := wv) (isC := List.range wv.length) (gRange wv) (gRange_nd _) rfl h0 rfl hl.1 (Nat.le_of_ble_eq_true rfl) dL_heightAt_5 ⟨by show 0 + mc ≤ mc; omega, by show 0 + ms ≤ ms; omega⟩) hP hD hS (lit := wv) (wt := [outc G ol f]) (wc := wv) (wr := []) (isC := List.range wv.length) (isR := []) (gRange wv) rfl rfl (fun _ h_ => by cases h_) (fun ce q9 u H locs hp hP hD hS hce hcv hcl => ?_)
  have hP : va_P G.1 vwCl (u ++ [outc G ol f]) H := hP
  have hD : va_D A (u ++ [outc G ol f]) := hD
  refine vx_catch (own := RL) (name := gIO) (E := gIO) F.2.2.2.2.2.1 [] ⟨0, 10, 13, 13⟩ [] (by rw [htb]; rfl) (fun _ h_ => by cases h_) rfl (by decide) (F.2.2.2.2.2.2.1 (.classLink RL 13 gIO) (by decide +kernel)) (va_Nw.use rfl (hKK.2.2.2.2.2.1 (gIO, gIO) (by decide +kernel))) hce hcv hcl ?_
  refine lv_astore (lv' := [(4, .ref q9), (0, .ref lq), (1, .int a1), (2, .int a2), (3, .ref ol)]) hx hb dL_heightAt_13 hl (by decide) rfl (fun ls hl => ?_)
  refine lv_iconst (v := nI 1) hx hb dL_heightAt_15 (by decide) ?_
  exact gRi F dL_heightAt_16 rfl u ⟨rfl, hp⟩ hP hD hS (by omega) (by omega)

set_option maxHeartbeats 4000000 in
set_option maxRecDepth 100000 in
theorem wx1_plotSizeAt (l : Launch) (G : gG) (lq ol : Nat) {wv : va_W} {f : Nat → Int64} {rm : Room} {mc ms : Nat} {post : va_W → Prop} (a1 a2 : Int32) (h0 : ∃ fs, wv[0]? = some (lq, .inr (3, fs))) (hM : gMx (S := va_W) l yX3_plotSizeAt wsX3_plotSizeAt rm G [.ref lq, .int a1, .int a2] wv gIO post (fun u => u) mc ms) (hrc : rm.cells = mc) (hrs : rm.slots = ms) : gMw (S := va_W) l yL_plotSizeAt wsL_plotSizeAt { frames := rm.frames + 1, cells := mc, slots := ms, locals := 8 + (3 + 11) + rm.locals } G [.ref lq, .int a1, .int a2, .ref ol] (wv ++ [outc G ol f]) (fun (r : Int32) (u : va_W) => r = nI 1 ∧ post u) (fun (u : va_W) => u ++ [outc G ol f]) mc ms := by
  refine gMw_mk (cc := cL_plotSizeAt) (nL := 5) (ret := some .int) (hh := [(0, 10, 13, 13)]) (Qc := fun A => va_Qi (S := va_W) (fun (r : Int32) (u : va_W) => r = nI 1 ∧ post u) (gB G A (fun (u : va_W) => u ++ [outc G ol f])) A) (by decide) rfl (Nat.le_of_ble_eq_true rfl) ?_
  intro p e s m args below meth c A F htb hZ ls hl hP hD hS
  have hx := F.1
  have hb := F.2.1
  have hKK := F.2.2.2.2.2.2.2.2.1
  have hl : lv_has ls 5 [(0, .ref lq), (1, .int a1), (2, .int a2), (3, .ref ol)] := hl
  obtain ⟨fs, h0⟩ := h0
  generalize hH : s.heap = H at hP ⊢
  have hS : va_S A s.heap H [] := by rw [← hH]; exact va_S.rf
  generalize hLo : ([] : List Loc) = locs at hS ⊢
  refine lv_aload_n hx hb dL_plotSizeAt_0 rfl (lv_at hl 3 rfl) ?_
  refine lv_iconst (v := nI 0) hx hb dL_plotSizeAt_1 (by decide) ?_
  refine lv_aload_n hx hb dL_plotSizeAt_2 rfl (lv_at hl 0 rfl) ?_
  refine lv_iload_n hx hb dL_plotSizeAt_3 rfl (lv_at hl 1 rfl) ?_
  refine lv_iload_n hx hb dL_plotSizeAt_4 rfl (lv_at hl 2 rfl) ?_
  refine gXrun F (gRunVx (own := RL) (C := RX3) (ci := 3) (bytes := cX3_plotSizeAt) (n := 2) (As := [.int a1, .int a2]) (rest := [.int (nI 0), .ref ol]) F hZ hS (hM H.size) gL_plotSizeAt_X3_plotSizeAt rfl rfl hrc hrs (by decide +kernel) rfl ⟨Nat.le_refl _, Nat.le_refl _⟩ hP hD (lit := wv) (wt := [outc G ol f]) (wc := wv) (isC := List.range wv.length) (gRange wv) (gRange_nd _) rfl h0 rfl hl.1 (Nat.le_of_ble_eq_true rfl) dL_plotSizeAt_5 ⟨by show 0 + mc ≤ mc; omega, by show 0 + ms ≤ ms; omega⟩) hP hD hS (lit := wv) (wt := [outc G ol f]) (wc := wv) (wr := []) (isC := List.range wv.length) (isR := []) (gRange wv) rfl rfl (fun _ h_ => by cases h_) (fun ce q9 u H locs hp hP hD hS hce hcv hcl => ?_)
  have hP : va_P G.1 vwCl (u ++ [outc G ol f]) H := hP
  have hD : va_D A (u ++ [outc G ol f]) := hD
  refine vx_catch (own := RL) (name := gIO) (E := gIO) F.2.2.2.2.2.1 [] ⟨0, 10, 13, 13⟩ [] (by rw [htb]; rfl) (fun _ h_ => by cases h_) rfl (by decide) (F.2.2.2.2.2.2.1 (.classLink RL 13 gIO) (by decide +kernel)) (va_Nw.use rfl (hKK.2.2.2.2.2.1 (gIO, gIO) (by decide +kernel))) hce hcv hcl ?_
  refine lv_astore (lv' := [(4, .ref q9), (0, .ref lq), (1, .int a1), (2, .int a2), (3, .ref ol)]) hx hb dL_plotSizeAt_13 hl (by decide) rfl (fun ls hl => ?_)
  refine lv_iconst (v := nI 1) hx hb dL_plotSizeAt_15 (by decide) ?_
  exact gRi F dL_plotSizeAt_16 rfl u ⟨rfl, hp⟩ hP hD hS (by omega) (by omega)

set_option maxHeartbeats 4000000 in
set_option maxRecDepth 100000 in
theorem wx1_plotRankAt (l : Launch) (G : gG) (lq ol : Nat) {wv : va_W} {f : Nat → Int64} {rm : Room} {mc ms : Nat} {post : va_W → Prop} (a1 a2 : Int32) (h0 : ∃ fs, wv[0]? = some (lq, .inr (3, fs))) (hM : gMx (S := va_W) l yX3_plotRankAt wsX3_plotRankAt rm G [.ref lq, .int a1, .int a2] wv gIO post (fun u => u) mc ms) (hrc : rm.cells = mc) (hrs : rm.slots = ms) : gMw (S := va_W) l yL_plotRankAt wsL_plotRankAt { frames := rm.frames + 1, cells := mc, slots := ms, locals := 8 + (3 + 11) + rm.locals } G [.ref lq, .int a1, .int a2, .ref ol] (wv ++ [outc G ol f]) (fun (r : Int32) (u : va_W) => r = nI 1 ∧ post u) (fun (u : va_W) => u ++ [outc G ol f]) mc ms := by
  refine gMw_mk (cc := cL_plotRankAt) (nL := 5) (ret := some .int) (hh := [(0, 10, 13, 13)]) (Qc := fun A => va_Qi (S := va_W) (fun (r : Int32) (u : va_W) => r = nI 1 ∧ post u) (gB G A (fun (u : va_W) => u ++ [outc G ol f])) A) (by decide) rfl (Nat.le_of_ble_eq_true rfl) ?_
  intro p e s m args below meth c A F htb hZ ls hl hP hD hS
  have hx := F.1
  have hb := F.2.1
  have hKK := F.2.2.2.2.2.2.2.2.1
  have hl : lv_has ls 5 [(0, .ref lq), (1, .int a1), (2, .int a2), (3, .ref ol)] := hl
  obtain ⟨fs, h0⟩ := h0
  generalize hH : s.heap = H at hP ⊢
  have hS : va_S A s.heap H [] := by rw [← hH]; exact va_S.rf
  generalize hLo : ([] : List Loc) = locs at hS ⊢
  refine lv_aload_n hx hb dL_plotRankAt_0 rfl (lv_at hl 3 rfl) ?_
  refine lv_iconst (v := nI 0) hx hb dL_plotRankAt_1 (by decide) ?_
  refine lv_aload_n hx hb dL_plotRankAt_2 rfl (lv_at hl 0 rfl) ?_
  refine lv_iload_n hx hb dL_plotRankAt_3 rfl (lv_at hl 1 rfl) ?_
  refine lv_iload_n hx hb dL_plotRankAt_4 rfl (lv_at hl 2 rfl) ?_
  refine gXrun F (gRunVx (own := RL) (C := RX3) (ci := 3) (bytes := cX3_plotRankAt) (n := 2) (As := [.int a1, .int a2]) (rest := [.int (nI 0), .ref ol]) F hZ hS (hM H.size) gL_plotRankAt_X3_plotRankAt rfl rfl hrc hrs (by decide +kernel) rfl ⟨Nat.le_refl _, Nat.le_refl _⟩ hP hD (lit := wv) (wt := [outc G ol f]) (wc := wv) (isC := List.range wv.length) (gRange wv) (gRange_nd _) rfl h0 rfl hl.1 (Nat.le_of_ble_eq_true rfl) dL_plotRankAt_5 ⟨by show 0 + mc ≤ mc; omega, by show 0 + ms ≤ ms; omega⟩) hP hD hS (lit := wv) (wt := [outc G ol f]) (wc := wv) (wr := []) (isC := List.range wv.length) (isR := []) (gRange wv) rfl rfl (fun _ h_ => by cases h_) (fun ce q9 u H locs hp hP hD hS hce hcv hcl => ?_)
  have hP : va_P G.1 vwCl (u ++ [outc G ol f]) H := hP
  have hD : va_D A (u ++ [outc G ol f]) := hD
  refine vx_catch (own := RL) (name := gIO) (E := gIO) F.2.2.2.2.2.1 [] ⟨0, 10, 13, 13⟩ [] (by rw [htb]; rfl) (fun _ h_ => by cases h_) rfl (by decide) (F.2.2.2.2.2.2.1 (.classLink RL 13 gIO) (by decide +kernel)) (va_Nw.use rfl (hKK.2.2.2.2.2.1 (gIO, gIO) (by decide +kernel))) hce hcv hcl ?_
  refine lv_astore (lv' := [(4, .ref q9), (0, .ref lq), (1, .int a1), (2, .int a2), (3, .ref ol)]) hx hb dL_plotRankAt_13 hl (by decide) rfl (fun ls hl => ?_)
  refine lv_iconst (v := nI 1) hx hb dL_plotRankAt_15 (by decide) ?_
  exact gRi F dL_plotRankAt_16 rfl u ⟨rfl, hp⟩ hP hD hS (by omega) (by omega)

set_option maxHeartbeats 4000000 in
set_option maxRecDepth 100000 in
theorem wx1_plotPriceAt (l : Launch) (G : gG) (lq ol : Nat) {wv : va_W} {f : Nat → Int64} {rm : Room} {mc ms : Nat} {post : va_W → Prop} (a1 a2 : Int32) (h0 : ∃ fs, wv[0]? = some (lq, .inr (3, fs))) (hM : gMx (S := va_W) l yX3_plotPriceAt wsX3_plotPriceAt rm G [.ref lq, .int a1, .int a2] wv gIO post (fun u => u) mc ms) (hrc : rm.cells = mc) (hrs : rm.slots = ms) : gMw (S := va_W) l yL_plotPriceAt wsL_plotPriceAt { frames := rm.frames + 1, cells := mc, slots := ms, locals := 8 + (3 + 11) + rm.locals } G [.ref lq, .int a1, .int a2, .ref ol] (wv ++ [outc G ol f]) (fun (r : Int32) (u : va_W) => r = nI 1 ∧ post u) (fun (u : va_W) => u ++ [outc G ol f]) mc ms := by
  refine gMw_mk (cc := cL_plotPriceAt) (nL := 5) (ret := some .int) (hh := [(0, 10, 13, 13)]) (Qc := fun A => va_Qi (S := va_W) (fun (r : Int32) (u : va_W) => r = nI 1 ∧ post u) (gB G A (fun (u : va_W) => u ++ [outc G ol f])) A) (by decide) rfl (Nat.le_of_ble_eq_true rfl) ?_
  intro p e s m args below meth c A F htb hZ ls hl hP hD hS
  have hx := F.1
  have hb := F.2.1
  have hKK := F.2.2.2.2.2.2.2.2.1
  have hl : lv_has ls 5 [(0, .ref lq), (1, .int a1), (2, .int a2), (3, .ref ol)] := hl
  obtain ⟨fs, h0⟩ := h0
  generalize hH : s.heap = H at hP ⊢
  have hS : va_S A s.heap H [] := by rw [← hH]; exact va_S.rf
  generalize hLo : ([] : List Loc) = locs at hS ⊢
  refine lv_aload_n hx hb dL_plotPriceAt_0 rfl (lv_at hl 3 rfl) ?_
  refine lv_iconst (v := nI 0) hx hb dL_plotPriceAt_1 (by decide) ?_
  refine lv_aload_n hx hb dL_plotPriceAt_2 rfl (lv_at hl 0 rfl) ?_
  refine lv_iload_n hx hb dL_plotPriceAt_3 rfl (lv_at hl 1 rfl) ?_
  refine lv_iload_n hx hb dL_plotPriceAt_4 rfl (lv_at hl 2 rfl) ?_
  refine gXrun F (gRunVx (own := RL) (C := RX3) (ci := 3) (bytes := cX3_plotPriceAt) (n := 2) (As := [.int a1, .int a2]) (rest := [.int (nI 0), .ref ol]) F hZ hS (hM H.size) gL_plotPriceAt_X3_plotPriceAt rfl rfl hrc hrs (by decide +kernel) rfl ⟨Nat.le_refl _, Nat.le_refl _⟩ hP hD (lit := wv) (wt := [outc G ol f]) (wc := wv) (isC := List.range wv.length) (gRange wv) (gRange_nd _) rfl h0 rfl hl.1 (Nat.le_of_ble_eq_true rfl) dL_plotPriceAt_5 ⟨by show 0 + mc ≤ mc; omega, by show 0 + ms ≤ ms; omega⟩) hP hD hS (lit := wv) (wt := [outc G ol f]) (wc := wv) (wr := []) (isC := List.range wv.length) (isR := []) (gRange wv) rfl rfl (fun _ h_ => by cases h_) (fun ce q9 u H locs hp hP hD hS hce hcv hcl => ?_)
  have hP : va_P G.1 vwCl (u ++ [outc G ol f]) H := hP
  have hD : va_D A (u ++ [outc G ol f]) := hD
  refine vx_catch (own := RL) (name := gIO) (E := gIO) F.2.2.2.2.2.1 [] ⟨0, 10, 13, 13⟩ [] (by rw [htb]; rfl) (fun _ h_ => by cases h_) rfl (by decide) (F.2.2.2.2.2.2.1 (.classLink RL 13 gIO) (by decide +kernel)) (va_Nw.use rfl (hKK.2.2.2.2.2.1 (gIO, gIO) (by decide +kernel))) hce hcv hcl ?_
  refine lv_astore (lv' := [(4, .ref q9), (0, .ref lq), (1, .int a1), (2, .int a2), (3, .ref ol)]) hx hb dL_plotPriceAt_13 hl (by decide) rfl (fun ls hl => ?_)
  refine lv_iconst (v := nI 1) hx hb dL_plotPriceAt_15 (by decide) ?_
  exact gRi F dL_plotPriceAt_16 rfl u ⟨rfl, hp⟩ hP hD hS (by omega) (by omega)

set_option maxHeartbeats 4000000 in
set_option maxRecDepth 100000 in
theorem wx1_plotOwner (l : Launch) (G : gG) (lq ol : Nat) {wv : va_W} {f : Nat → Int64} {rm : Room} {mc ms : Nat} {post : va_W → Prop} (a1 : Int32) (h0 : ∃ fs, wv[0]? = some (lq, .inr (3, fs))) (hM : gMx (S := va_W) l yX3_plotOwner wsX3_plotOwner rm G [.ref lq, .int a1] wv gIO post (fun u => u) mc ms) (hrc : rm.cells = mc) (hrs : rm.slots = ms) : gMw (S := va_W) l yL_plotOwner wsL_plotOwner { frames := rm.frames + 1, cells := mc, slots := ms, locals := 8 + (2 + 11) + rm.locals } G [.ref lq, .int a1, .ref ol] (wv ++ [outc G ol f]) (fun (r : Int32) (u : va_W) => r = nI 1 ∧ post u) (fun (u : va_W) => u ++ [outc G ol f]) mc ms := by
  refine gMw_mk (cc := cL_plotOwner) (nL := 4) (ret := some .int) (hh := [(0, 9, 12, 13)]) (Qc := fun A => va_Qi (S := va_W) (fun (r : Int32) (u : va_W) => r = nI 1 ∧ post u) (gB G A (fun (u : va_W) => u ++ [outc G ol f])) A) (by decide) rfl (Nat.le_of_ble_eq_true rfl) ?_
  intro p e s m args below meth c A F htb hZ ls hl hP hD hS
  have hx := F.1
  have hb := F.2.1
  have hKK := F.2.2.2.2.2.2.2.2.1
  have hl : lv_has ls 4 [(0, .ref lq), (1, .int a1), (2, .ref ol)] := hl
  obtain ⟨fs, h0⟩ := h0
  generalize hH : s.heap = H at hP ⊢
  have hS : va_S A s.heap H [] := by rw [← hH]; exact va_S.rf
  generalize hLo : ([] : List Loc) = locs at hS ⊢
  refine lv_aload_n hx hb dL_plotOwner_0 rfl (lv_at hl 2 rfl) ?_
  refine lv_iconst (v := nI 0) hx hb dL_plotOwner_1 (by decide) ?_
  refine lv_aload_n hx hb dL_plotOwner_2 rfl (lv_at hl 0 rfl) ?_
  refine lv_iload_n hx hb dL_plotOwner_3 rfl (lv_at hl 1 rfl) ?_
  refine gXrun F (gRunVx (own := RL) (C := RX3) (ci := 3) (bytes := cX3_plotOwner) (n := 1) (As := [.int a1]) (rest := [.int (nI 0), .ref ol]) F hZ hS (hM H.size) gL_plotOwner_X3_plotOwner rfl rfl hrc hrs (by decide +kernel) rfl ⟨Nat.le_refl _, Nat.le_refl _⟩ hP hD (lit := wv) (wt := [outc G ol f]) (wc := wv) (isC := List.range wv.length) (gRange wv) (gRange_nd _) rfl h0 rfl hl.1 (Nat.le_of_ble_eq_true rfl) dL_plotOwner_4 ⟨by show 0 + mc ≤ mc; omega, by show 0 + ms ≤ ms; omega⟩) hP hD hS (lit := wv) (wt := [outc G ol f]) (wc := wv) (wr := []) (isC := List.range wv.length) (isR := []) (gRange wv) rfl rfl (fun _ h_ => by cases h_) (fun ce q9 u H locs hp hP hD hS hce hcv hcl => ?_)
  have hP : va_P G.1 vwCl (u ++ [outc G ol f]) H := hP
  have hD : va_D A (u ++ [outc G ol f]) := hD
  refine vx_catch (own := RL) (name := gIO) (E := gIO) F.2.2.2.2.2.1 [] ⟨0, 9, 12, 13⟩ [] (by rw [htb]; rfl) (fun _ h_ => by cases h_) rfl (by decide) (F.2.2.2.2.2.2.1 (.classLink RL 13 gIO) (by decide +kernel)) (va_Nw.use rfl (hKK.2.2.2.2.2.1 (gIO, gIO) (by decide +kernel))) hce hcv hcl ?_
  refine lv_astore_n (lv' := [(3, .ref q9), (0, .ref lq), (1, .int a1), (2, .ref ol)]) hx hb dL_plotOwner_12 rfl hl (by decide) rfl (fun ls hl => ?_)
  refine lv_iconst (v := nI 1) hx hb dL_plotOwner_13 (by decide) ?_
  exact gRi F dL_plotOwner_14 rfl u ⟨rfl, hp⟩ hP hD hS (by omega) (by omega)

set_option maxHeartbeats 4000000 in
set_option maxRecDepth 100000 in
theorem wx1_plotX (l : Launch) (G : gG) (lq ol : Nat) {wv : va_W} {f : Nat → Int64} {rm : Room} {mc ms : Nat} {post : va_W → Prop} (a1 : Int32) (h0 : ∃ fs, wv[0]? = some (lq, .inr (3, fs))) (hM : gMx (S := va_W) l yX3_plotX wsX3_plotX rm G [.ref lq, .int a1] wv gIO post (fun u => u) mc ms) (hrc : rm.cells = mc) (hrs : rm.slots = ms) : gMw (S := va_W) l yL_plotX wsL_plotX { frames := rm.frames + 1, cells := mc, slots := ms, locals := 8 + (2 + 11) + rm.locals } G [.ref lq, .int a1, .ref ol] (wv ++ [outc G ol f]) (fun (r : Int32) (u : va_W) => r = nI 1 ∧ post u) (fun (u : va_W) => u ++ [outc G ol f]) mc ms := by
  refine gMw_mk (cc := cL_plotX) (nL := 4) (ret := some .int) (hh := [(0, 9, 12, 13)]) (Qc := fun A => va_Qi (S := va_W) (fun (r : Int32) (u : va_W) => r = nI 1 ∧ post u) (gB G A (fun (u : va_W) => u ++ [outc G ol f])) A) (by decide) rfl (Nat.le_of_ble_eq_true rfl) ?_
  intro p e s m args below meth c A F htb hZ ls hl hP hD hS
  have hx := F.1
  have hb := F.2.1
  have hKK := F.2.2.2.2.2.2.2.2.1
  have hl : lv_has ls 4 [(0, .ref lq), (1, .int a1), (2, .ref ol)] := hl
  obtain ⟨fs, h0⟩ := h0
  generalize hH : s.heap = H at hP ⊢
  have hS : va_S A s.heap H [] := by rw [← hH]; exact va_S.rf
  generalize hLo : ([] : List Loc) = locs at hS ⊢
  refine lv_aload_n hx hb dL_plotX_0 rfl (lv_at hl 2 rfl) ?_
  refine lv_iconst (v := nI 0) hx hb dL_plotX_1 (by decide) ?_
  refine lv_aload_n hx hb dL_plotX_2 rfl (lv_at hl 0 rfl) ?_
  refine lv_iload_n hx hb dL_plotX_3 rfl (lv_at hl 1 rfl) ?_
  refine gXrun F (gRunVx (own := RL) (C := RX3) (ci := 3) (bytes := cX3_plotX) (n := 1) (As := [.int a1]) (rest := [.int (nI 0), .ref ol]) F hZ hS (hM H.size) gL_plotX_X3_plotX rfl rfl hrc hrs (by decide +kernel) rfl ⟨Nat.le_refl _, Nat.le_refl _⟩ hP hD (lit := wv) (wt := [outc G ol f]) (wc := wv) (isC := List.range wv.length) (gRange wv) (gRange_nd _) rfl h0 rfl hl.1 (Nat.le_of_ble_eq_true rfl) dL_plotX_4 ⟨by show 0 + mc ≤ mc; omega, by show 0 + ms ≤ ms; omega⟩) hP hD hS (lit := wv) (wt := [outc G ol f]) (wc := wv) (wr := []) (isC := List.range wv.length) (isR := []) (gRange wv) rfl rfl (fun _ h_ => by cases h_) (fun ce q9 u H locs hp hP hD hS hce hcv hcl => ?_)
  have hP : va_P G.1 vwCl (u ++ [outc G ol f]) H := hP
  have hD : va_D A (u ++ [outc G ol f]) := hD
  refine vx_catch (own := RL) (name := gIO) (E := gIO) F.2.2.2.2.2.1 [] ⟨0, 9, 12, 13⟩ [] (by rw [htb]; rfl) (fun _ h_ => by cases h_) rfl (by decide) (F.2.2.2.2.2.2.1 (.classLink RL 13 gIO) (by decide +kernel)) (va_Nw.use rfl (hKK.2.2.2.2.2.1 (gIO, gIO) (by decide +kernel))) hce hcv hcl ?_
  refine lv_astore_n (lv' := [(3, .ref q9), (0, .ref lq), (1, .int a1), (2, .ref ol)]) hx hb dL_plotX_12 rfl hl (by decide) rfl (fun ls hl => ?_)
  refine lv_iconst (v := nI 1) hx hb dL_plotX_13 (by decide) ?_
  exact gRi F dL_plotX_14 rfl u ⟨rfl, hp⟩ hP hD hS (by omega) (by omega)

set_option maxHeartbeats 4000000 in
set_option maxRecDepth 100000 in
theorem wx1_plotY (l : Launch) (G : gG) (lq ol : Nat) {wv : va_W} {f : Nat → Int64} {rm : Room} {mc ms : Nat} {post : va_W → Prop} (a1 : Int32) (h0 : ∃ fs, wv[0]? = some (lq, .inr (3, fs))) (hM : gMx (S := va_W) l yX3_plotY wsX3_plotY rm G [.ref lq, .int a1] wv gIO post (fun u => u) mc ms) (hrc : rm.cells = mc) (hrs : rm.slots = ms) : gMw (S := va_W) l yL_plotY wsL_plotY { frames := rm.frames + 1, cells := mc, slots := ms, locals := 8 + (2 + 11) + rm.locals } G [.ref lq, .int a1, .ref ol] (wv ++ [outc G ol f]) (fun (r : Int32) (u : va_W) => r = nI 1 ∧ post u) (fun (u : va_W) => u ++ [outc G ol f]) mc ms := by
  refine gMw_mk (cc := cL_plotY) (nL := 4) (ret := some .int) (hh := [(0, 9, 12, 13)]) (Qc := fun A => va_Qi (S := va_W) (fun (r : Int32) (u : va_W) => r = nI 1 ∧ post u) (gB G A (fun (u : va_W) => u ++ [outc G ol f])) A) (by decide) rfl (Nat.le_of_ble_eq_true rfl) ?_
  intro p e s m args below meth c A F htb hZ ls hl hP hD hS
  have hx := F.1
  have hb := F.2.1
  have hKK := F.2.2.2.2.2.2.2.2.1
  have hl : lv_has ls 4 [(0, .ref lq), (1, .int a1), (2, .ref ol)] := hl
  obtain ⟨fs, h0⟩ := h0
  generalize hH : s.heap = H at hP ⊢
  have hS : va_S A s.heap H [] := by rw [← hH]; exact va_S.rf
  generalize hLo : ([] : List Loc) = locs at hS ⊢
  refine lv_aload_n hx hb dL_plotY_0 rfl (lv_at hl 2 rfl) ?_
  refine lv_iconst (v := nI 0) hx hb dL_plotY_1 (by decide) ?_
  refine lv_aload_n hx hb dL_plotY_2 rfl (lv_at hl 0 rfl) ?_
  refine lv_iload_n hx hb dL_plotY_3 rfl (lv_at hl 1 rfl) ?_
  refine gXrun F (gRunVx (own := RL) (C := RX3) (ci := 3) (bytes := cX3_plotY) (n := 1) (As := [.int a1]) (rest := [.int (nI 0), .ref ol]) F hZ hS (hM H.size) gL_plotY_X3_plotY rfl rfl hrc hrs (by decide +kernel) rfl ⟨Nat.le_refl _, Nat.le_refl _⟩ hP hD (lit := wv) (wt := [outc G ol f]) (wc := wv) (isC := List.range wv.length) (gRange wv) (gRange_nd _) rfl h0 rfl hl.1 (Nat.le_of_ble_eq_true rfl) dL_plotY_4 ⟨by show 0 + mc ≤ mc; omega, by show 0 + ms ≤ ms; omega⟩) hP hD hS (lit := wv) (wt := [outc G ol f]) (wc := wv) (wr := []) (isC := List.range wv.length) (isR := []) (gRange wv) rfl rfl (fun _ h_ => by cases h_) (fun ce q9 u H locs hp hP hD hS hce hcv hcl => ?_)
  have hP : va_P G.1 vwCl (u ++ [outc G ol f]) H := hP
  have hD : va_D A (u ++ [outc G ol f]) := hD
  refine vx_catch (own := RL) (name := gIO) (E := gIO) F.2.2.2.2.2.1 [] ⟨0, 9, 12, 13⟩ [] (by rw [htb]; rfl) (fun _ h_ => by cases h_) rfl (by decide) (F.2.2.2.2.2.2.1 (.classLink RL 13 gIO) (by decide +kernel)) (va_Nw.use rfl (hKK.2.2.2.2.2.1 (gIO, gIO) (by decide +kernel))) hce hcv hcl ?_
  refine lv_astore_n (lv' := [(3, .ref q9), (0, .ref lq), (1, .int a1), (2, .ref ol)]) hx hb dL_plotY_12 rfl hl (by decide) rfl (fun ls hl => ?_)
  refine lv_iconst (v := nI 1) hx hb dL_plotY_13 (by decide) ?_
  exact gRi F dL_plotY_14 rfl u ⟨rfl, hp⟩ hP hD hS (by omega) (by omega)

set_option maxHeartbeats 4000000 in
set_option maxRecDepth 100000 in
theorem wx1_plotSize (l : Launch) (G : gG) (lq ol : Nat) {wv : va_W} {f : Nat → Int64} {rm : Room} {mc ms : Nat} {post : va_W → Prop} (a1 : Int32) (h0 : ∃ fs, wv[0]? = some (lq, .inr (3, fs))) (hM : gMx (S := va_W) l yX3_plotSize wsX3_plotSize rm G [.ref lq, .int a1] wv gIO post (fun u => u) mc ms) (hrc : rm.cells = mc) (hrs : rm.slots = ms) : gMw (S := va_W) l yL_plotSize wsL_plotSize { frames := rm.frames + 1, cells := mc, slots := ms, locals := 8 + (2 + 11) + rm.locals } G [.ref lq, .int a1, .ref ol] (wv ++ [outc G ol f]) (fun (r : Int32) (u : va_W) => r = nI 1 ∧ post u) (fun (u : va_W) => u ++ [outc G ol f]) mc ms := by
  refine gMw_mk (cc := cL_plotSize) (nL := 4) (ret := some .int) (hh := [(0, 9, 12, 13)]) (Qc := fun A => va_Qi (S := va_W) (fun (r : Int32) (u : va_W) => r = nI 1 ∧ post u) (gB G A (fun (u : va_W) => u ++ [outc G ol f])) A) (by decide) rfl (Nat.le_of_ble_eq_true rfl) ?_
  intro p e s m args below meth c A F htb hZ ls hl hP hD hS
  have hx := F.1
  have hb := F.2.1
  have hKK := F.2.2.2.2.2.2.2.2.1
  have hl : lv_has ls 4 [(0, .ref lq), (1, .int a1), (2, .ref ol)] := hl
  obtain ⟨fs, h0⟩ := h0
  generalize hH : s.heap = H at hP ⊢
  have hS : va_S A s.heap H [] := by rw [← hH]; exact va_S.rf
  generalize hLo : ([] : List Loc) = locs at hS ⊢
  refine lv_aload_n hx hb dL_plotSize_0 rfl (lv_at hl 2 rfl) ?_
  refine lv_iconst (v := nI 0) hx hb dL_plotSize_1 (by decide) ?_
  refine lv_aload_n hx hb dL_plotSize_2 rfl (lv_at hl 0 rfl) ?_
  refine lv_iload_n hx hb dL_plotSize_3 rfl (lv_at hl 1 rfl) ?_
  refine gXrun F (gRunVx (own := RL) (C := RX3) (ci := 3) (bytes := cX3_plotSize) (n := 1) (As := [.int a1]) (rest := [.int (nI 0), .ref ol]) F hZ hS (hM H.size) gL_plotSize_X3_plotSize rfl rfl hrc hrs (by decide +kernel) rfl ⟨Nat.le_refl _, Nat.le_refl _⟩ hP hD (lit := wv) (wt := [outc G ol f]) (wc := wv) (isC := List.range wv.length) (gRange wv) (gRange_nd _) rfl h0 rfl hl.1 (Nat.le_of_ble_eq_true rfl) dL_plotSize_4 ⟨by show 0 + mc ≤ mc; omega, by show 0 + ms ≤ ms; omega⟩) hP hD hS (lit := wv) (wt := [outc G ol f]) (wc := wv) (wr := []) (isC := List.range wv.length) (isR := []) (gRange wv) rfl rfl (fun _ h_ => by cases h_) (fun ce q9 u H locs hp hP hD hS hce hcv hcl => ?_)
  have hP : va_P G.1 vwCl (u ++ [outc G ol f]) H := hP
  have hD : va_D A (u ++ [outc G ol f]) := hD
  refine vx_catch (own := RL) (name := gIO) (E := gIO) F.2.2.2.2.2.1 [] ⟨0, 9, 12, 13⟩ [] (by rw [htb]; rfl) (fun _ h_ => by cases h_) rfl (by decide) (F.2.2.2.2.2.2.1 (.classLink RL 13 gIO) (by decide +kernel)) (va_Nw.use rfl (hKK.2.2.2.2.2.1 (gIO, gIO) (by decide +kernel))) hce hcv hcl ?_
  refine lv_astore_n (lv' := [(3, .ref q9), (0, .ref lq), (1, .int a1), (2, .ref ol)]) hx hb dL_plotSize_12 rfl hl (by decide) rfl (fun ls hl => ?_)
  refine lv_iconst (v := nI 1) hx hb dL_plotSize_13 (by decide) ?_
  exact gRi F dL_plotSize_14 rfl u ⟨rfl, hp⟩ hP hD hS (by omega) (by omega)

set_option maxHeartbeats 4000000 in
set_option maxRecDepth 100000 in
theorem wx1_plotsOf (l : Launch) (G : gG) (lq ol : Nat) {wv : va_W} {f : Nat → Int64} {rm : Room} {mc ms : Nat} {post : va_W → Prop} (a1 : Int32) (h0 : ∃ fs, wv[0]? = some (lq, .inr (3, fs))) (hM : gMx (S := va_W) l yX3_plotsOf wsX3_plotsOf rm G [.ref lq, .int a1] wv gIO post (fun u => u) mc ms) (hrc : rm.cells = mc) (hrs : rm.slots = ms) : gMw (S := va_W) l yL_plotsOf wsL_plotsOf { frames := rm.frames + 1, cells := mc, slots := ms, locals := 8 + (2 + 11) + rm.locals } G [.ref lq, .int a1, .ref ol] (wv ++ [outc G ol f]) (fun (r : Int32) (u : va_W) => r = nI 1 ∧ post u) (fun (u : va_W) => u ++ [outc G ol f]) mc ms := by
  refine gMw_mk (cc := cL_plotsOf) (nL := 4) (ret := some .int) (hh := [(0, 9, 12, 13)]) (Qc := fun A => va_Qi (S := va_W) (fun (r : Int32) (u : va_W) => r = nI 1 ∧ post u) (gB G A (fun (u : va_W) => u ++ [outc G ol f])) A) (by decide) rfl (Nat.le_of_ble_eq_true rfl) ?_
  intro p e s m args below meth c A F htb hZ ls hl hP hD hS
  have hx := F.1
  have hb := F.2.1
  have hKK := F.2.2.2.2.2.2.2.2.1
  have hl : lv_has ls 4 [(0, .ref lq), (1, .int a1), (2, .ref ol)] := hl
  obtain ⟨fs, h0⟩ := h0
  generalize hH : s.heap = H at hP ⊢
  have hS : va_S A s.heap H [] := by rw [← hH]; exact va_S.rf
  generalize hLo : ([] : List Loc) = locs at hS ⊢
  refine lv_aload_n hx hb dL_plotsOf_0 rfl (lv_at hl 2 rfl) ?_
  refine lv_iconst (v := nI 0) hx hb dL_plotsOf_1 (by decide) ?_
  refine lv_aload_n hx hb dL_plotsOf_2 rfl (lv_at hl 0 rfl) ?_
  refine lv_iload_n hx hb dL_plotsOf_3 rfl (lv_at hl 1 rfl) ?_
  refine gXrun F (gRunVx (own := RL) (C := RX3) (ci := 3) (bytes := cX3_plotsOf) (n := 1) (As := [.int a1]) (rest := [.int (nI 0), .ref ol]) F hZ hS (hM H.size) gL_plotsOf_X3_plotsOf rfl rfl hrc hrs (by decide +kernel) rfl ⟨Nat.le_refl _, Nat.le_refl _⟩ hP hD (lit := wv) (wt := [outc G ol f]) (wc := wv) (isC := List.range wv.length) (gRange wv) (gRange_nd _) rfl h0 rfl hl.1 (Nat.le_of_ble_eq_true rfl) dL_plotsOf_4 ⟨by show 0 + mc ≤ mc; omega, by show 0 + ms ≤ ms; omega⟩) hP hD hS (lit := wv) (wt := [outc G ol f]) (wc := wv) (wr := []) (isC := List.range wv.length) (isR := []) (gRange wv) rfl rfl (fun _ h_ => by cases h_) (fun ce q9 u H locs hp hP hD hS hce hcv hcl => ?_)
  have hP : va_P G.1 vwCl (u ++ [outc G ol f]) H := hP
  have hD : va_D A (u ++ [outc G ol f]) := hD
  refine vx_catch (own := RL) (name := gIO) (E := gIO) F.2.2.2.2.2.1 [] ⟨0, 9, 12, 13⟩ [] (by rw [htb]; rfl) (fun _ h_ => by cases h_) rfl (by decide) (F.2.2.2.2.2.2.1 (.classLink RL 13 gIO) (by decide +kernel)) (va_Nw.use rfl (hKK.2.2.2.2.2.1 (gIO, gIO) (by decide +kernel))) hce hcv hcl ?_
  refine lv_astore_n (lv' := [(3, .ref q9), (0, .ref lq), (1, .int a1), (2, .ref ol)]) hx hb dL_plotsOf_12 rfl hl (by decide) rfl (fun ls hl => ?_)
  refine lv_iconst (v := nI 1) hx hb dL_plotsOf_13 (by decide) ?_
  exact gRi F dL_plotsOf_14 rfl u ⟨rfl, hp⟩ hP hD hS (by omega) (by omega)

set_option maxHeartbeats 4000000 in
set_option maxRecDepth 100000 in
theorem wx1_areaByPlots (l : Launch) (G : gG) (lq ol : Nat) {wv : va_W} {f : Nat → Int64} {rm : Room} {mc ms : Nat} {post : va_W → Prop} (a1 : Int32) (h0 : ∃ fs, wv[0]? = some (lq, .inr (3, fs))) (hM : gMx (S := va_W) l yX3_areaByPlots wsX3_areaByPlots rm G [.ref lq, .int a1] wv gIO post (fun u => u) mc ms) (hrc : rm.cells = mc) (hrs : rm.slots = ms) : gMw (S := va_W) l yL_areaByPlots wsL_areaByPlots { frames := rm.frames + 1, cells := mc, slots := ms, locals := 8 + (2 + 11) + rm.locals } G [.ref lq, .int a1, .ref ol] (wv ++ [outc G ol f]) (fun (r : Int32) (u : va_W) => r = nI 1 ∧ post u) (fun (u : va_W) => u ++ [outc G ol f]) mc ms := by
  refine gMw_mk (cc := cL_areaByPlots) (nL := 4) (ret := some .int) (hh := [(0, 9, 12, 13)]) (Qc := fun A => va_Qi (S := va_W) (fun (r : Int32) (u : va_W) => r = nI 1 ∧ post u) (gB G A (fun (u : va_W) => u ++ [outc G ol f])) A) (by decide) rfl (Nat.le_of_ble_eq_true rfl) ?_
  intro p e s m args below meth c A F htb hZ ls hl hP hD hS
  have hx := F.1
  have hb := F.2.1
  have hKK := F.2.2.2.2.2.2.2.2.1
  have hl : lv_has ls 4 [(0, .ref lq), (1, .int a1), (2, .ref ol)] := hl
  obtain ⟨fs, h0⟩ := h0
  generalize hH : s.heap = H at hP ⊢
  have hS : va_S A s.heap H [] := by rw [← hH]; exact va_S.rf
  generalize hLo : ([] : List Loc) = locs at hS ⊢
  refine lv_aload_n hx hb dL_areaByPlots_0 rfl (lv_at hl 2 rfl) ?_
  refine lv_iconst (v := nI 0) hx hb dL_areaByPlots_1 (by decide) ?_
  refine lv_aload_n hx hb dL_areaByPlots_2 rfl (lv_at hl 0 rfl) ?_
  refine lv_iload_n hx hb dL_areaByPlots_3 rfl (lv_at hl 1 rfl) ?_
  refine gXrun F (gRunVx (own := RL) (C := RX3) (ci := 3) (bytes := cX3_areaByPlots) (n := 1) (As := [.int a1]) (rest := [.int (nI 0), .ref ol]) F hZ hS (hM H.size) gL_areaByPlots_X3_areaByPlots rfl rfl hrc hrs (by decide +kernel) rfl ⟨Nat.le_refl _, Nat.le_refl _⟩ hP hD (lit := wv) (wt := [outc G ol f]) (wc := wv) (isC := List.range wv.length) (gRange wv) (gRange_nd _) rfl h0 rfl hl.1 (Nat.le_of_ble_eq_true rfl) dL_areaByPlots_4 ⟨by show 0 + mc ≤ mc; omega, by show 0 + ms ≤ ms; omega⟩) hP hD hS (lit := wv) (wt := [outc G ol f]) (wc := wv) (wr := []) (isC := List.range wv.length) (isR := []) (gRange wv) rfl rfl (fun _ h_ => by cases h_) (fun ce q9 u H locs hp hP hD hS hce hcv hcl => ?_)
  have hP : va_P G.1 vwCl (u ++ [outc G ol f]) H := hP
  have hD : va_D A (u ++ [outc G ol f]) := hD
  refine vx_catch (own := RL) (name := gIO) (E := gIO) F.2.2.2.2.2.1 [] ⟨0, 9, 12, 13⟩ [] (by rw [htb]; rfl) (fun _ h_ => by cases h_) rfl (by decide) (F.2.2.2.2.2.2.1 (.classLink RL 13 gIO) (by decide +kernel)) (va_Nw.use rfl (hKK.2.2.2.2.2.1 (gIO, gIO) (by decide +kernel))) hce hcv hcl ?_
  refine lv_astore_n (lv' := [(3, .ref q9), (0, .ref lq), (1, .int a1), (2, .ref ol)]) hx hb dL_areaByPlots_12 rfl hl (by decide) rfl (fun ls hl => ?_)
  refine lv_iconst (v := nI 1) hx hb dL_areaByPlots_13 (by decide) ?_
  exact gRi F dL_areaByPlots_14 rfl u ⟨rfl, hp⟩ hP hD hS (by omega) (by omega)

set_option maxHeartbeats 4000000 in
set_option maxRecDepth 100000 in
theorem wx1_areaByCells (l : Launch) (G : gG) (lq ol : Nat) {wv : va_W} {f : Nat → Int64} {rm : Room} {mc ms : Nat} {post : va_W → Prop} (a1 : Int32) (h0 : ∃ fs, wv[0]? = some (lq, .inr (3, fs))) (hM : gMx (S := va_W) l yX3_areaByCells wsX3_areaByCells rm G [.ref lq, .int a1] wv gIO post (fun u => u) mc ms) (hrc : rm.cells = mc) (hrs : rm.slots = ms) : gMw (S := va_W) l yL_areaByCells wsL_areaByCells { frames := rm.frames + 1, cells := mc, slots := ms, locals := 8 + (2 + 11) + rm.locals } G [.ref lq, .int a1, .ref ol] (wv ++ [outc G ol f]) (fun (r : Int32) (u : va_W) => r = nI 1 ∧ post u) (fun (u : va_W) => u ++ [outc G ol f]) mc ms := by
  refine gMw_mk (cc := cL_areaByCells) (nL := 4) (ret := some .int) (hh := [(0, 9, 12, 13)]) (Qc := fun A => va_Qi (S := va_W) (fun (r : Int32) (u : va_W) => r = nI 1 ∧ post u) (gB G A (fun (u : va_W) => u ++ [outc G ol f])) A) (by decide) rfl (Nat.le_of_ble_eq_true rfl) ?_
  intro p e s m args below meth c A F htb hZ ls hl hP hD hS
  have hx := F.1
  have hb := F.2.1
  have hKK := F.2.2.2.2.2.2.2.2.1
  have hl : lv_has ls 4 [(0, .ref lq), (1, .int a1), (2, .ref ol)] := hl
  obtain ⟨fs, h0⟩ := h0
  generalize hH : s.heap = H at hP ⊢
  have hS : va_S A s.heap H [] := by rw [← hH]; exact va_S.rf
  generalize hLo : ([] : List Loc) = locs at hS ⊢
  refine lv_aload_n hx hb dL_areaByCells_0 rfl (lv_at hl 2 rfl) ?_
  refine lv_iconst (v := nI 0) hx hb dL_areaByCells_1 (by decide) ?_
  refine lv_aload_n hx hb dL_areaByCells_2 rfl (lv_at hl 0 rfl) ?_
  refine lv_iload_n hx hb dL_areaByCells_3 rfl (lv_at hl 1 rfl) ?_
  refine gXrun F (gRunVx (own := RL) (C := RX3) (ci := 3) (bytes := cX3_areaByCells) (n := 1) (As := [.int a1]) (rest := [.int (nI 0), .ref ol]) F hZ hS (hM H.size) gL_areaByCells_X3_areaByCells rfl rfl hrc hrs (by decide +kernel) rfl ⟨Nat.le_refl _, Nat.le_refl _⟩ hP hD (lit := wv) (wt := [outc G ol f]) (wc := wv) (isC := List.range wv.length) (gRange wv) (gRange_nd _) rfl h0 rfl hl.1 (Nat.le_of_ble_eq_true rfl) dL_areaByCells_4 ⟨by show 0 + mc ≤ mc; omega, by show 0 + ms ≤ ms; omega⟩) hP hD hS (lit := wv) (wt := [outc G ol f]) (wc := wv) (wr := []) (isC := List.range wv.length) (isR := []) (gRange wv) rfl rfl (fun _ h_ => by cases h_) (fun ce q9 u H locs hp hP hD hS hce hcv hcl => ?_)
  have hP : va_P G.1 vwCl (u ++ [outc G ol f]) H := hP
  have hD : va_D A (u ++ [outc G ol f]) := hD
  refine vx_catch (own := RL) (name := gIO) (E := gIO) F.2.2.2.2.2.1 [] ⟨0, 9, 12, 13⟩ [] (by rw [htb]; rfl) (fun _ h_ => by cases h_) rfl (by decide) (F.2.2.2.2.2.2.1 (.classLink RL 13 gIO) (by decide +kernel)) (va_Nw.use rfl (hKK.2.2.2.2.2.1 (gIO, gIO) (by decide +kernel))) hce hcv hcl ?_
  refine lv_astore_n (lv' := [(3, .ref q9), (0, .ref lq), (1, .int a1), (2, .ref ol)]) hx hb dL_areaByCells_12 rfl hl (by decide) rfl (fun ls hl => ?_)
  refine lv_iconst (v := nI 1) hx hb dL_areaByCells_13 (by decide) ?_
  exact gRi F dL_areaByCells_14 rfl u ⟨rfl, hp⟩ hP hD hS (by omega) (by omega)

set_option maxHeartbeats 4000000 in
set_option maxRecDepth 100000 in
theorem wx1_fenceByPlots (l : Launch) (G : gG) (lq ol : Nat) {wv : va_W} {f : Nat → Int64} {rm : Room} {mc ms : Nat} {post : va_W → Prop} (a1 : Int32) (h0 : ∃ fs, wv[0]? = some (lq, .inr (3, fs))) (hM : gMx (S := va_W) l yX3_fenceByPlots wsX3_fenceByPlots rm G [.ref lq, .int a1] wv gIO post (fun u => u) mc ms) (hrc : rm.cells = mc) (hrs : rm.slots = ms) : gMw (S := va_W) l yL_fenceByPlots wsL_fenceByPlots { frames := rm.frames + 1, cells := mc, slots := ms, locals := 8 + (2 + 11) + rm.locals } G [.ref lq, .int a1, .ref ol] (wv ++ [outc G ol f]) (fun (r : Int32) (u : va_W) => r = nI 1 ∧ post u) (fun (u : va_W) => u ++ [outc G ol f]) mc ms := by
  refine gMw_mk (cc := cL_fenceByPlots) (nL := 4) (ret := some .int) (hh := [(0, 9, 12, 13)]) (Qc := fun A => va_Qi (S := va_W) (fun (r : Int32) (u : va_W) => r = nI 1 ∧ post u) (gB G A (fun (u : va_W) => u ++ [outc G ol f])) A) (by decide) rfl (Nat.le_of_ble_eq_true rfl) ?_
  intro p e s m args below meth c A F htb hZ ls hl hP hD hS
  have hx := F.1
  have hb := F.2.1
  have hKK := F.2.2.2.2.2.2.2.2.1
  have hl : lv_has ls 4 [(0, .ref lq), (1, .int a1), (2, .ref ol)] := hl
  obtain ⟨fs, h0⟩ := h0
  generalize hH : s.heap = H at hP ⊢
  have hS : va_S A s.heap H [] := by rw [← hH]; exact va_S.rf
  generalize hLo : ([] : List Loc) = locs at hS ⊢
  refine lv_aload_n hx hb dL_fenceByPlots_0 rfl (lv_at hl 2 rfl) ?_
  refine lv_iconst (v := nI 0) hx hb dL_fenceByPlots_1 (by decide) ?_
  refine lv_aload_n hx hb dL_fenceByPlots_2 rfl (lv_at hl 0 rfl) ?_
  refine lv_iload_n hx hb dL_fenceByPlots_3 rfl (lv_at hl 1 rfl) ?_
  refine gXrun F (gRunVx (own := RL) (C := RX3) (ci := 3) (bytes := cX3_fenceByPlots) (n := 1) (As := [.int a1]) (rest := [.int (nI 0), .ref ol]) F hZ hS (hM H.size) gL_fenceByPlots_X3_fenceByPlots rfl rfl hrc hrs (by decide +kernel) rfl ⟨Nat.le_refl _, Nat.le_refl _⟩ hP hD (lit := wv) (wt := [outc G ol f]) (wc := wv) (isC := List.range wv.length) (gRange wv) (gRange_nd _) rfl h0 rfl hl.1 (Nat.le_of_ble_eq_true rfl) dL_fenceByPlots_4 ⟨by show 0 + mc ≤ mc; omega, by show 0 + ms ≤ ms; omega⟩) hP hD hS (lit := wv) (wt := [outc G ol f]) (wc := wv) (wr := []) (isC := List.range wv.length) (isR := []) (gRange wv) rfl rfl (fun _ h_ => by cases h_) (fun ce q9 u H locs hp hP hD hS hce hcv hcl => ?_)
  have hP : va_P G.1 vwCl (u ++ [outc G ol f]) H := hP
  have hD : va_D A (u ++ [outc G ol f]) := hD
  refine vx_catch (own := RL) (name := gIO) (E := gIO) F.2.2.2.2.2.1 [] ⟨0, 9, 12, 13⟩ [] (by rw [htb]; rfl) (fun _ h_ => by cases h_) rfl (by decide) (F.2.2.2.2.2.2.1 (.classLink RL 13 gIO) (by decide +kernel)) (va_Nw.use rfl (hKK.2.2.2.2.2.1 (gIO, gIO) (by decide +kernel))) hce hcv hcl ?_
  refine lv_astore_n (lv' := [(3, .ref q9), (0, .ref lq), (1, .int a1), (2, .ref ol)]) hx hb dL_fenceByPlots_12 rfl hl (by decide) rfl (fun ls hl => ?_)
  refine lv_iconst (v := nI 1) hx hb dL_fenceByPlots_13 (by decide) ?_
  exact gRi F dL_fenceByPlots_14 rfl u ⟨rfl, hp⟩ hP hD hS (by omega) (by omega)

set_option maxHeartbeats 4000000 in
set_option maxRecDepth 100000 in
theorem wx1_fenceByCells (l : Launch) (G : gG) (lq ol : Nat) {wv : va_W} {f : Nat → Int64} {rm : Room} {mc ms : Nat} {post : va_W → Prop} (a1 : Int32) (h0 : ∃ fs, wv[0]? = some (lq, .inr (3, fs))) (hM : gMx (S := va_W) l yX3_fenceByCells wsX3_fenceByCells rm G [.ref lq, .int a1] wv gIO post (fun u => u) mc ms) (hrc : rm.cells = mc) (hrs : rm.slots = ms) : gMw (S := va_W) l yL_fenceByCells wsL_fenceByCells { frames := rm.frames + 1, cells := mc, slots := ms, locals := 8 + (4 + 11) + rm.locals } G [.ref lq, .int a1, .ref ol] (wv ++ [outc G ol f]) (fun (r : Int32) (u : va_W) => r = nI 1 ∧ post u) (fun (u : va_W) => u ++ [outc G ol f]) mc ms := by
  refine gMw_mk (cc := cL_fenceByCells) (nL := 4) (ret := some .int) (hh := [(0, 9, 12, 13)]) (Qc := fun A => va_Qi (S := va_W) (fun (r : Int32) (u : va_W) => r = nI 1 ∧ post u) (gB G A (fun (u : va_W) => u ++ [outc G ol f])) A) (by decide) rfl (Nat.le_of_ble_eq_true rfl) ?_
  intro p e s m args below meth c A F htb hZ ls hl hP hD hS
  have hx := F.1
  have hb := F.2.1
  have hKK := F.2.2.2.2.2.2.2.2.1
  have hl : lv_has ls 4 [(0, .ref lq), (1, .int a1), (2, .ref ol)] := hl
  obtain ⟨fs, h0⟩ := h0
  generalize hH : s.heap = H at hP ⊢
  have hS : va_S A s.heap H [] := by rw [← hH]; exact va_S.rf
  generalize hLo : ([] : List Loc) = locs at hS ⊢
  refine lv_aload_n hx hb dL_fenceByCells_0 rfl (lv_at hl 2 rfl) ?_
  refine lv_iconst (v := nI 0) hx hb dL_fenceByCells_1 (by decide) ?_
  refine lv_aload_n hx hb dL_fenceByCells_2 rfl (lv_at hl 0 rfl) ?_
  refine lv_iload_n hx hb dL_fenceByCells_3 rfl (lv_at hl 1 rfl) ?_
  refine gXrun F (gRunVx (own := RL) (C := RX3) (ci := 3) (bytes := cX3_fenceByCells) (n := 1) (As := [.int a1]) (rest := [.int (nI 0), .ref ol]) F hZ hS (hM H.size) gL_fenceByCells_X3_fenceByCells rfl rfl hrc hrs (by decide +kernel) rfl ⟨Nat.le_refl _, Nat.le_refl _⟩ hP hD (lit := wv) (wt := [outc G ol f]) (wc := wv) (isC := List.range wv.length) (gRange wv) (gRange_nd _) rfl h0 rfl hl.1 (Nat.le_of_ble_eq_true rfl) dL_fenceByCells_4 ⟨by show 0 + mc ≤ mc; omega, by show 0 + ms ≤ ms; omega⟩) hP hD hS (lit := wv) (wt := [outc G ol f]) (wc := wv) (wr := []) (isC := List.range wv.length) (isR := []) (gRange wv) rfl rfl (fun _ h_ => by cases h_) (fun ce q9 u H locs hp hP hD hS hce hcv hcl => ?_)
  have hP : va_P G.1 vwCl (u ++ [outc G ol f]) H := hP
  have hD : va_D A (u ++ [outc G ol f]) := hD
  refine vx_catch (own := RL) (name := gIO) (E := gIO) F.2.2.2.2.2.1 [] ⟨0, 9, 12, 13⟩ [] (by rw [htb]; rfl) (fun _ h_ => by cases h_) rfl (by decide) (F.2.2.2.2.2.2.1 (.classLink RL 13 gIO) (by decide +kernel)) (va_Nw.use rfl (hKK.2.2.2.2.2.1 (gIO, gIO) (by decide +kernel))) hce hcv hcl ?_
  refine lv_astore_n (lv' := [(3, .ref q9), (0, .ref lq), (1, .int a1), (2, .ref ol)]) hx hb dL_fenceByCells_12 rfl hl (by decide) rfl (fun ls hl => ?_)
  refine lv_iconst (v := nI 1) hx hb dL_fenceByCells_13 (by decide) ?_
  exact gRi F dL_fenceByCells_14 rfl u ⟨rfl, hp⟩ hP hD hS (by omega) (by omega)

set_option maxHeartbeats 4000000 in
set_option maxRecDepth 100000 in
theorem wx1_fenceBetween (l : Launch) (G : gG) (lq ol : Nat) {wv : va_W} {f : Nat → Int64} {rm : Room} {mc ms : Nat} {post : va_W → Prop} (a1 a2 : Int32) (h0 : ∃ fs, wv[0]? = some (lq, .inr (3, fs))) (hM : gMx (S := va_W) l yX3_fenceBetween wsX3_fenceBetween rm G [.ref lq, .int a1, .int a2] wv gIO post (fun u => u) mc ms) (hrc : rm.cells = mc) (hrs : rm.slots = ms) : gMw (S := va_W) l yL_fenceBetween wsL_fenceBetween { frames := rm.frames + 1, cells := mc, slots := ms, locals := 8 + (3 + 11) + rm.locals } G [.ref lq, .int a1, .int a2, .ref ol] (wv ++ [outc G ol f]) (fun (r : Int32) (u : va_W) => r = nI 1 ∧ post u) (fun (u : va_W) => u ++ [outc G ol f]) mc ms := by
  refine gMw_mk (cc := cL_fenceBetween) (nL := 5) (ret := some .int) (hh := [(0, 10, 13, 13)]) (Qc := fun A => va_Qi (S := va_W) (fun (r : Int32) (u : va_W) => r = nI 1 ∧ post u) (gB G A (fun (u : va_W) => u ++ [outc G ol f])) A) (by decide) rfl (Nat.le_of_ble_eq_true rfl) ?_
  intro p e s m args below meth c A F htb hZ ls hl hP hD hS
  have hx := F.1
  have hb := F.2.1
  have hKK := F.2.2.2.2.2.2.2.2.1
  have hl : lv_has ls 5 [(0, .ref lq), (1, .int a1), (2, .int a2), (3, .ref ol)] := hl
  obtain ⟨fs, h0⟩ := h0
  generalize hH : s.heap = H at hP ⊢
  have hS : va_S A s.heap H [] := by rw [← hH]; exact va_S.rf
  generalize hLo : ([] : List Loc) = locs at hS ⊢
  refine lv_aload_n hx hb dL_fenceBetween_0 rfl (lv_at hl 3 rfl) ?_
  refine lv_iconst (v := nI 0) hx hb dL_fenceBetween_1 (by decide) ?_
  refine lv_aload_n hx hb dL_fenceBetween_2 rfl (lv_at hl 0 rfl) ?_
  refine lv_iload_n hx hb dL_fenceBetween_3 rfl (lv_at hl 1 rfl) ?_
  refine lv_iload_n hx hb dL_fenceBetween_4 rfl (lv_at hl 2 rfl) ?_
  refine gXrun F (gRunVx (own := RL) (C := RX3) (ci := 3) (bytes := cX3_fenceBetween) (n := 2) (As := [.int a1, .int a2]) (rest := [.int (nI 0), .ref ol]) F hZ hS (hM H.size) gL_fenceBetween_X3_fenceBetween rfl rfl hrc hrs (by decide +kernel) rfl ⟨Nat.le_refl _, Nat.le_refl _⟩ hP hD (lit := wv) (wt := [outc G ol f]) (wc := wv) (isC := List.range wv.length) (gRange wv) (gRange_nd _) rfl h0 rfl hl.1 (Nat.le_of_ble_eq_true rfl) dL_fenceBetween_5 ⟨by show 0 + mc ≤ mc; omega, by show 0 + ms ≤ ms; omega⟩) hP hD hS (lit := wv) (wt := [outc G ol f]) (wc := wv) (wr := []) (isC := List.range wv.length) (isR := []) (gRange wv) rfl rfl (fun _ h_ => by cases h_) (fun ce q9 u H locs hp hP hD hS hce hcv hcl => ?_)
  have hP : va_P G.1 vwCl (u ++ [outc G ol f]) H := hP
  have hD : va_D A (u ++ [outc G ol f]) := hD
  refine vx_catch (own := RL) (name := gIO) (E := gIO) F.2.2.2.2.2.1 [] ⟨0, 10, 13, 13⟩ [] (by rw [htb]; rfl) (fun _ h_ => by cases h_) rfl (by decide) (F.2.2.2.2.2.2.1 (.classLink RL 13 gIO) (by decide +kernel)) (va_Nw.use rfl (hKK.2.2.2.2.2.1 (gIO, gIO) (by decide +kernel))) hce hcv hcl ?_
  refine lv_astore (lv' := [(4, .ref q9), (0, .ref lq), (1, .int a1), (2, .int a2), (3, .ref ol)]) hx hb dL_fenceBetween_13 hl (by decide) rfl (fun ls hl => ?_)
  refine lv_iconst (v := nI 1) hx hb dL_fenceBetween_15 (by decide) ?_
  exact gRi F dL_fenceBetween_16 rfl u ⟨rfl, hp⟩ hP hD hS (by omega) (by omega)

set_option maxHeartbeats 4000000 in
set_option maxRecDepth 100000 in
theorem wx1_largestPlotOf (l : Launch) (G : gG) (lq ol : Nat) {wv : va_W} {f : Nat → Int64} {rm : Room} {mc ms : Nat} {post : va_W → Prop} (a1 : Int32) (h0 : ∃ fs, wv[0]? = some (lq, .inr (3, fs))) (hM : gMx (S := va_W) l yX3_largestPlotOf wsX3_largestPlotOf rm G [.ref lq, .int a1] wv gIO post (fun u => u) mc ms) (hrc : rm.cells = mc) (hrs : rm.slots = ms) : gMw (S := va_W) l yL_largestPlotOf wsL_largestPlotOf { frames := rm.frames + 1, cells := mc, slots := ms, locals := 8 + (2 + 11) + rm.locals } G [.ref lq, .int a1, .ref ol] (wv ++ [outc G ol f]) (fun (r : Int32) (u : va_W) => r = nI 1 ∧ post u) (fun (u : va_W) => u ++ [outc G ol f]) mc ms := by
  refine gMw_mk (cc := cL_largestPlotOf) (nL := 4) (ret := some .int) (hh := [(0, 9, 12, 13)]) (Qc := fun A => va_Qi (S := va_W) (fun (r : Int32) (u : va_W) => r = nI 1 ∧ post u) (gB G A (fun (u : va_W) => u ++ [outc G ol f])) A) (by decide) rfl (Nat.le_of_ble_eq_true rfl) ?_
  intro p e s m args below meth c A F htb hZ ls hl hP hD hS
  have hx := F.1
  have hb := F.2.1
  have hKK := F.2.2.2.2.2.2.2.2.1
  have hl : lv_has ls 4 [(0, .ref lq), (1, .int a1), (2, .ref ol)] := hl
  obtain ⟨fs, h0⟩ := h0
  generalize hH : s.heap = H at hP ⊢
  have hS : va_S A s.heap H [] := by rw [← hH]; exact va_S.rf
  generalize hLo : ([] : List Loc) = locs at hS ⊢
  refine lv_aload_n hx hb dL_largestPlotOf_0 rfl (lv_at hl 2 rfl) ?_
  refine lv_iconst (v := nI 0) hx hb dL_largestPlotOf_1 (by decide) ?_
  refine lv_aload_n hx hb dL_largestPlotOf_2 rfl (lv_at hl 0 rfl) ?_
  refine lv_iload_n hx hb dL_largestPlotOf_3 rfl (lv_at hl 1 rfl) ?_
  refine gXrun F (gRunVx (own := RL) (C := RX3) (ci := 3) (bytes := cX3_largestPlotOf) (n := 1) (As := [.int a1]) (rest := [.int (nI 0), .ref ol]) F hZ hS (hM H.size) gL_largestPlotOf_X3_largestPlotOf rfl rfl hrc hrs (by decide +kernel) rfl ⟨Nat.le_refl _, Nat.le_refl _⟩ hP hD (lit := wv) (wt := [outc G ol f]) (wc := wv) (isC := List.range wv.length) (gRange wv) (gRange_nd _) rfl h0 rfl hl.1 (Nat.le_of_ble_eq_true rfl) dL_largestPlotOf_4 ⟨by show 0 + mc ≤ mc; omega, by show 0 + ms ≤ ms; omega⟩) hP hD hS (lit := wv) (wt := [outc G ol f]) (wc := wv) (wr := []) (isC := List.range wv.length) (isR := []) (gRange wv) rfl rfl (fun _ h_ => by cases h_) (fun ce q9 u H locs hp hP hD hS hce hcv hcl => ?_)
  have hP : va_P G.1 vwCl (u ++ [outc G ol f]) H := hP
  have hD : va_D A (u ++ [outc G ol f]) := hD
  refine vx_catch (own := RL) (name := gIO) (E := gIO) F.2.2.2.2.2.1 [] ⟨0, 9, 12, 13⟩ [] (by rw [htb]; rfl) (fun _ h_ => by cases h_) rfl (by decide) (F.2.2.2.2.2.2.1 (.classLink RL 13 gIO) (by decide +kernel)) (va_Nw.use rfl (hKK.2.2.2.2.2.1 (gIO, gIO) (by decide +kernel))) hce hcv hcl ?_
  refine lv_astore_n (lv' := [(3, .ref q9), (0, .ref lq), (1, .int a1), (2, .ref ol)]) hx hb dL_largestPlotOf_12 rfl hl (by decide) rfl (fun ls hl => ?_)
  refine lv_iconst (v := nI 1) hx hb dL_largestPlotOf_13 (by decide) ?_
  exact gRi F dL_largestPlotOf_14 rfl u ⟨rfl, hp⟩ hP hD hS (by omega) (by omega)

set_option maxHeartbeats 4000000 in
set_option maxRecDepth 100000 in
theorem wx1_firstToLose (l : Launch) (G : gG) (lq ol : Nat) {wv : va_W} {f : Nat → Int64} {rm : Room} {mc ms : Nat} {post : va_W → Prop} (a1 : Int32) (h0 : ∃ fs, wv[0]? = some (lq, .inr (3, fs))) (hM : gMx (S := va_W) l yX3_firstToLose wsX3_firstToLose rm G [.ref lq, .int a1] wv gIO post (fun u => u) mc ms) (hrc : rm.cells = mc) (hrs : rm.slots = ms) : gMw (S := va_W) l yL_firstToLose wsL_firstToLose { frames := rm.frames + 1, cells := mc, slots := ms, locals := 8 + (2 + 11) + rm.locals } G [.ref lq, .int a1, .ref ol] (wv ++ [outc G ol f]) (fun (r : Int32) (u : va_W) => r = nI 1 ∧ post u) (fun (u : va_W) => u ++ [outc G ol f]) mc ms := by
  refine gMw_mk (cc := cL_firstToLose) (nL := 4) (ret := some .int) (hh := [(0, 9, 12, 13)]) (Qc := fun A => va_Qi (S := va_W) (fun (r : Int32) (u : va_W) => r = nI 1 ∧ post u) (gB G A (fun (u : va_W) => u ++ [outc G ol f])) A) (by decide) rfl (Nat.le_of_ble_eq_true rfl) ?_
  intro p e s m args below meth c A F htb hZ ls hl hP hD hS
  have hx := F.1
  have hb := F.2.1
  have hKK := F.2.2.2.2.2.2.2.2.1
  have hl : lv_has ls 4 [(0, .ref lq), (1, .int a1), (2, .ref ol)] := hl
  obtain ⟨fs, h0⟩ := h0
  generalize hH : s.heap = H at hP ⊢
  have hS : va_S A s.heap H [] := by rw [← hH]; exact va_S.rf
  generalize hLo : ([] : List Loc) = locs at hS ⊢
  refine lv_aload_n hx hb dL_firstToLose_0 rfl (lv_at hl 2 rfl) ?_
  refine lv_iconst (v := nI 0) hx hb dL_firstToLose_1 (by decide) ?_
  refine lv_aload_n hx hb dL_firstToLose_2 rfl (lv_at hl 0 rfl) ?_
  refine lv_iload_n hx hb dL_firstToLose_3 rfl (lv_at hl 1 rfl) ?_
  refine gXrun F (gRunVx (own := RL) (C := RX3) (ci := 3) (bytes := cX3_firstToLose) (n := 1) (As := [.int a1]) (rest := [.int (nI 0), .ref ol]) F hZ hS (hM H.size) gL_firstToLose_X3_firstToLose rfl rfl hrc hrs (by decide +kernel) rfl ⟨Nat.le_refl _, Nat.le_refl _⟩ hP hD (lit := wv) (wt := [outc G ol f]) (wc := wv) (isC := List.range wv.length) (gRange wv) (gRange_nd _) rfl h0 rfl hl.1 (Nat.le_of_ble_eq_true rfl) dL_firstToLose_4 ⟨by show 0 + mc ≤ mc; omega, by show 0 + ms ≤ ms; omega⟩) hP hD hS (lit := wv) (wt := [outc G ol f]) (wc := wv) (wr := []) (isC := List.range wv.length) (isR := []) (gRange wv) rfl rfl (fun _ h_ => by cases h_) (fun ce q9 u H locs hp hP hD hS hce hcv hcl => ?_)
  have hP : va_P G.1 vwCl (u ++ [outc G ol f]) H := hP
  have hD : va_D A (u ++ [outc G ol f]) := hD
  refine vx_catch (own := RL) (name := gIO) (E := gIO) F.2.2.2.2.2.1 [] ⟨0, 9, 12, 13⟩ [] (by rw [htb]; rfl) (fun _ h_ => by cases h_) rfl (by decide) (F.2.2.2.2.2.2.1 (.classLink RL 13 gIO) (by decide +kernel)) (va_Nw.use rfl (hKK.2.2.2.2.2.1 (gIO, gIO) (by decide +kernel))) hce hcv hcl ?_
  refine lv_astore_n (lv' := [(3, .ref q9), (0, .ref lq), (1, .int a1), (2, .ref ol)]) hx hb dL_firstToLose_12 rfl hl (by decide) rfl (fun ls hl => ?_)
  refine lv_iconst (v := nI 1) hx hb dL_firstToLose_13 (by decide) ?_
  exact gRi F dL_firstToLose_14 rfl u ⟨rfl, hp⟩ hP hD hS (by omega) (by omega)

set_option maxHeartbeats 4000000 in
set_option maxRecDepth 100000 in
theorem wx1_coinsOf (l : Launch) (G : gG) (lq ol : Nat) {wv : va_W} {f : Nat → Int64} {rm : Room} {mc ms : Nat} {post : va_W → Prop} (a1 : Int32) (h0 : ∃ fs, wv[0]? = some (lq, .inr (3, fs))) (hM : gMx (S := va_W) l yX3_coinsOf wsX3_coinsOf rm G [.ref lq, .int a1] wv gIO post (fun u => u) mc ms) (hrc : rm.cells = mc) (hrs : rm.slots = ms) : gMw (S := va_W) l yL_coinsOf wsL_coinsOf { frames := rm.frames + 1, cells := mc, slots := ms, locals := 8 + (2 + 11) + rm.locals } G [.ref lq, .int a1, .ref ol] (wv ++ [outc G ol f]) (fun (r : Int32) (u : va_W) => r = nI 1 ∧ post u) (fun (u : va_W) => u ++ [outc G ol f]) mc ms := by
  refine gMw_mk (cc := cL_coinsOf) (nL := 4) (ret := some .int) (hh := [(0, 9, 12, 13)]) (Qc := fun A => va_Qi (S := va_W) (fun (r : Int32) (u : va_W) => r = nI 1 ∧ post u) (gB G A (fun (u : va_W) => u ++ [outc G ol f])) A) (by decide) rfl (Nat.le_of_ble_eq_true rfl) ?_
  intro p e s m args below meth c A F htb hZ ls hl hP hD hS
  have hx := F.1
  have hb := F.2.1
  have hKK := F.2.2.2.2.2.2.2.2.1
  have hl : lv_has ls 4 [(0, .ref lq), (1, .int a1), (2, .ref ol)] := hl
  obtain ⟨fs, h0⟩ := h0
  generalize hH : s.heap = H at hP ⊢
  have hS : va_S A s.heap H [] := by rw [← hH]; exact va_S.rf
  generalize hLo : ([] : List Loc) = locs at hS ⊢
  refine lv_aload_n hx hb dL_coinsOf_0 rfl (lv_at hl 2 rfl) ?_
  refine lv_iconst (v := nI 0) hx hb dL_coinsOf_1 (by decide) ?_
  refine lv_aload_n hx hb dL_coinsOf_2 rfl (lv_at hl 0 rfl) ?_
  refine lv_iload_n hx hb dL_coinsOf_3 rfl (lv_at hl 1 rfl) ?_
  refine gXrun F (gRunVx (own := RL) (C := RX3) (ci := 3) (bytes := cX3_coinsOf) (n := 1) (As := [.int a1]) (rest := [.int (nI 0), .ref ol]) F hZ hS (hM H.size) gL_coinsOf_X3_coinsOf rfl rfl hrc hrs (by decide +kernel) rfl ⟨Nat.le_refl _, Nat.le_refl _⟩ hP hD (lit := wv) (wt := [outc G ol f]) (wc := wv) (isC := List.range wv.length) (gRange wv) (gRange_nd _) rfl h0 rfl hl.1 (Nat.le_of_ble_eq_true rfl) dL_coinsOf_4 ⟨by show 0 + mc ≤ mc; omega, by show 0 + ms ≤ ms; omega⟩) hP hD hS (lit := wv) (wt := [outc G ol f]) (wc := wv) (wr := []) (isC := List.range wv.length) (isR := []) (gRange wv) rfl rfl (fun _ h_ => by cases h_) (fun ce q9 u H locs hp hP hD hS hce hcv hcl => ?_)
  have hP : va_P G.1 vwCl (u ++ [outc G ol f]) H := hP
  have hD : va_D A (u ++ [outc G ol f]) := hD
  refine vx_catch (own := RL) (name := gIO) (E := gIO) F.2.2.2.2.2.1 [] ⟨0, 9, 12, 13⟩ [] (by rw [htb]; rfl) (fun _ h_ => by cases h_) rfl (by decide) (F.2.2.2.2.2.2.1 (.classLink RL 13 gIO) (by decide +kernel)) (va_Nw.use rfl (hKK.2.2.2.2.2.1 (gIO, gIO) (by decide +kernel))) hce hcv hcl ?_
  refine lv_astore_n (lv' := [(3, .ref q9), (0, .ref lq), (1, .int a1), (2, .ref ol)]) hx hb dL_coinsOf_12 rfl hl (by decide) rfl (fun ls hl => ?_)
  refine lv_iconst (v := nI 1) hx hb dL_coinsOf_13 (by decide) ?_
  exact gRi F dL_coinsOf_14 rfl u ⟨rfl, hp⟩ hP hD hS (by omega) (by omega)

set_option maxHeartbeats 4000000 in
set_option maxRecDepth 100000 in
theorem wx1_lowCells (l : Launch) (G : gG) (lq ol : Nat) {wv : va_W} {f : Nat → Int64} {rm : Room} {mc ms : Nat} {post : va_W → Prop} (a1 a2 : Int32) (h0 : ∃ fs, wv[0]? = some (lq, .inr (3, fs))) (hM : gMx (S := va_W) l yX3_lowCells wsX3_lowCells rm G [.ref lq, .int a1, .int a2] wv gIO post (fun u => u) mc ms) (hrc : rm.cells = mc) (hrs : rm.slots = ms) : gMw (S := va_W) l yL_lowCells wsL_lowCells { frames := rm.frames + 1, cells := mc, slots := ms, locals := 8 + (3 + 11) + rm.locals } G [.ref lq, .int a1, .int a2, .ref ol] (wv ++ [outc G ol f]) (fun (r : Int32) (u : va_W) => r = nI 1 ∧ post u) (fun (u : va_W) => u ++ [outc G ol f]) mc ms := by
  refine gMw_mk (cc := cL_lowCells) (nL := 5) (ret := some .int) (hh := [(0, 10, 13, 13), (0, 10, 17, 15)]) (Qc := fun A => va_Qi (S := va_W) (fun (r : Int32) (u : va_W) => r = nI 1 ∧ post u) (gB G A (fun (u : va_W) => u ++ [outc G ol f])) A) (by decide) rfl (Nat.le_of_ble_eq_true rfl) ?_
  intro p e s m args below meth c A F htb hZ ls hl hP hD hS
  have hx := F.1
  have hb := F.2.1
  have hKK := F.2.2.2.2.2.2.2.2.1
  have hl : lv_has ls 5 [(0, .ref lq), (1, .int a1), (2, .int a2), (3, .ref ol)] := hl
  obtain ⟨fs, h0⟩ := h0
  generalize hH : s.heap = H at hP ⊢
  have hS : va_S A s.heap H [] := by rw [← hH]; exact va_S.rf
  generalize hLo : ([] : List Loc) = locs at hS ⊢
  refine lv_aload_n hx hb dL_lowCells_0 rfl (lv_at hl 3 rfl) ?_
  refine lv_iconst (v := nI 0) hx hb dL_lowCells_1 (by decide) ?_
  refine lv_aload_n hx hb dL_lowCells_2 rfl (lv_at hl 0 rfl) ?_
  refine lv_iload_n hx hb dL_lowCells_3 rfl (lv_at hl 1 rfl) ?_
  refine lv_iload_n hx hb dL_lowCells_4 rfl (lv_at hl 2 rfl) ?_
  refine gXrun F (gRunVx (own := RL) (C := RX3) (ci := 3) (bytes := cX3_lowCells) (n := 2) (As := [.int a1, .int a2]) (rest := [.int (nI 0), .ref ol]) F hZ hS (hM H.size) gL_lowCells_X3_lowCells rfl rfl hrc hrs (by decide +kernel) rfl ⟨Nat.le_refl _, Nat.le_refl _⟩ hP hD (lit := wv) (wt := [outc G ol f]) (wc := wv) (isC := List.range wv.length) (gRange wv) (gRange_nd _) rfl h0 rfl hl.1 (Nat.le_of_ble_eq_true rfl) dL_lowCells_5 ⟨by show 0 + mc ≤ mc; omega, by show 0 + ms ≤ ms; omega⟩) hP hD hS (lit := wv) (wt := [outc G ol f]) (wc := wv) (wr := []) (isC := List.range wv.length) (isR := []) (gRange wv) rfl rfl (fun _ h_ => by cases h_) (fun ce q9 u H locs hp hP hD hS hce hcv hcl => ?_)
  have hP : va_P G.1 vwCl (u ++ [outc G ol f]) H := hP
  have hD : va_D A (u ++ [outc G ol f]) := hD
  refine vx_catch (own := RL) (name := gIO) (E := gIO) F.2.2.2.2.2.1 [] ⟨0, 10, 13, 13⟩ [⟨0, 10, 17, 15⟩] (by rw [htb]; rfl) (fun _ h_ => by cases h_) rfl (by decide) (F.2.2.2.2.2.2.1 (.classLink RL 13 gIO) (by decide +kernel)) (va_Nw.use rfl (hKK.2.2.2.2.2.1 (gIO, gIO) (by decide +kernel))) hce hcv hcl ?_
  refine lv_astore (lv' := [(4, .ref q9), (0, .ref lq), (1, .int a1), (2, .int a2), (3, .ref ol)]) hx hb dL_lowCells_13 hl (by decide) rfl (fun ls hl => ?_)
  refine lv_iconst (v := nI 1) hx hb dL_lowCells_15 (by decide) ?_
  exact gRi F dL_lowCells_16 rfl u ⟨rfl, hp⟩ hP hD hS (by omega) (by omega)

set_option maxHeartbeats 4000000 in
set_option maxRecDepth 100000 in
theorem wx2_lowCells (l : Launch) (G : gG) (lq ol : Nat) {wv : va_W} {f : Nat → Int64} {rm : Room} {mc ms : Nat} {post : va_W → Prop} (a1 a2 : Int32) (h0 : ∃ fs, wv[0]? = some (lq, .inr (3, fs))) (hM : gMx (S := va_W) l yX3_lowCells wsX3_lowCells rm G [.ref lq, .int a1, .int a2] wv gIA post (fun u => u) mc ms) (hrc : rm.cells = mc) (hrs : rm.slots = ms) : gMw (S := va_W) l yL_lowCells wsL_lowCells { frames := rm.frames + 1, cells := mc, slots := ms, locals := 8 + (3 + 11) + rm.locals } G [.ref lq, .int a1, .int a2, .ref ol] (wv ++ [outc G ol f]) (fun (r : Int32) (u : va_W) => r = nI 2 ∧ post u) (fun (u : va_W) => u ++ [outc G ol f]) mc ms := by
  refine gMw_mk (cc := cL_lowCells) (nL := 5) (ret := some .int) (hh := [(0, 10, 13, 13), (0, 10, 17, 15)]) (Qc := fun A => va_Qi (S := va_W) (fun (r : Int32) (u : va_W) => r = nI 2 ∧ post u) (gB G A (fun (u : va_W) => u ++ [outc G ol f])) A) (by decide) rfl (Nat.le_of_ble_eq_true rfl) ?_
  intro p e s m args below meth c A F htb hZ ls hl hP hD hS
  have hx := F.1
  have hb := F.2.1
  have hKK := F.2.2.2.2.2.2.2.2.1
  have hl : lv_has ls 5 [(0, .ref lq), (1, .int a1), (2, .int a2), (3, .ref ol)] := hl
  obtain ⟨fs, h0⟩ := h0
  generalize hH : s.heap = H at hP ⊢
  have hS : va_S A s.heap H [] := by rw [← hH]; exact va_S.rf
  generalize hLo : ([] : List Loc) = locs at hS ⊢
  refine lv_aload_n hx hb dL_lowCells_0 rfl (lv_at hl 3 rfl) ?_
  refine lv_iconst (v := nI 0) hx hb dL_lowCells_1 (by decide) ?_
  refine lv_aload_n hx hb dL_lowCells_2 rfl (lv_at hl 0 rfl) ?_
  refine lv_iload_n hx hb dL_lowCells_3 rfl (lv_at hl 1 rfl) ?_
  refine lv_iload_n hx hb dL_lowCells_4 rfl (lv_at hl 2 rfl) ?_
  refine gXrun F (gRunVx (own := RL) (C := RX3) (ci := 3) (bytes := cX3_lowCells) (n := 2) (As := [.int a1, .int a2]) (rest := [.int (nI 0), .ref ol]) F hZ hS (hM H.size) gL_lowCells_X3_lowCells rfl rfl hrc hrs (by decide +kernel) rfl ⟨Nat.le_refl _, Nat.le_refl _⟩ hP hD (lit := wv) (wt := [outc G ol f]) (wc := wv) (isC := List.range wv.length) (gRange wv) (gRange_nd _) rfl h0 rfl hl.1 (Nat.le_of_ble_eq_true rfl) dL_lowCells_5 ⟨by show 0 + mc ≤ mc; omega, by show 0 + ms ≤ ms; omega⟩) hP hD hS (lit := wv) (wt := [outc G ol f]) (wc := wv) (wr := []) (isC := List.range wv.length) (isR := []) (gRange wv) rfl rfl (fun _ h_ => by cases h_) (fun ce q9 u H locs hp hP hD hS hce hcv hcl => ?_)
  have hP : va_P G.1 vwCl (u ++ [outc G ol f]) H := hP
  have hD : va_D A (u ++ [outc G ol f]) := hD
  refine vx_catch (own := RL) (name := gIA) (E := gIA) F.2.2.2.2.2.1 [⟨0, 10, 13, 13⟩] ⟨0, 10, 17, 15⟩ [] (by rw [htb]; rfl) (List.forall_mem_cons.mpr ⟨Or.inr ⟨by decide, gIO, F.2.2.2.2.2.2.1 (.classLink RL 13 gIO) (by decide +kernel), hKK.2.2.2.2.2.2.1 (gIA, gIO) (by decide +kernel)⟩, fun _ h_ => by cases h_⟩) rfl (by decide) (F.2.2.2.2.2.2.1 (.classLink RL 15 gIA) (by decide +kernel)) (va_Nw.use rfl (hKK.2.2.2.2.2.1 (gIA, gIA) (by decide +kernel))) hce hcv hcl ?_
  refine lv_astore (lv' := [(4, .ref q9), (0, .ref lq), (1, .int a1), (2, .int a2), (3, .ref ol)]) hx hb dL_lowCells_17 hl (by decide) rfl (fun ls hl => ?_)
  refine lv_iconst (v := nI 2) hx hb dL_lowCells_19 (by decide) ?_
  exact gRi F dL_lowCells_20 rfl u ⟨rfl, hp⟩ hP hD hS (by omega) (by omega)

set_option maxHeartbeats 4000000 in
set_option maxRecDepth 100000 in
theorem wx1_plotsIfFlooded (l : Launch) (G : gG) (lq ol : Nat) {wv : va_W} {f : Nat → Int64} {rm : Room} {mc ms : Nat} {post : va_W → Prop} (a1 : Int32) (h0 : ∃ fs, wv[0]? = some (lq, .inr (3, fs))) (hM : gMx (S := va_W) l yX3_plotsIfFlooded wsX3_plotsIfFlooded rm G [.ref lq, .int a1] wv gIA post (fun u => u) mc ms) (hrc : rm.cells = mc) (hrs : rm.slots = ms) : gMw (S := va_W) l yL_plotsIfFlooded wsL_plotsIfFlooded { frames := rm.frames + 1, cells := mc, slots := ms, locals := 8 + (2 + 11) + rm.locals } G [.ref lq, .int a1, .ref ol] (wv ++ [outc G ol f]) (fun (r : Int32) (u : va_W) => r = nI 1 ∧ post u) (fun (u : va_W) => u ++ [outc G ol f]) mc ms := by
  refine gMw_mk (cc := cL_plotsIfFlooded) (nL := 4) (ret := some .int) (hh := [(0, 9, 12, 15)]) (Qc := fun A => va_Qi (S := va_W) (fun (r : Int32) (u : va_W) => r = nI 1 ∧ post u) (gB G A (fun (u : va_W) => u ++ [outc G ol f])) A) (by decide) rfl (Nat.le_of_ble_eq_true rfl) ?_
  intro p e s m args below meth c A F htb hZ ls hl hP hD hS
  have hx := F.1
  have hb := F.2.1
  have hKK := F.2.2.2.2.2.2.2.2.1
  have hl : lv_has ls 4 [(0, .ref lq), (1, .int a1), (2, .ref ol)] := hl
  obtain ⟨fs, h0⟩ := h0
  generalize hH : s.heap = H at hP ⊢
  have hS : va_S A s.heap H [] := by rw [← hH]; exact va_S.rf
  generalize hLo : ([] : List Loc) = locs at hS ⊢
  refine lv_aload_n hx hb dL_plotsIfFlooded_0 rfl (lv_at hl 2 rfl) ?_
  refine lv_iconst (v := nI 0) hx hb dL_plotsIfFlooded_1 (by decide) ?_
  refine lv_aload_n hx hb dL_plotsIfFlooded_2 rfl (lv_at hl 0 rfl) ?_
  refine lv_iload_n hx hb dL_plotsIfFlooded_3 rfl (lv_at hl 1 rfl) ?_
  refine gXrun F (gRunVx (own := RL) (C := RX3) (ci := 3) (bytes := cX3_plotsIfFlooded) (n := 1) (As := [.int a1]) (rest := [.int (nI 0), .ref ol]) F hZ hS (hM H.size) gL_plotsIfFlooded_X3_plotsIfFlooded rfl rfl hrc hrs (by decide +kernel) rfl ⟨Nat.le_refl _, Nat.le_refl _⟩ hP hD (lit := wv) (wt := [outc G ol f]) (wc := wv) (isC := List.range wv.length) (gRange wv) (gRange_nd _) rfl h0 rfl hl.1 (Nat.le_of_ble_eq_true rfl) dL_plotsIfFlooded_4 ⟨by show 0 + mc ≤ mc; omega, by show 0 + ms ≤ ms; omega⟩) hP hD hS (lit := wv) (wt := [outc G ol f]) (wc := wv) (wr := []) (isC := List.range wv.length) (isR := []) (gRange wv) rfl rfl (fun _ h_ => by cases h_) (fun ce q9 u H locs hp hP hD hS hce hcv hcl => ?_)
  have hP : va_P G.1 vwCl (u ++ [outc G ol f]) H := hP
  have hD : va_D A (u ++ [outc G ol f]) := hD
  refine vx_catch (own := RL) (name := gIA) (E := gIA) F.2.2.2.2.2.1 [] ⟨0, 9, 12, 15⟩ [] (by rw [htb]; rfl) (fun _ h_ => by cases h_) rfl (by decide) (F.2.2.2.2.2.2.1 (.classLink RL 15 gIA) (by decide +kernel)) (va_Nw.use rfl (hKK.2.2.2.2.2.1 (gIA, gIA) (by decide +kernel))) hce hcv hcl ?_
  refine lv_astore_n (lv' := [(3, .ref q9), (0, .ref lq), (1, .int a1), (2, .ref ol)]) hx hb dL_plotsIfFlooded_12 rfl hl (by decide) rfl (fun ls hl => ?_)
  refine lv_iconst (v := nI 1) hx hb dL_plotsIfFlooded_13 (by decide) ?_
  exact gRi F dL_plotsIfFlooded_14 rfl u ⟨rfl, hp⟩ hP hD hS (by omega) (by omega)

set_option maxHeartbeats 4000000 in
set_option maxRecDepth 100000 in
theorem wx1_lossesIfTaxed (l : Launch) (G : gG) (lq ol : Nat) {wv : va_W} {f : Nat → Int64} {rm : Room} {mc ms : Nat} {post : va_W → Prop} (a1 : Int32) (h0 : ∃ fs, wv[0]? = some (lq, .inr (3, fs))) (hM : gMx (S := va_W) l yX3_lossesIfTaxed wsX3_lossesIfTaxed rm G [.ref lq, .int a1] wv gIO post (fun u => u) mc ms) (hrc : rm.cells = mc) (hrs : rm.slots = ms) : gMw (S := va_W) l yL_lossesIfTaxed wsL_lossesIfTaxed { frames := rm.frames + 1, cells := mc, slots := ms, locals := 8 + (2 + 11) + rm.locals } G [.ref lq, .int a1, .ref ol] (wv ++ [outc G ol f]) (fun (r : Int32) (u : va_W) => r = nI 1 ∧ post u) (fun (u : va_W) => u ++ [outc G ol f]) mc ms := by
  refine gMw_mk (cc := cL_lossesIfTaxed) (nL := 4) (ret := some .int) (hh := [(0, 9, 12, 13)]) (Qc := fun A => va_Qi (S := va_W) (fun (r : Int32) (u : va_W) => r = nI 1 ∧ post u) (gB G A (fun (u : va_W) => u ++ [outc G ol f])) A) (by decide) rfl (Nat.le_of_ble_eq_true rfl) ?_
  intro p e s m args below meth c A F htb hZ ls hl hP hD hS
  have hx := F.1
  have hb := F.2.1
  have hKK := F.2.2.2.2.2.2.2.2.1
  have hl : lv_has ls 4 [(0, .ref lq), (1, .int a1), (2, .ref ol)] := hl
  obtain ⟨fs, h0⟩ := h0
  generalize hH : s.heap = H at hP ⊢
  have hS : va_S A s.heap H [] := by rw [← hH]; exact va_S.rf
  generalize hLo : ([] : List Loc) = locs at hS ⊢
  refine lv_aload_n hx hb dL_lossesIfTaxed_0 rfl (lv_at hl 2 rfl) ?_
  refine lv_iconst (v := nI 0) hx hb dL_lossesIfTaxed_1 (by decide) ?_
  refine lv_aload_n hx hb dL_lossesIfTaxed_2 rfl (lv_at hl 0 rfl) ?_
  refine lv_iload_n hx hb dL_lossesIfTaxed_3 rfl (lv_at hl 1 rfl) ?_
  refine gXrun F (gRunVx (own := RL) (C := RX3) (ci := 3) (bytes := cX3_lossesIfTaxed) (n := 1) (As := [.int a1]) (rest := [.int (nI 0), .ref ol]) F hZ hS (hM H.size) gL_lossesIfTaxed_X3_lossesIfTaxed rfl rfl hrc hrs (by decide +kernel) rfl ⟨Nat.le_refl _, Nat.le_refl _⟩ hP hD (lit := wv) (wt := [outc G ol f]) (wc := wv) (isC := List.range wv.length) (gRange wv) (gRange_nd _) rfl h0 rfl hl.1 (Nat.le_of_ble_eq_true rfl) dL_lossesIfTaxed_4 ⟨by show 0 + mc ≤ mc; omega, by show 0 + ms ≤ ms; omega⟩) hP hD hS (lit := wv) (wt := [outc G ol f]) (wc := wv) (wr := []) (isC := List.range wv.length) (isR := []) (gRange wv) rfl rfl (fun _ h_ => by cases h_) (fun ce q9 u H locs hp hP hD hS hce hcv hcl => ?_)
  have hP : va_P G.1 vwCl (u ++ [outc G ol f]) H := hP
  have hD : va_D A (u ++ [outc G ol f]) := hD
  refine vx_catch (own := RL) (name := gIO) (E := gIO) F.2.2.2.2.2.1 [] ⟨0, 9, 12, 13⟩ [] (by rw [htb]; rfl) (fun _ h_ => by cases h_) rfl (by decide) (F.2.2.2.2.2.2.1 (.classLink RL 13 gIO) (by decide +kernel)) (va_Nw.use rfl (hKK.2.2.2.2.2.1 (gIO, gIO) (by decide +kernel))) hce hcv hcl ?_
  refine lv_astore_n (lv' := [(3, .ref q9), (0, .ref lq), (1, .int a1), (2, .ref ol)]) hx hb dL_lossesIfTaxed_12 rfl hl (by decide) rfl (fun ls hl => ?_)
  refine lv_iconst (v := nI 1) hx hb dL_lossesIfTaxed_13 (by decide) ?_
  exact gRi F dL_lossesIfTaxed_14 rfl u ⟨rfl, hp⟩ hP hD hS (by omega) (by omega)

set_option maxHeartbeats 4000000 in
set_option maxRecDepth 100000 in
theorem wx1_nearestNeighbour (l : Launch) (G : gG) (lq ol : Nat) {wv : va_W} {f : Nat → Int64} {rm : Room} {mc ms : Nat} {post : va_W → Prop} (a1 : Int32) (h0 : ∃ fs, wv[0]? = some (lq, .inr (3, fs))) (hM : gMx (S := va_W) l yX3_nearestNeighbour wsX3_nearestNeighbour rm G [.ref lq, .int a1] wv gIO post (fun u => u) mc ms) (hrc : rm.cells = mc) (hrs : rm.slots = ms) : gMw (S := va_W) l yL_nearestNeighbour wsL_nearestNeighbour { frames := rm.frames + 1, cells := mc, slots := ms, locals := 8 + (6 + 11) + rm.locals } G [.ref lq, .int a1, .ref ol] (wv ++ [outc G ol f]) (fun (r : Int32) (u : va_W) => r = nI 1 ∧ post u) (fun (u : va_W) => u ++ [outc G ol f]) mc ms := by
  refine gMw_mk (cc := cL_nearestNeighbour) (nL := 4) (ret := some .int) (hh := [(0, 9, 12, 13)]) (Qc := fun A => va_Qi (S := va_W) (fun (r : Int32) (u : va_W) => r = nI 1 ∧ post u) (gB G A (fun (u : va_W) => u ++ [outc G ol f])) A) (by decide) rfl (Nat.le_of_ble_eq_true rfl) ?_
  intro p e s m args below meth c A F htb hZ ls hl hP hD hS
  have hx := F.1
  have hb := F.2.1
  have hKK := F.2.2.2.2.2.2.2.2.1
  have hl : lv_has ls 4 [(0, .ref lq), (1, .int a1), (2, .ref ol)] := hl
  obtain ⟨fs, h0⟩ := h0
  generalize hH : s.heap = H at hP ⊢
  have hS : va_S A s.heap H [] := by rw [← hH]; exact va_S.rf
  generalize hLo : ([] : List Loc) = locs at hS ⊢
  refine lv_aload_n hx hb dL_nearestNeighbour_0 rfl (lv_at hl 2 rfl) ?_
  refine lv_iconst (v := nI 0) hx hb dL_nearestNeighbour_1 (by decide) ?_
  refine lv_aload_n hx hb dL_nearestNeighbour_2 rfl (lv_at hl 0 rfl) ?_
  refine lv_iload_n hx hb dL_nearestNeighbour_3 rfl (lv_at hl 1 rfl) ?_
  refine gXrun F (gRunVx (own := RL) (C := RX3) (ci := 3) (bytes := cX3_nearestNeighbour) (n := 1) (As := [.int a1]) (rest := [.int (nI 0), .ref ol]) F hZ hS (hM H.size) gL_nearestNeighbour_X3_nearestNeighbour rfl rfl hrc hrs (by decide +kernel) rfl ⟨Nat.le_refl _, Nat.le_refl _⟩ hP hD (lit := wv) (wt := [outc G ol f]) (wc := wv) (isC := List.range wv.length) (gRange wv) (gRange_nd _) rfl h0 rfl hl.1 (Nat.le_of_ble_eq_true rfl) dL_nearestNeighbour_4 ⟨by show 0 + mc ≤ mc; omega, by show 0 + ms ≤ ms; omega⟩) hP hD hS (lit := wv) (wt := [outc G ol f]) (wc := wv) (wr := []) (isC := List.range wv.length) (isR := []) (gRange wv) rfl rfl (fun _ h_ => by cases h_) (fun ce q9 u H locs hp hP hD hS hce hcv hcl => ?_)
  have hP : va_P G.1 vwCl (u ++ [outc G ol f]) H := hP
  have hD : va_D A (u ++ [outc G ol f]) := hD
  refine vx_catch (own := RL) (name := gIO) (E := gIO) F.2.2.2.2.2.1 [] ⟨0, 9, 12, 13⟩ [] (by rw [htb]; rfl) (fun _ h_ => by cases h_) rfl (by decide) (F.2.2.2.2.2.2.1 (.classLink RL 13 gIO) (by decide +kernel)) (va_Nw.use rfl (hKK.2.2.2.2.2.1 (gIO, gIO) (by decide +kernel))) hce hcv hcl ?_
  refine lv_astore_n (lv' := [(3, .ref q9), (0, .ref lq), (1, .int a1), (2, .ref ol)]) hx hb dL_nearestNeighbour_12 rfl hl (by decide) rfl (fun ls hl => ?_)
  refine lv_iconst (v := nI 1) hx hb dL_nearestNeighbour_13 (by decide) ?_
  exact gRi F dL_nearestNeighbour_14 rfl u ⟨rfl, hp⟩ hP hD hS (by omega) (by omega)
