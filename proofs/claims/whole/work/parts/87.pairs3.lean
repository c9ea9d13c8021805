set_option maxHeartbeats 4000000 in
set_option maxRecDepth 100000 in
theorem P_collectTaxes (l : Launch) (G : gG) (lq mq : Nat) {wv vv : va_W} {ow : Nat → Nat} {he : Nat → Nat} {co : Nat → Nat} {pr : Nat} {tx : Nat} {sa : Nat} {fl : Nat} {lo : Nat} {SL : List LdS} {K : Nat → Option LdS} {bu : Nat → Nat} {bl : Nat} {th : Nat} (hC : clI G lq wv ow he co pr tx sa fl lo SL K bu bl) (hR : rfI G mq vv ow he co pr tx sa fl lo SL K bu bl th) (hS : spI ow he co pr tx SL K bu bl) : PairD G l lq mq yX3_collectTaxes wsX3_collectTaxes yX4_collectTaxes wsX4_collectTaxes wv vv := by
  exact pairD_a (nI ((txA tx (ow, he, co, sa, fl, lo)).2.2.2.2)) (((txA tx (ow, he, co, sa, fl, lo)).1, he, (txA tx (ow, he, co, sa, fl, lo)).2.2.1, pr, tx, sa, fl, (txA tx (ow, he, co, sa, fl, lo)).2.2.2.1), pushH SL (ow, he, co, pr, tx, sa, fl, lo), K, bu, bl) (sp_push hS ⟨(txA_ok (A := (ow, he, co, sa, fl, lo)) ⟨hS.1.1, hS.1.2.1, hS.1.2.2.1⟩).1, hS.1.2.1, (txA_ok (A := (ow, he, co, sa, fl, lo)) ⟨hS.1.1, hS.1.2.1, hS.1.2.2.1⟩).2, hS.1.2.2.2⟩) (k_collectTaxes l G lq hC hS) (fun _ _ h => h) ⟨rfl, rfl, by decide, by decide, by decide, by decide⟩ (r_collectTaxes l G mq hR hS) (fun _ _ h => h) ⟨rfl, rfl, by decide, by decide, by decide, by decide⟩

set_option maxHeartbeats 4000000 in
set_option maxRecDepth 100000 in
theorem P_clearBuffer (l : Launch) (G : gG) (lq mq : Nat) {wv vv : va_W} {ow : Nat → Nat} {he : Nat → Nat} {co : Nat → Nat} {pr : Nat} {tx : Nat} {sa : Nat} {fl : Nat} {lo : Nat} {SL : List LdS} {K : Nat → Option LdS} {bu : Nat → Nat} {bl : Nat} {th : Nat} (hC : clI G lq wv ow he co pr tx sa fl lo SL K bu bl) (hR : rfI G mq vv ow he co pr tx sa fl lo SL K bu bl th) (hS : spI ow he co pr tx SL K bu bl) : PairD G l lq mq yX3_clearBuffer wsX3_clearBuffer yX4_clearBuffer wsX4_clearBuffer wv vv := by
  exact pairD_a (nI (bl)) ((ow, he, co, pr, tx, sa, fl, lo), SL, K, bu, 0) (⟨hS.1, hS.2.1, hS.2.2.1, hS.2.2.2.1, hS.2.2.2.2.1, Nat.zero_le _⟩) (k_clearBuffer l G lq hC hS) (fun _ _ h => h) ⟨rfl, rfl, by decide, by decide, by decide, by decide⟩ (r_clearBuffer l G mq hR hS) (fun _ _ h => h) ⟨rfl, rfl, by decide, by decide, by decide, by decide⟩

set_option maxHeartbeats 4000000 in
set_option maxRecDepth 100000 in
theorem P_bufferLength (l : Launch) (G : gG) (lq mq : Nat) {wv vv : va_W} {ow : Nat → Nat} {he : Nat → Nat} {co : Nat → Nat} {pr : Nat} {tx : Nat} {sa : Nat} {fl : Nat} {lo : Nat} {SL : List LdS} {K : Nat → Option LdS} {bu : Nat → Nat} {bl : Nat} {th : Nat} (hC : clI G lq wv ow he co pr tx sa fl lo SL K bu bl) (hR : rfI G mq vv ow he co pr tx sa fl lo SL K bu bl th) (hS : spI ow he co pr tx SL K bu bl) : PairD G l lq mq yX3_bufferLength wsX3_bufferLength yX4_bufferLength wsX4_bufferLength wv vv := by
  exact pairD_a (nI (bl)) ((ow, he, co, pr, tx, sa, fl, lo), SL, K, bu, bl) (hS) (k_bufferLength l G lq hC hS) (fun _ _ h => h) ⟨rfl, rfl, by decide, by decide, by decide, by decide⟩ (r_bufferLength l G mq hR hS) (fun _ _ h => h) ⟨rfl, rfl, by decide, by decide, by decide, by decide⟩

set_option maxHeartbeats 4000000 in
set_option maxRecDepth 100000 in
theorem P_savedStates (l : Launch) (G : gG) (lq mq : Nat) {wv vv : va_W} {ow : Nat → Nat} {he : Nat → Nat} {co : Nat → Nat} {pr : Nat} {tx : Nat} {sa : Nat} {fl : Nat} {lo : Nat} {SL : List LdS} {K : Nat → Option LdS} {bu : Nat → Nat} {bl : Nat} {th : Nat} (hC : clI G lq wv ow he co pr tx sa fl lo SL K bu bl) (hR : rfI G mq vv ow he co pr tx sa fl lo SL K bu bl th) (hS : spI ow he co pr tx SL K bu bl) : PairD G l lq mq yX3_savedStates wsX3_savedStates yX4_savedStates wsX4_savedStates wv vv := by
  exact pairD_a (nI (SL.length)) ((ow, he, co, pr, tx, sa, fl, lo), SL, K, bu, bl) (hS) (k_savedStates l G lq hC hS) (fun _ _ h => h) ⟨rfl, rfl, by decide, by decide, by decide, by decide⟩ (r_savedStates l G mq hR hS) (fun _ _ h => h) ⟨rfl, rfl, by decide, by decide, by decide, by decide⟩

set_option maxHeartbeats 4000000 in
set_option maxRecDepth 100000 in
theorem P_plots (l : Launch) (G : gG) (lq mq : Nat) {wv vv : va_W} {ow : Nat → Nat} {he : Nat → Nat} {co : Nat → Nat} {pr : Nat} {tx : Nat} {sa : Nat} {fl : Nat} {lo : Nat} {SL : List LdS} {K : Nat → Option LdS} {bu : Nat → Nat} {bl : Nat} {th : Nat} (hC : clI G lq wv ow he co pr tx sa fl lo SL K bu bl) (hR : rfI G mq vv ow he co pr tx sa fl lo SL K bu bl th) (hS : spI ow he co pr tx SL K bu bl) : PairD G l lq mq yX3_plots wsX3_plots yX4_plots wsX4_plots wv vv := by
  exact pairD_a (nI ((cnt ow))) ((ow, he, co, pr, tx, sa, fl, lo), SL, K, bu, bl) (hS) (k_plots l G lq hC hS) (fun _ _ h => h) ⟨rfl, rfl, by decide, by decide, by decide, by decide⟩ (r_plots l G mq hR hS) (fun _ _ h => h) ⟨rfl, rfl, by decide, by decide, by decide, by decide⟩

set_option maxHeartbeats 4000000 in
set_option maxRecDepth 100000 in
theorem P_price (l : Launch) (G : gG) (lq mq : Nat) {wv vv : va_W} {ow : Nat → Nat} {he : Nat → Nat} {co : Nat → Nat} {pr : Nat} {tx : Nat} {sa : Nat} {fl : Nat} {lo : Nat} {SL : List LdS} {K : Nat → Option LdS} {bu : Nat → Nat} {bl : Nat} {th : Nat} (hC : clI G lq wv ow he co pr tx sa fl lo SL K bu bl) (hR : rfI G mq vv ow he co pr tx sa fl lo SL K bu bl th) (hS : spI ow he co pr tx SL K bu bl) : PairD G l lq mq yX3_price wsX3_price yX4_price wsX4_price wv vv := by
  exact pairD_a (nI (pr)) ((ow, he, co, pr, tx, sa, fl, lo), SL, K, bu, bl) (hS) (k_price l G lq hC hS) (fun _ _ h => h) ⟨rfl, rfl, by decide, by decide, by decide, by decide⟩ (r_price l G mq hR hS) (fun _ _ h => h) ⟨rfl, rfl, by decide, by decide, by decide, by decide⟩

set_option maxHeartbeats 4000000 in
set_option maxRecDepth 100000 in
theorem P_tax (l : Launch) (G : gG) (lq mq : Nat) {wv vv : va_W} {ow : Nat → Nat} {he : Nat → Nat} {co : Nat → Nat} {pr : Nat} {tx : Nat} {sa : Nat} {fl : Nat} {lo : Nat} {SL : List LdS} {K : Nat → Option LdS} {bu : Nat → Nat} {bl : Nat} {th : Nat} (hC : clI G lq wv ow he co pr tx sa fl lo SL K bu bl) (hR : rfI G mq vv ow he co pr tx sa fl lo SL K bu bl th) (hS : spI ow he co pr tx SL K bu bl) : PairD G l lq mq yX3_tax wsX3_tax yX4_tax wsX4_tax wv vv := by
  exact pairD_a (nI (tx)) ((ow, he, co, pr, tx, sa, fl, lo), SL, K, bu, bl) (hS) (k_tax l G lq hC hS) (fun _ _ h => h) ⟨rfl, rfl, by decide, by decide, by decide, by decide⟩ (r_tax l G mq hR hS) (fun _ _ h => h) ⟨rfl, rfl, by decide, by decide, by decide, by decide⟩

set_option maxHeartbeats 4000000 in
set_option maxRecDepth 100000 in
theorem P_sales (l : Launch) (G : gG) (lq mq : Nat) {wv vv : va_W} {ow : Nat → Nat} {he : Nat → Nat} {co : Nat → Nat} {pr : Nat} {tx : Nat} {sa : Nat} {fl : Nat} {lo : Nat} {SL : List LdS} {K : Nat → Option LdS} {bu : Nat → Nat} {bl : Nat} {th : Nat} (hC : clI G lq wv ow he co pr tx sa fl lo SL K bu bl) (hR : rfI G mq vv ow he co pr tx sa fl lo SL K bu bl th) (hS : spI ow he co pr tx SL K bu bl) : PairD G l lq mq yX3_sales wsX3_sales yX4_sales wsX4_sales wv vv := by
  exact pairD_a (nI (sa)) ((ow, he, co, pr, tx, sa, fl, lo), SL, K, bu, bl) (hS) (k_sales l G lq hC hS) (fun _ _ h => h) ⟨rfl, rfl, by decide, by decide, by decide, by decide⟩ (r_sales l G mq hR hS) (fun _ _ h => h) ⟨rfl, rfl, by decide, by decide, by decide, by decide⟩

set_option maxHeartbeats 4000000 in
set_option maxRecDepth 100000 in
theorem P_floods (l : Launch) (G : gG) (lq mq : Nat) {wv vv : va_W} {ow : Nat → Nat} {he : Nat → Nat} {co : Nat → Nat} {pr : Nat} {tx : Nat} {sa : Nat} {fl : Nat} {lo : Nat} {SL : List LdS} {K : Nat → Option LdS} {bu : Nat → Nat} {bl : Nat} {th : Nat} (hC : clI G lq wv ow he co pr tx sa fl lo SL K bu bl) (hR : rfI G mq vv ow he co pr tx sa fl lo SL K bu bl th) (hS : spI ow he co pr tx SL K bu bl) : PairD G l lq mq yX3_floods wsX3_floods yX4_floods wsX4_floods wv vv := by
  exact pairD_a (nI (fl)) ((ow, he, co, pr, tx, sa, fl, lo), SL, K, bu, bl) (hS) (k_floods l G lq hC hS) (fun _ _ h => h) ⟨rfl, rfl, by decide, by decide, by decide, by decide⟩ (r_floods l G mq hR hS) (fun _ _ h => h) ⟨rfl, rfl, by decide, by decide, by decide, by decide⟩

set_option maxHeartbeats 4000000 in
set_option maxRecDepth 100000 in
theorem P_plotsLost (l : Launch) (G : gG) (lq mq : Nat) {wv vv : va_W} {ow : Nat → Nat} {he : Nat → Nat} {co : Nat → Nat} {pr : Nat} {tx : Nat} {sa : Nat} {fl : Nat} {lo : Nat} {SL : List LdS} {K : Nat → Option LdS} {bu : Nat → Nat} {bl : Nat} {th : Nat} (hC : clI G lq wv ow he co pr tx sa fl lo SL K bu bl) (hR : rfI G mq vv ow he co pr tx sa fl lo SL K bu bl th) (hS : spI ow he co pr tx SL K bu bl) : PairD G l lq mq yX3_plotsLost wsX3_plotsLost yX4_plotsLost wsX4_plotsLost wv vv := by
  exact pairD_a (nI (lo)) ((ow, he, co, pr, tx, sa, fl, lo), SL, K, bu, bl) (hS) (k_plotsLost l G lq hC hS) (fun _ _ h => h) ⟨rfl, rfl, by decide, by decide, by decide, by decide⟩ (r_plotsLost l G mq hR hS) (fun _ _ h => h) ⟨rfl, rfl, by decide, by decide, by decide, by decide⟩

set_option maxHeartbeats 4000000 in
set_option maxRecDepth 100000 in
theorem P_firstError (l : Launch) (G : gG) (lq mq : Nat) {wv vv : va_W} {ow : Nat → Nat} {he : Nat → Nat} {co : Nat → Nat} {pr : Nat} {tx : Nat} {sa : Nat} {fl : Nat} {lo : Nat} {SL : List LdS} {K : Nat → Option LdS} {bu : Nat → Nat} {bl : Nat} {th : Nat} (hC : clI G lq wv ow he co pr tx sa fl lo SL K bu bl) (hR : rfI G mq vv ow he co pr tx sa fl lo SL K bu bl th) (hS : spI ow he co pr tx SL K bu bl) : PairD G l lq mq yX3_firstError wsX3_firstError yX4_firstError wsX4_firstError wv vv := by
  refine pairD_z (fun S v => S = ((ow, he, co, pr, tx, sa, fl, lo), SL, K, bu, bl) ∧ ∃ s9 : RdT, v = nI (rdLen bu s9 bl)) (fun S v h => by rw [h.1]; exact hS) (k_firstError l G lq hC hS) ?_ ⟨rfl, rfl, by decide, by decide, by decide, by decide⟩ (r_firstError l G mq hR hS) ?_ ⟨rfl, rfl, by decide, by decide, by decide, by decide⟩
  · rintro r u ⟨s9, hr, hc⟩
    exact ⟨_, ⟨rfl, s9, hr⟩, hc⟩
  · rintro r u ⟨h1, h2⟩ S v ⟨rfl, s9, rfl⟩
    exact ⟨h2, h1 s9⟩
