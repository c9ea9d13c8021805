/-! OWN: what one drawn call does -/
def Acts (S S' : SpT) (r : Int) : Prop := -2147483648 ≤ r ∧ r < 2147483648 ∧ ((r < -1999 ∧ S' = S) ∨ (-1999 ≤ r ∧ ∃ L', S' = pushS S L' ∧ spS S'))
theorem sSq_le {F : Nat → Nat} {B cz z : Nat} (h : ∀ a, F a ≤ B) : ∀ n, sSq F cz z n ≤ B * n
  | 0 => Nat.zero_le _
  | n + 1 => by have h1 := sSq_le (cz := cz) (z := z) h n; have h2 := h (cz + 16 * (n / z) + n % z); simp only [sSq]; rw [Nat.mul_succ]; omega
theorem drLost_le (ow he : Nat → Nat) (lv : Nat) : ∀ k, drLost ow he lv k ≤ k
  | 0 => Nat.le_refl _
  | k + 1 => by have := drLost_le ow he lv k; simp only [drLost]; split <;> omega
theorem tx_due_le {cx cy zs : Nat → Nat} {n tx : Nat} {t : TxT} : ∀ k, (txN cx cy zs n tx t k).2.2.2.2 ≤ t.2.2.2.2 + k * (tx * n)
  | 0 => by rw [Nat.zero_mul]; exact Nat.le_refl _
  | k + 1 => by
    have h1 := tx_due_le (cx := cx) (cy := cy) (zs := zs) (n := n) (tx := tx) (t := t) k
    have h2 := Nat.mul_le_mul_left tx (sCnt_le (lpN cx cy zs n (k + 1) ((txN cx cy zs n tx t k).1, (txN cx cy zs n tx t k).2.1) (lsO (txN cx cy zs n tx t k).2.2.1 (txN cx cy zs n tx t k).2.1 tx (k + 1) n)).2 (k + 1) n)
    show (txN cx cy zs n tx t k).2.2.2.2 + tx * sCnt (lpN cx cy zs n (k + 1) ((txN cx cy zs n tx t k).1, (txN cx cy zs n tx t k).2.1) (lsO (txN cx cy zs n tx t k).2.2.1 (txN cx cy zs n tx t k).2.1 tx (k + 1) n)).2 (k + 1) n ≤ _
    rw [Nat.succ_mul]; omega
theorem acts_n {S : SpT} {n : Nat} {L : LdS} (hn : n < 2147483648) (hS : spS (pushS S L)) : Acts S (pushS S L) (n : Int) := ⟨by omega, by omega, Or.inr ⟨by omega, L, rfl, hS⟩⟩
theorem acts_x {S : SpT} {r : Int} (hr : r = -2011 ∨ r = -2012 ∨ r = -2013) : Acts S S r := ⟨by omega, by omega, Or.inl ⟨by omega, rfl⟩⟩
set_option maxHeartbeats 4000000 in
theorem ak_grant (l : Launch) (G : gG) (lq : Nat) (S : SpT) (a : Nat) (b : Nat) (z : Nat) (o : Nat) (hS9 : spS S) (ha : a < 8) (hb : b < 8) (hz : z = 1 ∨ z = 2 ∨ z = 4 ∨ z = 8) (ho : o < 8) (hl9 : l.stackTraces = false) : ∃ S2 r, DoV l G lq yX3_grant wsX3_grant [.int (nI (2 * a)), .int (nI (2 * b)), .int (nI z), .int (nI o)] S r S2 ∧ Acts S S2 r := by
  by_cases hq : sqN (2 * a) (2 * b) z
  · refine ⟨_, _, DoV.a (K_grant l G lq S (2 * a) (2 * b) z o hS9 hq ho) ⟨rfl, rfl, by decide, by decide, by decide, by decide⟩ (zI_nat _).symm, acts_n ?_ (spS_push hS9 ⟨gvOw_lt hS9.1.1 ho, hS9.1.2⟩)⟩
    have h1 := sSq_le (F := fun a => if S.1.1 a = o then 0 else 1) (B := 1) (cz := 2 * b * 16 + 2 * a) (z := z) (fun a => by show (if S.1.1 a = o then 0 else 1) ≤ 1; split <;> omega) (z * z)
    rcases hz with rfl | rfl | rfl | rfl <;> omega
  · skip
    have h := KX3_grant l G lq S ((2 * a : Nat) : Int) ((2 * b : Nat) : Int) ((z : Nat) : Int) ((o : Nat) : Int) hS9 (by omega) (by omega) (by omega) (by omega) (by omega) (by omega) (fun h => hq (sq_uncast h)) hl9
    try simp only [zI_nat] at h
    exact ⟨S, -2012, DoV.x h ⟨rfl, rfl, by decide, by decide, by decide, by decide⟩ exA, acts_x (by omega)⟩

set_option maxHeartbeats 4000000 in
theorem ak_raise (l : Launch) (G : gG) (lq : Nat) (S : SpT) (a : Nat) (b : Nat) (z : Nat) (hS9 : spS S) (ha : a < 8) (hb : b < 8) (hz : z = 1 ∨ z = 2 ∨ z = 4 ∨ z = 8) (hl9 : l.stackTraces = false) : ∃ S2 r, DoV l G lq yX3_raise wsX3_raise [.int (nI a), .int (nI b), .int (nI z), .int (zI ((a : Int) - (b : Int)))] S r S2 ∧ Acts S S2 r := by
  by_cases hq : sqN a b z
  · refine ⟨_, _, DoV.a (K_raise l G lq S a b z ((a : Int) - (b : Int)) hS9 hq (by omega)) ⟨rfl, rfl, by decide, by decide, by decide, by decide⟩ (zI_nat _).symm, acts_n ?_ (spS_push hS9 ⟨hS9.1.1, lfHe_lt hS9.1.2.1, hS9.1.2.2⟩)⟩
    have h1 := sSq_le (F := fun c => lfV ((a : Int) - (b : Int)) (S.1.2.1 c)) (B := 9) (cz := b * 16 + a) (z := z) (fun c => by have := lfV_lt ((a : Int) - (b : Int)) (S.1.2.1 c); show lfV ((a : Int) - (b : Int)) (S.1.2.1 c) ≤ 9; omega) (z * z)
    rcases hz with rfl | rfl | rfl | rfl <;> omega
  · skip
    have h := KX2_raise l G lq S ((a : Nat) : Int) ((b : Nat) : Int) ((z : Nat) : Int) ((a : Int) - (b : Int)) hS9 (by omega) (by omega) (by omega) (by omega) (by omega) (fun h => hq (sq_uncast h)) hl9
    try simp only [zI_nat] at h
    exact ⟨S, -2012, DoV.x h ⟨rfl, rfl, by decide, by decide, by decide, by decide⟩ exA, acts_x (by omega)⟩

set_option maxHeartbeats 4000000 in
theorem ak_flood (l : Launch) (G : gG) (lq : Nat) (S : SpT) (a : Nat) (hS9 : spS S) (ha : a < 8) (hl9 : l.stackTraces = false) : ∃ S2 r, DoV l G lq yX3_flood wsX3_flood [.int (nI a)] S r S2 ∧ Acts S S2 r := by
  by_cases hq : 1 ≤ a
  · refine ⟨_, _, DoV.a (K_flood l G lq S a hS9 ⟨hq, by omega⟩) ⟨rfl, rfl, by decide, by decide, by decide, by decide⟩ (zI_nat _).symm, acts_n (by have := drLost_le S.1.1 S.1.2.1 a 256; omega) (spS_push hS9 ⟨drOw_lt hS9.1.1, hS9.1.2⟩)⟩
  · skip
    have h := KX_flood l G lq S ((a : Nat) : Int) hS9 (by omega) (by omega) hl9
    try simp only [zI_nat] at h
    exact ⟨S, -2012, DoV.x h ⟨rfl, rfl, by decide, by decide, by decide, by decide⟩ exA, acts_x (by omega)⟩

set_option maxHeartbeats 4000000 in
theorem ak_buyPlot (l : Launch) (G : gG) (lq : Nat) (S : SpT) (a : Nat) (b : Nat) (hS9 : spS S) (ha : a < 8) (hb : b < 8) (hl9 : l.stackTraces = false) : ∃ S2 r, DoV l G lq yX3_buyPlot wsX3_buyPlot [.int (nI a), .int (nI (2 * b)), .int (nI a)] S r S2 ∧ Acts S S2 r := by
  by_cases hq : 1 ≤ a
  · by_cases hc : canS S.1.2.2.2.1 a (svX S.1.1 (rkA S.1.1 (2 * b) a)) (svY S.1.1 (rkA S.1.1 (2 * b) a)) (svZ S.1.1 (rkA S.1.1 (2 * b) a)) S.1.1 S.1.2.2.1
    · exact ⟨_, _, DoV.a (K_buyPlot l G lq S a (2 * b) a hS9 ⟨hq, ha⟩ (by omega) (by omega) hc) ⟨rfl, rfl, by decide, by decide, by decide, by decide⟩ (zI_nat _).symm, acts_n (by have h1 := hc.2.2; have h2 := coOK_le hS9.1.2.2.1 a; omega) (spS_push hS9 ⟨(slA_ok (r := rkA S.1.1 (2 * b) a) (A := (S.1.1, S.1.2.1, S.1.2.2.1, S.1.2.2.2.2.2.1, S.1.2.2.2.2.2.2.1, S.1.2.2.2.2.2.2.2)) ⟨hS9.1.1, hS9.1.2.1, hS9.1.2.2.1⟩ (show a < 8 by omega) hc.2.2).1, hS9.1.2.1, (slA_ok (r := rkA S.1.1 (2 * b) a) (A := (S.1.1, S.1.2.1, S.1.2.2.1, S.1.2.2.2.2.2.1, S.1.2.2.2.2.2.2.1, S.1.2.2.2.2.2.2.2)) ⟨hS9.1.1, hS9.1.2.1, hS9.1.2.2.1⟩ (show a < 8 by omega) hc.2.2).2.2, hS9.1.2.2.2⟩)⟩
    · skip
      have h := KX3_buyPlot l G lq S a (2 * b) a hS9 ⟨hq, ha⟩ (by omega) (by omega) hc hl9
      try simp only [zI_nat] at h
      exact ⟨S, -2013, DoV.x h ⟨rfl, rfl, by decide, by decide, by decide, by decide⟩ exS, acts_x (by omega)⟩
  · skip
    have h := KX_buyPlot l G lq S ((a : Nat) : Int) ((2 * b : Nat) : Int) ((a : Nat) : Int) hS9 (by omega) (by omega) (by omega) (by omega) hl9
    try simp only [zI_nat] at h
    exact ⟨S, -2011, DoV.x h ⟨rfl, rfl, by decide, by decide, by decide, by decide⟩ exO, acts_x (by omega)⟩

set_option maxHeartbeats 4000000 in
theorem ak_buySquare (l : Launch) (G : gG) (lq : Nat) (S : SpT) (a : Nat) (b : Nat) (z : Nat) (hS9 : spS S) (ha : a < 8) (hb : b < 8) (hz : z = 1 ∨ z = 2 ∨ z = 4 ∨ z = 8) (hl9 : l.stackTraces = false) : ∃ S2 r, DoV l G lq yX3_buySquare wsX3_buySquare [.int (nI a), .int (nI (2 * b)), .int (nI (2 * a)), .int (nI z)] S r S2 ∧ Acts S S2 r := by
  by_cases hp : 1 ≤ a
  · by_cases hq : sqN (2 * b) (2 * a) z
    · by_cases hc : canS S.1.2.2.2.1 a (2 * b) (2 * a) z S.1.1 S.1.2.2.1
      · exact ⟨_, _, DoV.a (K_buySquare l G lq S a (2 * b) (2 * a) z hS9 ⟨hp, ha⟩ hq hc) ⟨rfl, rfl, by decide, by decide, by decide, by decide⟩ (zI_nat _).symm, acts_n (by have h1 := hc.2.2; have h2 := coOK_le hS9.1.2.2.1 a; omega) (spS_push hS9 ⟨gvOw_lt hS9.1.1 ha, hS9.1.2.1, payC_ok hS9.1.2.2.1 ha (hS9.1.1 _) hc.2.2, hS9.1.2.2.2⟩)⟩
      · skip
        have h := KX4_buySquare l G lq S a (2 * b) (2 * a) z hS9 ⟨hp, ha⟩ hq hc hl9
        try simp only [zI_nat] at h
        exact ⟨S, -2013, DoV.x h ⟨rfl, rfl, by decide, by decide, by decide, by decide⟩ exS, acts_x (by omega)⟩
    · skip
      have h := KX3_buySquare l G lq S ((a : Nat) : Int) ((2 * b : Nat) : Int) ((2 * a : Nat) : Int) ((z : Nat) : Int) hS9 (by omega) (by omega) (by omega) (by omega) (by omega) (by omega) (fun h => hq (sq_uncast h)) hl9
      try simp only [zI_nat] at h
      exact ⟨S, -2012, DoV.x h ⟨rfl, rfl, by decide, by decide, by decide, by decide⟩ exA, acts_x (by omega)⟩
  · skip
    have h := KX_buySquare l G lq S ((a : Nat) : Int) ((2 * b : Nat) : Int) ((2 * a : Nat) : Int) ((z : Nat) : Int) hS9 (by omega) (by omega) (by omega) (by omega) (by omega) hl9
    try simp only [zI_nat] at h
    exact ⟨S, -2011, DoV.x h ⟨rfl, rfl, by decide, by decide, by decide, by decide⟩ exO, acts_x (by omega)⟩

set_option maxHeartbeats 4000000 in
theorem ak_setPrice (l : Launch) (G : gG) (lq : Nat) (S : SpT) (a : Nat) (hS9 : spS S) (ha : a < 8) (hl9 : l.stackTraces = false) : ∃ S2 r, DoV l G lq yX3_setPrice wsX3_setPrice [.int (nI a)] S r S2 ∧ Acts S S2 r := by
  by_cases hq : 1 ≤ a
  · exact ⟨_, _, DoV.a (K_setPrice l G lq S a hS9 ⟨hq, by omega⟩) ⟨rfl, rfl, by decide, by decide, by decide, by decide⟩ (zI_nat _).symm, acts_n (by have := hS9.1.2.2.2.1; omega) (spS_push hS9 ⟨hS9.1.1, hS9.1.2.1, hS9.1.2.2.1, (by show a ≤ 9; omega), hS9.1.2.2.2.2⟩)⟩
  · skip
    have h := KX_setPrice l G lq S ((a : Nat) : Int) hS9 (by omega) (by omega) hl9
    try simp only [zI_nat] at h
    exact ⟨S, -2012, DoV.x h ⟨rfl, rfl, by decide, by decide, by decide, by decide⟩ exA, acts_x (by omega)⟩

set_option maxHeartbeats 4000000 in
theorem ak_setTax (l : Launch) (G : gG) (lq : Nat) (S : SpT) (b : Nat) (hS9 : spS S) (hb : b < 8) (hl9 : l.stackTraces = false) : ∃ S2 r, DoV l G lq yX3_setTax wsX3_setTax [.int (nI b)] S r S2 ∧ Acts S S2 r := by
  exact ⟨_, _, DoV.a (K_setTax l G lq S b hS9 (by omega)) ⟨rfl, rfl, by decide, by decide, by decide, by decide⟩ (zI_nat _).symm, acts_n (by have := hS9.1.2.2.2.2; omega) (spS_push hS9 ⟨hS9.1.1, hS9.1.2.1, hS9.1.2.2.1, hS9.1.2.2.2.1, (by show b ≤ 9; omega)⟩)⟩

set_option maxHeartbeats 4000000 in
theorem ak_goBack (l : Launch) (G : gG) (lq : Nat) (S : SpT) (k : Nat) (hS9 : spS S) (hk : k < 2) (hl9 : l.stackTraces = false) : ∃ S2 r, DoV l G lq yX3_goBack wsX3_goBack [.int (nI k)] S r S2 ∧ Acts S S2 r := by
  cases hKk : S.2.2.1 k with
  | none =>
    have h := KX2_goBack l G lq S k hS9 hk hKk hl9
    try simp only [zI_nat] at h
    exact ⟨S, -2013, DoV.x h ⟨rfl, rfl, by decide, by decide, by decide, by decide⟩ exS, acts_x (by omega)⟩
  | some c => exact ⟨_, _, DoV.a (K_goBack l G lq S k c hS9 hk hKk) ⟨rfl, rfl, by decide, by decide, by decide, by decide⟩ (zI_nat _).symm, acts_n (by have := (cnt_le c.1).2; omega) (spS_push hS9 (hS9.2.2.2.1 k c hKk))⟩

set_option maxHeartbeats 4000000 in
theorem ak_collectTaxes (l : Launch) (G : gG) (lq : Nat) (S : SpT) (hS9 : spS S) : ∃ S2 n, LQ l G lq yX3_collectTaxes wsX3_collectTaxes { frames := 6, cells := 4, slots := 528, locals := 160 } [] S (zI (n : Int)) S2 4 528 ∧ Acts S S2 n := by
  refine ⟨_, _, (K_collectTaxes l G lq S hS9).r (zI_nat _).symm, acts_n ?_ (spS_push hS9 ⟨(txA_ok (A := (S.1.1, S.1.2.1, S.1.2.2.1, S.1.2.2.2.2.2.1, S.1.2.2.2.2.2.2.1, S.1.2.2.2.2.2.2.2)) ⟨hS9.1.1, hS9.1.2.1, hS9.1.2.2.1⟩).1, hS9.1.2.1, (txA_ok (A := (S.1.1, S.1.2.1, S.1.2.2.1, S.1.2.2.2.2.2.1, S.1.2.2.2.2.2.2.1, S.1.2.2.2.2.2.2.2)) ⟨hS9.1.1, hS9.1.2.1, hS9.1.2.2.1⟩).2, hS9.1.2.2.2⟩)⟩
  have h1 := tx_due_le (cx := svX S.1.1) (cy := svY S.1.1) (zs := svZ S.1.1) (n := cnt S.1.1) (tx := S.1.2.2.2.2.1) (t := (S.1.1, svO S.1.1, S.1.2.2.1, S.1.2.2.2.2.2.2.2, 0)) 7
  have h2 := Nat.mul_le_mul hS9.1.2.2.2.2 (cnt_le S.1.1).2
  have h3 : (0 : Nat) + 7 * (S.1.2.2.2.2.1 * cnt S.1.1) < 2147483648 := by omega
  exact Nat.lt_of_le_of_lt h1 h3
