/-! OWN: what is refused, one call each -/
def szv (k : Nat) : Int := if k = 0 then 0 else if k = 1 then 3 else if k = 2 then -2147483648 else 32
theorem szv_b (k : Nat) : -2147483648 ≤ szv k ∧ szv k < 2147483648 := by unfold szv; (repeat' split) <;> omega
theorem szv_no (k : Nat) : ¬ (szv k = 1 ∨ szv k = 2 ∨ szv k = 4 ∨ szv k = 8 ∨ szv k = 16) := by unfold szv; (repeat' split) <;> omega
set_option maxHeartbeats 4000000 in
theorem rf_62 (l : Launch) (G : gG) (lq : Nat) (S : SpT) (k : Nat) (hS9 : spS S) (hk : k < 4) (hl9 : l.stackTraces = false) : DoV l G lq yX3_grant wsX3_grant [.int (zI (fr k 0 15)), .int (nI 0), .int (nI 3), .int (nI 0)] S (-2011) S := by
  have e1 := fr_out k (lo := 0) (hi := 15) (by decide) (by decide) (by decide)
  have e2 := fr_b k (lo := 0) (hi := 15) (by decide) (by decide) (by decide)
  have e3 := fr_out k (lo := 0) (hi := 7) (by decide) (by decide) (by decide)
  have e4 := fr_b k (lo := 0) (hi := 7) (by decide) (by decide) (by decide)
  have e5 := fr_out k (lo := 1) (hi := 7) (by decide) (by decide) (by decide)
  have e6 := fr_b k (lo := 1) (hi := 7) (by decide) (by decide) (by decide)
  have e7 := szv_no k
  have e8 := szv_b k
  have h := KX_grant l G lq S (fr k 0 15) ((0 : Nat) : Int) ((3 : Nat) : Int) ((0 : Nat) : Int) hS9 (by omega) (by omega) (by omega) (by omega) (by omega) hl9
  try simp only [zI_nat] at h
  exact DoV.x h ⟨rfl, rfl, by decide, by decide, by decide, by decide⟩ exO

set_option maxHeartbeats 4000000 in
theorem rf_77 (l : Launch) (G : gG) (lq : Nat) (S : SpT) (k : Nat) (hS9 : spS S) (hk : k < 4) (hl9 : l.stackTraces = false) : DoV l G lq yX3_grant wsX3_grant [.int (nI 0), .int (zI (fr k 0 15)), .int (nI 3), .int (nI 0)] S (-2011) S := by
  have e1 := fr_out k (lo := 0) (hi := 15) (by decide) (by decide) (by decide)
  have e2 := fr_b k (lo := 0) (hi := 15) (by decide) (by decide) (by decide)
  have e3 := fr_out k (lo := 0) (hi := 7) (by decide) (by decide) (by decide)
  have e4 := fr_b k (lo := 0) (hi := 7) (by decide) (by decide) (by decide)
  have e5 := fr_out k (lo := 1) (hi := 7) (by decide) (by decide) (by decide)
  have e6 := fr_b k (lo := 1) (hi := 7) (by decide) (by decide) (by decide)
  have e7 := szv_no k
  have e8 := szv_b k
  have h := KX_grant l G lq S ((0 : Nat) : Int) (fr k 0 15) ((3 : Nat) : Int) ((0 : Nat) : Int) hS9 (by omega) (by omega) (by omega) (by omega) (by omega) hl9
  try simp only [zI_nat] at h
  exact DoV.x h ⟨rfl, rfl, by decide, by decide, by decide, by decide⟩ exO

set_option maxHeartbeats 4000000 in
theorem rf_92 (l : Launch) (G : gG) (lq : Nat) (S : SpT) (k : Nat) (hS9 : spS S) (hk : k < 4) (hl9 : l.stackTraces = false) : DoV l G lq yX3_grant wsX3_grant [.int (nI 0), .int (nI 0), .int (nI 3), .int (zI (fr k 0 7))] S (-2011) S := by
  have e1 := fr_out k (lo := 0) (hi := 15) (by decide) (by decide) (by decide)
  have e2 := fr_b k (lo := 0) (hi := 15) (by decide) (by decide) (by decide)
  have e3 := fr_out k (lo := 0) (hi := 7) (by decide) (by decide) (by decide)
  have e4 := fr_b k (lo := 0) (hi := 7) (by decide) (by decide) (by decide)
  have e5 := fr_out k (lo := 1) (hi := 7) (by decide) (by decide) (by decide)
  have e6 := fr_b k (lo := 1) (hi := 7) (by decide) (by decide) (by decide)
  have e7 := szv_no k
  have e8 := szv_b k
  have h := KX2_grant l G lq S ((0 : Nat) : Int) ((0 : Nat) : Int) ((3 : Nat) : Int) (fr k 0 7) hS9 (by omega) (by omega) (by omega) (by omega) (by omega) (by omega) hl9
  try simp only [zI_nat] at h
  exact DoV.x h ⟨rfl, rfl, by decide, by decide, by decide, by decide⟩ exO

set_option maxHeartbeats 4000000 in
theorem rf_109 (l : Launch) (G : gG) (lq : Nat) (S : SpT) (k : Nat) (hS9 : spS S) (hk : k < 4) (hl9 : l.stackTraces = false) : DoV l G lq yX3_grant wsX3_grant [.int (nI 0), .int (nI 0), .int (zI (szv k)), .int (nI 7)] S (-2012) S := by
  have e1 := fr_out k (lo := 0) (hi := 15) (by decide) (by decide) (by decide)
  have e2 := fr_b k (lo := 0) (hi := 15) (by decide) (by decide) (by decide)
  have e3 := fr_out k (lo := 0) (hi := 7) (by decide) (by decide) (by decide)
  have e4 := fr_b k (lo := 0) (hi := 7) (by decide) (by decide) (by decide)
  have e5 := fr_out k (lo := 1) (hi := 7) (by decide) (by decide) (by decide)
  have e6 := fr_b k (lo := 1) (hi := 7) (by decide) (by decide) (by decide)
  have e7 := szv_no k
  have e8 := szv_b k
  have h := KX3_grant l G lq S ((0 : Nat) : Int) ((0 : Nat) : Int) (szv k) ((7 : Nat) : Int) hS9 (by omega) (by omega) (by omega) (by omega) (by omega) (by omega) (by omega) hl9
  try simp only [zI_nat] at h
  exact DoV.x h ⟨rfl, rfl, by decide, by decide, by decide, by decide⟩ exA

set_option maxHeartbeats 4000000 in
theorem rf_127 (l : Launch) (G : gG) (lq : Nat) (S : SpT) (k : Nat) (hS9 : spS S) (hk : k < 4) (hl9 : l.stackTraces = false) : DoV l G lq yX3_grant wsX3_grant [.int (nI (1 + k)), .int (nI 0), .int (nI 8), .int (nI 0)] S (-2012) S := by
  have e1 := fr_out k (lo := 0) (hi := 15) (by decide) (by decide) (by decide)
  have e2 := fr_b k (lo := 0) (hi := 15) (by decide) (by decide) (by decide)
  have e3 := fr_out k (lo := 0) (hi := 7) (by decide) (by decide) (by decide)
  have e4 := fr_b k (lo := 0) (hi := 7) (by decide) (by decide) (by decide)
  have e5 := fr_out k (lo := 1) (hi := 7) (by decide) (by decide) (by decide)
  have e6 := fr_b k (lo := 1) (hi := 7) (by decide) (by decide) (by decide)
  have e7 := szv_no k
  have e8 := szv_b k
  have h := KX3_grant l G lq S ((1 + k : Nat) : Int) ((0 : Nat) : Int) ((8 : Nat) : Int) ((0 : Nat) : Int) hS9 (by omega) (by omega) (by omega) (by omega) (by omega) (by omega) (by omega) hl9
  try simp only [zI_nat] at h
  exact DoV.x h ⟨rfl, rfl, by decide, by decide, by decide, by decide⟩ exA

set_option maxHeartbeats 4000000 in
theorem rf_142 (l : Launch) (G : gG) (lq : Nat) (S : SpT) (k : Nat) (hS9 : spS S) (hk : k < 4) (hl9 : l.stackTraces = false) : DoV l G lq yX3_raise wsX3_raise [.int (zI (fr k 0 15)), .int (nI 0), .int (nI 3), .int (nI 0)] S (-2011) S := by
  have e1 := fr_out k (lo := 0) (hi := 15) (by decide) (by decide) (by decide)
  have e2 := fr_b k (lo := 0) (hi := 15) (by decide) (by decide) (by decide)
  have e3 := fr_out k (lo := 0) (hi := 7) (by decide) (by decide) (by decide)
  have e4 := fr_b k (lo := 0) (hi := 7) (by decide) (by decide) (by decide)
  have e5 := fr_out k (lo := 1) (hi := 7) (by decide) (by decide) (by decide)
  have e6 := fr_b k (lo := 1) (hi := 7) (by decide) (by decide) (by decide)
  have e7 := szv_no k
  have e8 := szv_b k
  have h := KX_raise l G lq S (fr k 0 15) ((0 : Nat) : Int) ((3 : Nat) : Int) ((0 : Nat) : Int) hS9 (by omega) (by omega) (by omega) (by omega) (by omega) hl9
  try simp only [zI_nat] at h
  exact DoV.x h ⟨rfl, rfl, by decide, by decide, by decide, by decide⟩ exO

set_option maxHeartbeats 4000000 in
theorem rf_159 (l : Launch) (G : gG) (lq : Nat) (S : SpT) (k : Nat) (hS9 : spS S) (hk : k < 4) (hl9 : l.stackTraces = false) : DoV l G lq yX3_raise wsX3_raise [.int (nI 15), .int (zI (fr k 0 15)), .int (nI 1), .int (nI 99)] S (-2011) S := by
  have e1 := fr_out k (lo := 0) (hi := 15) (by decide) (by decide) (by decide)
  have e2 := fr_b k (lo := 0) (hi := 15) (by decide) (by decide) (by decide)
  have e3 := fr_out k (lo := 0) (hi := 7) (by decide) (by decide) (by decide)
  have e4 := fr_b k (lo := 0) (hi := 7) (by decide) (by decide) (by decide)
  have e5 := fr_out k (lo := 1) (hi := 7) (by decide) (by decide) (by decide)
  have e6 := fr_b k (lo := 1) (hi := 7) (by decide) (by decide) (by decide)
  have e7 := szv_no k
  have e8 := szv_b k
  have h := KX_raise l G lq S ((15 : Nat) : Int) (fr k 0 15) ((1 : Nat) : Int) ((99 : Nat) : Int) hS9 (by omega) (by omega) (by omega) (by omega) (by omega) hl9
  try simp only [zI_nat] at h
  exact DoV.x h ⟨rfl, rfl, by decide, by decide, by decide, by decide⟩ exO

set_option maxHeartbeats 4000000 in
theorem rf_175 (l : Launch) (G : gG) (lq : Nat) (S : SpT) (k : Nat) (hS9 : spS S) (hk : k < 4) (hl9 : l.stackTraces = false) : DoV l G lq yX3_raise wsX3_raise [.int (nI 0), .int (nI 0), .int (zI (szv k)), .int (nI 0)] S (-2012) S := by
  have e1 := fr_out k (lo := 0) (hi := 15) (by decide) (by decide) (by decide)
  have e2 := fr_b k (lo := 0) (hi := 15) (by decide) (by decide) (by decide)
  have e3 := fr_out k (lo := 0) (hi := 7) (by decide) (by decide) (by decide)
  have e4 := fr_b k (lo := 0) (hi := 7) (by decide) (by decide) (by decide)
  have e5 := fr_out k (lo := 1) (hi := 7) (by decide) (by decide) (by decide)
  have e6 := fr_b k (lo := 1) (hi := 7) (by decide) (by decide) (by decide)
  have e7 := szv_no k
  have e8 := szv_b k
  have h := KX2_raise l G lq S ((0 : Nat) : Int) ((0 : Nat) : Int) (szv k) ((0 : Nat) : Int) hS9 (by omega) (by omega) (by omega) (by omega) (by omega) (by omega) hl9
  try simp only [zI_nat] at h
  exact DoV.x h ⟨rfl, rfl, by decide, by decide, by decide, by decide⟩ exA

set_option maxHeartbeats 4000000 in
theorem rf_197 (l : Launch) (G : gG) (lq : Nat) (S : SpT) (k : Nat) (hS9 : spS S) (hk : k < 4) (hl9 : l.stackTraces = false) : DoV l G lq yX3_raise wsX3_raise [.int (nI 0), .int (nI 0), .int (nI 1), .int (zI (fr k (-9) 9))] S (-2012) S := by
  have e1 := fr_out k (lo := 0) (hi := 15) (by decide) (by decide) (by decide)
  have e2 := fr_b k (lo := 0) (hi := 15) (by decide) (by decide) (by decide)
  have e3 := fr_out k (lo := 0) (hi := 7) (by decide) (by decide) (by decide)
  have e4 := fr_b k (lo := 0) (hi := 7) (by decide) (by decide) (by decide)
  have e5 := fr_out k (lo := 1) (hi := 7) (by decide) (by decide) (by decide)
  have e6 := fr_b k (lo := 1) (hi := 7) (by decide) (by decide) (by decide)
  have e7 := szv_no k
  have e8 := szv_b k
  have e9 := fr_out k (lo := -9) (hi := 9) (by decide) (by decide) (by decide)
  have e10 := fr_b k (lo := -9) (hi := 9) (by decide) (by decide) (by decide)
  have h := KX3_raise l G lq S ((0 : Nat) : Int) ((0 : Nat) : Int) ((1 : Nat) : Int) (fr k (-9) 9) hS9 (by omega) (by omega) (by omega) (by omega) (by omega) (by omega) (by omega) hl9
  try simp only [zI_nat] at h
  exact DoV.x h ⟨rfl, rfl, by decide, by decide, by decide, by decide⟩ exA

set_option maxHeartbeats 4000000 in
theorem rf_218 (l : Launch) (G : gG) (lq : Nat) (S : SpT) (k : Nat) (hS9 : spS S) (hk : k < 4) (hl9 : l.stackTraces = false) : DoV l G lq yX3_flood wsX3_flood [.int (zI (fr k 1 10))] S (-2012) S := by
  have e1 := fr_out k (lo := 0) (hi := 15) (by decide) (by decide) (by decide)
  have e2 := fr_b k (lo := 0) (hi := 15) (by decide) (by decide) (by decide)
  have e3 := fr_out k (lo := 0) (hi := 7) (by decide) (by decide) (by decide)
  have e4 := fr_b k (lo := 0) (hi := 7) (by decide) (by decide) (by decide)
  have e5 := fr_out k (lo := 1) (hi := 7) (by decide) (by decide) (by decide)
  have e6 := fr_b k (lo := 1) (hi := 7) (by decide) (by decide) (by decide)
  have e7 := szv_no k
  have e8 := szv_b k
  have e9 := fr_out k (lo := 1) (hi := 10) (by decide) (by decide) (by decide)
  have e10 := fr_b k (lo := 1) (hi := 10) (by decide) (by decide) (by decide)
  have h := KX_flood l G lq S (fr k 1 10) hS9 (by omega) (by omega) hl9
  try simp only [zI_nat] at h
  exact DoV.x h ⟨rfl, rfl, by decide, by decide, by decide, by decide⟩ exA

set_option maxHeartbeats 4000000 in
theorem rf_234 (l : Launch) (G : gG) (lq : Nat) (S : SpT) (k : Nat) (hS9 : spS S) (hk : k < 4) (hl9 : l.stackTraces = false) : DoV l G lq yX3_buyPlot wsX3_buyPlot [.int (zI (fr k 1 7)), .int (nI 0), .int (nI 0)] S (-2011) S := by
  have e1 := fr_out k (lo := 0) (hi := 15) (by decide) (by decide) (by decide)
  have e2 := fr_b k (lo := 0) (hi := 15) (by decide) (by decide) (by decide)
  have e3 := fr_out k (lo := 0) (hi := 7) (by decide) (by decide) (by decide)
  have e4 := fr_b k (lo := 0) (hi := 7) (by decide) (by decide) (by decide)
  have e5 := fr_out k (lo := 1) (hi := 7) (by decide) (by decide) (by decide)
  have e6 := fr_b k (lo := 1) (hi := 7) (by decide) (by decide) (by decide)
  have e7 := szv_no k
  have e8 := szv_b k
  have h := KX_buyPlot l G lq S (fr k 1 7) ((0 : Nat) : Int) ((0 : Nat) : Int) hS9 (by omega) (by omega) (by omega) (by omega) hl9
  try simp only [zI_nat] at h
  exact DoV.x h ⟨rfl, rfl, by decide, by decide, by decide, by decide⟩ exO

set_option maxHeartbeats 4000000 in
theorem rf_249 (l : Launch) (G : gG) (lq : Nat) (S : SpT) (k : Nat) (hS9 : spS S) (hk : k < 4) (hl9 : l.stackTraces = false) : DoV l G lq yX3_buyPlot wsX3_buyPlot [.int (nI 1), .int (zI (fr k 0 15)), .int (nI 0)] S (-2011) S := by
  have e1 := fr_out k (lo := 0) (hi := 15) (by decide) (by decide) (by decide)
  have e2 := fr_b k (lo := 0) (hi := 15) (by decide) (by decide) (by decide)
  have e3 := fr_out k (lo := 0) (hi := 7) (by decide) (by decide) (by decide)
  have e4 := fr_b k (lo := 0) (hi := 7) (by decide) (by decide) (by decide)
  have e5 := fr_out k (lo := 1) (hi := 7) (by decide) (by decide) (by decide)
  have e6 := fr_b k (lo := 1) (hi := 7) (by decide) (by decide) (by decide)
  have e7 := szv_no k
  have e8 := szv_b k
  have h := KX2_buyPlot l G lq S ((1 : Nat) : Int) (fr k 0 15) ((0 : Nat) : Int) hS9 (by omega) (by omega) (by omega) (by omega) (by omega) hl9
  try simp only [zI_nat] at h
  exact DoV.x h ⟨rfl, rfl, by decide, by decide, by decide, by decide⟩ exO

set_option maxHeartbeats 4000000 in
theorem rf_264 (l : Launch) (G : gG) (lq : Nat) (S : SpT) (k : Nat) (hS9 : spS S) (hk : k < 4) (hl9 : l.stackTraces = false) : DoV l G lq yX3_buyPlot wsX3_buyPlot [.int (nI 1), .int (nI 0), .int (zI (fr k 0 15))] S (-2011) S := by
  have e1 := fr_out k (lo := 0) (hi := 15) (by decide) (by decide) (by decide)
  have e2 := fr_b k (lo := 0) (hi := 15) (by decide) (by decide) (by decide)
  have e3 := fr_out k (lo := 0) (hi := 7) (by decide) (by decide) (by decide)
  have e4 := fr_b k (lo := 0) (hi := 7) (by decide) (by decide) (by decide)
  have e5 := fr_out k (lo := 1) (hi := 7) (by decide) (by decide) (by decide)
  have e6 := fr_b k (lo := 1) (hi := 7) (by decide) (by decide) (by decide)
  have e7 := szv_no k
  have e8 := szv_b k
  have h := KX2_buyPlot l G lq S ((1 : Nat) : Int) ((0 : Nat) : Int) (fr k 0 15) hS9 (by omega) (by omega) (by omega) (by omega) (by omega) hl9
  try simp only [zI_nat] at h
  exact DoV.x h ⟨rfl, rfl, by decide, by decide, by decide, by decide⟩ exO

set_option maxHeartbeats 4000000 in
theorem rf_280 (l : Launch) (G : gG) (lq : Nat) (S : SpT) (k : Nat) (hS9 : spS S) (hk : k < 4) (hl9 : l.stackTraces = false) : DoV l G lq yX3_buySquare wsX3_buySquare [.int (zI (fr k 1 7)), .int (nI 0), .int (nI 0), .int (nI 3)] S (-2011) S := by
  have e1 := fr_out k (lo := 0) (hi := 15) (by decide) (by decide) (by decide)
  have e2 := fr_b k (lo := 0) (hi := 15) (by decide) (by decide) (by decide)
  have e3 := fr_out k (lo := 0) (hi := 7) (by decide) (by decide) (by decide)
  have e4 := fr_b k (lo := 0) (hi := 7) (by decide) (by decide) (by decide)
  have e5 := fr_out k (lo := 1) (hi := 7) (by decide) (by decide) (by decide)
  have e6 := fr_b k (lo := 1) (hi := 7) (by decide) (by decide) (by decide)
  have e7 := szv_no k
  have e8 := szv_b k
  have h := KX_buySquare l G lq S (fr k 1 7) ((0 : Nat) : Int) ((0 : Nat) : Int) ((3 : Nat) : Int) hS9 (by omega) (by omega) (by omega) (by omega) (by omega) hl9
  try simp only [zI_nat] at h
  exact DoV.x h ⟨rfl, rfl, by decide, by decide, by decide, by decide⟩ exO

set_option maxHeartbeats 4000000 in
theorem rf_296 (l : Launch) (G : gG) (lq : Nat) (S : SpT) (k : Nat) (hS9 : spS S) (hk : k < 4) (hl9 : l.stackTraces = false) : DoV l G lq yX3_buySquare wsX3_buySquare [.int (nI 7), .int (zI (fr k 0 15)), .int (nI 0), .int (nI 3)] S (-2011) S := by
  have e1 := fr_out k (lo := 0) (hi := 15) (by decide) (by decide) (by decide)
  have e2 := fr_b k (lo := 0) (hi := 15) (by decide) (by decide) (by decide)
  have e3 := fr_out k (lo := 0) (hi := 7) (by decide) (by decide) (by decide)
  have e4 := fr_b k (lo := 0) (hi := 7) (by decide) (by decide) (by decide)
  have e5 := fr_out k (lo := 1) (hi := 7) (by decide) (by decide) (by decide)
  have e6 := fr_b k (lo := 1) (hi := 7) (by decide) (by decide) (by decide)
  have e7 := szv_no k
  have e8 := szv_b k
  have h := KX2_buySquare l G lq S ((7 : Nat) : Int) (fr k 0 15) ((0 : Nat) : Int) ((3 : Nat) : Int) hS9 (by omega) (by omega) (by omega) (by omega) (by omega) (by omega) hl9
  try simp only [zI_nat] at h
  exact DoV.x h ⟨rfl, rfl, by decide, by decide, by decide, by decide⟩ exO

set_option maxHeartbeats 4000000 in
theorem rf_312 (l : Launch) (G : gG) (lq : Nat) (S : SpT) (k : Nat) (hS9 : spS S) (hk : k < 4) (hl9 : l.stackTraces = false) : DoV l G lq yX3_buySquare wsX3_buySquare [.int (nI 7), .int (nI 0), .int (zI (fr k 0 15)), .int (nI 3)] S (-2011) S := by
  have e1 := fr_out k (lo := 0) (hi := 15) (by decide) (by decide) (by decide)
  have e2 := fr_b k (lo := 0) (hi := 15) (by decide) (by decide) (by decide)
  have e3 := fr_out k (lo := 0) (hi := 7) (by decide) (by decide) (by decide)
  have e4 := fr_b k (lo := 0) (hi := 7) (by decide) (by decide) (by decide)
  have e5 := fr_out k (lo := 1) (hi := 7) (by decide) (by decide) (by decide)
  have e6 := fr_b k (lo := 1) (hi := 7) (by decide) (by decide) (by decide)
  have e7 := szv_no k
  have e8 := szv_b k
  have h := KX2_buySquare l G lq S ((7 : Nat) : Int) ((0 : Nat) : Int) (fr k 0 15) ((3 : Nat) : Int) hS9 (by omega) (by omega) (by omega) (by omega) (by omega) (by omega) hl9
  try simp only [zI_nat] at h
  exact DoV.x h ⟨rfl, rfl, by decide, by decide, by decide, by decide⟩ exO

set_option maxHeartbeats 4000000 in
theorem rf_329 (l : Launch) (G : gG) (lq : Nat) (S : SpT) (k : Nat) (hS9 : spS S) (hk : k < 4) (hl9 : l.stackTraces = false) : DoV l G lq yX3_buySquare wsX3_buySquare [.int (nI 7), .int (nI 0), .int (nI 0), .int (zI (szv k))] S (-2012) S := by
  have e1 := fr_out k (lo := 0) (hi := 15) (by decide) (by decide) (by decide)
  have e2 := fr_b k (lo := 0) (hi := 15) (by decide) (by decide) (by decide)
  have e3 := fr_out k (lo := 0) (hi := 7) (by decide) (by decide) (by decide)
  have e4 := fr_b k (lo := 0) (hi := 7) (by decide) (by decide) (by decide)
  have e5 := fr_out k (lo := 1) (hi := 7) (by decide) (by decide) (by decide)
  have e6 := fr_b k (lo := 1) (hi := 7) (by decide) (by decide) (by decide)
  have e7 := szv_no k
  have e8 := szv_b k
  have h := KX3_buySquare l G lq S ((7 : Nat) : Int) ((0 : Nat) : Int) ((0 : Nat) : Int) (szv k) hS9 (by omega) (by omega) (by omega) (by omega) (by omega) (by omega) (by omega) hl9
  try simp only [zI_nat] at h
  exact DoV.x h ⟨rfl, rfl, by decide, by decide, by decide, by decide⟩ exA

set_option maxHeartbeats 4000000 in
theorem rf_350 (l : Launch) (G : gG) (lq : Nat) (S : SpT) (k : Nat) (hS9 : spS S) (hk : k < 4) (hl9 : l.stackTraces = false) : DoV l G lq yX3_setPrice wsX3_setPrice [.int (zI (fr k 1 9))] S (-2012) S := by
  have e1 := fr_out k (lo := 0) (hi := 15) (by decide) (by decide) (by decide)
  have e2 := fr_b k (lo := 0) (hi := 15) (by decide) (by decide) (by decide)
  have e3 := fr_out k (lo := 0) (hi := 7) (by decide) (by decide) (by decide)
  have e4 := fr_b k (lo := 0) (hi := 7) (by decide) (by decide) (by decide)
  have e5 := fr_out k (lo := 1) (hi := 7) (by decide) (by decide) (by decide)
  have e6 := fr_b k (lo := 1) (hi := 7) (by decide) (by decide) (by decide)
  have e7 := szv_no k
  have e8 := szv_b k
  have e9 := fr_out k (lo := 1) (hi := 9) (by decide) (by decide) (by decide)
  have e10 := fr_b k (lo := 1) (hi := 9) (by decide) (by decide) (by decide)
  have h := KX_setPrice l G lq S (fr k 1 9) hS9 (by omega) (by omega) hl9
  try simp only [zI_nat] at h
  exact DoV.x h ⟨rfl, rfl, by decide, by decide, by decide, by decide⟩ exA

set_option maxHeartbeats 4000000 in
theorem rf_372 (l : Launch) (G : gG) (lq : Nat) (S : SpT) (k : Nat) (hS9 : spS S) (hk : k < 4) (hl9 : l.stackTraces = false) : DoV l G lq yX3_setTax wsX3_setTax [.int (zI (fr k 0 9))] S (-2012) S := by
  have e1 := fr_out k (lo := 0) (hi := 15) (by decide) (by decide) (by decide)
  have e2 := fr_b k (lo := 0) (hi := 15) (by decide) (by decide) (by decide)
  have e3 := fr_out k (lo := 0) (hi := 7) (by decide) (by decide) (by decide)
  have e4 := fr_b k (lo := 0) (hi := 7) (by decide) (by decide) (by decide)
  have e5 := fr_out k (lo := 1) (hi := 7) (by decide) (by decide) (by decide)
  have e6 := fr_b k (lo := 1) (hi := 7) (by decide) (by decide) (by decide)
  have e7 := szv_no k
  have e8 := szv_b k
  have e9 := fr_out k (lo := 0) (hi := 9) (by decide) (by decide) (by decide)
  have e10 := fr_b k (lo := 0) (hi := 9) (by decide) (by decide) (by decide)
  have h := KX_setTax l G lq S (fr k 0 9) hS9 (by omega) (by omega) hl9
  try simp only [zI_nat] at h
  exact DoV.x h ⟨rfl, rfl, by decide, by decide, by decide, by decide⟩ exA

set_option maxHeartbeats 4000000 in
theorem rf_395 (l : Launch) (G : gG) (lq : Nat) (S : SpT) (k : Nat) (hS9 : spS S) (hk : k < 4) (hl9 : l.stackTraces = false) : DoV l G lq yX3_append wsX3_append [.int (zI (fr k 33 126))] S (-2012) S := by
  have e1 := fr_out k (lo := 0) (hi := 15) (by decide) (by decide) (by decide)
  have e2 := fr_b k (lo := 0) (hi := 15) (by decide) (by decide) (by decide)
  have e3 := fr_out k (lo := 0) (hi := 7) (by decide) (by decide) (by decide)
  have e4 := fr_b k (lo := 0) (hi := 7) (by decide) (by decide) (by decide)
  have e5 := fr_out k (lo := 1) (hi := 7) (by decide) (by decide) (by decide)
  have e6 := fr_b k (lo := 1) (hi := 7) (by decide) (by decide) (by decide)
  have e7 := szv_no k
  have e8 := szv_b k
  have e9 := fr_out k (lo := 33) (hi := 126) (by decide) (by decide) (by decide)
  have e10 := fr_b k (lo := 33) (hi := 126) (by decide) (by decide) (by decide)
  have h := KX_append l G lq S (fr k 33 126) hS9 (by omega) (by omega) hl9
  try simp only [zI_nat] at h
  exact DoV.x h ⟨rfl, rfl, by decide, by decide, by decide, by decide⟩ exA

set_option maxHeartbeats 4000000 in
theorem rf_411 (l : Launch) (G : gG) (lq : Nat) (S : SpT) (k : Nat) (hS9 : spS S) (hk : k < 4) (hb0 : S.2.2.2.2 = 0) (hl9 : l.stackTraces = false) : DoV l G lq yX3_carryOut wsX3_carryOut [] S (-2012) S := by
  have e1 := fr_out k (lo := 0) (hi := 15) (by decide) (by decide) (by decide)
  have e2 := fr_b k (lo := 0) (hi := 15) (by decide) (by decide) (by decide)
  have e3 := fr_out k (lo := 0) (hi := 7) (by decide) (by decide) (by decide)
  have e4 := fr_b k (lo := 0) (hi := 7) (by decide) (by decide) (by decide)
  have e5 := fr_out k (lo := 1) (hi := 7) (by decide) (by decide) (by decide)
  have e6 := fr_b k (lo := 1) (hi := 7) (by decide) (by decide) (by decide)
  have e7 := szv_no k
  have e8 := szv_b k
  have h := KX_carryOut l G lq S  hS9 (fun s h => absurd h.2 (by rw [hb0]; exact (by decide : ¬ (0 = 8)))) hl9
  try simp only [zI_nat] at h
  exact DoV.x h ⟨rfl, rfl, by decide, by decide, by decide, by decide⟩ exA

set_option maxHeartbeats 4000000 in
theorem rf_432 (l : Launch) (G : gG) (lq : Nat) (S : SpT) (k : Nat) (hS9 : spS S) (hk : k < 4) (hl9 : l.stackTraces = false) : DoV l G lq yX3_keep wsX3_keep [.int (zI (fr k 0 1))] S (-2011) S := by
  have e1 := fr_out k (lo := 0) (hi := 15) (by decide) (by decide) (by decide)
  have e2 := fr_b k (lo := 0) (hi := 15) (by decide) (by decide) (by decide)
  have e3 := fr_out k (lo := 0) (hi := 7) (by decide) (by decide) (by decide)
  have e4 := fr_b k (lo := 0) (hi := 7) (by decide) (by decide) (by decide)
  have e5 := fr_out k (lo := 1) (hi := 7) (by decide) (by decide) (by decide)
  have e6 := fr_b k (lo := 1) (hi := 7) (by decide) (by decide) (by decide)
  have e7 := szv_no k
  have e8 := szv_b k
  have e9 := fr_out k (lo := 0) (hi := 1) (by decide) (by decide) (by decide)
  have e10 := fr_b k (lo := 0) (hi := 1) (by decide) (by decide) (by decide)
  have h := KX_keep l G lq S (fr k 0 1) hS9 (by omega) (by omega) hl9
  try simp only [zI_nat] at h
  exact DoV.x h ⟨rfl, rfl, by decide, by decide, by decide, by decide⟩ exO

set_option maxHeartbeats 4000000 in
theorem rf_453 (l : Launch) (G : gG) (lq : Nat) (S : SpT) (k : Nat) (hS9 : spS S) (hk : k < 4) (hl9 : l.stackTraces = false) : DoV l G lq yX3_goBack wsX3_goBack [.int (zI (fr k 0 1))] S (-2011) S := by
  have e1 := fr_out k (lo := 0) (hi := 15) (by decide) (by decide) (by decide)
  have e2 := fr_b k (lo := 0) (hi := 15) (by decide) (by decide) (by decide)
  have e3 := fr_out k (lo := 0) (hi := 7) (by decide) (by decide) (by decide)
  have e4 := fr_b k (lo := 0) (hi := 7) (by decide) (by decide) (by decide)
  have e5 := fr_out k (lo := 1) (hi := 7) (by decide) (by decide) (by decide)
  have e6 := fr_b k (lo := 1) (hi := 7) (by decide) (by decide) (by decide)
  have e7 := szv_no k
  have e8 := szv_b k
  have e9 := fr_out k (lo := 0) (hi := 1) (by decide) (by decide) (by decide)
  have e10 := fr_b k (lo := 0) (hi := 1) (by decide) (by decide) (by decide)
  have h := KX_goBack l G lq S (fr k 0 1) hS9 (by omega) (by omega) hl9
  try simp only [zI_nat] at h
  exact DoV.x h ⟨rfl, rfl, by decide, by decide, by decide, by decide⟩ exO

set_option maxHeartbeats 4000000 in
theorem rf_482_12 (l : Launch) (G : gG) (lq : Nat) (S : SpT) (k : Nat) (hS9 : spS S) (hk : k < 4) (hl9 : l.stackTraces = false) : DoV l G lq yX3_ownerAt wsX3_ownerAt [.int (zI (fr k 0 15)), .int (nI 0)] S (-2011) S := by
  have e1 := fr_out k (lo := 0) (hi := 15) (by decide) (by decide) (by decide)
  have e2 := fr_b k (lo := 0) (hi := 15) (by decide) (by decide) (by decide)
  have e3 := fr_out k (lo := 0) (hi := 7) (by decide) (by decide) (by decide)
  have e4 := fr_b k (lo := 0) (hi := 7) (by decide) (by decide) (by decide)
  have e5 := fr_out k (lo := 1) (hi := 7) (by decide) (by decide) (by decide)
  have e6 := fr_b k (lo := 1) (hi := 7) (by decide) (by decide) (by decide)
  have e7 := szv_no k
  have e8 := szv_b k
  have h := KX_ownerAt l G lq S (fr k 0 15) ((0 : Nat) : Int) hS9 (by omega) (by omega) (by omega) hl9
  try simp only [zI_nat] at h
  exact DoV.x h ⟨rfl, rfl, by decide, by decide, by decide, by decide⟩ exO

set_option maxHeartbeats 4000000 in
theorem rf_499_12 (l : Launch) (G : gG) (lq : Nat) (S : SpT) (k : Nat) (hS9 : spS S) (hk : k < 4) (hl9 : l.stackTraces = false) : DoV l G lq yX3_ownerAt wsX3_ownerAt [.int (nI 15), .int (zI (fr k 0 15))] S (-2011) S := by
  have e1 := fr_out k (lo := 0) (hi := 15) (by decide) (by decide) (by decide)
  have e2 := fr_b k (lo := 0) (hi := 15) (by decide) (by decide) (by decide)
  have e3 := fr_out k (lo := 0) (hi := 7) (by decide) (by decide) (by decide)
  have e4 := fr_b k (lo := 0) (hi := 7) (by decide) (by decide) (by decide)
  have e5 := fr_out k (lo := 1) (hi := 7) (by decide) (by decide) (by decide)
  have e6 := fr_b k (lo := 1) (hi := 7) (by decide) (by decide) (by decide)
  have e7 := szv_no k
  have e8 := szv_b k
  have h := KX_ownerAt l G lq S ((15 : Nat) : Int) (fr k 0 15) hS9 (by omega) (by omega) (by omega) hl9
  try simp only [zI_nat] at h
  exact DoV.x h ⟨rfl, rfl, by decide, by decide, by decide, by decide⟩ exO

set_option maxHeartbeats 4000000 in
theorem rf_482_13 (l : Launch) (G : gG) (lq : Nat) (S : SpT) (k : Nat) (hS9 : spS S) (hk : k < 4) (hl9 : l.stackTraces = false) : DoV l G lq yX3_heightAt wsX3_heightAt [.int (zI (fr k 0 15)), .int (nI 0)] S (-2011) S := by
  have e1 := fr_out k (lo := 0) (hi := 15) (by decide) (by decide) (by decide)
  have e2 := fr_b k (lo := 0) (hi := 15) (by decide) (by decide) (by decide)
  have e3 := fr_out k (lo := 0) (hi := 7) (by decide) (by decide) (by decide)
  have e4 := fr_b k (lo := 0) (hi := 7) (by decide) (by decide) (by decide)
  have e5 := fr_out k (lo := 1) (hi := 7) (by decide) (by decide) (by decide)
  have e6 := fr_b k (lo := 1) (hi := 7) (by decide) (by decide) (by decide)
  have e7 := szv_no k
  have e8 := szv_b k
  have h := KX_heightAt l G lq S (fr k 0 15) ((0 : Nat) : Int) hS9 (by omega) (by omega) (by omega) hl9
  try simp only [zI_nat] at h
  exact DoV.x h ⟨rfl, rfl, by decide, by decide, by decide, by decide⟩ exO

set_option maxHeartbeats 4000000 in
theorem rf_499_13 (l : Launch) (G : gG) (lq : Nat) (S : SpT) (k : Nat) (hS9 : spS S) (hk : k < 4) (hl9 : l.stackTraces = false) : DoV l G lq yX3_heightAt wsX3_heightAt [.int (nI 15), .int (zI (fr k 0 15))] S (-2011) S := by
  have e1 := fr_out k (lo := 0) (hi := 15) (by decide) (by decide) (by decide)
  have e2 := fr_b k (lo := 0) (hi := 15) (by decide) (by decide) (by decide)
  have e3 := fr_out k (lo := 0) (hi := 7) (by decide) (by decide) (by decide)
  have e4 := fr_b k (lo := 0) (hi := 7) (by decide) (by decide) (by decide)
  have e5 := fr_out k (lo := 1) (hi := 7) (by decide) (by decide) (by decide)
  have e6 := fr_b k (lo := 1) (hi := 7) (by decide) (by decide) (by decide)
  have e7 := szv_no k
  have e8 := szv_b k
  have h := KX_heightAt l G lq S ((15 : Nat) : Int) (fr k 0 15) hS9 (by omega) (by omega) (by omega) hl9
  try simp only [zI_nat] at h
  exact DoV.x h ⟨rfl, rfl, by decide, by decide, by decide, by decide⟩ exO

set_option maxHeartbeats 4000000 in
theorem rf_482_14 (l : Launch) (G : gG) (lq : Nat) (S : SpT) (k : Nat) (hS9 : spS S) (hk : k < 4) (hl9 : l.stackTraces = false) : DoV l G lq yX3_plotSizeAt wsX3_plotSizeAt [.int (zI (fr k 0 15)), .int (nI 0)] S (-2011) S := by
  have e1 := fr_out k (lo := 0) (hi := 15) (by decide) (by decide) (by decide)
  have e2 := fr_b k (lo := 0) (hi := 15) (by decide) (by decide) (by decide)
  have e3 := fr_out k (lo := 0) (hi := 7) (by decide) (by decide) (by decide)
  have e4 := fr_b k (lo := 0) (hi := 7) (by decide) (by decide) (by decide)
  have e5 := fr_out k (lo := 1) (hi := 7) (by decide) (by decide) (by decide)
  have e6 := fr_b k (lo := 1) (hi := 7) (by decide) (by decide) (by decide)
  have e7 := szv_no k
  have e8 := szv_b k
  have h := KX_plotSizeAt l G lq S (fr k 0 15) ((0 : Nat) : Int) hS9 (by omega) (by omega) (by omega) hl9
  try simp only [zI_nat] at h
  exact DoV.x h ⟨rfl, rfl, by decide, by decide, by decide, by decide⟩ exO

set_option maxHeartbeats 4000000 in
theorem rf_499_14 (l : Launch) (G : gG) (lq : Nat) (S : SpT) (k : Nat) (hS9 : spS S) (hk : k < 4) (hl9 : l.stackTraces = false) : DoV l G lq yX3_plotSizeAt wsX3_plotSizeAt [.int (nI 15), .int (zI (fr k 0 15))] S (-2011) S := by
  have e1 := fr_out k (lo := 0) (hi := 15) (by decide) (by decide) (by decide)
  have e2 := fr_b k (lo := 0) (hi := 15) (by decide) (by decide) (by decide)
  have e3 := fr_out k (lo := 0) (hi := 7) (by decide) (by decide) (by decide)
  have e4 := fr_b k (lo := 0) (hi := 7) (by decide) (by decide) (by decide)
  have e5 := fr_out k (lo := 1) (hi := 7) (by decide) (by decide) (by decide)
  have e6 := fr_b k (lo := 1) (hi := 7) (by decide) (by decide) (by decide)
  have e7 := szv_no k
  have e8 := szv_b k
  have h := KX_plotSizeAt l G lq S ((15 : Nat) : Int) (fr k 0 15) hS9 (by omega) (by omega) (by omega) hl9
  try simp only [zI_nat] at h
  exact DoV.x h ⟨rfl, rfl, by decide, by decide, by decide, by decide⟩ exO

set_option maxHeartbeats 4000000 in
theorem rf_482_15 (l : Launch) (G : gG) (lq : Nat) (S : SpT) (k : Nat) (hS9 : spS S) (hk : k < 4) (hl9 : l.stackTraces = false) : DoV l G lq yX3_plotRankAt wsX3_plotRankAt [.int (zI (fr k 0 15)), .int (nI 0)] S (-2011) S := by
  have e1 := fr_out k (lo := 0) (hi := 15) (by decide) (by decide) (by decide)
  have e2 := fr_b k (lo := 0) (hi := 15) (by decide) (by decide) (by decide)
  have e3 := fr_out k (lo := 0) (hi := 7) (by decide) (by decide) (by decide)
  have e4 := fr_b k (lo := 0) (hi := 7) (by decide) (by decide) (by decide)
  have e5 := fr_out k (lo := 1) (hi := 7) (by decide) (by decide) (by decide)
  have e6 := fr_b k (lo := 1) (hi := 7) (by decide) (by decide) (by decide)
  have e7 := szv_no k
  have e8 := szv_b k
  have h := KX_plotRankAt l G lq S (fr k 0 15) ((0 : Nat) : Int) hS9 (by omega) (by omega) (by omega) hl9
  try simp only [zI_nat] at h
  exact DoV.x h ⟨rfl, rfl, by decide, by decide, by decide, by decide⟩ exO

set_option maxHeartbeats 4000000 in
theorem rf_499_15 (l : Launch) (G : gG) (lq : Nat) (S : SpT) (k : Nat) (hS9 : spS S) (hk : k < 4) (hl9 : l.stackTraces = false) : DoV l G lq yX3_plotRankAt wsX3_plotRankAt [.int (nI 15), .int (zI (fr k 0 15))] S (-2011) S := by
  have e1 := fr_out k (lo := 0) (hi := 15) (by decide) (by decide) (by decide)
  have e2 := fr_b k (lo := 0) (hi := 15) (by decide) (by decide) (by decide)
  have e3 := fr_out k (lo := 0) (hi := 7) (by decide) (by decide) (by decide)
  have e4 := fr_b k (lo := 0) (hi := 7) (by decide) (by decide) (by decide)
  have e5 := fr_out k (lo := 1) (hi := 7) (by decide) (by decide) (by decide)
  have e6 := fr_b k (lo := 1) (hi := 7) (by decide) (by decide) (by decide)
  have e7 := szv_no k
  have e8 := szv_b k
  have h := KX_plotRankAt l G lq S ((15 : Nat) : Int) (fr k 0 15) hS9 (by omega) (by omega) (by omega) hl9
  try simp only [zI_nat] at h
  exact DoV.x h ⟨rfl, rfl, by decide, by decide, by decide, by decide⟩ exO

set_option maxHeartbeats 4000000 in
theorem rf_482_16 (l : Launch) (G : gG) (lq : Nat) (S : SpT) (k : Nat) (hS9 : spS S) (hk : k < 4) (hl9 : l.stackTraces = false) : DoV l G lq yX3_plotPriceAt wsX3_plotPriceAt [.int (zI (fr k 0 15)), .int (nI 0)] S (-2011) S := by
  have e1 := fr_out k (lo := 0) (hi := 15) (by decide) (by decide) (by decide)
  have e2 := fr_b k (lo := 0) (hi := 15) (by decide) (by decide) (by decide)
  have e3 := fr_out k (lo := 0) (hi := 7) (by decide) (by decide) (by decide)
  have e4 := fr_b k (lo := 0) (hi := 7) (by decide) (by decide) (by decide)
  have e5 := fr_out k (lo := 1) (hi := 7) (by decide) (by decide) (by decide)
  have e6 := fr_b k (lo := 1) (hi := 7) (by decide) (by decide) (by decide)
  have e7 := szv_no k
  have e8 := szv_b k
  have h := KX_plotPriceAt l G lq S (fr k 0 15) ((0 : Nat) : Int) hS9 (by omega) (by omega) (by omega) hl9
  try simp only [zI_nat] at h
  exact DoV.x h ⟨rfl, rfl, by decide, by decide, by decide, by decide⟩ exO

set_option maxHeartbeats 4000000 in
theorem rf_499_16 (l : Launch) (G : gG) (lq : Nat) (S : SpT) (k : Nat) (hS9 : spS S) (hk : k < 4) (hl9 : l.stackTraces = false) : DoV l G lq yX3_plotPriceAt wsX3_plotPriceAt [.int (nI 15), .int (zI (fr k 0 15))] S (-2011) S := by
  have e1 := fr_out k (lo := 0) (hi := 15) (by decide) (by decide) (by decide)
  have e2 := fr_b k (lo := 0) (hi := 15) (by decide) (by decide) (by decide)
  have e3 := fr_out k (lo := 0) (hi := 7) (by decide) (by decide) (by decide)
  have e4 := fr_b k (lo := 0) (hi := 7) (by decide) (by decide) (by decide)
  have e5 := fr_out k (lo := 1) (hi := 7) (by decide) (by decide) (by decide)
  have e6 := fr_b k (lo := 1) (hi := 7) (by decide) (by decide) (by decide)
  have e7 := szv_no k
  have e8 := szv_b k
  have h := KX_plotPriceAt l G lq S ((15 : Nat) : Int) (fr k 0 15) hS9 (by omega) (by omega) (by omega) hl9
  try simp only [zI_nat] at h
  exact DoV.x h ⟨rfl, rfl, by decide, by decide, by decide, by decide⟩ exO

set_option maxHeartbeats 4000000 in
theorem rf_565_17 (l : Launch) (G : gG) (lq : Nat) (S : SpT) (k : Nat) (hS9 : spS S) (hk : k < 4) (hl9 : l.stackTraces = false) : DoV l G lq yX3_plotsOf wsX3_plotsOf [.int (zI (fr k 0 7))] S (-2011) S := by
  have e1 := fr_out k (lo := 0) (hi := 15) (by decide) (by decide) (by decide)
  have e2 := fr_b k (lo := 0) (hi := 15) (by decide) (by decide) (by decide)
  have e3 := fr_out k (lo := 0) (hi := 7) (by decide) (by decide) (by decide)
  have e4 := fr_b k (lo := 0) (hi := 7) (by decide) (by decide) (by decide)
  have e5 := fr_out k (lo := 1) (hi := 7) (by decide) (by decide) (by decide)
  have e6 := fr_b k (lo := 1) (hi := 7) (by decide) (by decide) (by decide)
  have e7 := szv_no k
  have e8 := szv_b k
  have h := KX_plotsOf l G lq S (fr k 0 7) hS9 (by omega) (by omega) hl9
  try simp only [zI_nat] at h
  exact DoV.x h ⟨rfl, rfl, by decide, by decide, by decide, by decide⟩ exO

set_option maxHeartbeats 4000000 in
theorem rf_565_18 (l : Launch) (G : gG) (lq : Nat) (S : SpT) (k : Nat) (hS9 : spS S) (hk : k < 4) (hl9 : l.stackTraces = false) : DoV l G lq yX3_areaByPlots wsX3_areaByPlots [.int (zI (fr k 0 7))] S (-2011) S := by
  have e1 := fr_out k (lo := 0) (hi := 15) (by decide) (by decide) (by decide)
  have e2 := fr_b k (lo := 0) (hi := 15) (by decide) (by decide) (by decide)
  have e3 := fr_out k (lo := 0) (hi := 7) (by decide) (by decide) (by decide)
  have e4 := fr_b k (lo := 0) (hi := 7) (by decide) (by decide) (by decide)
  have e5 := fr_out k (lo := 1) (hi := 7) (by decide) (by decide) (by decide)
  have e6 := fr_b k (lo := 1) (hi := 7) (by decide) (by decide) (by decide)
  have e7 := szv_no k
  have e8 := szv_b k
  have h := KX_areaByPlots l G lq S (fr k 0 7) hS9 (by omega) (by omega) hl9
  try simp only [zI_nat] at h
  exact DoV.x h ⟨rfl, rfl, by decide, by decide, by decide, by decide⟩ exO

set_option maxHeartbeats 4000000 in
theorem rf_565_19 (l : Launch) (G : gG) (lq : Nat) (S : SpT) (k : Nat) (hS9 : spS S) (hk : k < 4) (hl9 : l.stackTraces = false) : DoV l G lq yX3_areaByCells wsX3_areaByCells [.int (zI (fr k 0 7))] S (-2011) S := by
  have e1 := fr_out k (lo := 0) (hi := 15) (by decide) (by decide) (by decide)
  have e2 := fr_b k (lo := 0) (hi := 15) (by decide) (by decide) (by decide)
  have e3 := fr_out k (lo := 0) (hi := 7) (by decide) (by decide) (by decide)
  have e4 := fr_b k (lo := 0) (hi := 7) (by decide) (by decide) (by decide)
  have e5 := fr_out k (lo := 1) (hi := 7) (by decide) (by decide) (by decide)
  have e6 := fr_b k (lo := 1) (hi := 7) (by decide) (by decide) (by decide)
  have e7 := szv_no k
  have e8 := szv_b k
  have h := KX_areaByCells l G lq S (fr k 0 7) hS9 (by omega) (by omega) hl9
  try simp only [zI_nat] at h
  exact DoV.x h ⟨rfl, rfl, by decide, by decide, by decide, by decide⟩ exO

set_option maxHeartbeats 4000000 in
theorem rf_565_20 (l : Launch) (G : gG) (lq : Nat) (S : SpT) (k : Nat) (hS9 : spS S) (hk : k < 4) (hl9 : l.stackTraces = false) : DoV l G lq yX3_fenceByPlots wsX3_fenceByPlots [.int (zI (fr k 0 7))] S (-2011) S := by
  have e1 := fr_out k (lo := 0) (hi := 15) (by decide) (by decide) (by decide)
  have e2 := fr_b k (lo := 0) (hi := 15) (by decide) (by decide) (by decide)
  have e3 := fr_out k (lo := 0) (hi := 7) (by decide) (by decide) (by decide)
  have e4 := fr_b k (lo := 0) (hi := 7) (by decide) (by decide) (by decide)
  have e5 := fr_out k (lo := 1) (hi := 7) (by decide) (by decide) (by decide)
  have e6 := fr_b k (lo := 1) (hi := 7) (by decide) (by decide) (by decide)
  have e7 := szv_no k
  have e8 := szv_b k
  have h := KX_fenceByPlots l G lq S (fr k 0 7) hS9 (by omega) (by omega) hl9
  try simp only [zI_nat] at h
  exact DoV.x h ⟨rfl, rfl, by decide, by decide, by decide, by decide⟩ exO

set_option maxHeartbeats 4000000 in
theorem rf_565_21 (l : Launch) (G : gG) (lq : Nat) (S : SpT) (k : Nat) (hS9 : spS S) (hk : k < 4) (hl9 : l.stackTraces = false) : DoV l G lq yX3_fenceByCells wsX3_fenceByCells [.int (zI (fr k 0 7))] S (-2011) S := by
  have e1 := fr_out k (lo := 0) (hi := 15) (by decide) (by decide) (by decide)
  have e2 := fr_b k (lo := 0) (hi := 15) (by decide) (by decide) (by decide)
  have e3 := fr_out k (lo := 0) (hi := 7) (by decide) (by decide) (by decide)
  have e4 := fr_b k (lo := 0) (hi := 7) (by decide) (by decide) (by decide)
  have e5 := fr_out k (lo := 1) (hi := 7) (by decide) (by decide) (by decide)
  have e6 := fr_b k (lo := 1) (hi := 7) (by decide) (by decide) (by decide)
  have e7 := szv_no k
  have e8 := szv_b k
  have h := KX_fenceByCells l G lq S (fr k 0 7) hS9 (by omega) (by omega) hl9
  try simp only [zI_nat] at h
  exact DoV.x h ⟨rfl, rfl, by decide, by decide, by decide, by decide⟩ exO

set_option maxHeartbeats 4000000 in
theorem rf_565_22 (l : Launch) (G : gG) (lq : Nat) (S : SpT) (k : Nat) (hS9 : spS S) (hk : k < 4) (hl9 : l.stackTraces = false) : DoV l G lq yX3_fenceBetween wsX3_fenceBetween [.int (zI (fr k 0 7)), .int (nI 1)] S (-2011) S := by
  have e1 := fr_out k (lo := 0) (hi := 15) (by decide) (by decide) (by decide)
  have e2 := fr_b k (lo := 0) (hi := 15) (by decide) (by decide) (by decide)
  have e3 := fr_out k (lo := 0) (hi := 7) (by decide) (by decide) (by decide)
  have e4 := fr_b k (lo := 0) (hi := 7) (by decide) (by decide) (by decide)
  have e5 := fr_out k (lo := 1) (hi := 7) (by decide) (by decide) (by decide)
  have e6 := fr_b k (lo := 1) (hi := 7) (by decide) (by decide) (by decide)
  have e7 := szv_no k
  have e8 := szv_b k
  have h := KX_fenceBetween l G lq S (fr k 0 7) ((1 : Nat) : Int) hS9 (by omega) (by omega) (by omega) hl9
  try simp only [zI_nat] at h
  exact DoV.x h ⟨rfl, rfl, by decide, by decide, by decide, by decide⟩ exO

set_option maxHeartbeats 4000000 in
theorem rf_589_22 (l : Launch) (G : gG) (lq : Nat) (S : SpT) (k : Nat) (hS9 : spS S) (hk : k < 4) (hl9 : l.stackTraces = false) : DoV l G lq yX3_fenceBetween wsX3_fenceBetween [.int (nI 7), .int (zI (fr k 0 7))] S (-2011) S := by
  have e1 := fr_out k (lo := 0) (hi := 15) (by decide) (by decide) (by decide)
  have e2 := fr_b k (lo := 0) (hi := 15) (by decide) (by decide) (by decide)
  have e3 := fr_out k (lo := 0) (hi := 7) (by decide) (by decide) (by decide)
  have e4 := fr_b k (lo := 0) (hi := 7) (by decide) (by decide) (by decide)
  have e5 := fr_out k (lo := 1) (hi := 7) (by decide) (by decide) (by decide)
  have e6 := fr_b k (lo := 1) (hi := 7) (by decide) (by decide) (by decide)
  have e7 := szv_no k
  have e8 := szv_b k
  have h := KX2_fenceBetween l G lq S ((7 : Nat) : Int) (fr k 0 7) hS9 (by omega) (by omega) (by omega) (by omega) hl9
  try simp only [zI_nat] at h
  exact DoV.x h ⟨rfl, rfl, by decide, by decide, by decide, by decide⟩ exO

set_option maxHeartbeats 4000000 in
theorem rf_565_23 (l : Launch) (G : gG) (lq : Nat) (S : SpT) (k : Nat) (hS9 : spS S) (hk : k < 4) (hl9 : l.stackTraces = false) : DoV l G lq yX3_largestPlotOf wsX3_largestPlotOf [.int (zI (fr k 0 7))] S (-2011) S := by
  have e1 := fr_out k (lo := 0) (hi := 15) (by decide) (by decide) (by decide)
  have e2 := fr_b k (lo := 0) (hi := 15) (by decide) (by decide) (by decide)
  have e3 := fr_out k (lo := 0) (hi := 7) (by decide) (by decide) (by decide)
  have e4 := fr_b k (lo := 0) (hi := 7) (by decide) (by decide) (by decide)
  have e5 := fr_out k (lo := 1) (hi := 7) (by decide) (by decide) (by decide)
  have e6 := fr_b k (lo := 1) (hi := 7) (by decide) (by decide) (by decide)
  have e7 := szv_no k
  have e8 := szv_b k
  have h := KX_largestPlotOf l G lq S (fr k 0 7) hS9 (by omega) (by omega) hl9
  try simp only [zI_nat] at h
  exact DoV.x h ⟨rfl, rfl, by decide, by decide, by decide, by decide⟩ exO

set_option maxHeartbeats 4000000 in
theorem rf_565_24 (l : Launch) (G : gG) (lq : Nat) (S : SpT) (k : Nat) (hS9 : spS S) (hk : k < 4) (hl9 : l.stackTraces = false) : DoV l G lq yX3_firstToLose wsX3_firstToLose [.int (zI (fr k 1 7))] S (-2011) S := by
  have e1 := fr_out k (lo := 0) (hi := 15) (by decide) (by decide) (by decide)
  have e2 := fr_b k (lo := 0) (hi := 15) (by decide) (by decide) (by decide)
  have e3 := fr_out k (lo := 0) (hi := 7) (by decide) (by decide) (by decide)
  have e4 := fr_b k (lo := 0) (hi := 7) (by decide) (by decide) (by decide)
  have e5 := fr_out k (lo := 1) (hi := 7) (by decide) (by decide) (by decide)
  have e6 := fr_b k (lo := 1) (hi := 7) (by decide) (by decide) (by decide)
  have e7 := szv_no k
  have e8 := szv_b k
  have h := KX_firstToLose l G lq S (fr k 1 7) hS9 (by omega) (by omega) hl9
  try simp only [zI_nat] at h
  exact DoV.x h ⟨rfl, rfl, by decide, by decide, by decide, by decide⟩ exO

set_option maxHeartbeats 4000000 in
theorem rf_565_25 (l : Launch) (G : gG) (lq : Nat) (S : SpT) (k : Nat) (hS9 : spS S) (hk : k < 4) (hl9 : l.stackTraces = false) : DoV l G lq yX3_coinsOf wsX3_coinsOf [.int (zI (fr k 0 7))] S (-2011) S := by
  have e1 := fr_out k (lo := 0) (hi := 15) (by decide) (by decide) (by decide)
  have e2 := fr_b k (lo := 0) (hi := 15) (by decide) (by decide) (by decide)
  have e3 := fr_out k (lo := 0) (hi := 7) (by decide) (by decide) (by decide)
  have e4 := fr_b k (lo := 0) (hi := 7) (by decide) (by decide) (by decide)
  have e5 := fr_out k (lo := 1) (hi := 7) (by decide) (by decide) (by decide)
  have e6 := fr_b k (lo := 1) (hi := 7) (by decide) (by decide) (by decide)
  have e7 := szv_no k
  have e8 := szv_b k
  have h := KX_coinsOf l G lq S (fr k 0 7) hS9 (by omega) (by omega) hl9
  try simp only [zI_nat] at h
  exact DoV.x h ⟨rfl, rfl, by decide, by decide, by decide, by decide⟩ exO

set_option maxHeartbeats 4000000 in
theorem rf_565_26 (l : Launch) (G : gG) (lq : Nat) (S : SpT) (k : Nat) (hS9 : spS S) (hk : k < 4) (hl9 : l.stackTraces = false) : DoV l G lq yX3_lowCells wsX3_lowCells [.int (zI (fr k 0 7)), .int (nI 1)] S (-2011) S := by
  have e1 := fr_out k (lo := 0) (hi := 15) (by decide) (by decide) (by decide)
  have e2 := fr_b k (lo := 0) (hi := 15) (by decide) (by decide) (by decide)
  have e3 := fr_out k (lo := 0) (hi := 7) (by decide) (by decide) (by decide)
  have e4 := fr_b k (lo := 0) (hi := 7) (by decide) (by decide) (by decide)
  have e5 := fr_out k (lo := 1) (hi := 7) (by decide) (by decide) (by decide)
  have e6 := fr_b k (lo := 1) (hi := 7) (by decide) (by decide) (by decide)
  have e7 := szv_no k
  have e8 := szv_b k
  have h := KX_lowCells l G lq S (fr k 0 7) ((1 : Nat) : Int) hS9 (by omega) (by omega) (by omega) hl9
  try simp only [zI_nat] at h
  exact DoV.x h ⟨rfl, rfl, by decide, by decide, by decide, by decide⟩ exO

set_option maxHeartbeats 4000000 in
theorem rf_565_27 (l : Launch) (G : gG) (lq : Nat) (S : SpT) (k : Nat) (hS9 : spS S) (hk : k < 4) (hl9 : l.stackTraces = false) : DoV l G lq yX3_lossesIfTaxed wsX3_lossesIfTaxed [.int (zI (fr k 1 7))] S (-2011) S := by
  have e1 := fr_out k (lo := 0) (hi := 15) (by decide) (by decide) (by decide)
  have e2 := fr_b k (lo := 0) (hi := 15) (by decide) (by decide) (by decide)
  have e3 := fr_out k (lo := 0) (hi := 7) (by decide) (by decide) (by decide)
  have e4 := fr_b k (lo := 0) (hi := 7) (by decide) (by decide) (by decide)
  have e5 := fr_out k (lo := 1) (hi := 7) (by decide) (by decide) (by decide)
  have e6 := fr_b k (lo := 1) (hi := 7) (by decide) (by decide) (by decide)
  have e7 := szv_no k
  have e8 := szv_b k
  have h := KX_lossesIfTaxed l G lq S (fr k 1 7) hS9 (by omega) (by omega) hl9
  try simp only [zI_nat] at h
  exact DoV.x h ⟨rfl, rfl, by decide, by decide, by decide, by decide⟩ exO

set_option maxHeartbeats 4000000 in
theorem rf_565_28 (l : Launch) (G : gG) (lq : Nat) (S : SpT) (k : Nat) (hS9 : spS S) (hk : k < 4) (hl9 : l.stackTraces = false) : DoV l G lq yX3_nearestNeighbour wsX3_nearestNeighbour [.int (zI (fr k 0 7))] S (-2011) S := by
  have e1 := fr_out k (lo := 0) (hi := 15) (by decide) (by decide) (by decide)
  have e2 := fr_b k (lo := 0) (hi := 15) (by decide) (by decide) (by decide)
  have e3 := fr_out k (lo := 0) (hi := 7) (by decide) (by decide) (by decide)
  have e4 := fr_b k (lo := 0) (hi := 7) (by decide) (by decide) (by decide)
  have e5 := fr_out k (lo := 1) (hi := 7) (by decide) (by decide) (by decide)
  have e6 := fr_b k (lo := 1) (hi := 7) (by decide) (by decide) (by decide)
  have e7 := szv_no k
  have e8 := szv_b k
  have h := KX_nearestNeighbour l G lq S (fr k 0 7) hS9 (by omega) (by omega) hl9
  try simp only [zI_nat] at h
  exact DoV.x h ⟨rfl, rfl, by decide, by decide, by decide, by decide⟩ exO

set_option maxHeartbeats 4000000 in
theorem rf_613 (l : Launch) (G : gG) (lq : Nat) (S : SpT) (k : Nat) (hS9 : spS S) (hk : k < 4) (hl9 : l.stackTraces = false) : DoV l G lq yX3_lowCells wsX3_lowCells [.int (zI (fr k 0 7)), .int (nI 0)] S (-2011) S := by
  have e1 := fr_out k (lo := 0) (hi := 15) (by decide) (by decide) (by decide)
  have e2 := fr_b k (lo := 0) (hi := 15) (by decide) (by decide) (by decide)
  have e3 := fr_out k (lo := 0) (hi := 7) (by decide) (by decide) (by decide)
  have e4 := fr_b k (lo := 0) (hi := 7) (by decide) (by decide) (by decide)
  have e5 := fr_out k (lo := 1) (hi := 7) (by decide) (by decide) (by decide)
  have e6 := fr_b k (lo := 1) (hi := 7) (by decide) (by decide) (by decide)
  have e7 := szv_no k
  have e8 := szv_b k
  have h := KX_lowCells l G lq S (fr k 0 7) ((0 : Nat) : Int) hS9 (by omega) (by omega) (by omega) hl9
  try simp only [zI_nat] at h
  exact DoV.x h ⟨rfl, rfl, by decide, by decide, by decide, by decide⟩ exO

set_option maxHeartbeats 4000000 in
theorem rf_636 (l : Launch) (G : gG) (lq : Nat) (S : SpT) (k : Nat) (hS9 : spS S) (hk : k < 4) (hl9 : l.stackTraces = false) : DoV l G lq yX3_lowCells wsX3_lowCells [.int (nI 7), .int (zI (fr k 1 10))] S (-2012) S := by
  have e1 := fr_out k (lo := 0) (hi := 15) (by decide) (by decide) (by decide)
  have e2 := fr_b k (lo := 0) (hi := 15) (by decide) (by decide) (by decide)
  have e3 := fr_out k (lo := 0) (hi := 7) (by decide) (by decide) (by decide)
  have e4 := fr_b k (lo := 0) (hi := 7) (by decide) (by decide) (by decide)
  have e5 := fr_out k (lo := 1) (hi := 7) (by decide) (by decide) (by decide)
  have e6 := fr_b k (lo := 1) (hi := 7) (by decide) (by decide) (by decide)
  have e7 := szv_no k
  have e8 := szv_b k
  have e9 := fr_out k (lo := 1) (hi := 10) (by decide) (by decide) (by decide)
  have e10 := fr_b k (lo := 1) (hi := 10) (by decide) (by decide) (by decide)
  have h := KX2_lowCells l G lq S ((7 : Nat) : Int) (fr k 1 10) hS9 (by omega) (by omega) (by omega) (by omega) hl9
  try simp only [zI_nat] at h
  exact DoV.x h ⟨rfl, rfl, by decide, by decide, by decide, by decide⟩ exA

set_option maxHeartbeats 4000000 in
theorem rf_658 (l : Launch) (G : gG) (lq : Nat) (S : SpT) (k : Nat) (hS9 : spS S) (hk : k < 4) (hl9 : l.stackTraces = false) : DoV l G lq yX3_plotsIfFlooded wsX3_plotsIfFlooded [.int (zI (fr k 1 10))] S (-2012) S := by
  have e1 := fr_out k (lo := 0) (hi := 15) (by decide) (by decide) (by decide)
  have e2 := fr_b k (lo := 0) (hi := 15) (by decide) (by decide) (by decide)
  have e3 := fr_out k (lo := 0) (hi := 7) (by decide) (by decide) (by decide)
  have e4 := fr_b k (lo := 0) (hi := 7) (by decide) (by decide) (by decide)
  have e5 := fr_out k (lo := 1) (hi := 7) (by decide) (by decide) (by decide)
  have e6 := fr_b k (lo := 1) (hi := 7) (by decide) (by decide) (by decide)
  have e7 := szv_no k
  have e8 := szv_b k
  have e9 := fr_out k (lo := 1) (hi := 10) (by decide) (by decide) (by decide)
  have e10 := fr_b k (lo := 1) (hi := 10) (by decide) (by decide) (by decide)
  have h := KX_plotsIfFlooded l G lq S (fr k 1 10) hS9 (by omega) (by omega) hl9
  try simp only [zI_nat] at h
  exact DoV.x h ⟨rfl, rfl, by decide, by decide, by decide, by decide⟩ exA
