set_option maxRecDepth 100000 in
set_option maxHeartbeats 4000000 in
theorem ob_0 {bu : Nat → Nat} {bl : Nat} (hT : txt bu bl [103, 97, 97, 56, 61, 49, 59, 98, 51, 105, 105, 59, 102, 57, 59, 116]) (s9 : RdT) : (obN bu s9 2 1 (tb tT0, tbH tH0, tbC tC0, 0, 0, 0) bl).2 = ((tb tT1, tbH tH0, tbC tC0, 0, 0, 0), 1) := by
  obtain ⟨h0, hb⟩ := hT
  subst h0
  obtain ⟨r0, r1, r2, r3, r4, r5, r6⟩ := s9
  have e0 : rdF bu ((r0, r1, r2, r3, r4, r5, r6) : RdT) 0 = ((0, r1, r2, r3, r4, r5, r6) : RdT) := rfl
  have o0 : obN bu ((r0, r1, r2, r3, r4, r5, r6) : RdT) 2 1 (tb tT0, tbH tH0, tbC tC0, 0, 0, 0) 0 = (true, (tb tT0, tbH tH0, tbC tC0, 0, 0, 0), 0) := rfl
  have b0 : bu 0 = 103 := hb 0 (by decide)
  have e1 : rdF bu ((r0, r1, r2, r3, r4, r5, r6) : RdT) 1 = ((2, 103, r2, r3, r4, r5, r6) : RdT) := by show rdNext (rdF bu _ 0) (bu 0) = _; rw [e0, b0]; rfl
  have o1 : obN bu ((r0, r1, r2, r3, r4, r5, r6) : RdT) 2 1 (tb tT0, tbH tH0, tbC tC0, 0, 0, 0) 1 = (true, (tb tT0, tbH tH0, tbC tC0, 0, 0, 0), 0) := by show obStep 2 1 (rdF bu _ 1) (obN bu _ 2 1 (tb tT0, tbH tH0, tbC tC0, 0, 0, 0) 0) = _; rw [e1, o0]; exact rfl
  have b1 : bu 1 = 97 := hb 1 (by decide)
  have e2 : rdF bu ((r0, r1, r2, r3, r4, r5, r6) : RdT) 2 = ((3, 103, 0, r3, r4, r5, r6) : RdT) := by show rdNext (rdF bu _ 1) (bu 1) = _; rw [e1, b1]; rfl
  have o2 : obN bu ((r0, r1, r2, r3, r4, r5, r6) : RdT) 2 1 (tb tT0, tbH tH0, tbC tC0, 0, 0, 0) 2 = (true, (tb tT0, tbH tH0, tbC tC0, 0, 0, 0), 0) := by show obStep 2 1 (rdF bu _ 2) (obN bu _ 2 1 (tb tT0, tbH tH0, tbC tC0, 0, 0, 0) 1) = _; rw [e2, o1]; exact rfl
  have b2 : bu 2 = 97 := hb 2 (by decide)
  have e3 : rdF bu ((r0, r1, r2, r3, r4, r5, r6) : RdT) 3 = ((4, 103, 0, 0, r4, r5, r6) : RdT) := by show rdNext (rdF bu _ 2) (bu 2) = _; rw [e2, b2]; rfl
  have o3 : obN bu ((r0, r1, r2, r3, r4, r5, r6) : RdT) 2 1 (tb tT0, tbH tH0, tbC tC0, 0, 0, 0) 3 = (true, (tb tT0, tbH tH0, tbC tC0, 0, 0, 0), 0) := by show obStep 2 1 (rdF bu _ 3) (obN bu _ 2 1 (tb tT0, tbH tH0, tbC tC0, 0, 0, 0) 2) = _; rw [e3, o2]; exact rfl
  have b3 : bu 3 = 56 := hb 3 (by decide)
  have e4 : rdF bu ((r0, r1, r2, r3, r4, r5, r6) : RdT) 4 = ((6, 103, 0, 0, 8, r5, r6) : RdT) := by show rdNext (rdF bu _ 3) (bu 3) = _; rw [e3, b3]; rfl
  have o4 : obN bu ((r0, r1, r2, r3, r4, r5, r6) : RdT) 2 1 (tb tT0, tbH tH0, tbC tC0, 0, 0, 0) 4 = (true, (tb tT0, tbH tH0, tbC tC0, 0, 0, 0), 0) := by show obStep 2 1 (rdF bu _ 4) (obN bu _ 2 1 (tb tT0, tbH tH0, tbC tC0, 0, 0, 0) 3) = _; rw [e4, o3]; exact rfl
  have b4 : bu 4 = 61 := hb 4 (by decide)
  have e5 : rdF bu ((r0, r1, r2, r3, r4, r5, r6) : RdT) 5 = ((7, 103, 0, 0, 8, 0, r6) : RdT) := by show rdNext (rdF bu _ 4) (bu 4) = _; rw [e4, b4]; rfl
  have o5 : obN bu ((r0, r1, r2, r3, r4, r5, r6) : RdT) 2 1 (tb tT0, tbH tH0, tbC tC0, 0, 0, 0) 5 = (true, (tb tT0, tbH tH0, tbC tC0, 0, 0, 0), 0) := by show obStep 2 1 (rdF bu _ 5) (obN bu _ 2 1 (tb tT0, tbH tH0, tbC tC0, 0, 0, 0) 4) = _; rw [e5, o4]; exact rfl
  have b5 : bu 5 = 49 := hb 5 (by decide)
  have e6 : rdF bu ((r0, r1, r2, r3, r4, r5, r6) : RdT) 6 = ((8, 103, 0, 0, 8, 0, 1) : RdT) := by show rdNext (rdF bu _ 5) (bu 5) = _; rw [e5, b5]; rfl
  have o6 : obN bu ((r0, r1, r2, r3, r4, r5, r6) : RdT) 2 1 (tb tT0, tbH tH0, tbC tC0, 0, 0, 0) 6 = (true, (tb tT1, tbH tH0, tbC tC0, 0, 0, 0), 1) := by show obStep 2 1 (rdF bu _ 6) (obN bu _ 2 1 (tb tT0, tbH tH0, tbC tC0, 0, 0, 0) 5) = _; rw [e6, o5]; exact ob_yes rfl ((deedOk_g rfl).mpr (by decide)) (show (gvOw (tb tT0) 0 0 8 1, tbH tH0, tbC tC0, 0, 0, 0) = (tb tT1, tbH tH0, tbC tC0, 0, 0, 0) from by rw [gv_tb (T' := tT1) (by decide) (by decide +kernel)])
  have b6 : bu 6 = 59 := hb 6 (by decide)
  have e7 : rdF bu ((r0, r1, r2, r3, r4, r5, r6) : RdT) 7 = ((0, 103, 0, 0, 8, 0, 1) : RdT) := by show rdNext (rdF bu _ 6) (bu 6) = _; rw [e6, b6]; rfl
  have o7 : obN bu ((r0, r1, r2, r3, r4, r5, r6) : RdT) 2 1 (tb tT0, tbH tH0, tbC tC0, 0, 0, 0) 7 = (true, (tb tT1, tbH tH0, tbC tC0, 0, 0, 0), 1) := by show obStep 2 1 (rdF bu _ 7) (obN bu _ 2 1 (tb tT0, tbH tH0, tbC tC0, 0, 0, 0) 6) = _; rw [e7, o6]; exact rfl
  have b7 : bu 7 = 98 := hb 7 (by decide)
  have e8 : rdF bu ((r0, r1, r2, r3, r4, r5, r6) : RdT) 8 = ((1, 98, 0, 0, 8, 0, 1) : RdT) := by show rdNext (rdF bu _ 7) (bu 7) = _; rw [e7, b7]; rfl
  have o8 : obN bu ((r0, r1, r2, r3, r4, r5, r6) : RdT) 2 1 (tb tT0, tbH tH0, tbC tC0, 0, 0, 0) 8 = (true, (tb tT1, tbH tH0, tbC tC0, 0, 0, 0), 1) := by show obStep 2 1 (rdF bu _ 8) (obN bu _ 2 1 (tb tT0, tbH tH0, tbC tC0, 0, 0, 0) 7) = _; rw [e8, o7]; exact rfl
  have b8 : bu 8 = 51 := hb 8 (by decide)
  have e9 : rdF bu ((r0, r1, r2, r3, r4, r5, r6) : RdT) 9 = ((2, 98, 0, 0, 8, 0, 3) : RdT) := by show rdNext (rdF bu _ 8) (bu 8) = _; rw [e8, b8]; rfl
  have o9 : obN bu ((r0, r1, r2, r3, r4, r5, r6) : RdT) 2 1 (tb tT0, tbH tH0, tbC tC0, 0, 0, 0) 9 = (true, (tb tT1, tbH tH0, tbC tC0, 0, 0, 0), 1) := by show obStep 2 1 (rdF bu _ 9) (obN bu _ 2 1 (tb tT0, tbH tH0, tbC tC0, 0, 0, 0) 8) = _; rw [e9, o8]; exact rfl
  have b9 : bu 9 = 105 := hb 9 (by decide)
  have e10 : rdF bu ((r0, r1, r2, r3, r4, r5, r6) : RdT) 10 = ((3, 98, 8, 0, 8, 0, 3) : RdT) := by show rdNext (rdF bu _ 9) (bu 9) = _; rw [e9, b9]; rfl
  have o10 : obN bu ((r0, r1, r2, r3, r4, r5, r6) : RdT) 2 1 (tb tT0, tbH tH0, tbC tC0, 0, 0, 0) 10 = (true, (tb tT1, tbH tH0, tbC tC0, 0, 0, 0), 1) := by show obStep 2 1 (rdF bu _ 10) (obN bu _ 2 1 (tb tT0, tbH tH0, tbC tC0, 0, 0, 0) 9) = _; rw [e10, o9]; exact rfl
  have b10 : bu 10 = 105 := hb 10 (by decide)
  have e11 : rdF bu ((r0, r1, r2, r3, r4, r5, r6) : RdT) 11 = ((8, 98, 8, 8, 8, 0, 3) : RdT) := by show rdNext (rdF bu _ 10) (bu 10) = _; rw [e10, b10]; rfl
  have o11 : obN bu ((r0, r1, r2, r3, r4, r5, r6) : RdT) 2 1 (tb tT0, tbH tH0, tbC tC0, 0, 0, 0) 11 = (false, (tb tT1, tbH tH0, tbC tC0, 0, 0, 0), 1) := by show obStep 2 1 (rdF bu _ 11) (obN bu _ 2 1 (tb tT0, tbH tH0, tbC tC0, 0, 0, 0) 10) = _; rw [e11, o10]; exact ob_no rfl (fun q => absurd (q.2 rfl) (show ¬ (canS 2 3 (svX (tb tT1) (rkA (tb tT1) 8 8)) (svY (tb tT1) (rkA (tb tT1) 8 8)) (svZ (tb tT1) (rkA (tb tT1) 8 8)) (tb tT1) (tbC tC0)) from by rw [(pl_tT1.rk (x := 8) (y := 8) (j := 3) (by decide) (by decide) (by decide)), ((pl_tT1.2 3 (by decide)).2.1), ((pl_tT1.2 3 (by decide)).2.2.1), ((pl_tT1.2 3 (by decide)).2.2.2.1)]; decide +kernel))
  have b11 : bu 11 = 59 := hb 11 (by decide)
  have e12 : rdF bu ((r0, r1, r2, r3, r4, r5, r6) : RdT) 12 = ((0, 98, 8, 8, 8, 0, 3) : RdT) := by show rdNext (rdF bu _ 11) (bu 11) = _; rw [e11, b11]; rfl
  have o12 : obN bu ((r0, r1, r2, r3, r4, r5, r6) : RdT) 2 1 (tb tT0, tbH tH0, tbC tC0, 0, 0, 0) 12 = (false, (tb tT1, tbH tH0, tbC tC0, 0, 0, 0), 1) := by show obStep 2 1 (rdF bu _ 12) (obN bu _ 2 1 (tb tT0, tbH tH0, tbC tC0, 0, 0, 0) 11) = _; rw [e12, o11]; exact rfl
  have b12 : bu 12 = 102 := hb 12 (by decide)
  have e13 : rdF bu ((r0, r1, r2, r3, r4, r5, r6) : RdT) 13 = ((7, 102, 8, 8, 8, 0, 3) : RdT) := by show rdNext (rdF bu _ 12) (bu 12) = _; rw [e12, b12]; rfl
  have o13 : obN bu ((r0, r1, r2, r3, r4, r5, r6) : RdT) 2 1 (tb tT0, tbH tH0, tbC tC0, 0, 0, 0) 13 = (false, (tb tT1, tbH tH0, tbC tC0, 0, 0, 0), 1) := by show obStep 2 1 (rdF bu _ 13) (obN bu _ 2 1 (tb tT0, tbH tH0, tbC tC0, 0, 0, 0) 12) = _; rw [e13, o12]; exact rfl
  have b13 : bu 13 = 57 := hb 13 (by decide)
  have e14 : rdF bu ((r0, r1, r2, r3, r4, r5, r6) : RdT) 14 = ((8, 102, 8, 8, 8, 0, 9) : RdT) := by show rdNext (rdF bu _ 13) (bu 13) = _; rw [e13, b13]; rfl
  have o14 : obN bu ((r0, r1, r2, r3, r4, r5, r6) : RdT) 2 1 (tb tT0, tbH tH0, tbC tC0, 0, 0, 0) 14 = (false, (tb tT1, tbH tH0, tbC tC0, 0, 0, 0), 1) := by show obStep 2 1 (rdF bu _ 14) (obN bu _ 2 1 (tb tT0, tbH tH0, tbC tC0, 0, 0, 0) 13) = _; rw [e14, o13]; exact rfl
  have b14 : bu 14 = 59 := hb 14 (by decide)
  have e15 : rdF bu ((r0, r1, r2, r3, r4, r5, r6) : RdT) 15 = ((0, 102, 8, 8, 8, 0, 9) : RdT) := by show rdNext (rdF bu _ 14) (bu 14) = _; rw [e14, b14]; rfl
  have o15 : obN bu ((r0, r1, r2, r3, r4, r5, r6) : RdT) 2 1 (tb tT0, tbH tH0, tbC tC0, 0, 0, 0) 15 = (false, (tb tT1, tbH tH0, tbC tC0, 0, 0, 0), 1) := by show obStep 2 1 (rdF bu _ 15) (obN bu _ 2 1 (tb tT0, tbH tH0, tbC tC0, 0, 0, 0) 14) = _; rw [e15, o14]; exact rfl
  have b15 : bu 15 = 116 := hb 15 (by decide)
  have e16 : rdF bu ((r0, r1, r2, r3, r4, r5, r6) : RdT) 16 = ((8, 116, 8, 8, 8, 0, 9) : RdT) := by show rdNext (rdF bu _ 15) (bu 15) = _; rw [e15, b15]; rfl
  have o16 : obN bu ((r0, r1, r2, r3, r4, r5, r6) : RdT) 2 1 (tb tT0, tbH tH0, tbC tC0, 0, 0, 0) 16 = (false, (tb tT1, tbH tH0, tbC tC0, 0, 0, 0), 1) := by show obStep 2 1 (rdF bu _ 16) (obN bu _ 2 1 (tb tT0, tbH tH0, tbC tC0, 0, 0, 0) 15) = _; rw [e16, o15]; exact rfl
  show (obN bu ((r0, r1, r2, r3, r4, r5, r6) : RdT) 2 1 (tb tT0, tbH tH0, tbC tC0, 0, 0, 0) 16).2 = _
  rw [o16]

set_option maxRecDepth 100000 in
set_option maxHeartbeats 4000000 in
theorem ob_1 {bu : Nat → Nat} {bl : Nat} (hT : txt bu bl [103, 98, 97, 50, 61, 49]) (s9 : RdT) : (obN bu s9 2 1 (tb tT1, tbH tH0, tbC tC0, 0, 0, 0) bl).2 = ((tb tT1, tbH tH0, tbC tC0, 0, 0, 0), 0) := by
  obtain ⟨h0, hb⟩ := hT
  subst h0
  obtain ⟨r0, r1, r2, r3, r4, r5, r6⟩ := s9
  have e0 : rdF bu ((r0, r1, r2, r3, r4, r5, r6) : RdT) 0 = ((0, r1, r2, r3, r4, r5, r6) : RdT) := rfl
  have o0 : obN bu ((r0, r1, r2, r3, r4, r5, r6) : RdT) 2 1 (tb tT1, tbH tH0, tbC tC0, 0, 0, 0) 0 = (true, (tb tT1, tbH tH0, tbC tC0, 0, 0, 0), 0) := rfl
  have b0 : bu 0 = 103 := hb 0 (by decide)
  have e1 : rdF bu ((r0, r1, r2, r3, r4, r5, r6) : RdT) 1 = ((2, 103, r2, r3, r4, r5, r6) : RdT) := by show rdNext (rdF bu _ 0) (bu 0) = _; rw [e0, b0]; rfl
  have o1 : obN bu ((r0, r1, r2, r3, r4, r5, r6) : RdT) 2 1 (tb tT1, tbH tH0, tbC tC0, 0, 0, 0) 1 = (true, (tb tT1, tbH tH0, tbC tC0, 0, 0, 0), 0) := by show obStep 2 1 (rdF bu _ 1) (obN bu _ 2 1 (tb tT1, tbH tH0, tbC tC0, 0, 0, 0) 0) = _; rw [e1, o0]; exact rfl
  have b1 : bu 1 = 98 := hb 1 (by decide)
  have e2 : rdF bu ((r0, r1, r2, r3, r4, r5, r6) : RdT) 2 = ((3, 103, 1, r3, r4, r5, r6) : RdT) := by show rdNext (rdF bu _ 1) (bu 1) = _; rw [e1, b1]; rfl
  have o2 : obN bu ((r0, r1, r2, r3, r4, r5, r6) : RdT) 2 1 (tb tT1, tbH tH0, tbC tC0, 0, 0, 0) 2 = (true, (tb tT1, tbH tH0, tbC tC0, 0, 0, 0), 0) := by show obStep 2 1 (rdF bu _ 2) (obN bu _ 2 1 (tb tT1, tbH tH0, tbC tC0, 0, 0, 0) 1) = _; rw [e2, o1]; exact rfl
  have b2 : bu 2 = 97 := hb 2 (by decide)
  have e3 : rdF bu ((r0, r1, r2, r3, r4, r5, r6) : RdT) 3 = ((4, 103, 1, 0, r4, r5, r6) : RdT) := by show rdNext (rdF bu _ 2) (bu 2) = _; rw [e2, b2]; rfl
  have o3 : obN bu ((r0, r1, r2, r3, r4, r5, r6) : RdT) 2 1 (tb tT1, tbH tH0, tbC tC0, 0, 0, 0) 3 = (true, (tb tT1, tbH tH0, tbC tC0, 0, 0, 0), 0) := by show obStep 2 1 (rdF bu _ 3) (obN bu _ 2 1 (tb tT1, tbH tH0, tbC tC0, 0, 0, 0) 2) = _; rw [e3, o2]; exact rfl
  have b3 : bu 3 = 50 := hb 3 (by decide)
  have e4 : rdF bu ((r0, r1, r2, r3, r4, r5, r6) : RdT) 4 = ((6, 103, 1, 0, 2, r5, r6) : RdT) := by show rdNext (rdF bu _ 3) (bu 3) = _; rw [e3, b3]; rfl
  have o4 : obN bu ((r0, r1, r2, r3, r4, r5, r6) : RdT) 2 1 (tb tT1, tbH tH0, tbC tC0, 0, 0, 0) 4 = (true, (tb tT1, tbH tH0, tbC tC0, 0, 0, 0), 0) := by show obStep 2 1 (rdF bu _ 4) (obN bu _ 2 1 (tb tT1, tbH tH0, tbC tC0, 0, 0, 0) 3) = _; rw [e4, o3]; exact rfl
  have b4 : bu 4 = 61 := hb 4 (by decide)
  have e5 : rdF bu ((r0, r1, r2, r3, r4, r5, r6) : RdT) 5 = ((7, 103, 1, 0, 2, 0, r6) : RdT) := by show rdNext (rdF bu _ 4) (bu 4) = _; rw [e4, b4]; rfl
  have o5 : obN bu ((r0, r1, r2, r3, r4, r5, r6) : RdT) 2 1 (tb tT1, tbH tH0, tbC tC0, 0, 0, 0) 5 = (true, (tb tT1, tbH tH0, tbC tC0, 0, 0, 0), 0) := by show obStep 2 1 (rdF bu _ 5) (obN bu _ 2 1 (tb tT1, tbH tH0, tbC tC0, 0, 0, 0) 4) = _; rw [e5, o4]; exact rfl
  have b5 : bu 5 = 49 := hb 5 (by decide)
  have e6 : rdF bu ((r0, r1, r2, r3, r4, r5, r6) : RdT) 6 = ((8, 103, 1, 0, 2, 0, 1) : RdT) := by show rdNext (rdF bu _ 5) (bu 5) = _; rw [e5, b5]; rfl
  have o6 : obN bu ((r0, r1, r2, r3, r4, r5, r6) : RdT) 2 1 (tb tT1, tbH tH0, tbC tC0, 0, 0, 0) 6 = (false, (tb tT1, tbH tH0, tbC tC0, 0, 0, 0), 0) := by show obStep 2 1 (rdF bu _ 6) (obN bu _ 2 1 (tb tT1, tbH tH0, tbC tC0, 0, 0, 0) 5) = _; rw [e6, o5]; exact ob_no rfl (fun q => absurd ((deedOk_g rfl).mp q) (by decide))
  show (obN bu ((r0, r1, r2, r3, r4, r5, r6) : RdT) 2 1 (tb tT1, tbH tH0, tbC tC0, 0, 0, 0) 6).2 = _
  rw [o6]

set_option maxRecDepth 100000 in
set_option maxHeartbeats 4000000 in
theorem ob_2 {bu : Nat → Nat} {bl : Nat} (hT : txt bu bl [114, 97, 97, 49, 54, 45, 57, 59, 102, 49, 59, 116]) (s9 : RdT) : (obN bu s9 2 1 (tb tT1, tbH tH0, tbC tC0, 0, 0, 0) bl).2 = ((tb tT0, tbH tH3, tbC tC0, 0, 1, 0), 3) := by
  obtain ⟨h0, hb⟩ := hT
  subst h0
  obtain ⟨r0, r1, r2, r3, r4, r5, r6⟩ := s9
  have e0 : rdF bu ((r0, r1, r2, r3, r4, r5, r6) : RdT) 0 = ((0, r1, r2, r3, r4, r5, r6) : RdT) := rfl
  have o0 : obN bu ((r0, r1, r2, r3, r4, r5, r6) : RdT) 2 1 (tb tT1, tbH tH0, tbC tC0, 0, 0, 0) 0 = (true, (tb tT1, tbH tH0, tbC tC0, 0, 0, 0), 0) := rfl
  have b0 : bu 0 = 114 := hb 0 (by decide)
  have e1 : rdF bu ((r0, r1, r2, r3, r4, r5, r6) : RdT) 1 = ((2, 114, r2, r3, r4, r5, r6) : RdT) := by show rdNext (rdF bu _ 0) (bu 0) = _; rw [e0, b0]; rfl
  have o1 : obN bu ((r0, r1, r2, r3, r4, r5, r6) : RdT) 2 1 (tb tT1, tbH tH0, tbC tC0, 0, 0, 0) 1 = (true, (tb tT1, tbH tH0, tbC tC0, 0, 0, 0), 0) := by show obStep 2 1 (rdF bu _ 1) (obN bu _ 2 1 (tb tT1, tbH tH0, tbC tC0, 0, 0, 0) 0) = _; rw [e1, o0]; exact rfl
  have b1 : bu 1 = 97 := hb 1 (by decide)
  have e2 : rdF bu ((r0, r1, r2, r3, r4, r5, r6) : RdT) 2 = ((3, 114, 0, r3, r4, r5, r6) : RdT) := by show rdNext (rdF bu _ 1) (bu 1) = _; rw [e1, b1]; rfl
  have o2 : obN bu ((r0, r1, r2, r3, r4, r5, r6) : RdT) 2 1 (tb tT1, tbH tH0, tbC tC0, 0, 0, 0) 2 = (true, (tb tT1, tbH tH0, tbC tC0, 0, 0, 0), 0) := by show obStep 2 1 (rdF bu _ 2) (obN bu _ 2 1 (tb tT1, tbH tH0, tbC tC0, 0, 0, 0) 1) = _; rw [e2, o1]; exact rfl
  have b2 : bu 2 = 97 := hb 2 (by decide)
  have e3 : rdF bu ((r0, r1, r2, r3, r4, r5, r6) : RdT) 3 = ((4, 114, 0, 0, r4, r5, r6) : RdT) := by show rdNext (rdF bu _ 2) (bu 2) = _; rw [e2, b2]; rfl
  have o3 : obN bu ((r0, r1, r2, r3, r4, r5, r6) : RdT) 2 1 (tb tT1, tbH tH0, tbC tC0, 0, 0, 0) 3 = (true, (tb tT1, tbH tH0, tbC tC0, 0, 0, 0), 0) := by show obStep 2 1 (rdF bu _ 3) (obN bu _ 2 1 (tb tT1, tbH tH0, tbC tC0, 0, 0, 0) 2) = _; rw [e3, o2]; exact rfl
  have b3 : bu 3 = 49 := hb 3 (by decide)
  have e4 : rdF bu ((r0, r1, r2, r3, r4, r5, r6) : RdT) 4 = ((5, 114, 0, 0, 1, r5, r6) : RdT) := by show rdNext (rdF bu _ 3) (bu 3) = _; rw [e3, b3]; rfl
  have o4 : obN bu ((r0, r1, r2, r3, r4, r5, r6) : RdT) 2 1 (tb tT1, tbH tH0, tbC tC0, 0, 0, 0) 4 = (true, (tb tT1, tbH tH0, tbC tC0, 0, 0, 0), 0) := by show obStep 2 1 (rdF bu _ 4) (obN bu _ 2 1 (tb tT1, tbH tH0, tbC tC0, 0, 0, 0) 3) = _; rw [e4, o3]; exact rfl
  have b4 : bu 4 = 54 := hb 4 (by decide)
  have e5 : rdF bu ((r0, r1, r2, r3, r4, r5, r6) : RdT) 5 = ((6, 114, 0, 0, 16, r5, r6) : RdT) := by show rdNext (rdF bu _ 4) (bu 4) = _; rw [e4, b4]; rfl
  have o5 : obN bu ((r0, r1, r2, r3, r4, r5, r6) : RdT) 2 1 (tb tT1, tbH tH0, tbC tC0, 0, 0, 0) 5 = (true, (tb tT1, tbH tH0, tbC tC0, 0, 0, 0), 0) := by show obStep 2 1 (rdF bu _ 5) (obN bu _ 2 1 (tb tT1, tbH tH0, tbC tC0, 0, 0, 0) 4) = _; rw [e5, o4]; exact rfl
  have b5 : bu 5 = 45 := hb 5 (by decide)
  have e6 : rdF bu ((r0, r1, r2, r3, r4, r5, r6) : RdT) 6 = ((7, 114, 0, 0, 16, 1, r6) : RdT) := by show rdNext (rdF bu _ 5) (bu 5) = _; rw [e5, b5]; rfl
  have o6 : obN bu ((r0, r1, r2, r3, r4, r5, r6) : RdT) 2 1 (tb tT1, tbH tH0, tbC tC0, 0, 0, 0) 6 = (true, (tb tT1, tbH tH0, tbC tC0, 0, 0, 0), 0) := by show obStep 2 1 (rdF bu _ 6) (obN bu _ 2 1 (tb tT1, tbH tH0, tbC tC0, 0, 0, 0) 5) = _; rw [e6, o5]; exact rfl
  have b6 : bu 6 = 57 := hb 6 (by decide)
  have e7 : rdF bu ((r0, r1, r2, r3, r4, r5, r6) : RdT) 7 = ((8, 114, 0, 0, 16, 1, 9) : RdT) := by show rdNext (rdF bu _ 6) (bu 6) = _; rw [e6, b6]; rfl
  have o7 : obN bu ((r0, r1, r2, r3, r4, r5, r6) : RdT) 2 1 (tb tT1, tbH tH0, tbC tC0, 0, 0, 0) 7 = (true, (tb tT1, tbH tH3, tbC tC0, 0, 0, 0), 1) := by show obStep 2 1 (rdF bu _ 7) (obN bu _ 2 1 (tb tT1, tbH tH0, tbC tC0, 0, 0, 0) 6) = _; rw [e7, o6]; exact ob_yes rfl ((deedOk_r rfl).mpr (by decide)) (show (tb tT1, lfHe (tbH tH0) 0 0 16 (rdD (8, 114, 0, 0, 16, 1, 9)), tbC tC0, 0, 0, 0) = (tb tT1, tbH tH3, tbC tC0, 0, 0, 0) from by rw [lf_tb (T' := tH3) (by decide) (by decide +kernel)])
  have b7 : bu 7 = 59 := hb 7 (by decide)
  have e8 : rdF bu ((r0, r1, r2, r3, r4, r5, r6) : RdT) 8 = ((0, 114, 0, 0, 16, 1, 9) : RdT) := by show rdNext (rdF bu _ 7) (bu 7) = _; rw [e7, b7]; rfl
  have o8 : obN bu ((r0, r1, r2, r3, r4, r5, r6) : RdT) 2 1 (tb tT1, tbH tH0, tbC tC0, 0, 0, 0) 8 = (true, (tb tT1, tbH tH3, tbC tC0, 0, 0, 0), 1) := by show obStep 2 1 (rdF bu _ 8) (obN bu _ 2 1 (tb tT1, tbH tH0, tbC tC0, 0, 0, 0) 7) = _; rw [e8, o7]; exact rfl
  have b8 : bu 8 = 102 := hb 8 (by decide)
  have e9 : rdF bu ((r0, r1, r2, r3, r4, r5, r6) : RdT) 9 = ((7, 102, 0, 0, 16, 1, 9) : RdT) := by show rdNext (rdF bu _ 8) (bu 8) = _; rw [e8, b8]; rfl
  have o9 : obN bu ((r0, r1, r2, r3, r4, r5, r6) : RdT) 2 1 (tb tT1, tbH tH0, tbC tC0, 0, 0, 0) 9 = (true, (tb tT1, tbH tH3, tbC tC0, 0, 0, 0), 1) := by show obStep 2 1 (rdF bu _ 9) (obN bu _ 2 1 (tb tT1, tbH tH0, tbC tC0, 0, 0, 0) 8) = _; rw [e9, o8]; exact rfl
  have b9 : bu 9 = 49 := hb 9 (by decide)
  have e10 : rdF bu ((r0, r1, r2, r3, r4, r5, r6) : RdT) 10 = ((8, 102, 0, 0, 16, 1, 1) : RdT) := by show rdNext (rdF bu _ 9) (bu 9) = _; rw [e9, b9]; rfl
  have o10 : obN bu ((r0, r1, r2, r3, r4, r5, r6) : RdT) 2 1 (tb tT1, tbH tH0, tbC tC0, 0, 0, 0) 10 = (true, (tb tT0, tbH tH3, tbC tC0, 0, 1, 0), 2) := by show obStep 2 1 (rdF bu _ 10) (obN bu _ 2 1 (tb tT1, tbH tH0, tbC tC0, 0, 0, 0) 9) = _; rw [e10, o9]; exact ob_yes rfl ⟨fun h => absurd h (show ¬ ((102 : Nat) = 103 ∨ (102 : Nat) = 114) from by decide), fun h => absurd h (show ¬ ((102 : Nat) = 98) from by decide)⟩ (show (drOw (tb tT1) (tbH tH3) 1, tbH tH3, tbC tC0, 0, 0 + 1, 0) = (tb tT0, tbH tH3, tbC tC0, 0, 1, 0) from by rw [dr_tb (T' := tT0) (by decide +kernel)])
  have b10 : bu 10 = 59 := hb 10 (by decide)
  have e11 : rdF bu ((r0, r1, r2, r3, r4, r5, r6) : RdT) 11 = ((0, 102, 0, 0, 16, 1, 1) : RdT) := by show rdNext (rdF bu _ 10) (bu 10) = _; rw [e10, b10]; rfl
  have o11 : obN bu ((r0, r1, r2, r3, r4, r5, r6) : RdT) 2 1 (tb tT1, tbH tH0, tbC tC0, 0, 0, 0) 11 = (true, (tb tT0, tbH tH3, tbC tC0, 0, 1, 0), 2) := by show obStep 2 1 (rdF bu _ 11) (obN bu _ 2 1 (tb tT1, tbH tH0, tbC tC0, 0, 0, 0) 10) = _; rw [e11, o10]; exact rfl
  have b11 : bu 11 = 116 := hb 11 (by decide)
  have e12 : rdF bu ((r0, r1, r2, r3, r4, r5, r6) : RdT) 12 = ((8, 116, 0, 0, 16, 1, 1) : RdT) := by show rdNext (rdF bu _ 11) (bu 11) = _; rw [e11, b11]; rfl
  have o12 : obN bu ((r0, r1, r2, r3, r4, r5, r6) : RdT) 2 1 (tb tT1, tbH tH0, tbC tC0, 0, 0, 0) 12 = (true, (tb tT0, tbH tH3, tbC tC0, 0, 1, 0), 3) := by show obStep 2 1 (rdF bu _ 12) (obN bu _ 2 1 (tb tT1, tbH tH0, tbC tC0, 0, 0, 0) 11) = _; rw [e12, o11]; exact ob_yes rfl ⟨fun h => absurd h (show ¬ ((116 : Nat) = 103 ∨ (116 : Nat) = 114) from by decide), fun h => absurd h (show ¬ ((116 : Nat) = 98) from by decide)⟩ (show ((txA 1 (tb tT0, tbH tH3, tbC tC0, 0, 1, 0)).1, tbH tH3, (txA 1 (tb tT0, tbH tH3, tbC tC0, 0, 1, 0)).2.2.1, 0, 1, (txA 1 (tb tT0, tbH tH3, tbC tC0, 0, 1, 0)).2.2.2.1) = (tb tT0, tbH tH3, tbC tC0, 0, 1, 0) from by rw [(pl_tT0.tx (he := tbH tH3) (sa := 0) (fl := 1) tx_18).1, (pl_tT0.tx (he := tbH tH3) (sa := 0) (fl := 1) tx_18).2])
  show (obN bu ((r0, r1, r2, r3, r4, r5, r6) : RdT) 2 1 (tb tT1, tbH tH0, tbC tC0, 0, 0, 0) 12).2 = _
  rw [o12]

