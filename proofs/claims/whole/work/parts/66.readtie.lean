/-! OWN, pure: the class's reader, character by character, against the reference's, deed by deed -/
section RNext
variable {kd x y z il nu c : Nat}
theorem rdN_0 (h : kdOk c) : rdNext (0, kd, x, y, z, il, nu) c = (kdN c, c, x, y, z, il, nu) := by
  show ((if kdOk c then kdN c else 0, if kdOk c then c else kd, x, y, z, il, nu) : RdT) = _
  rw [if_pos h, if_pos h]
theorem rdN_1 (h : 49 ≤ c ∧ c ≤ 55) : rdNext (1, kd, x, y, z, il, nu) c = (2, kd, x, y, z, il, c - 48) := by
  show ((if 49 ≤ c ∧ c ≤ 55 then 2 else 1, kd, x, y, z, il, if 49 ≤ c ∧ c ≤ 55 then c - 48 else nu) : RdT) = _
  rw [if_pos h, if_pos h]
theorem rdN_2 (h : 97 ≤ c ∧ c ≤ 112) : rdNext (2, kd, x, y, z, il, nu) c = (3, kd, c - 97, y, z, il, nu) := by
  show ((if 97 ≤ c ∧ c ≤ 112 then 3 else 2, kd, if 97 ≤ c ∧ c ≤ 112 then c - 97 else x, y, z, il, nu) : RdT) = _
  rw [if_pos h, if_pos h]
theorem rdN_3 (h : 97 ≤ c ∧ c ≤ 112) : rdNext (3, kd, x, y, z, il, nu) c = (if kd = 98 then 8 else 4, kd, x, c - 97, z, il, nu) := by
  show ((if 97 ≤ c ∧ c ≤ 112 then (if kd = 98 then 8 else 4) else 3, kd, x, if 97 ≤ c ∧ c ≤ 112 then c - 97 else y, z, il, nu) : RdT) = _
  rw [if_pos h, if_pos h]
theorem rdN_4 (h : szOk c) : rdNext (4, kd, x, y, z, il, nu) c = (if c = 49 then 5 else 6, kd, x, y, c - 48, il, nu) := by
  show ((if szOk c then (if c = 49 then 5 else 6) else 4, kd, x, y, if szOk c then c - 48 else z, il, nu) : RdT) = _
  rw [if_pos h, if_pos h]
theorem rdN_56 (h : c = 54) : rdNext (5, kd, x, y, z, il, nu) c = (6, kd, x, y, 16, il, nu) := by
  show ((if c = 54 then 6 else if signOk kd c then 7 else 5, kd, x, y, if c = 54 then 16 else z, if c = 54 then il else if signOk kd c then (if c = 45 then 1 else 0) else il, nu) : RdT) = _
  rw [if_pos h, if_pos h, if_pos h]
theorem rdN_5 (hs : signOk kd c) : rdNext (5, kd, x, y, z, il, nu) c = (7, kd, x, y, z, if c = 45 then 1 else 0, nu) := by
  have h : ¬ c = 54 := by omega
  show ((if c = 54 then 6 else if signOk kd c then 7 else 5, kd, x, y, if c = 54 then 16 else z, if c = 54 then il else if signOk kd c then (if c = 45 then 1 else 0) else il, nu) : RdT) = _
  rw [if_neg h, if_pos hs, if_neg h, if_neg h, if_pos hs]
theorem rdN_6 (hs : signOk kd c) : rdNext (6, kd, x, y, z, il, nu) c = (7, kd, x, y, z, if c = 45 then 1 else 0, nu) := by
  show ((if signOk kd c then 7 else 6, kd, x, y, z, if signOk kd c then (if c = 45 then 1 else 0) else il, nu) : RdT) = _
  rw [if_pos hs, if_pos hs]
theorem rdN_7 (h : numOk kd c) : rdNext (7, kd, x, y, z, il, nu) c = (8, kd, x, y, z, il, c - 48) := by
  show ((if numOk kd c then 8 else 7, kd, x, y, z, il, if numOk kd c then c - 48 else nu) : RdT) = _
  rw [if_pos h, if_pos h]
theorem rdN_8 (h : c = 59) : rdNext (8, kd, x, y, z, il, nu) c = (0, kd, x, y, z, il, nu) := by
  show ((if c = 59 then 0 else 8, kd, x, y, z, il, nu) : RdT) = _
  rw [if_pos h]
end RNext
/-- from place i to place j all characters are taken, and no deed ends ahead of j -/
def dQ (te : Nat → Nat) (s : RdT) (i j : Nat) : Prop := i ≤ j ∧ ∀ k, i ≤ k → k < j → rdK te s k ∧ (rdF te s k).1 ≠ 8
/-- the reading stops at place j -/
def dX (te : Nat → Nat) (s : RdT) (le i j : Nat) : Prop := dQ te s i j ∧ j ≤ le ∧ (rdF te s j).1 ≠ 8 ∧ (j < le → ¬ rdK te s j)
section DQ
variable {te : Nat → Nat} {s : RdT} {le i j : Nat}
theorem dQ_0 : dQ te s i i := ⟨Nat.le_refl _, fun k h1 h2 => by omega⟩
theorem dQ_s (h : dQ te s i j) (h8 : (rdF te s j).1 ≠ 8) (hk : rdK te s j) : dQ te s i (j + 1) :=
  ⟨by have := h.1; omega, fun k h1 h2 => by
    by_cases e : k = j
    · subst e; exact ⟨hk, h8⟩
    · exact h.2 k h1 (by omega)⟩
/-- one more character, the registers known -/
theorem dQ_n {st kd x y z il nu : Nat} {S' : RdT} (h : dQ te s i j) (hS : rdF te s j = (st, kd, x, y, z, il, nu)) (h8 : st ≠ 8) (hok : rdOk st kd (te j)) (hn : rdNext (st, kd, x, y, z, il, nu) (te j) = S') : dQ te s i (j + 1) ∧ rdF te s (j + 1) = S' := by
  refine ⟨dQ_s h (by rw [hS]; exact h8) (by show rdOk _ _ _; rw [hS]; exact hok), ?_⟩
  show rdNext (rdF te s j) (te j) = S'
  rw [hS]; exact hn
/-- the reading stops here -/
theorem dQ_x {st kd x y z il nu : Nat} (h : dQ te s i j) (hj : j ≤ le) (hS : rdF te s j = (st, kd, x, y, z, il, nu)) (h8 : st ≠ 8) (hno : j < le → ¬ rdOk st kd (te j)) : dX te s le i j :=
  ⟨h, hj, by rw [hS]; exact h8, fun hl => by show ¬ rdOk _ _ _; rw [hS]; exact hno hl⟩
end DQ
section Prims
variable {te : Nat → Nat} {s : RdT} {le i tm : Nat} {t : PT} {kd x y z il nu : Nat}
theorem va_up_at (f : Nat → Int) (k : Nat) (v : Int) (j : Nat) : va_up f k v j = if j = k then v else f j := gu_if f k j v
/-- a cell -/
theorem tCell (hQ : dQ te s i t.1) (hl : t.1 ≤ le) (hS : rdF te s t.1 = (2, kd, x, y, z, il, nu)) :
    ((pCell te le tm t).1 = true → ∃ a b, a < 16 ∧ b < 16 ∧ dQ te s i (pCell te le tm t).2.1 ∧ (pCell te le tm t).2.1 ≤ le ∧ rdF te s (pCell te le tm t).2.1 = (if kd = 98 then 8 else 4, kd, a, b, z, il, nu) ∧ (pCell te le tm t).2.2 = va_up (va_up t.2 (6 * tm + 1) (a : Int)) (6 * tm + 2) (b : Int)) ∧
    (¬ (pCell te le tm t).1 = true → dX te s le i (pCell te le tm t).2.1) := by
  by_cases e1 : t.1 < le ∧ 97 ≤ te t.1 ∧ te t.1 ≤ 112
  · have o1 := pOf_t (tm := tm) (pl := 1) e1
    obtain ⟨q1, s1⟩ := dQ_n hQ hS (by decide) ((rdOk_2 rfl).mpr e1.2) (rdN_2 e1.2)
    have c1 : (pOf te le tm 1 97 112 t).1 = true := by rw [o1]
    rw [pCell_t c1, o1]
    by_cases e2 : t.1 + 1 < le ∧ 97 ≤ te (t.1 + 1) ∧ te (t.1 + 1) ≤ 112
    · have o2 := pOf_t (tm := tm) (pl := 2) (t := (t.1 + 1, va_up t.2 (6 * tm + 1) ((te t.1 - 97 : Nat) : Int))) e2
      obtain ⟨q2, s2⟩ := dQ_n q1 s1 (by decide) ((rdOk_3 rfl).mpr e2.2) (rdN_3 e2.2)
      rw [o2]
      exact ⟨fun _ => ⟨te t.1 - 97, te (t.1 + 1) - 97, by omega, by omega, q2, e2.1, s2, rfl⟩, fun h => absurd rfl h⟩
    · have o2 := pOf_f (tm := tm) (pl := 2) (t := (t.1 + 1, va_up t.2 (6 * tm + 1) ((te t.1 - 97 : Nat) : Int))) e2
      rw [o2]
      exact ⟨fun h => (by cases h), fun _ => dQ_x q1 e1.1 s1 (by decide) (fun hlt h => e2 ⟨hlt, (rdOk_3 rfl).mp h⟩)⟩
  · have o1 := pOf_f (tm := tm) (pl := 1) e1
    have c1 : ¬ (pOf te le tm 1 97 112 t).1 = true := by rw [o1]; simp
    rw [pCell_f c1, o1]
    exact ⟨fun h => (by cases h), fun _ => dQ_x hQ hl hS (by decide) (fun hlt h => e1 ⟨hlt, (rdOk_2 rfl).mp h⟩)⟩
/-- a size: the reading stands behind it, at the sign (or where a 6 may come) -/
theorem tSize (hQ : dQ te s i t.1) (hl : t.1 ≤ le) (hS : rdF te s t.1 = (4, kd, x, y, z, il, nu)) :
    ((pSize te le tm t).1 = true → ∃ st zz, isz zz ∧ (st = 6 ∨ st = 5 ∧ (∀ h : (pSize te le tm t).2.1 < le, te (pSize te le tm t).2.1 ≠ 54)) ∧ dQ te s i (pSize te le tm t).2.1 ∧ (pSize te le tm t).2.1 ≤ le ∧ rdF te s (pSize te le tm t).2.1 = (st, kd, x, y, zz, il, nu) ∧ (pSize te le tm t).2.2 = va_up t.2 (6 * tm + 3) (zz : Int)) ∧
    (¬ (pSize te le tm t).1 = true → dX te s le i (pSize te le tm t).2.1) := by
  have key : ∀ v, szV te le t.1 = v → (pSize te le tm t).1 = decide (0 < v.1) ∧ (pSize te le tm t).2.1 = v.2 ∧ (pSize te le tm t).2.2 = va_up t.2 (6 * tm + 3) ((v.1 : Nat) : Int) := by
    intro v hv; subst hv; exact ⟨rfl, rfl, rfl⟩
  by_cases e0 : t.1 < le ∧ szOk (te t.1)
  · obtain ⟨q1, s1⟩ := dQ_n hQ hS (by decide) ((rdOk_4 rfl).mpr e0.2) (rdN_4 e0.2)
    by_cases e1 : te t.1 = 49
    · rw [if_pos e1] at s1
      by_cases e6 : t.1 + 1 < le ∧ te (t.1 + 1) = 54
      · obtain ⟨q2, s2⟩ := dQ_n q1 s1 (by decide) ((rdOk_5 rfl).mpr (Or.inl e6.2)) (rdN_56 e6.2)
        obtain ⟨k1, k2, k3⟩ := key (16, t.1 + 1 + 1) (by unfold szV; rw [if_pos ⟨e0.1, e1⟩, if_pos e6])
        rw [k1, k2, k3]
        exact ⟨fun _ => ⟨6, 16, by omega, Or.inl rfl, q2, e6.1, s2, rfl⟩, fun h => absurd rfl h⟩
      · obtain ⟨k1, k2, k3⟩ := key (1, t.1 + 1) (by unfold szV; rw [if_pos ⟨e0.1, e1⟩, if_neg e6])
        rw [k1, k2, k3]
        exact ⟨fun _ => ⟨5, 1, by omega, Or.inr ⟨rfl, fun hlt h => e6 ⟨hlt, h⟩⟩, q1, e0.1, by rw [s1, e1], rfl⟩, fun h => absurd rfl h⟩
    · rw [if_neg e1] at s1
      have hv : szV te le t.1 = (te t.1 - 48, t.1 + 1) := by
        unfold szV; rw [if_neg (fun h => e1 h.2)]
        rcases e0.2 with h | h | h | h
        · exact absurd h e1
        · rw [if_pos ⟨e0.1, h⟩, h]
        · rw [if_neg (fun q => by omega), if_pos ⟨e0.1, h⟩, h]
        · rw [if_neg (fun q => by omega), if_neg (fun q => by omega), if_pos ⟨e0.1, h⟩, h]
      obtain ⟨k1, k2, k3⟩ := key _ hv
      rw [k1, k2, k3]
      have h9 : 0 < te t.1 - 48 := by have := e0.2; omega
      refine ⟨fun _ => ⟨6, te t.1 - 48, by have := e0.2; omega, Or.inl rfl, q1, e0.1, s1, rfl⟩, fun h => absurd (decide_eq_true h9) h⟩
  · have hv : szV te le t.1 = (0, t.1) := by
      unfold szV; rw [if_neg (fun h => e0 ⟨h.1, Or.inl h.2⟩), if_neg (fun h => e0 ⟨h.1, Or.inr (Or.inl h.2)⟩), if_neg (fun h => e0 ⟨h.1, Or.inr (Or.inr (Or.inl h.2))⟩), if_neg (fun h => e0 ⟨h.1, Or.inr (Or.inr (Or.inr h.2))⟩)]
    obtain ⟨k1, k2, k3⟩ := key _ hv
    rw [k1, k2, k3]
    exact ⟨fun h => (by cases h), fun _ => dQ_x hQ hl hS (by decide) (fun hlt h => e0 ⟨hlt, (rdOk_4 rfl).mp h⟩)⟩
/-- a number at its stage -/
theorem tNum {a b : Nat} (hQ : dQ te s i t.1) (hl : t.1 ≤ le) (hS : rdF te s t.1 = (7, kd, x, y, z, il, nu)) (hab : ∀ c, numOk kd c ↔ a ≤ c ∧ c ≤ b) :
    ((pOf te le tm 5 a b t).1 = true → (a ≤ te t.1 ∧ te t.1 ≤ b) ∧ dQ te s i (pOf te le tm 5 a b t).2.1 ∧ (pOf te le tm 5 a b t).2.1 ≤ le ∧ rdF te s (pOf te le tm 5 a b t).2.1 = (8, kd, x, y, z, il, te t.1 - 48) ∧ (pOf te le tm 5 a b t).2.2 = va_up t.2 (6 * tm + 5) ((te t.1 - a : Nat) : Int)) ∧
    (¬ (pOf te le tm 5 a b t).1 = true → dX te s le i (pOf te le tm 5 a b t).2.1) := by
  by_cases e1 : t.1 < le ∧ a ≤ te t.1 ∧ te t.1 ≤ b
  · have o1 := pOf_t (tm := tm) (pl := 5) e1
    obtain ⟨q1, s1⟩ := dQ_n hQ hS (by decide) ((rdOk_7 rfl).mpr ((hab _).mpr e1.2)) (rdN_7 ((hab _).mpr e1.2))
    rw [o1]
    exact ⟨fun _ => ⟨e1.2, q1, e1.1, s1, rfl⟩, fun h => absurd rfl h⟩
  · have o1 := pOf_f (tm := tm) (pl := 5) e1
    rw [o1]
    exact ⟨fun h => (by cases h), fun _ => dQ_x hQ hl hS (by decide) (fun hlt h => e1 ⟨hlt, (hab _).mp ((rdOk_7 rfl).mp h)⟩)⟩
theorem numG (c : Nat) : numOk 103 c ↔ 48 ≤ c ∧ c ≤ 55 := by unfold numOk; omega
theorem numO {kd : Nat} (h : kd ≠ 103) (c : Nat) : numOk kd c ↔ 49 ≤ c ∧ c ≤ 57 := by unfold numOk; omega
/-- the sign's step, from behind a size -/
theorem tSgn {st : Nat} (hQ : dQ te s i t.1) (hS : rdF te s t.1 = (st, kd, x, y, z, il, nu)) (hst : st = 6 ∨ st = 5 ∧ (∀ h : t.1 < le, te t.1 ≠ 54)) :
    (signOk kd (te t.1) → dQ te s i (t.1 + 1) ∧ rdF te s (t.1 + 1) = (7, kd, x, y, z, if te t.1 = 45 then 1 else 0, nu)) ∧ (t.1 ≤ le → (t.1 < le → ¬ signOk kd (te t.1)) → dX te s le i t.1) := by
  rcases hst with rfl | ⟨rfl, h54⟩
  · exact ⟨fun h => dQ_n hQ hS (by decide) ((rdOk_6 rfl).mpr h) (rdN_6 h), fun hl h => dQ_x hQ hl hS (by decide) (fun hlt q => h hlt ((rdOk_6 rfl).mp q))⟩
  · exact ⟨fun h => dQ_n hQ hS (by decide) ((rdOk_5 rfl).mpr (Or.inr h)) (rdN_5 h), fun hl h => dQ_x hQ hl hS (by decide) (fun hlt q => ((rdOk_5 rfl).mp q).elim (h54 hlt) (h hlt))⟩
end Prims
theorem tk_t {te : Nat → Nat} {le ch k : Nat} (h : k < le ∧ te k = ch) : tk te le ch k = k + 1 := if_pos h
theorem tk_f {te : Nat → Nat} {le ch k : Nat} (h : ¬ (k < le ∧ te k = ch)) : tk te le ch k = k := if_neg h
/-- what is told of the deed n -/
def rcd (to : Nat → Int) (n kd x y z : Nat) (sg : Int) (nu : Nat) : Prop :=
  to (6 * n) = (kd : Int) ∧ (kd = 103 ∨ kd = 114 → to (6 * n + 1) = (x : Int) ∧ to (6 * n + 2) = (y : Int) ∧ to (6 * n + 3) = (z : Int) ∧ x < 16 ∧ y < 16 ∧ isz z) ∧ (kd = 98 → to (6 * n + 1) = (x : Int) ∧ to (6 * n + 2) = (y : Int) ∧ x < 16 ∧ y < 16 ∧ nu ≤ 6) ∧
  (kd = 98 ∨ kd = 102 ∨ kd = 103 ∨ kd = 114 → to (6 * n + 5) = (nu : Int) ∧ nu ≤ 8) ∧ (kd = 103 → nu ≤ 7) ∧ (kd = 114 → to (6 * n + 4) = sg ∧ (sg = 1 ∨ sg = -1)) ∧ (kd = 98 ∨ kd = 102 ∨ kd = 103 ∨ kd = 114 ∨ kd = 116)
/-- the class's registers for it -/
def rgs (S : RdT) (kd x y z : Nat) (sg : Int) (nu : Nat) : Prop :=
  S.2.1 = kd ∧ (kd = 103 ∨ kd = 114 → S.2.2.1 = x ∧ S.2.2.2.1 = y ∧ S.2.2.2.2.1 = z) ∧ (kd = 98 → S.2.2.1 = x ∧ S.2.2.2.1 = y ∧ S.2.2.2.2.2.2 = nu + 1) ∧ (kd = 103 → S.2.2.2.2.2.2 = nu) ∧ (kd = 102 ∨ kd = 114 → S.2.2.2.2.2.2 = nu + 1) ∧ (kd = 114 → rdD S = sg * ((nu + 1 : Nat) : Int))
theorem rcd_ext {to to' : Nat → Int} {n kd x y z nu : Nat} {sg : Int} (h : rcd to n kd x y z sg nu) (he : ∀ k, k < 6 * n + 6 → to' k = to k) : rcd to' n kd x y z sg nu := by
  unfold rcd at h ⊢
  rw [he _ (by omega), he _ (by omega), he _ (by omega), he _ (by omega), he _ (by omega), he _ (by omega)]
  exact h
/-- a deed, whole -/
def dEnd (te : Nat → Nat) (s : RdT) (le n i : Nat) (t : PT) : Prop :=
  ∃ kd x y z sg nu, dQ te s i t.1 ∧ i < t.1 ∧ t.1 ≤ le ∧ (rdF te s t.1).1 = 8 ∧ rcd t.2 n kd x y z sg nu ∧ rgs (rdF te s t.1) kd x y z sg nu
section Deed
variable {te : Nat → Nat} {s : RdT} {le n : Nat} {t : PT}
theorem tDeed (hl : t.1 ≤ le) (h0 : (rdF te s t.1).1 = 0) :
    ((pDeed te le n t).1 = true → dEnd te s le n t.1 (pDeed te le n t).2) ∧ (¬ (pDeed te le n t).1 = true → dX te s le t.1 (pDeed te le n t).2.1) := by
  obtain ⟨i, to⟩ := t
  obtain ⟨st, kd, x, y, z, il, nu, hS⟩ : ∃ st kd x y z il nu, rdF te s i = (st, kd, x, y, z, il, nu) := ⟨_, _, _, _, _, _, _, rfl⟩
  have hst : st = 0 := by rw [hS] at h0; exact h0
  subst hst
  have hl : i ≤ le := hl
  have hQ : dQ te s i i := dQ_0
  by_cases c8 : i = le
  · have e := pD_e (te := te) (le := le) (tm := n) (t := (i, to)) c8
    rw [e]
    exact ⟨fun h => (by cases h), fun _ => dQ_x hQ hl hS (by decide) (fun h => (by have h : i < le := h; omega))⟩
  · have hlt : i < le := by omega
    have step : kdOk (te i) → dQ te s i (i + 1) ∧ rdF te s (i + 1) = (kdN (te i), te i, x, y, z, il, nu) := fun h => dQ_n hQ hS (by decide) ((rdOk_0 rfl).mpr h) (rdN_0 h)
    have eT : pT1 te n (i, to) = (i + 1, va_up to (6 * n) ((te i : Nat) : Int)) := rfl
    by_cases k1 : te i = 98
    · rw [pD_b (te := te) (tm := n) (t := (i, to)) c8 k1, eT]
      obtain ⟨q1, s1⟩ := step (by omega)
      rw [k1] at s1
      have s1 : rdF te s (i + 1) = (1, 98, x, y, z, il, nu) := s1
      by_cases e1 : i + 1 < le ∧ 49 ≤ te (i + 1) ∧ te (i + 1) ≤ 55
      · have o1 := pOf_t (tm := n) (pl := 5) (t := (i + 1, va_up to (6 * n) ((te i : Nat) : Int))) e1
        obtain ⟨q2, s2⟩ := dQ_n q1 s1 (by decide) ((rdOk_1 rfl).mpr e1.2) (rdN_1 e1.2)
        rw [pB_2 (by rw [o1]), o1]
        obtain ⟨g1, g2⟩ := tCell (le := le) (tm := n) (t := (i + 1 + 1, va_up (va_up to (6 * n) ((te i : Nat) : Int)) (6 * n + 5) ((te (i + 1) - 49 : Nat) : Int))) q2 e1.1 s2
        show ((pCell te le n (i + 1 + 1, va_up (va_up to (6 * n) ((te i : Nat) : Int)) (6 * n + 5) ((te (i + 1) - 49 : Nat) : Int))).1 = true → dEnd te s le n i (pCell te le n (i + 1 + 1, va_up (va_up to (6 * n) ((te i : Nat) : Int)) (6 * n + 5) ((te (i + 1) - 49 : Nat) : Int))).2) ∧ (¬ (pCell te le n (i + 1 + 1, va_up (va_up to (6 * n) ((te i : Nat) : Int)) (6 * n + 5) ((te (i + 1) - 49 : Nat) : Int))).1 = true → dX te s le i (pCell te le n (i + 1 + 1, va_up (va_up to (6 * n) ((te i : Nat) : Int)) (6 * n + 5) ((te (i + 1) - 49 : Nat) : Int))).2.1)
        refine ⟨fun h => ?_, g2⟩
        obtain ⟨a, b, ha, hb, q3, l3, s3, t3⟩ := g1 h
        refine ⟨98, a, b, 1, 1, te (i + 1) - 49, q3, ?_, l3, by rw [s3]; rfl, ?_, ?_⟩
        · have := (pCell_le (te := te) (le := le) (tm := n) (t := (i + 1 + 1, va_up (va_up to (6 * n) ((te i : Nat) : Int)) (6 * n + 5) ((te (i + 1) - 49 : Nat) : Int))) e1.1).1
          have h9 : i + 1 + 1 ≤ _ := this
          omega
        · rw [t3, k1]; unfold rcd
          refine ⟨?_, fun h => (by omega), fun _ => ⟨?_, ?_, ha, hb, by omega⟩, fun _ => ⟨?_, by omega⟩, fun h => (by omega), fun h => (by omega), by omega⟩ <;> ((try dsimp only); repeat (first | rw [gu_s] | rw [gu_n _ _ (by omega)]))
        · rw [s3]; unfold rgs
          exact ⟨rfl, fun h => (by omega), fun _ => ⟨rfl, rfl, show te (i + 1) - 48 = te (i + 1) - 49 + 1 by omega⟩, fun h => (by omega), fun h => (by omega), fun h => by omega⟩
      · have o1 := pOf_f (tm := n) (pl := 5) (t := (i + 1, va_up to (6 * n) ((te i : Nat) : Int))) e1
        rw [pB_1 (by rw [o1]; simp), o1]
        exact ⟨fun h => (by cases h), fun _ => dQ_x q1 hlt s1 (by decide) (fun hlt h => e1 ⟨hlt, (rdOk_1 rfl).mp h⟩)⟩
    · by_cases k2 : te i = 102
      · rw [pD_f (te := te) (tm := n) (t := (i, to)) c8 k2, eT]
        obtain ⟨q1, s1⟩ := step (by omega)
        rw [k2] at s1
        have s1 : rdF te s (i + 1) = (7, 102, x, y, z, il, nu) := s1
        obtain ⟨g1, g2⟩ := tNum (le := le) (tm := n) (t := (i + 1, va_up to (6 * n) ((te i : Nat) : Int))) q1 hlt s1 (numO (by decide))
        refine ⟨fun h => ?_, g2⟩
        obtain ⟨r1, q2, l2, s2, t2⟩ := g1 h
        have r1 : 49 ≤ te (i + 1) ∧ te (i + 1) ≤ 57 := r1
        refine ⟨102, 0, 0, 1, 1, te (i + 1) - 49, q2, ?_, l2, by rw [s2], ?_, ?_⟩
        · have h9 := (pOf_le (te := te) (le := le) (tm := n) (pl := 5) (a := 49) (b := 57) (t := (i + 1, va_up to (6 * n) ((te i : Nat) : Int))) hlt).1
          have h9 : i + 1 ≤ _ := h9
          omega
        · rw [t2, k2]; unfold rcd
          refine ⟨?_, fun h => (by omega), fun h => (by omega), fun _ => ⟨?_, by omega⟩, fun h => (by omega), fun h => (by omega), by omega⟩ <;> ((try dsimp only); repeat (first | rw [gu_s] | rw [gu_n _ _ (by omega)]))
        · rw [s2]; unfold rgs
          exact ⟨rfl, fun h => (by omega), fun h => (by omega), fun h => (by omega), fun _ => show te (i + 1) - 48 = te (i + 1) - 49 + 1 by omega, fun h => by omega⟩
      · by_cases k3 : te i = 103
        · rw [pD_g (te := te) (tm := n) (t := (i, to)) c8 k3, eT]
          obtain ⟨q1, s1⟩ := step (by omega)
          rw [k3] at s1
          have s1 : rdF te s (i + 1) = (2, 103, x, y, z, il, nu) := s1
          obtain ⟨g1, g2⟩ := tCell (le := le) (tm := n) (t := (i + 1, va_up to (6 * n) ((te i : Nat) : Int))) q1 hlt s1
          have hm := (pCell_le (te := te) (le := le) (tm := n) (t := (i + 1, va_up to (6 * n) ((te i : Nat) : Int))) hlt).1
          have hm : i + 1 ≤ _ := hm
          generalize hC : pCell te le n (i + 1, va_up to (6 * n) ((te i : Nat) : Int)) = C at g1 g2 hm ⊢
          by_cases c1 : C.1 = true
          · obtain ⟨a, b, ha, hb, q2, l2, s2, t2⟩ := g1 c1
            have s2 : rdF te s C.2.1 = (4, 103, a, b, z, il, nu) := s2
            obtain ⟨g3, g4⟩ := tSize (le := le) (tm := n) q2 l2 s2
            have hm2 := (pSize_le (te := te) (le := le) (tm := n) l2).1
            by_cases c2 : (pSize te le n C.2).1 = true
            · rw [pG_3 (by rw [hC]; exact c1) (by rw [hC]; exact c2), hC]
              obtain ⟨st5, zz, hz, hst5, q3, l3, s3, t3⟩ := g3 c2
              generalize hZ : pSize te le n C.2 = Z at hst5 q3 l3 s3 t3 hm2 ⊢
              obtain ⟨g5, g6⟩ := tSgn (le := le) q3 s3 hst5
              by_cases e1 : Z.2.1 < le ∧ te Z.2.1 = 61
              · obtain ⟨q4, s4⟩ := g5 (by rw [e1.2]; unfold signOk; omega)
                rw [pSign_t e1, tk_t e1]
                obtain ⟨g7, g8⟩ := tNum (le := le) (tm := n) (t := (Z.2.1 + 1, Z.2.2)) q4 e1.1 s4 numG
                refine ⟨fun h => ?_, g8⟩
                obtain ⟨r1, q5, l5, s5, t5⟩ := g7 h
                have r1 : 48 ≤ te (Z.2.1 + 1) ∧ te (Z.2.1 + 1) ≤ 55 := r1
                refine ⟨103, a, b, zz, 1, te (Z.2.1 + 1) - 48, q5, ?_, l5, by rw [s5], ?_, ?_⟩
                · have h9 := (pOf_le (te := te) (le := le) (tm := n) (pl := 5) (a := 48) (b := 55) (t := (Z.2.1 + 1, Z.2.2)) e1.1).1
                  have h9 : Z.2.1 + 1 ≤ _ := h9
                  omega
                · rw [t5]
                  show rcd (va_up Z.2.2 (6 * n + 5) ((te (Z.2.1 + 1) - 48 : Nat) : Int)) n 103 a b zz 1 (te (Z.2.1 + 1) - 48)
                  rw [t3, t2, k3]; unfold rcd
                  refine ⟨?_, fun _ => ⟨?_, ?_, ?_, ha, hb, hz⟩, fun h => (by omega), fun _ => ⟨?_, by omega⟩, fun h => (by omega), fun h => (by omega), by omega⟩ <;> ((try dsimp only); repeat (first | rw [gu_s] | rw [gu_n _ _ (by omega)]))
                · rw [s5]; unfold rgs
                  exact ⟨rfl, fun _ => ⟨rfl, rfl, rfl⟩, fun h => (by omega), fun _ => rfl, fun h => (by omega), fun h => by omega⟩
              · rw [pSign_f e1, tk_f e1]
                exact ⟨fun h => (by cases h), fun _ => g6 l3 (fun hlt h => e1 ⟨hlt, by unfold signOk at h; omega⟩)⟩
            · rw [pG_2 (by rw [hC]; exact c1) (by rw [hC]; exact c2), hC]
              exact ⟨fun h => (by cases h), fun _ => g4 c2⟩
          · rw [pG_1 (by rw [hC]; exact c1), hC]
            exact ⟨fun h => (by cases h), fun _ => g2 c1⟩
        · by_cases k4 : te i = 114
          · rw [pD_r (te := te) (tm := n) (t := (i, to)) c8 k4, eT]
            obtain ⟨q1, s1⟩ := step (by omega)
            rw [k4] at s1
            have s1 : rdF te s (i + 1) = (2, 114, x, y, z, il, nu) := s1
            obtain ⟨g1, g2⟩ := tCell (le := le) (tm := n) (t := (i + 1, va_up to (6 * n) ((te i : Nat) : Int))) q1 hlt s1
            have hm := (pCell_le (te := te) (le := le) (tm := n) (t := (i + 1, va_up to (6 * n) ((te i : Nat) : Int))) hlt).1
            have hm : i + 1 ≤ _ := hm
            generalize hC : pCell te le n (i + 1, va_up to (6 * n) ((te i : Nat) : Int)) = C at g1 g2 hm ⊢
            by_cases c1 : C.1 = true
            · obtain ⟨a, b, ha, hb, q2, l2, s2, t2⟩ := g1 c1
              have s2 : rdF te s C.2.1 = (4, 114, a, b, z, il, nu) := s2
              obtain ⟨g3, g4⟩ := tSize (le := le) (tm := n) q2 l2 s2
              have hm2 := (pSize_le (te := te) (le := le) (tm := n) l2).1
              by_cases c2 : (pSize te le n C.2).1 = true
              · rw [pR_3 (by rw [hC]; exact c1) (by rw [hC]; exact c2), hC]
                obtain ⟨st5, zz, hz, hst5, q3, l3, s3, t3⟩ := g3 c2
                generalize hZ : pSize te le n C.2 = Z at hst5 q3 l3 s3 t3 hm2 ⊢
                obtain ⟨g5, g6⟩ := tSgn (le := le) q3 s3 hst5
                have fin : ∀ (to5 : Nat → Int) (sg : Int), (sg = 1 ∧ te Z.2.1 = 43 ∨ sg = -1 ∧ te Z.2.1 = 45) → Z.2.1 < le → to5 = va_up Z.2.2 (6 * n + 4) sg →
                    ((pOf te le n 5 49 57 (Z.2.1 + 1, to5)).1 = true → dEnd te s le n i (pOf te le n 5 49 57 (Z.2.1 + 1, to5)).2) ∧ (¬ (pOf te le n 5 49 57 (Z.2.1 + 1, to5)).1 = true → dX te s le i (pOf te le n 5 49 57 (Z.2.1 + 1, to5)).2.1) := by
                  intro to5 sg hsg hlt5 hto
                  obtain ⟨q4, s4⟩ := g5 (by unfold signOk; omega)
                  obtain ⟨g7, g8⟩ := tNum (le := le) (tm := n) (t := (Z.2.1 + 1, to5)) q4 hlt5 s4 (numO (by decide))
                  refine ⟨fun h => ?_, g8⟩
                  obtain ⟨r1, q5, l5, s5, t5⟩ := g7 h
                  have r1 : 49 ≤ te (Z.2.1 + 1) ∧ te (Z.2.1 + 1) ≤ 57 := r1
                  refine ⟨114, a, b, zz, sg, te (Z.2.1 + 1) - 49, q5, ?_, l5, by rw [s5], ?_, ?_⟩
                  · have h9 := (pOf_le (te := te) (le := le) (tm := n) (pl := 5) (a := 49) (b := 57) (t := (Z.2.1 + 1, to5)) hlt5).1
                    have h9 : Z.2.1 + 1 ≤ _ := h9
                    omega
                  · rw [t5]
                    show rcd (va_up to5 (6 * n + 5) ((te (Z.2.1 + 1) - 49 : Nat) : Int)) n 114 a b zz sg (te (Z.2.1 + 1) - 49)
                    rw [hto, t3, t2, k4]; unfold rcd
                    refine ⟨?_, fun _ => ⟨?_, ?_, ?_, ha, hb, hz⟩, fun h => (by omega), fun _ => ⟨?_, by omega⟩, fun h => (by omega), fun _ => ⟨?_, by omega⟩, by omega⟩ <;> ((try dsimp only); repeat (first | rw [gu_s] | rw [gu_n _ _ (by omega)]))
                  · rw [s5]; unfold rgs
                    refine ⟨rfl, fun _ => ⟨rfl, rfl, rfl⟩, fun h => (by omega), fun h => (by omega), fun _ => show te (Z.2.1 + 1) - 48 = te (Z.2.1 + 1) - 49 + 1 by omega, fun _ => ?_⟩
                    show (if (if te Z.2.1 = 45 then 1 else 0 : Nat) = 0 then ((te (Z.2.1 + 1) - 48 : Nat) : Int) else -((te (Z.2.1 + 1) - 48 : Nat) : Int)) = _
                    rcases hsg with ⟨h1, h2⟩ | ⟨h1, h2⟩
                    · rw [h1, h2, if_neg (show ¬ (43 : Nat) = 45 by decide), if_pos rfl]; omega
                    · rw [h1, h2, if_pos rfl, if_neg (by decide)]; omega
                by_cases e1 : Z.2.1 < le ∧ te Z.2.1 = 43
                · rw [pRise_u e1, tk_t e1]
                  exact fin _ 1 (Or.inl ⟨rfl, e1.2⟩) e1.1 (by rw [if_pos e1])
                · by_cases e2 : Z.2.1 < le ∧ te Z.2.1 = 45
                  · rw [pRise_d e1 (by rw [tk_f e1]; exact e2), tk_f e1, tk_t e2]
                    exact fin _ (-1) (Or.inr ⟨rfl, e2.2⟩) e2.1 (by rw [if_neg e1])
                  · rw [pRise_n e1 (by rw [tk_f e1]; exact e2), tk_f e1, tk_f e2]
                    exact ⟨fun h => (by cases h), fun _ => g6 l3 (fun hlt h => by unfold signOk at h; omega)⟩
              · rw [pR_2 (by rw [hC]; exact c1) (by rw [hC]; exact c2), hC]
                exact ⟨fun h => (by cases h), fun _ => g4 c2⟩
            · rw [pR_1 (by rw [hC]; exact c1), hC]
              exact ⟨fun h => (by cases h), fun _ => g2 c1⟩
          · by_cases k5 : te i = 116
            · rw [pD_t (te := te) (tm := n) (t := (i, to)) c8 k5, eT]
              obtain ⟨q1, s1⟩ := step (by omega)
              rw [k5] at s1
              have s1 : rdF te s (i + 1) = (8, 116, x, y, z, il, nu) := s1
              refine ⟨fun _ => ⟨116, 0, 0, 1, 1, 0, q1, Nat.lt_succ_self _, hlt, by rw [s1], ?_, ?_⟩, fun h => absurd rfl h⟩
              · rw [k5]; unfold rcd
                refine ⟨?_, fun h => (by omega), fun h => (by omega), fun h => (by omega), fun h => (by omega), fun h => (by omega), by omega⟩
                (try dsimp only); rw [gu_s]
              · rw [s1]; unfold rgs
                exact ⟨rfl, fun h => (by omega), fun h => (by omega), fun h => (by omega), fun h => (by omega), fun h => by omega⟩
            · rw [pD_n (te := te) (tm := n) (t := (i, to)) c8 k1 k2 k3 k4 k5]
              exact ⟨fun h => (by cases h), fun _ => dQ_x hQ hl hS (by decide) (fun _ h => (by have h : rdOk 0 kd (te i) := h; have := (rdOk_0 rfl).mp h; omega))⟩
end Deed
section Whole
variable {te : Nat → Nat} {s : RdT} {le : Nat} {to : Nat → Int}
/-- where the class's reader stands behind n deeds of the reference's reading -/
def whS (te : Nat → Nat) (s : RdT) (le : Nat) (to : Nat → Int) (n : Nat) : Prop :=
  (wT te le to n).1 ≤ le ∧ (∀ k, k < (wT te le to n).1 → rdK te s k) ∧ (wMo te le to n = true → (rdF te s (wT te le to n).1).1 = 0) ∧
  (wMo te le to n = false → (rdF te s (wT te le to n).1).1 = 8 ∧ ((wT te le to n).1 < le → te (wT te le to n).1 ≠ 59))
theorem whS_s {n : Nat} (h : whS te s le to n) (hm : wMo te le to n = true) (hd : (pDeed te le n (wT te le to n)).1 = true) :
    dEnd te s le n (wT te le to n).1 (pDeed te le n (wT te le to n)).2 ∧ whS te s le to (n + 1) ∧ (wMo te le to (n + 1) = true → (wT te le to (n + 1)).1 = (pDeed te le n (wT te le to n)).2.1 + 1) ∧ (wMo te le to (n + 1) = false → (wT te le to (n + 1)).1 = (pDeed te le n (wT te le to n)).2.1) := by
  obtain ⟨h1, h2, h3, _⟩ := h
  have hE := (tDeed (te := te) (s := s) (n := n) h1 (h3 hm)).1 hd
  obtain ⟨kd, x, y, z, sg, nu, hQ, hlt, hle, h8, _, _⟩ := hE
  have hall : ∀ k, k < (pDeed te le n (wT te le to n)).2.1 → rdK te s k := fun k hk => by
    by_cases e : k < (wT te le to n).1
    · exact h2 k e
    · exact (hQ.2 k (by omega) hk).1
  generalize hE1 : (pDeed te le n (wT te le to n)).2.1 = e1 at *
  have eW : (wT te le to (n + 1)).1 = tk te le 59 e1 := by show tk te le 59 (pDeed te le n (wT te le to n)).2.1 = _; rw [hE1]
  have eM : wMo te le to (n + 1) = decide (e1 < le ∧ te e1 = 59) := by show decide ((pDeed te le n (wT te le to n)).2.1 < le ∧ _) = _; rw [hE1]
  refine ⟨⟨kd, x, y, z, sg, nu, by rw [hE1]; exact hQ, by rw [hE1]; exact hlt, by rw [hE1]; exact hle, by rw [hE1]; exact h8, ‹_›, by rw [hE1]; assumption⟩, ?_⟩
  by_cases e : e1 < le ∧ te e1 = 59
  · have hk : rdK te s e1 := (rdOk_8 h8).mpr e.2
    have h0 : (rdF te s (e1 + 1)).1 = 0 := by
      obtain ⟨st, kd, x, y, z, il, nu, hS⟩ : ∃ st kd x y z il nu, rdF te s e1 = (st, kd, x, y, z, il, nu) := ⟨_, _, _, _, _, _, _, rfl⟩
      have hst : st = 8 := by rw [hS] at h8; exact h8
      subst hst
      show (rdNext (rdF te s e1) (te e1)).1 = 0
      rw [hS, rdN_8 e.2]
    have eW2 : (wT te le to (n + 1)).1 = e1 + 1 := by rw [eW, tk_t e]
    have eM2 : wMo te le to (n + 1) = true := by rw [eM]; exact decide_eq_true e
    refine ⟨⟨by rw [eW2]; exact e.1, fun k hk2 => ?_, fun _ => (by rw [eW2]; exact h0), fun q => (by rw [eM2] at q; cases q)⟩, fun _ => eW2, fun q => (by rw [eM2] at q; cases q)⟩
    rw [eW2] at hk2
    by_cases e9 : k = e1
    · subst e9; exact hk
    · exact hall k (by omega)
  · have eW2 : (wT te le to (n + 1)).1 = e1 := by rw [eW, tk_f e]
    have eM2 : wMo te le to (n + 1) = false := by rw [eM]; exact decide_eq_false e
    refine ⟨⟨by rw [eW2]; exact hle, fun k hk2 => hall k (by rw [eW2] at hk2; exact hk2), fun q => (by rw [eM2] at q; cases q), fun _ => by rw [eW2]; exact ⟨h8, fun hl h59 => e ⟨hl, h59⟩⟩⟩, fun q => (by rw [eM2] at q; cases q), fun _ => eW2⟩
theorem whS_n : ∀ n, (∀ i, i < n → (pDeed te le i (wT te le to i)).1 = true ∧ wMo te le to i = true) → whS te s le to n
  | 0 => fun _ => ⟨Nat.zero_le _, fun k hk => absurd hk (Nat.not_lt_zero k), fun _ => rfl, fun h => by cases h⟩
  | n + 1 => fun h => (whS_s (whS_n n (fun i hi => h i (by omega))) (h n (by omega)).2 (h n (by omega)).1).2.1
/-- where the reading ends: the class's length, and whether it stands at a deed's end -/
theorem wh_len {b : Bool} {n : Nat} {t : PT} (h : whR te le to b n t) : rdLen te s le = (if b = true then le else t.1) ∧ (b = true ↔ (rdLen te s le = le ∧ (rdF te s le).1 = 8)) ∧ t.1 ≤ le ∧ rdLen te s le = t.1 := by
  obtain ⟨hI, hc⟩ := h
  have hW := whS_n (s := s) n hI.1
  rcases hc with ⟨hm, hb, hd, ht⟩ | ⟨hm, ht, hb⟩
  · have hX := (tDeed (te := te) (s := s) (n := n) hW.1 (hW.2.2.1 hm)).2 (by rw [hd]; simp)
    obtain ⟨hQ, hle, h8, hno⟩ := hX
    subst ht hb
    have hall : ∀ k, k < (pDeed te le n (wT te le to n)).2.1 → rdK te s k := fun k hk => by
      by_cases e : k < (wT te le to n).1
      · exact hW.2.1 k e
      · exact (hQ.2 k (by omega) hk).1
    have hL : rdLen te s le = (pDeed te le n (wT te le to n)).2.1 := by
      by_cases e : (pDeed te le n (wT te le to n)).2.1 < le
      · exact rdLen_at hall (hno e) le e
      · have e9 : (pDeed te le n (wT te le to n)).2.1 = le := by omega
        rw [e9] at hall ⊢; exact rdLen_all hall
    refine ⟨hL, ⟨fun q => (by cases q), fun q => ?_⟩, hle, hL⟩
    have e9 : (pDeed te le n (wT te le to n)).2.1 = le := by omega
    rw [e9] at h8; exact absurd q.2 h8
  · subst ht
    obtain ⟨h8, h59⟩ := hW.2.2.2 hm
    have hL : rdLen te s le = (wT te le to n).1 := by
      by_cases e : (wT te le to n).1 < le
      · exact rdLen_at hW.2.1 (fun hk => h59 e ((rdOk_8 h8).mp hk)) le e
      · have e9 : (wT te le to n).1 = le := by have := hW.1; omega
        have ha := hW.2.1
        rw [e9] at ha ⊢; exact rdLen_all ha
    subst hb
    refine ⟨?_, ⟨fun q => ?_, fun q => ?_⟩, hW.1, hL⟩
    · rw [hL]; by_cases e : (wT te le to n).1 = le
      · rw [if_pos (decide_eq_true e), e]
      · rw [if_neg (by rw [decide_eq_true_iff]; exact e)]
    · have e := of_decide_eq_true q
      rw [e] at hL h8; exact ⟨hL, h8⟩
    · exact decide_eq_true (by omega)
/-- what is told stays as it is told -/
theorem pOf_k {tm pl a b k : Nat} {t : PT} (hk : k < 6 * tm) : (pOf te le tm pl a b t).2.2 k = t.2 k := by
  unfold pOf; split
  · show va_up _ _ _ k = _; rw [va_up_at, if_neg (by omega)]
  · rfl
theorem pCell_k {tm k : Nat} {t : PT} (hk : k < 6 * tm) : (pCell te le tm t).2.2 k = t.2 k := by
  unfold pCell; split
  · rw [pOf_k hk, pOf_k hk]
  · exact pOf_k hk
theorem pSize_k {tm k : Nat} {t : PT} (hk : k < 6 * tm) : (pSize te le tm t).2.2 k = t.2 k := by
  show va_up _ _ _ k = _; rw [va_up_at, if_neg (by omega)]
theorem pRise_k {tm k : Nat} {t : PT} (hk : k < 6 * tm) : (pRise te le tm t).2.2 k = t.2 k := by
  have hu : ∀ v, va_up t.2 (6 * tm + 4) v k = t.2 k := fun v => by rw [va_up_at, if_neg (by omega)]
  by_cases e : t.1 < le ∧ te t.1 = 43
  · rw [pRise_u e, pOf_k hk]; exact hu _
  · by_cases e2 : tk te le 43 t.1 < le ∧ te (tk te le 43 t.1) = 45
    · rw [pRise_d e e2, pOf_k hk]; exact hu _
    · rw [pRise_n e e2]; exact hu _
theorem pSign_k {tm ch k : Nat} {t : PT} (hk : k < 6 * tm) : (pSign te le tm ch t).2.2 k = t.2 k := by
  unfold pSign; split
  · rw [pOf_k hk]
  · rfl
theorem pG_k {tm k : Nat} {t : PT} (hk : k < 6 * tm) : (pG te le tm t).2.2 k = t.2 k := by
  unfold pG; split
  · split
    · rw [pSign_k hk, pSize_k hk, pCell_k hk]
    · show (pSize te le tm (pCell te le tm t).2).2.2 k = _; rw [pSize_k hk, pCell_k hk]
  · exact pCell_k hk
theorem pR_k {tm k : Nat} {t : PT} (hk : k < 6 * tm) : (pR te le tm t).2.2 k = t.2 k := by
  unfold pR; split
  · split
    · rw [pRise_k hk, pSize_k hk, pCell_k hk]
    · show (pSize te le tm (pCell te le tm t).2).2.2 k = _; rw [pSize_k hk, pCell_k hk]
  · exact pCell_k hk
theorem pB_k {tm k : Nat} {t : PT} (hk : k < 6 * tm) : (pB te le tm t).2.2 k = t.2 k := by
  unfold pB; split
  · rw [pCell_k hk, pOf_k hk]
  · exact pOf_k hk
theorem pT1_k {tm k : Nat} {t : PT} (hk : k < 6 * tm) : (pT1 te tm t).2 k = t.2 k := by
  show va_up _ _ _ k = _; rw [va_up_at, if_neg (by omega)]
theorem pDeed_k {tm k : Nat} {t : PT} (hk : k < 6 * tm) : (pDeed te le tm t).2.2 k = t.2 k := by
  unfold pDeed
  split
  · rfl
  · split
    · rw [pB_k hk, pT1_k hk]
    · split
      · rw [pOf_k hk, pT1_k hk]
      · split
        · rw [pG_k hk, pT1_k hk]
        · split
          · rw [pR_k hk, pT1_k hk]
          · split
            · exact pT1_k hk
            · exact pT1_k hk
theorem wT_k {d k : Nat} (hk : k < 6 * d) : ∀ j, (wT te le to (d + j)).2 k = (wT te le to d).2 k
  | 0 => rfl
  | j + 1 => by show (pDeed te le (d + j) (wT te le to (d + j))).2.2 k = _; rw [pDeed_k (by omega), wT_k hk j]
/-- the records of a whole text, and the class's registers at each deed's end -/
theorem wh_rec {n : Nat} (h : ∀ i, i < n → (pDeed te le i (wT te le to i)).1 = true ∧ wMo te le to i = true) (d : Nat) (hd : d < n) :
    ∃ kd x y z sg nu, rcd (wT te le to n).2 d kd x y z sg nu ∧ rgs (rdF te s (pDeed te le d (wT te le to d)).2.1) kd x y z sg nu := by
  have hW := whS_n (s := s) d (fun i hi => h i (by omega))
  obtain ⟨kd, x, y, z, sg, nu, _, _, _, _, hr, hg⟩ := (whS_s hW (h d hd).2 (h d hd).1).1
  refine ⟨kd, x, y, z, sg, nu, rcd_ext hr (fun k hk => ?_), hg⟩
  rw [show n = (d + 1) + (n - (d + 1)) by omega, wT_k (by omega)]
  rfl
end Whole
