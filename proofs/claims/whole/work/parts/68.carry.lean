/-! OWN, pure: the deeds of a whole text, carried out one after the other -/
abbrev RcT : Type := Nat × Nat × Nat × Nat × Int × Nat
abbrev rcR (to : Nat → Int) (n : Nat) (r : RcT) : Prop := rcd to n r.1 r.2.1 r.2.2.1 r.2.2.2.1 r.2.2.2.2.1 r.2.2.2.2.2
abbrev rgR (S : RdT) (r : RcT) : Prop := rgs S r.1 r.2.1 r.2.2.1 r.2.2.2.1 r.2.2.2.2.1 r.2.2.2.2.2
abbrev okR (nw : Nat → Nat) (r : RcT) : Prop := doOk nw r.1 r.2.1 r.2.2.1 r.2.2.2.1 r.2.2.2.2.2
abbrev doR (nw : Nat → Nat) (r : RcT) : Nat → Nat := doM nw r.1 r.2.1 r.2.2.1 r.2.2.2.1 r.2.2.2.2.1 r.2.2.2.2.2
abbrev CRT : Type := Bool × (Nat → Nat) × Nat
noncomputable def crS (r : RcT) (t : CRT) : CRT := @ite _ (t.1 = true) (Classical.propDecidable _) (@ite _ (okR t.2.1 r) (Classical.propDecidable _) (true, doR t.2.1 r, t.2.2 + 1) (false, t.2.1, t.2.2)) t
noncomputable def crN (R : Nat → RcT) (nw : Nat → Nat) : Nat → CRT
  | 0 => (true, nw, 0)
  | d + 1 => crS (R d) (crN R nw d)
theorem crS_y {r : RcT} {t : CRT} (h : t.1 = true) (ho : okR t.2.1 r) : crS r t = (true, doR t.2.1 r, t.2.2 + 1) := by unfold crS; rw [if_pos h, if_pos ho]
theorem crS_n {r : RcT} {t : CRT} (h : t.1 = true) (ho : ¬ okR t.2.1 r) : crS r t = (false, t.2.1, t.2.2) := by unfold crS; rw [if_pos h, if_neg ho]
theorem crS_0 {r : RcT} {t : CRT} (h : ¬ t.1 = true) : crS r t = t := by unfold crS; rw [if_neg h]
theorem crN_stop {R : Nat → RcT} {nw : Nat → Nat} {i : Nat} (h : (crN R nw i).1 = false) : ∀ j, crN R nw (i + j) = crN R nw i
  | 0 => rfl
  | j + 1 => by show crS _ (crN R nw (i + j)) = _; rw [crN_stop h j, crS_0 (by rw [h]; simp)]
theorem crN_end {R : Nat → RcT} {nw : Nat → Nat} {d n : Nat} (hd : d < n) (h : (crN R nw d).1 = true) (ho : ¬ okR (crN R nw d).2.1 (R d)) : crN R nw n = (false, (crN R nw d).2.1, (crN R nw d).2.2) := by
  have h1 : crN R nw (d + 1) = (false, (crN R nw d).2.1, (crN R nw d).2.2) := crS_n h ho
  rw [show n = (d + 1) + (n - (d + 1)) by omega, crN_stop (by rw [h1]), h1]
theorem crN_cnt {R : Nat → RcT} {nw : Nat → Nat} : ∀ d, (crN R nw d).1 = true → (crN R nw d).2.2 = d
  | 0 => fun _ => rfl
  | d + 1 => fun h => by
    by_cases e : (crN R nw d).1 = true
    · by_cases o : okR (crN R nw d).2.1 (R d)
      · show (crS _ _).2.2 = _; rw [crS_y e o]; show (crN R nw d).2.2 + 1 = _; rw [crN_cnt d e]
      · have h2 : (crS (R d) (crN R nw d)).1 = true := h
        rw [crS_n e o] at h2; cases h2
    · have h2 : (crS (R d) (crN R nw d)).1 = true := h
      rw [crS_0 e] at h2; exact absurd h2 e
/-- registers that a record asks for -/
def mkS (r : RcT) : RdT := (8, r.1, r.2.1, r.2.2.1, r.2.2.2.1, if r.2.2.2.2.1 = 1 then 0 else 1, if r.1 = 103 then r.2.2.2.2.2 else r.2.2.2.2.2 + 1)
theorem mkS_rg {to : Nat → Int} {n : Nat} {r : RcT} (h : rcR to n r) : rgR (mkS r) r := by
  obtain ⟨kd, x, y, z, sg, nu⟩ := r
  obtain ⟨h1, h2, h3, h4, h5, h6, h7⟩ := h
  refine ⟨rfl, fun _ => ⟨rfl, rfl, rfl⟩, fun e => ⟨rfl, rfl, ?_⟩, fun e => ?_, fun e => ?_, fun e => ?_⟩
  · have e : kd = 98 := e
    show (if kd = 103 then nu else nu + 1) = nu + 1; rw [if_neg (by omega)]
  · have e : kd = 103 := e
    show (if kd = 103 then nu else nu + 1) = nu; rw [if_pos e]
  · have e : kd = 102 ∨ kd = 114 := e
    show (if kd = 103 then nu else nu + 1) = nu + 1; rw [if_neg (by omega)]
  · have e : kd = 114 := e
    have hs := (h6 e).2
    have hs : sg = 1 ∨ sg = -1 := hs
    show (if (if sg = 1 then 0 else 1 : Nat) = 0 then (((if kd = 103 then nu else nu + 1) : Nat) : Int) else -(((if kd = 103 then nu else nu + 1) : Nat) : Int)) = sg * ((nu + 1 : Nat) : Int)
    rw [if_neg (show ¬ kd = 103 by omega)]
    rcases hs with rfl | rfl
    · rw [if_pos rfl, if_pos rfl]; omega
    · rw [if_neg (show ¬ (if (-1 : Int) = 1 then 0 else 1 : Nat) = 0 by decide)]; omega
theorem mkS_inv {to : Nat → Int} {n : Nat} {r : RcT} (h : rcR to n r) : rdInv (mkS r) := by
  obtain ⟨kd, x, y, z, sg, nu⟩ := r
  obtain ⟨h1, h2, h3, h4, h5, h6, h7⟩ := h
  dsimp only at h1 h2 h3 h4 h5 h6 h7
  unfold rdInv mkS
  refine ⟨fun e => (by cases e), fun e => (by rcases e with e | e <;> cases e), fun e => (by cases e), fun e => (by rcases e with e | e | e <;> cases e), fun e => (by rcases e with e | e <;> cases e), fun e => (by cases e), fun _ => ?_⟩
  dsimp only
  rcases h7 with e | e | e | e | e
  · have := h3 e; rw [if_neg (by omega)]; right; right; right; right; exact ⟨e, by omega, by omega, this.2.2.1, this.2.2.2.1⟩
  · have := h4 (by omega); rw [if_neg (by omega)]; right; left; exact ⟨e, by omega, by omega⟩
  · have := h2 (by omega); have := h5 e; rw [if_pos e]; right; right; left; exact ⟨e, by omega, by omega, by omega, by omega⟩
  · have h9 := h2 (by omega); have := h4 (by omega); rw [if_neg (by omega)]; right; right; right; left; exact ⟨e, by omega, by omega, h9.2.2.2.1, h9.2.2.2.2.1, h9.2.2.2.2.2⟩
  · left; exact e
theorem rc_b {to : Nat → Int} {n : Nat} {r : RcT} (h : rcR to n r) : r.1 = 98 → r.2.2.2.2.2 ≤ 6 := fun e => (h.2.2.1 e).2.2.2.2
theorem deed_ok {pr tx : Nat} {A : LA} {nw : Nat → Nat} {r : RcT} {S : RdT} (h : pk pr tx A nw) (hA : AOK A) (hb : r.1 = 98 → r.2.2.2.2.2 ≤ 6) (hg : rgR S r) (hi : rdInv S) (h8 : S.1 = 8) (ho : okR nw r) : deedOk pr S A ∧ pk pr tx (deedA pr tx S A) (doR nw r) ∧ AOK (deedA pr tx S A) := by
  have ht := deed_tie h hA hb hg
  have hd := ht.1.mp ho
  exact ⟨hd, ht.2 hd, deedA_ok hA hi h8 hd⟩
theorem cr_ok {pr tx n : Nat} {A : LA} {nw : Nat → Nat} {R : Nat → RcT} {to : Nat → Int} (h : pk pr tx A nw) (hA : AOK A) (hR : ∀ d, d < n → rcR to d (R d)) : ∀ d, d ≤ n → ∃ A', pk pr tx A' (crN R nw d).2.1 ∧ AOK A'
  | 0 => fun _ => ⟨A, h, hA⟩
  | d + 1 => fun hd => by
    obtain ⟨A1, p1, a1⟩ := cr_ok h hA hR d (by omega)
    show ∃ A', pk pr tx A' (crS (R d) (crN R nw d)).2.1 ∧ AOK A'
    by_cases e : (crN R nw d).1 = true
    · by_cases o : okR (crN R nw d).2.1 (R d)
      · have hr := hR d (by omega)
        have hk := deed_ok p1 a1 (rc_b hr) (mkS_rg hr) (mkS_inv hr) rfl o
        rw [crS_y e o]; exact ⟨_, hk.2.1, hk.2.2⟩
      · rw [crS_n e o]; exact ⟨A1, p1, a1⟩
    · rw [crS_0 e]; exact ⟨A1, p1, a1⟩
theorem rgs_of {to : Nat → Int} {n : Nat} {r r' : RcT} {S : RdT} (h : rcR to n r) (h' : rcR to n r') (hg : rgR S r) : rgR S r' := by
  obtain ⟨kd, x, y, z, sg, nu⟩ := r
  obtain ⟨kd', x', y', z', sg', nu'⟩ := r'
  obtain ⟨a1, a2, a3, a4, a5, a6, a7⟩ := h
  obtain ⟨b1, b2, b3, b4, b5, b6, b7⟩ := h'
  obtain ⟨g1, g2, g3, g4, g5, g6⟩ := hg
  dsimp only at *
  have ek : kd' = kd := by omega
  subst ek
  refine ⟨g1, fun e => ?_, fun e => ?_, fun e => ?_, fun e => ?_, fun e => ?_⟩
  · have p := a2 e; have q := b2 e; have r := g2 e; dsimp only; omega
  · have p := a3 e; have q := b3 e; have r := g3 e; have u := a4 (Or.inl e); have v := b4 (Or.inl e); dsimp only; omega
  · have u := a4 (by omega); have v := b4 (by omega); have r := g4 e; dsimp only; omega
  · have u := a4 (by omega); have v := b4 (by omega); have r := g5 e; dsimp only; omega
  · have p := a6 e; have q := b6 e; have u := a4 (by omega); have v := b4 (by omega)
    have en : nu' = nu := by omega
    have es : sg' = sg := by rw [← q.1, ← p.1]
    subst en es; exact g6 e
theorem obN_run {te : Nat → Nat} {s : RdT} {pr tx : Nat} {A : LA} {i : Nat} : ∀ j, (∀ k, i < k → k ≤ i + j → (rdF te s k).1 ≠ 8) → obN te s pr tx A (i + j) = obN te s pr tx A i
  | 0 => fun _ => rfl
  | j + 1 => fun h => by
    show obN te s pr tx A ((i + j) + 1) = _
    rw [obN_no (h (i + j + 1) (by omega) (by omega)), obN_run j (fun k h1 h2 => h k h1 (by omega))]
/-- class and reference, deed by deed -/
theorem ob_cr {te : Nat → Nat} {s : RdT} {le n : Nat} {to : Nat → Int} {pr tx : Nat} {A : LA} {nw : Nat → Nat} {R : Nat → RcT} (hb : ∀ k, te k < 65536) (hk : s.2.1 < 65536) (hil : s.2.2.2.2.2.1 ≤ 1) (hp : pk pr tx A nw) (hA : AOK A)
    (h : ∀ i, i < n → (pDeed te le i (wT te le to i)).1 = true ∧ wMo te le to i = true) (hR : ∀ d, d < n → rcR (wT te le to n).2 d (R d)) :
    ∀ d, d ≤ n → (obN te s pr tx A (wT te le to d).1).1 = (crN R nw d).1 ∧ pk pr tx (obN te s pr tx A (wT te le to d).1).2.1 (crN R nw d).2.1 ∧ (obN te s pr tx A (wT te le to d).1).2.2 = (crN R nw d).2.2
  | 0 => fun _ => ⟨rfl, hp, rfl⟩
  | d + 1 => fun hd => by
    obtain ⟨i1, i2, i3⟩ := ob_cr hb hk hil hp hA h hR d (by omega)
    have hWd := whS_n (s := s) d (fun i hi => h i (by omega))
    obtain ⟨hE, hW1, hn1, hn2⟩ := whS_s hWd (h d (by omega)).2 (h d (by omega)).1
    obtain ⟨_, _, _, _, _, _, hQ, hlt, hle, h8, _, _⟩ := hE
    obtain ⟨kd, x, y, z, sg, nu, hrc, hrg⟩ := wh_rec (s := s) h d (by omega)
    have hg : rgR (rdF te s (pDeed te le d (wT te le to d)).2.1) (R d) := rgs_of (r := (kd, x, y, z, sg, nu)) hrc (hR d (by omega)) hrg
    have hb98 := rc_b (hR d (by omega))
    have hAo := obN_ok (pr := pr) (tx := tx) hb hk hil hA (wT te le to d).1
    generalize he : (pDeed te le d (wT te le to d)).2.1 = e1 at hQ hlt hle h8 hg hn1 hn2
    generalize hi : (wT te le to d).1 = b1 at i1 i2 i3 hQ hlt hWd hAo
    have hrun : obN te s pr tx A (e1 - 1) = obN te s pr tx A b1 := by
      have := obN_run (te := te) (s := s) (pr := pr) (tx := tx) (A := A) (i := b1) (e1 - 1 - b1) (fun k h1 h2 => (hQ.2 k (by omega) (by omega)).2)
      rw [show b1 + (e1 - 1 - b1) = e1 - 1 by omega] at this; exact this
    have hstep : obN te s pr tx A e1 = obStep pr tx (rdF te s e1) (obN te s pr tx A b1) := by
      rw [← hrun]; conv => lhs; rw [show e1 = (e1 - 1) + 1 by omega]
      show obStep pr tx (rdF te s ((e1 - 1) + 1)) _ = _
      rw [show (e1 - 1) + 1 = e1 by omega]
    have hlast : obN te s pr tx A (wT te le to (d + 1)).1 = obN te s pr tx A e1 := by
      by_cases hm : wMo te le to (d + 1) = true
      · rw [hn1 hm]; refine obN_no ?_
        have h0 := hW1.2.2.1 hm
        rw [hn1 hm] at h0; omega
      · rw [hn2 (Bool.eq_false_iff.mpr hm)]
    rw [hlast, hstep]
    show (obStep pr tx (rdF te s e1) (obN te s pr tx A b1)).1 = (crS (R d) (crN R nw d)).1 ∧ pk pr tx (obStep pr tx (rdF te s e1) (obN te s pr tx A b1)).2.1 (crS (R d) (crN R nw d)).2.1 ∧ (obStep pr tx (rdF te s e1) (obN te s pr tx A b1)).2.2 = (crS (R d) (crN R nw d)).2.2
    by_cases e : (crN R nw d).1 = true
    · have e' : (obN te s pr tx A b1).1 = true := i1.trans e
      have ht := deed_tie i2 hAo hb98 hg
      unfold obStep
      rw [if_pos ⟨e', h8⟩]
      by_cases o : okR (crN R nw d).2.1 (R d)
      · have hd2 := ht.1.mp o
        rw [crS_y e o, if_pos hd2]
        exact ⟨rfl, ht.2 hd2, by show _ + 1 = _ + 1; rw [i3]⟩
      · have hd2 : ¬ deedOk pr (rdF te s e1) (obN te s pr tx A b1).2.1 := fun q => o (ht.1.mpr q)
        rw [crS_n e o, if_neg hd2]
        exact ⟨rfl, i2, i3⟩
    · have e' : ¬ (obN te s pr tx A b1).1 = true := by rw [i1]; exact e
      unfold obStep
      rw [crS_0 e, if_neg (fun q => e' q.1)]
      exact ⟨i1, i2, i3⟩
theorem carry_tie {te : Nat → Nat} {s : RdT} {le n : Nat} {to : Nat → Int} {pr tx : Nat} {A : LA} {nw : Nat → Nat} {R : Nat → RcT} {t : PT} (hb : ∀ k, te k < 65536) (hk : s.2.1 < 65536) (hil : s.2.2.2.2.2.1 ≤ 1) (hp : pk pr tx A nw) (hA : AOK A) (h : whR te le to true n t) (hR : ∀ d, d < n → rcR t.2 d (R d)) :
    pk pr tx (obN te s pr tx A le).2.1 (crN R nw n).2.1 ∧ (obN te s pr tx A le).2.2 = (crN R nw n).2.2 := by
  obtain ⟨hI, hc⟩ := h
  rcases hc with ⟨_, hb9, _, _⟩ | ⟨hm, ht, hb9⟩
  · cases hb9
  · subst ht
    have e9 := of_decide_eq_true hb9.symm
    have := ob_cr hb hk hil hp hA hI.1 hR n (Nat.le_refl n)
    rw [e9] at this
    exact this.2
theorem wh_R {te : Nat → Nat} {le n : Nat} {to : Nat → Int} {t : PT} (h : whR te le to true n t) : ∃ R : Nat → RcT, ∀ d, d < n → rcR t.2 d (R d) := by
  obtain ⟨hI, hc⟩ := h
  rcases hc with ⟨_, hb9, _, _⟩ | ⟨hm, ht, hb9⟩
  · cases hb9
  · subst ht
    have hx : ∀ d : Nat, ∃ r : RcT, d < n → rcR (wT te le to n).2 d r := fun d => by
      by_cases hd : d < n
      · obtain ⟨kd, x, y, z, sg, nu, h1, _⟩ := wh_rec (s := (0, 0, 0, 0, 0, 0, 0)) hI.1 d hd
        exact ⟨(kd, x, y, z, sg, nu), fun _ => h1⟩
      · exact ⟨(0, 0, 0, 0, 0, 0), fun h => absurd h hd⟩
    exact ⟨fun d => (hx d).choose, fun d hd => (hx d).choose_spec hd⟩
