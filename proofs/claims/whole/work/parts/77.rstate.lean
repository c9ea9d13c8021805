/-! OWN: the reference's whole state, told by what it means -/
abbrev ldA (r : LdS) : LA := (r.1, r.2.1, r.2.2.1, r.2.2.2.2.2.1, r.2.2.2.2.2.2.1, r.2.2.2.2.2.2.2)
abbrev rowT (r : LdS) (nw : Nat → Nat) : Prop := pk r.2.2.2.1 r.2.2.2.2.1 (ldA r) nw
theorem pk_ext {pr tx : Nat} {A : LA} {nw nw' : Nat → Nat} (h : pk pr tx A nw) (he : ∀ k, k < 525 → nw' k = nw k) : pk pr tx A nw' := by
  obtain ⟨h1, h2, h3, h4, h5, h6, h7, h8⟩ := h
  exact ⟨fun k hk => by rw [he k (by omega)]; exact h1 k hk, fun k hk => by rw [he _ (by omega)]; exact h2 k hk, fun i hi => by rw [he _ (by omega)]; exact h3 i hi, by rw [he _ (by omega)]; exact h4, by rw [he _ (by omega)]; exact h5, by rw [he _ (by omega)]; exact h6, by rw [he _ (by omega)]; exact h7, by rw [he _ (by omega)]; exact h8⟩
def pastI (SL : List LdS) (pa : Nat → Nat) : Prop := ∀ i r, SL[i]? = some r → rowT r (fun k => pa (525 * i + k))
def keptI (K : Nat → Option LdS) (ke ik : Nat → Nat) : Prop := ∀ i, i < 2 → ik i = (if (K i).isSome then 1 else 0) ∧ ∀ r, K i = some r → rowT r (fun k => ke (525 * i + k))
def rfI (G : gG) (mq : Nat) (V : va_W) (ow : Nat → Nat) (he : Nat → Nat) (co : Nat → Nat) (pr : Nat) (tx : Nat) (sa : Nat) (fl : Nat) (lo : Nat) (SL : List LdS) (K : Nat → Option LdS) (bu : Nat → Nat) (bl : Nat) (th : Nat) : Prop := ∃ (rd : Nat → Nat) (rs : Nat → Nat) (nw : Nat → Nat) (pa : Nat → Nat) (ke : Nat → Nat) (ik : Nat → Nat) (as_ : Nat → Nat) (pC : Nat → Nat) (pW : Nat → Nat) (to : Nat → Int), V = ([(mq, .inr (4, [.ref (rd 0), .ref (rd 1), .int (nI SL.length), .ref (rd 2), .ref (rd 3), .ref (rd 4), .ref (rd 5), .ref (rd 6), .int (nI (rs 0)), .ref (rd 7), .int (nI bl), .int (nI th), .int (nI (rs 1)), .ref (rd 8), .int (nI (rs 2))])), (rd 0, .inl (G.2.1, 525, .inl (gn nw))), (rd 1, .inl (G.2.1, 3150, .inl (gn pa))), (rd 2, .inl (G.2.1, 1050, .inl (gn ke))), (rd 3, .inl (G.2.1, 2, .inl (gn ik))), (rd 4, .inl (G.2.1, 525, .inl (gn as_))), (rd 5, .inl (G.2.1, 256, .inl (gn pC))), (rd 6, .inl (G.2.1, 256, .inl (gn pW))), (rd 7, .inl (G.2.1, 60, .inl (gn bu))), (rd 8, .inl (G.2.1, 186, .inl (fun k => zI (to k))))] : va_W) ∧ (pk pr tx (ow, he, co, sa, fl, lo) nw) ∧ (pastI SL pa) ∧ (keptI K ke ik)
theorem layF_in {f t : Nat → Nat} {o1 o2 k : Nat} (h : k < 525) : layF f o1 t o2 (o2 + k) = f (o1 + k) := by
  unfold layF; rw [if_pos ⟨by omega, by omega⟩, show o2 + k - o2 = k by omega]
theorem layF_out {f t : Nat → Nat} {o1 o2 k : Nat} (h : k < o2 ∨ o2 + 525 ≤ k) : layF f o1 t o2 k = t k := by
  unfold layF; rw [if_neg (by omega)]
theorem past_push {SL : List LdS} {pa nw : Nat → Nat} {c : LdS} (h : pastI SL pa) (hc : rowT c nw) (h6 : SL.length ≤ 6) : pastI (pushH SL c) (savP nw pa SL.length) := by
  intro i r hr
  by_cases e : SL.length < 6
  · have e1 : pushH SL c = SL ++ [c] := by unfold pushH; rw [if_pos e]
    have e2 : savP nw pa SL.length = layF nw 0 pa (525 * SL.length) := by unfold savP; rw [if_pos e]
    rw [e1] at hr; rw [e2]
    by_cases h1 : i < SL.length
    · rw [List.getElem?_append_left h1] at hr
      refine pk_ext (h i r hr) (fun k hk => ?_)
      exact layF_out (Or.inl (by omega))
    · rw [List.getElem?_append_right (by omega)] at hr
      have hi : i - SL.length = 0 := by
        have h2 := (List.getElem?_eq_some_iff.mp hr).1
        have h3 : i - SL.length < 1 := h2
        omega
      rw [hi] at hr
      have hrc : c = r := Option.some.inj hr
      subst hrc
      have hi2 : i = SL.length := by omega
      subst hi2
      refine pk_ext hc (fun k hk => ?_)
      show layF nw 0 pa (525 * SL.length) (525 * SL.length + k) = nw k
      rw [layF_in hk, Nat.zero_add]
  · have e6 : SL.length = 6 := by omega
    have e1 : pushH SL c = SL.drop 1 ++ [c] := by unfold pushH; rw [if_neg e]
    have e2 : savP nw pa SL.length = layF nw 0 (fun j => if j < 2625 then pa (j + 525) else pa j) 2625 := by unfold savP; rw [if_neg e]
    have el : (SL.drop 1).length = 5 := by rw [List.length_drop, e6]
    rw [e1] at hr; rw [e2]
    by_cases h1 : i < 5
    · rw [List.getElem?_append_left (by omega), List.getElem?_drop] at hr
      refine pk_ext (h (1 + i) r hr) (fun k hk => ?_)
      show layF nw 0 (fun j => if j < 2625 then pa (j + 525) else pa j) 2625 (525 * i + k) = pa (525 * (1 + i) + k)
      rw [layF_out (Or.inl (by omega))]
      show (if 525 * i + k < 2625 then pa (525 * i + k + 525) else pa (525 * i + k)) = _
      rw [if_pos (by omega)]; congr 1; omega
    · rw [List.getElem?_append_right (by omega), el] at hr
      have hi : i - 5 = 0 := by
        have h2 := (List.getElem?_eq_some_iff.mp hr).1
        have h3 : i - 5 < 1 := h2
        omega
      rw [hi] at hr
      have hrc : c = r := Option.some.inj hr
      subst hrc
      have hi2 : i = 5 := by omega
      subst hi2
      refine pk_ext hc (fun k hk => ?_)
      show layF nw 0 _ 2625 (2625 + k) = nw k
      rw [layF_in hk, Nat.zero_add]
theorem past_pop {SL : List LdS} {pa : Nat → Nat} {c : LdS} (h : pastI (SL ++ [c]) pa) (nw : Nat → Nat) : pastI SL pa ∧ rowT c (layF pa (525 * SL.length) nw 0) := by
  refine ⟨fun i r hr => h i r (by rw [List.getElem?_append_left (List.getElem?_eq_some_iff.mp hr).1]; exact hr), ?_⟩
  have h1 := h SL.length c (by rw [List.getElem?_append_right (Nat.le_refl _), Nat.sub_self]; rfl)
  refine pk_ext h1 (fun k hk => ?_)
  have := layF_in (f := pa) (t := nw) (o1 := 525 * SL.length) (o2 := 0) hk
  rw [Nat.zero_add] at this; exact this
theorem kept_keep {K : Nat → Option LdS} {ke ik nw : Nat → Nat} {c : LdS} {k : Nat} (h : keptI K ke ik) (hc : rowT c nw) (hk : k < 2) : keptI (va_up K k (some c)) (layF nw 0 ke (525 * k)) (va_up ik k 1) := by
  intro i hi
  by_cases e : i = k
  · subst e
    rw [gu_s, gu_s]
    refine ⟨rfl, fun r hr => ?_⟩
    have hrc : c = r := Option.some.inj hr
    subst hrc
    refine pk_ext hc (fun j hj => ?_)
    show layF nw 0 ke (525 * i) (525 * i + j) = nw j
    rw [layF_in hj, Nat.zero_add]
  · rw [gu_n _ _ e, gu_n _ _ e]
    refine ⟨(h i hi).1, fun r hr => pk_ext ((h i hi).2 r hr) (fun j hj => ?_)⟩
    exact layF_out (by omega)
theorem kept_get {K : Nat → Option LdS} {ke ik : Nat → Nat} {c : LdS} {k : Nat} (h : keptI K ke ik) (hk : k < 2) (hc : K k = some c) (nw : Nat → Nat) : ik k = 1 ∧ rowT c (layF ke (525 * k) nw 0) := by
  refine ⟨by rw [(h k hk).1, hc]; rfl, pk_ext ((h k hk).2 c hc) (fun j hj => ?_)⟩
  have := layF_in (f := ke) (t := nw) (o1 := 525 * k) (o2 := 0) hj
  rw [Nat.zero_add] at this; exact this
theorem kept_no {K : Nat → Option LdS} {ke ik : Nat → Nat} {k : Nat} (h : keptI K ke ik) (hk : k < 2) (hc : K k = none) : ik k = 0 := by rw [(h k hk).1, hc]; rfl
theorem rw_f {pr tx : Nat} {A : LA} {nw : Nat → Nat} (h : pk pr tx A nw) (hA : AOK A) (h9 : pr ≤ 9) (ht : tx ≤ 9) : (∀ k, k < 256 → nw k < 8) ∧ (∀ k, k < 256 → nw (256 + k) < 10) ∧ (∀ k, k < 8 → nw (512 + k) ≤ 700) ∧ nw 520 ≤ 9 ∧ nw 521 ≤ 9 ∧ tOK nw := by
  have h1 := pk_ok h hA ht
  exact ⟨h1.1.1, h1.2, fun k hk => tOK_co h1.1 hk, by rw [h.2.2.2.1]; exact h9, by rw [h.2.2.2.2.1]; exact ht, h1.1⟩
theorem pk_buyP {pr tx pn : Nat} {A : LA} {nw : Nat → Nat} (h : pk pr tx A nw) (hA : AOK A) (hp : pn < 8) (x y : Nat) (hcan : canS pr pn (svX A.1 (rkA A.1 x y)) (svY A.1 (rkA A.1 x y)) (svZ A.1 (rkA A.1 x y)) A.1 A.2.2.1) :
    pk pr tx (slA pr pn (rkA A.1 x y) A) (buM nw pn (mc (gP nw (rkA nw x y))) (psz nw (gP nw (rkA nw x y)))) := by
  have hq := (pk_can (pr := pr) (pn := pn) (co := A.2.2.1) h.1 h.2.2.1 h.2.2.2.1 hp x y).mp hcan
  unfold slA
  obtain ⟨p1, p2, eZ, eY, eX, hg⟩ := pk_plot h.1 x y
  rw [eZ, eY, eX, mc_16]
  exact pk_buy h hA hp (psz_sq nw _) (by rw [← mc_16]; exact hq.2.1)
theorem pk_canS {pr pn : Nat} {ow co nw : Nat → Nat} (h : agr ow nw) (h3 : ∀ i, i < 8 → co i = nw (512 + i)) (h4 : nw 520 = pr) (hp : pn < 8) {x y z : Nat} (hq : sqN x y z) :
    canS pr pn x y z ow co ↔ (uK nw (16 * y + x) z (z * z) ∧ nw (16 * y + x) ≠ pn ∧ nw 520 * z * z ≤ nw (512 + pn)) := by
  have hl := sq_le hq
  have hu := uni_cg h hq
  unfold canS
  rw [hu, h3 pn hp, h4, show y * 16 + x = 16 * y + x by omega, h (16 * y + x) (by omega)]
theorem pk_pr {pr tx cn : Nat} {A : LA} {nw : Nat → Nat} (h : pk pr tx A nw) : pk cn tx A (va_up nw 520 cn) := by
  obtain ⟨h1, h2, h3, h4, h5, h6, h7, h8⟩ := h
  exact ⟨fun k hk => by rw [gu_n _ _ (by omega)]; exact h1 k hk, fun k hk => by rw [gu_n _ _ (by omega)]; exact h2 k hk, fun i hi => by rw [gu_n _ _ (by omega)]; exact h3 i hi, gu_s _ _ _, by rw [gu_n _ _ (by omega)]; exact h5, by rw [gu_n _ _ (by omega)]; exact h6, by rw [gu_n _ _ (by omega)]; exact h7, by rw [gu_n _ _ (by omega)]; exact h8⟩
theorem pk_tx {pr tx cn : Nat} {A : LA} {nw : Nat → Nat} (h : pk pr tx A nw) : pk pr cn A (va_up nw 521 cn) := by
  obtain ⟨h1, h2, h3, h4, h5, h6, h7, h8⟩ := h
  exact ⟨fun k hk => by rw [gu_n _ _ (by omega)]; exact h1 k hk, fun k hk => by rw [gu_n _ _ (by omega)]; exact h2 k hk, fun i hi => by rw [gu_n _ _ (by omega)]; exact h3 i hi, by rw [gu_n _ _ (by omega)]; exact h4, gu_s _ _ _, by rw [gu_n _ _ (by omega)]; exact h6, by rw [gu_n _ _ (by omega)]; exact h7, by rw [gu_n _ _ (by omega)]; exact h8⟩
