/-! OWN: what stands in the buffer, as a list -/
def nzj (cs : Nat → Nat) : Nat → List Nat
  | 0 => []
  | j + 1 => if cs j = 0 then nzj cs j else nzj cs j ++ [cs j]
def txt (bu : Nat → Nat) (bl : Nat) (l : List Nat) : Prop := bl = l.length ∧ ∀ i, i < l.length → bu i = lf l i
theorem txt_0 (bu : Nat → Nat) : txt bu 0 [] := ⟨rfl, fun i hi => by simp at hi⟩
theorem txt_up {bu : Nat → Nat} {bl c : Nat} {l : List Nat} (h : txt bu bl l) : txt (va_up bu bl c) (bl + 1) (l ++ [c]) := by
  obtain ⟨h1, h2⟩ := h
  subst h1
  refine ⟨by rw [List.length_append]; rfl, fun i hi => ?_⟩
  rw [List.length_append] at hi
  have hi : i < l.length + 1 := hi
  rw [gu_if]; unfold lf
  rw [List.getD_eq_getElem?_getD]
  by_cases e : i = l.length
  · subst e; rw [if_pos rfl, List.getElem?_append_right (Nat.le_refl _), Nat.sub_self]; rfl
  · rw [if_neg e, h2 i (by omega), List.getElem?_append_left (by omega)]; unfold lf; rw [List.getD_eq_getElem?_getD]
theorem txt_ty {S : SpT} {cs : Nat → Nat} {l : List Nat} (h : txt S.2.2.2.1 S.2.2.2.2 l) : ∀ j, txt (tyS S cs j).2.2.2.1 (tyS S cs j).2.2.2.2 (l ++ nzj cs j)
  | 0 => by rw [show nzj cs 0 = [] from rfl, List.append_nil]; exact h
  | j + 1 => by
    have ih := txt_ty h j (cs := cs)
    by_cases e : cs j = 0
    · rw [tyS_no e, show nzj cs (j + 1) = nzj cs j from if_pos e]; exact ih
    · rw [tyS_up e, show nzj cs (j + 1) = nzj cs j ++ [cs j] from if_neg e, ← List.append_assoc]; exact txt_up ih
theorem ty_txt {S : SpT} {cs : Nat → Nat} {l : List Nat} (h : txt S.2.2.2.1 S.2.2.2.2 l) : ∃ bu bl, tyS S cs 8 = (S.1, S.2.1, S.2.2.1, bu, bl) ∧ txt bu bl (l ++ nzj cs 8) := ⟨_, _, rfl, txt_ty h 8⟩
theorem er_txt (S : SpT) (c1 c2 : Nat → Nat) : ∃ bu bl, erS S c1 c2 = (S.1, S.2.1, S.2.2.1, bu, bl) ∧ txt bu bl (nzj c1 8 ++ nzj c2 8) := by
  have h1 := txt_ty (S := clr S) (cs := c1) (txt_0 _) 8
  rw [List.nil_append] at h1
  exact ⟨_, _, rfl, txt_ty h1 8⟩
theorem rdF_cg {bu bu2 : Nat → Nat} {n : Nat} (h : ∀ i, i < n → bu i = bu2 i) (s : RdT) : ∀ i, i ≤ n → rdF bu s i = rdF bu2 s i
  | 0 => fun _ => rfl
  | i + 1 => fun hi => by show rdNext (rdF bu s i) (bu i) = rdNext (rdF bu2 s i) (bu2 i); rw [rdF_cg h s i (by omega), h i (by omega)]
theorem rdLen_cg {bu bu2 : Nat → Nat} {n : Nat} (h : ∀ i, i < n → bu i = bu2 i) (s : RdT) : ∀ i, i ≤ n → rdLen bu s i = rdLen bu2 s i
  | 0 => fun _ => rfl
  | i + 1 => fun hi => by
    have e1 := rdLen_cg h s i (by omega)
    have e2 := rdF_cg h s i (by omega)
    have e3 : rdK bu s i = rdK bu2 s i := by unfold rdK; rw [e2, h i (by omega)]
    simp only [rdLen]; exact ite_congr (by rw [e1, e3]) (fun _ => rfl) (fun _ => e1)
theorem txt_len {bu : Nat → Nat} {bl e9 : Nat} {l : List Nat} (h : txt bu bl l) (he : rdLen (lf l) rg0 l.length = e9) : rdLen bu rg0 bl = e9 := by
  rw [h.1, rdLen_cg h.2 rg0 _ (Nat.le_refl _)]; exact he
theorem txt_end {bu : Nat → Nat} {bl : Nat} {l : List Nat} (h : txt bu bl l) (he : rdLen (lf l) rg0 l.length = l.length ∧ (rdF (lf l) rg0 l.length).1 = 8) : ∀ s : RdT, rdLen bu s bl = bl ∧ (rdF bu s bl).1 = 8 := fun s => by
  rw [rd_end_ind bu s rg0 bl, h.1, rdLen_cg h.2 rg0 _ (Nat.le_refl _), rdF_cg h.2 rg0 _ (Nat.le_refl _)]; exact he
theorem c_isErrorT (l : Launch) (G : gG) (lq : Nat) (S : SpT) (w1 w2 : Int64) (l1 l2 : List Nat) (e9 : Nat) (hS9 : spS S) (hw1 : ∀ j : Nat, j < 8 → (w1 >>> ((zI (56 - 8 * (j : Int))).toInt64 &&& 63) &&& 255).toInt32 = nI (lf l1 j)) (hc1 : ∀ j, j < 8 → lf l1 j = 0 ∨ 33 ≤ lf l1 j ∧ lf l1 j ≤ 126) (hw2 : ∀ j : Nat, j < 8 → (w2 >>> ((zI (56 - 8 * (j : Int))).toInt64 &&& 63) &&& 255).toInt32 = nI (lf l2 j)) (hc2 : ∀ j, j < 8 → lf l2 j = 0 ∨ 33 ≤ lf l2 j ∧ lf l2 j ≤ 126) (hfe : rdLen (lf (nzj (lf l1) 8 ++ nzj (lf l2) 8)) rg0 (nzj (lf l1) 8 ++ nzj (lf l2) 8).length = e9) : LW l G lq yL_isError wsL_isError { frames := 4, cells := 0, slots := 0, locals := 84 } [.long w1, .long w2, .int (nI e9)] S (nI 1) (erS S (lf l1) (lf l2)) 0 0 := by
  refine c_isError l G lq S w1 w2 (lf l1) (lf l2) e9 hS9 hw1 hc1 hw2 hc2 ?_
  obtain ⟨bu, bl, hE, hT⟩ := er_txt S (lf l1) (lf l2)
  rw [hE]; exact txt_len hT hfe
theorem ob_yes {pr tx n : Nat} {s : RdT} {A A' : LA} (h8 : s.1 = 8) (hd : deedOk pr s A) (hA : deedA pr tx s A = A') : obStep pr tx s (true, A, n) = (true, A', n + 1) := by
  unfold obStep; rw [if_pos ⟨rfl, h8⟩, if_pos hd, hA]
theorem ob_no {pr tx n : Nat} {s : RdT} {A : LA} (h8 : s.1 = 8) (hd : ¬ deedOk pr s A) : obStep pr tx s (true, A, n) = (false, A, n) := by
  unfold obStep; rw [if_pos ⟨rfl, h8⟩, if_neg hd]
theorem spS_undo {S : SpT} {SL : List LdS} {c : LdS} (hS : spS S) (h : S.2.1 = SL ++ [c]) : spS (c, SL, S.2.2) := by
  have h1 : ∀ r ∈ SL ++ [c], rOK r := by rw [← h]; exact hS.2.1
  have h2 : (SL ++ [c]).length ≤ 6 := by rw [← h]; exact hS.2.2.1
  rw [List.length_append] at h2
  exact ⟨h1 c (List.mem_append_right _ (List.mem_singleton.mpr rfl)), fun r hr => h1 r (List.mem_append_left _ hr), Nat.le_trans (Nat.le_add_right _ _) h2, hS.2.2.2⟩
theorem spS_bl0 {S : SpT} (hS : spS S) : spS (S.1, S.2.1, S.2.2.1, S.2.2.2.1, 0) := ⟨hS.1, hS.2.1, hS.2.2.1, hS.2.2.2.1, hS.2.2.2.2.1, Nat.zero_le _⟩
/-- deeds without end: t;t;t; .. -/
theorem alt_F {bu : Nat → Nat} {n : Nat} (h : ∀ i, i < n → bu i = if i % 2 = 0 then 116 else 59) : ∀ i, i ≤ n → (rdF bu rg0 i).1 = (if i % 2 = 0 then 0 else 8)
  | 0 => fun _ => rfl
  | i + 1 => fun hi => by
    have ih := alt_F h i (by omega)
    show rdSt (rdF bu rg0 i).1 (rdF bu rg0 i).2.1 (bu i) = _
    rw [ih, h i (by omega)]
    by_cases e : i % 2 = 0
    · rw [if_pos e, if_pos e, if_neg (by omega)]; rfl
    · rw [if_neg e, if_neg e, if_pos (by omega)]; rfl
theorem alt_len {bu : Nat → Nat} {n : Nat} (h : ∀ i, i < n → bu i = if i % 2 = 0 then 116 else 59) : rdLen bu rg0 n = n := rdLen_all fun j hj => by
  have e1 := alt_F h j (by omega)
  show rdOk (rdF bu rg0 j).1 (rdF bu rg0 j).2.1 (bu j)
  rw [e1, h j hj]
  by_cases e : j % 2 = 0
  · rw [if_pos e, if_pos e]; exact (rdOk_0 rfl).mpr (by decide)
  · rw [if_neg e, if_neg e]; exact (rdOk_8 rfl).mpr rfl
theorem alt_up {bu : Nat → Nat} {k c : Nat} (h : ∀ i, i < k → bu i = if i % 2 = 0 then 116 else 59) (hc : c = if k % 2 = 0 then 116 else 59) : ∀ i, i < k + 1 → va_up bu k c i = if i % 2 = 0 then 116 else 59 := fun i hi => by
  rw [gu_if]
  by_cases e : i = k
  · subst e; rw [if_pos rfl]; exact hc
  · rw [if_neg e]; exact h i (by omega)
theorem alt_sp {S : SpT} {c : Nat} (hS : spS S) (hc : c < 128) (hb : S.2.2.2.2 < 60) : spS (S.1, S.2.1, S.2.2.1, va_up S.2.2.2.1 S.2.2.2.2 c, S.2.2.2.2 + 1) := ⟨hS.1, hS.2.1, hS.2.2.1, hS.2.2.2.1, fun k => by (show va_up S.2.2.2.1 S.2.2.2.2 c k < 128); rw [gu_if]; split; (exact hc); exact hS.2.2.2.2.1 k, hb⟩
