/-- the places of the cells in the order of quarters of quarters -/
def mx (p : Nat) : Nat := p % 2 + 2 * (p / 4 % 2) + 4 * (p / 16 % 2) + 8 * (p / 64 % 2)
def my (p : Nat) : Nat := mx (p / 2)
def mc (p : Nat) : Nat := my p * 16 + mx p
def msp (v : Nat) : Nat := v % 2 + 4 * (v / 2 % 2) + 16 * (v / 4 % 2) + 64 * (v / 8 % 2)
def mp (c : Nat) : Nat := msp (c % 16) + 2 * msp (c / 16)
theorem mx_lt (p : Nat) : mx p < 16 := by unfold mx; omega
theorem my_lt (p : Nat) : my p < 16 := mx_lt _
theorem mc_lt (p : Nat) : mc p < 256 := by have := mx_lt p; have := my_lt p; unfold mc; omega
theorem mp_lt (c : Nat) : mp c < 256 := by unfold mp msp; omega
theorem mp_mc_all : ∀ p, p < 256 → mp (mc p) = p := by decide +kernel
theorem mc_mp_all : ∀ c, c < 256 → mc (mp c) = c := by decide +kernel
theorem mc_xy (p : Nat) : mc p % 16 = mx p ∧ mc p / 16 = my p := by have := mx_lt p; have := my_lt p; unfold mc; omega
theorem sqal_1 : ∀ p, p < 256 → ((mx p % 1 = 0 ∧ my p % 1 = 0) ↔ p % 1 = 0) := by decide +kernel
theorem sqal_2 : ∀ p, p < 256 → ((mx p % 2 = 0 ∧ my p % 2 = 0) ↔ p % 4 = 0) := by decide +kernel
theorem sqal_4 : ∀ p, p < 256 → ((mx p % 4 = 0 ∧ my p % 4 = 0) ↔ p % 16 = 0) := by decide +kernel
theorem sqal_8 : ∀ p, p < 256 → ((mx p % 8 = 0 ∧ my p % 8 = 0) ↔ p % 64 = 0) := by decide +kernel
theorem sqal_16 : ∀ p, p < 256 → ((mx p % 16 = 0 ∧ my p % 16 = 0) ↔ p % 256 = 0) := by decide +kernel
abbrev isz (z : Nat) : Prop := z = 1 ∨ z = 2 ∨ z = 4 ∨ z = 8 ∨ z = 16
theorem sq_al {p z : Nat} (hp : p < 256) : sqN (mx p) (my p) z ↔ (isz z ∧ p % (z * z) = 0) := by
  have h1 := mx_lt p; have h2 := my_lt p
  constructor
  · rintro ⟨hz, _, _, a, b⟩
    refine ⟨hz, ?_⟩
    obtain rfl | rfl | rfl | rfl | rfl := hz
    · exact (sqal_1 p hp).mp ⟨a, b⟩
    · exact (sqal_2 p hp).mp ⟨a, b⟩
    · exact (sqal_4 p hp).mp ⟨a, b⟩
    · exact (sqal_8 p hp).mp ⟨a, b⟩
    · exact (sqal_16 p hp).mp ⟨a, b⟩
  · rintro ⟨hz, h⟩
    refine ⟨hz, h1, h2, ?_⟩
    obtain rfl | rfl | rfl | rfl | rfl := hz
    · exact (sqal_1 p hp).mpr h
    · exact (sqal_2 p hp).mpr h
    · exact (sqal_4 p hp).mpr h
    · exact (sqal_8 p hp).mpr h
    · exact (sqal_16 p hp).mpr h
theorem al_top {p z : Nat} (hz : isz z) (hp : p < 256) (h : p % (z * z) = 0) : p + z * z ≤ 256 := by
  obtain rfl | rfl | rfl | rfl | rfl := hz <;> omega
/-- quarters of a place: the cells of an aligned square are a run of places -/
theorem mp_div (z : Nat) (hz : isz z) : ∀ c, c < 256 → mp c / (z * z) = mp ((c / 16 / z * z) * 16 + c % 16 / z * z) / (z * z) ∧ mp ((c / 16 / z * z) * 16 + c % 16 / z * z) % (z * z) = 0 := by
  obtain rfl | rfl | rfl | rfl | rfl := hz <;> decide +kernel
theorem corner_of {x y z c : Nat} (hq : sqN x y z) (h : inSq x y z c) : c / 16 / z * z = y ∧ c % 16 / z * z = x := by
  obtain ⟨rfl | rfl | rfl | rfl | rfl, h1⟩ := hq <;> obtain ⟨a, b, d, e⟩ := h <;> omega
theorem inSq_of {z c : Nat} (hz : 0 < z) : inSq (c % 16 / z * z) (c / 16 / z * z) z c := by
  have e1 := Nat.div_add_mod (c % 16) z; have e2 := Nat.mod_lt (c % 16) hz
  have e3 := Nat.div_add_mod (c / 16) z; have e4 := Nat.mod_lt (c / 16) hz
  rw [Nat.mul_comm] at e1 e3
  refine ⟨?_, ?_, ?_, ?_⟩ <;> omega
theorem sq_place {p z c : Nat} (hp : p < 256) (hq : sqN (mx p) (my p) z) (hc : c < 256) : inSq (mx p) (my p) z c ↔ (p ≤ mp c ∧ mp c < p + z * z) := by
  have hz := hq.1
  have hal := ((sq_al hp).mp hq).2
  have hz0 : 0 < z := by obtain rfl | rfl | rfl | rfl | rfl := hz <;> omega
  have hzz : 0 < z * z := Nat.mul_pos hz0 hz0
  have hd := mp_div z hz c hc
  have hpp := mp_mc_all p hp
  constructor
  · intro h
    have h2 := corner_of hq h
    rw [h2.1, h2.2] at hd
    have hm : mp (my p * 16 + mx p) = p := hpp
    rw [hm] at hd
    have h3 := Nat.div_add_mod (mp c) (z * z); have h4 := Nat.mod_lt (mp c) hzz
    have h5 := Nat.div_add_mod p (z * z)
    rw [hd.1] at h3
    omega
  · intro h
    have h3 := Nat.div_add_mod (mp c) (z * z); have h4 := Nat.mod_lt (mp c) hzz
    have h5 := Nat.div_add_mod p (z * z)
    have hcl : c % 16 / z * z < 16 ∧ c / 16 / z * z < 16 := by
      have := Nat.div_mul_le_self (c % 16) z; have := Nat.div_mul_le_self (c / 16) z; omega
    have hk : mp (c / 16 / z * z * 16 + c % 16 / z * z) = p := by
      have h6 := Nat.div_add_mod (mp (c / 16 / z * z * 16 + c % 16 / z * z)) (z * z)
      rw [hd.2] at h6
      rw [← hd.1] at h6
      have h7 : mp c / (z * z) = p / (z * z) := by
        have a1 : p / (z * z) * (z * z) = p := by rw [Nat.mul_comm]; omega
        have a2 : mp c < (p / (z * z) + 1) * (z * z) := by rw [Nat.succ_mul]; omega
        have a3 := Nat.div_lt_of_lt_mul (n := z * z) (k := p / (z * z) + 1) (m := mp c) (by rw [Nat.mul_comm]; exact a2)
        have a4 : p / (z * z) ≤ mp c / (z * z) := Nat.div_le_div_right h.1
        omega
      rw [h7] at h6; omega
    have hm : c / 16 / z * z * 16 + c % 16 / z * z = mc p := by
      rw [← hk]; exact (mc_mp_all _ (by omega)).symm
    unfold mc at hm
    have := mx_lt p; have := my_lt p
    have e1 : c / 16 / z * z = my p := by omega
    have e2 : c % 16 / z * z = mx p := by omega
    have := inSq_of (c := c) hz0
    rwa [e1, e2] at this
/-- whether the square of that size that begins at a place is of one owner -/
abbrev okc (ow : Nat → Nat) (p z : Nat) : Prop := sqN (mx p) (my p) z ∧ uni ow (my p * 16 + mx p) z
def psz (ow : Nat → Nat) (p : Nat) : Nat := if okc ow p 2 then (if okc ow p 4 then (if okc ow p 8 then (if okc ow p 16 then 16 else 8) else 4) else 2) else 1
theorem okc_1 (ow : Nat → Nat) (p : Nat) : okc ow p 1 := by
  refine ⟨⟨Or.inl rfl, mx_lt p, my_lt p, Nat.mod_one _, Nat.mod_one _⟩, ?_⟩
  intro k hk
  have : k = 0 := by omega
  subst this; rfl
theorem psz_ok (ow : Nat → Nat) (p : Nat) : okc ow p (psz ow p) := by
  unfold psz
  repeat' split
  all_goals first | assumption | exact okc_1 ow p
theorem psz_sq (ow : Nat → Nat) (p : Nat) : sqN (mx p) (my p) (psz ow p) := (psz_ok ow p).1
theorem psz_isz (ow : Nat → Nat) (p : Nat) : isz (psz ow p) := (psz_sq ow p).1
theorem psz_pos (ow : Nat → Nat) (p : Nat) : 0 < psz ow p ∧ psz ow p ≤ 16 := by have h : isz (psz ow p) := psz_isz ow p; omega
theorem psz_sqpos (ow : Nat → Nat) (p : Nat) : 0 < psz ow p * psz ow p := Nat.mul_pos (psz_pos ow p).1 (psz_pos ow p).1
/-- the place at which the k-th plot begins -/
def gP (ow : Nat → Nat) : Nat → Nat
  | 0 => 0
  | k + 1 => gP ow k + psz ow (gP ow k) * psz ow (gP ow k)
theorem gP_s (ow : Nat → Nat) (k : Nat) : gP ow k < gP ow (k + 1) := by have := psz_sqpos ow (gP ow k); simp only [gP]; omega
theorem gP_mono (ow : Nat → Nat) {j k : Nat} (h : j < k) : gP ow j < gP ow k := by
  induction k with
  | zero => omega
  | succ k ih =>
    have := gP_s ow k
    by_cases e : j = k
    · subst e; omega
    · have := ih (by omega); omega
theorem gP_le (ow : Nat → Nat) {j k : Nat} (h : j ≤ k) : gP ow j ≤ gP ow k := by
  by_cases e : j = k
  · subst e; omega
  · have := gP_mono ow (show j < k by omega); omega
theorem gP_ge (ow : Nat → Nat) (k : Nat) : k ≤ gP ow k := by
  induction k with
  | zero => omega
  | succ k ih => have := gP_s ow k; omega
theorem gP_top (ow : Nat → Nat) {k : Nat} (h : gP ow k < 256) : gP ow (k + 1) ≤ 256 := by
  have h1 := ((sq_al h).mp (psz_sq ow (gP ow k)))
  exact al_top h1.1 h h1.2
/-- how many of the first n plots end before place q -/
def rkN (ow : Nat → Nat) (q : Nat) : Nat → Nat
  | 0 => 0
  | n + 1 => rkN ow q n + (if gP ow (n + 1) ≤ q then 1 else 0)
def rk (ow : Nat → Nat) (q : Nat) : Nat := rkN ow q 256
def cnt (ow : Nat → Nat) : Nat := rk ow 256
theorem rkN_eq (ow : Nat → Nat) {q j : Nat} (h1 : gP ow j ≤ q) (h2 : q < gP ow (j + 1)) (n : Nat) : rkN ow q n = min n j := by
  induction n with
  | zero => simp [rkN]
  | succ n ih =>
    simp only [rkN, ih]
    by_cases e : n < j
    · rw [if_pos (Nat.le_trans (gP_le ow (show n + 1 ≤ j by omega)) h1)]; omega
    · rw [if_neg (by have := gP_le ow (show j + 1 ≤ n + 1 by omega); omega)]; omega
theorem rk_eq (ow : Nat → Nat) {q j : Nat} (h1 : gP ow j ≤ q) (h2 : q < gP ow (j + 1)) (hj : j ≤ 256) : rk ow q = j := by
  rw [rk, rkN_eq ow h1 h2]; omega
theorem gP_find (ow : Nat → Nat) (q : Nat) : ∃ j, j ≤ q ∧ gP ow j ≤ q ∧ q < gP ow (j + 1) := by
  have key : ∀ n, q < gP ow n → ∃ j, j < n ∧ gP ow j ≤ q ∧ q < gP ow (j + 1) := by
    intro n
    induction n with
    | zero => intro h; simp [gP] at h
    | succ n ih =>
      intro h
      by_cases e : q < gP ow n
      · obtain ⟨j, a, b, c⟩ := ih e; exact ⟨j, by omega, b, c⟩
      · exact ⟨n, by omega, by omega, h⟩
  obtain ⟨j, a, b, c⟩ := key (q + 1) (by have := gP_ge ow (q + 1); omega)
  exact ⟨j, by omega, b, c⟩
theorem rk_spec (ow : Nat → Nat) {q : Nat} (hq : q ≤ 256) : gP ow (rk ow q) ≤ q ∧ q < gP ow (rk ow q + 1) := by
  obtain ⟨j, a, b, c⟩ := gP_find ow q
  rw [rk_eq ow b c (by omega)]; exact ⟨b, c⟩
theorem cnt_eq (ow : Nat → Nat) {k : Nat} (h : 256 ≤ gP ow k) (hk : ∀ j, j < k → gP ow j < 256) : cnt ow = k ∧ gP ow k = 256 := by
  have h0 : 0 < k := by
    rcases Nat.eq_zero_or_pos k with e | e
    · subst e; simp [gP] at h
    · exact e
  obtain ⟨n, rfl⟩ : ∃ n, k = n + 1 := ⟨k - 1, by omega⟩
  have h1 := gP_top ow (hk n (by omega))
  have h2 : gP ow (n + 1) = 256 := by omega
  have h3 := gP_ge ow (n + 1)
  refine ⟨rk_eq ow (by omega) (by have := gP_s ow (n + 1); omega) (by omega), h2⟩
theorem gP_cnt (ow : Nat → Nat) : gP ow (cnt ow) = 256 := by
  have h := rk_spec ow (q := 256) (by omega)
  have h0 : ∀ j, j < cnt ow → gP ow j < 256 := fun j hj => by
    have := gP_mono ow hj; unfold cnt at this; omega
  by_cases e : gP ow (cnt ow) = 256
  · exact e
  · exfalso
    have h1 : gP ow (cnt ow) < 256 := by unfold cnt at e ⊢; omega
    have := gP_top ow h1
    unfold cnt at this; omega
theorem lt_cnt (ow : Nat → Nat) {k : Nat} : k < cnt ow ↔ gP ow k < 256 := by
  have h := gP_cnt ow
  constructor
  · intro hk; have := gP_mono ow hk; omega
  · intro hk; apply Nat.lt_of_not_le; intro hc; have := gP_le ow hc; omega
theorem cnt_le (ow : Nat → Nat) : 0 < cnt ow ∧ cnt ow ≤ 256 := by
  have h := gP_cnt ow; have := gP_ge ow (cnt ow)
  refine ⟨?_, by omega⟩
  rcases Nat.eq_zero_or_pos (cnt ow) with e | e
  · rw [e] at h; simp [gP] at h
  · exact e
theorem rk_lt (ow : Nat → Nat) {q : Nat} (hq : q < 256) : rk ow q < cnt ow := by
  rw [lt_cnt]; have := (rk_spec ow (q := q) (by omega)).1; omega
