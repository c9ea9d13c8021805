theorem sFn_congr {ow so so' cx cx' cy cy' zs zs' : Nat → Nat} {n : Nat} (h : ∀ k, k < n → so k = so' k) (hx : ∀ k, k < n → cx k = cx' k) (hy : ∀ k, k < n → cy k = cy' k) (hz : ∀ k, k < n → zs k = zs' k) (o : Nat) : ∀ k, k ≤ n → sFn ow so cx cy zs o k = sFn ow so' cx' cy' zs' o k
  | 0 => fun _ => rfl
  | k + 1 => fun hk => by simp only [sFn]; rw [sFn_congr h hx hy hz o k (by omega), h k (by omega), hx k (by omega), hy k (by omega), hz k (by omega)]
