/-! what is printed of a fraction doesn't change when both are taken 36 times -/
theorem ls_2 {u p n : Nat} (h : lessN u 2 (2 * p) n) : lessN (36 * u) 2 (2 * (p + 1)) (n + 2) := by
  obtain ⟨h1, h2, h3⟩ := h
  have e : ∀ k, 2 ^ (k + 2) ∣ 36 * u ↔ 2 ^ k ∣ u := fun k => by
    rw [show 36 * u = (u * 9) * 4 by omega, show (2 : Nat) ^ (k + 2) = 2 ^ k * 4 by rw [Nat.pow_add]]
    constructor
    · intro h
      have h := Nat.dvd_of_mul_dvd_mul_right (by decide) h
      exact Nat.Coprime.dvd_of_dvd_mul_right (Nat.Coprime.pow_left k (by decide)) h
    · intro h
      exact Nat.mul_dvd_mul (Nat.dvd_trans h (Nat.dvd_mul_right u 9)) (Nat.dvd_refl 4)
  refine ⟨by omega, (e n).mpr h2, fun z => ?_⟩
  rw [show n + 2 + 1 = (n + 1) + 2 by omega]
  exact fun y => h3 (by omega) ((e (n + 1)).mp y)
theorem ls_3 {c p n : Nat} (h : lessN c 3 (2 * p) n) : lessN (9 * c) 3 (2 * (p + 1)) (n + 2) := by
  obtain ⟨h1, h2, h3⟩ := h
  have e : ∀ k, 3 ^ (k + 2) ∣ 9 * c ↔ 3 ^ k ∣ c := fun k => by
    rw [show 9 * c = c * 9 by omega, show (3 : Nat) ^ (k + 2) = 3 ^ k * 9 by rw [Nat.pow_add]]
    exact ⟨fun h => Nat.dvd_of_mul_dvd_mul_right (by decide) h, fun h => Nat.mul_dvd_mul h (Nat.dvd_refl 9)⟩
  refine ⟨by omega, (e n).mpr h2, fun z => ?_⟩
  rw [show n + 2 + 1 = (n + 1) + 2 by omega]
  exact fun y => h3 (by omega) ((e (n + 1)).mp y)
theorem prT_36 {u p len : Nat} {txt : Nat → Nat} (h : prT u p len txt) : prT (36 * u) (p + 1) len txt := by
  rcases h with ⟨h1, h2⟩ | ⟨h0, n2, n3, a, l2, l3, rest⟩
  · exact Or.inl ⟨by rw [h1], h2⟩
  · refine Or.inr ⟨by omega, n2 + 2, n3 + 2, a, ls_2 l2, ?_⟩
    have e1 : 36 * u / 2 ^ (n2 + 2) = 9 * (u / 2 ^ n2) := by
      obtain ⟨c, hc⟩ := l2.2.1
      have hp : 0 < 2 ^ n2 := Nat.pow_pos (by decide)
      rw [hc, Nat.mul_div_cancel_left c hp, Nat.pow_add, show 36 * (2 ^ n2 * c) = (2 ^ n2 * 2 ^ 2) * (9 * c) by
        rw [show (2 : Nat) ^ 2 = 4 from rfl, Nat.mul_assoc, Nat.mul_left_comm 36, show 4 * (9 * c) = 36 * c by omega]]
      exact Nat.mul_div_cancel_left _ (Nat.mul_pos hp (by decide))
    have e2 : 9 * (u / 2 ^ n2) / 3 ^ (n3 + 2) = u / 2 ^ n2 / 3 ^ n3 := by
      rw [Nat.pow_add, show (3 : Nat) ^ 2 = 9 from rfl, Nat.mul_comm (3 ^ n3), Nat.mul_div_mul_left _ _ (by decide)]
    have e3 : 36 ^ (p + 1) / 2 ^ (n2 + 2) / 3 ^ (n3 + 2) = 36 ^ p / 2 ^ n2 / 3 ^ n3 := by
      rw [Nat.div_div_eq_div_mul, Nat.div_div_eq_div_mul, Nat.pow_succ, Nat.pow_add, Nat.pow_add, show (2 : Nat) ^ 2 = 4 from rfl, show (3 : Nat) ^ 2 = 9 from rfl, show 2 ^ n2 * 4 * (3 ^ n3 * 9) = 36 * (2 ^ n2 * 3 ^ n3) by
        rw [Nat.mul_assoc, Nat.mul_left_comm 4, ← Nat.mul_assoc, ← Nat.mul_assoc, Nat.mul_assoc (2 ^ n2 * 3 ^ n3), Nat.mul_comm (2 ^ n2 * 3 ^ n3)], Nat.mul_comm (36 ^ p), Nat.mul_div_mul_left _ _ (by decide)]
    rw [e1, e2, e3]
    exact ⟨ls_3 l3, rest⟩
theorem prT_k {u p len : Nat} {txt : Nat → Nat} (h : prT u p len txt) : ∀ k, prT (36 ^ k * u) (p + k) len txt
  | 0 => by rw [Nat.pow_zero, Nat.one_mul]; exact h
  | k + 1 => by
    have := prT_36 (prT_k h k)
    rw [← Nat.mul_assoc, Nat.mul_comm 36, ← Nat.pow_succ] at this
    exact this
theorem ls_u {u b k n n' : Nat} (h : lessN u b k n) (h' : lessN u b k n') : n = n' := by
  obtain ⟨a1, a2, a3⟩ := h
  obtain ⟨b1, b2, b3⟩ := h'
  rcases Nat.lt_trichotomy n n' with c | c | c
  · exact absurd (Nat.dvd_trans (Nat.pow_dvd_pow b (show n + 1 ≤ n' by omega)) b2) (a3 (by omega))
  · exact c
  · exact absurd (Nat.dvd_trans (Nat.pow_dvd_pow b (show n' + 1 ≤ n by omega)) a2) (b3 (by omega))
