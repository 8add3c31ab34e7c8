/-! the class's race against the reference's -/
theorem raC_t {x y n : Nat} (h0 : x ≠ 0) (h1 : 1 ≤ n) (h2 : n ≤ 12) : (byN x n - byN x (n - 1)) * (36 ^ 12 - rvN y n) = 36 * raT x y n := by
  have e1 : byN x n = wN n x * 36 ^ (12 - n) := by unfold byN; rw [if_neg (by omega)]
  have e2 : byN x (n - 1) = 36 * wN (n - 1) x * 36 ^ (12 - n) := by
    unfold byN
    by_cases c : n - 1 = 0
    · rw [if_pos c, c, wN_z, if_neg h0, Nat.mul_zero, Nat.zero_mul]
    · rw [if_neg c, show 12 - (n - 1) = (12 - n) + 1 by omega, Nat.pow_succ, Nat.mul_comm (36 ^ (12 - n)), ← Nat.mul_assoc, Nat.mul_comm (wN (n - 1) x)]
  have e3 : (36 : Nat) ^ 12 = 36 ^ (n - 1) * 36 ^ (13 - n) := by rw [← Nat.pow_add]; congr 1; omega
  have e4 : 36 ^ 12 - rvN y n = (36 ^ (n - 1) - wN (n - 1) y) * 36 ^ (13 - n) := by rw [Nat.sub_mul, ← e3]; rfl
  have e5 : 36 ^ (12 - n) * 36 ^ (13 - n) = 36 * 36 ^ (24 - 2 * n) := by
    rw [← Nat.pow_add, show 12 - n + (13 - n) = (24 - 2 * n) + 1 by omega, Nat.pow_succ, Nat.mul_comm]
  rw [e4, e1, e2, ← Nat.sub_mul]
  unfold raT
  generalize wN n x - 36 * wN (n - 1) x = u
  generalize 36 ^ (n - 1) - wN (n - 1) y = v
  rw [show u * 36 ^ (12 - n) * (v * 36 ^ (13 - n)) = u * v * (36 ^ (12 - n) * 36 ^ (13 - n)) by rw [Nat.mul_assoc, Nat.mul_assoc, Nat.mul_left_comm (36 ^ (12 - n))], e5]
  rw [Nat.mul_assoc, Nat.mul_left_comm v, Nat.mul_left_comm u]
theorem raC_S {x y : Nat} (h0 : x ≠ 0) : raC x y = 36 * raS x y := by
  unfold raC raS
  rw [← su_mul]
  exact su_cg 12 (fun k hk => raC_t h0 (by omega) (by omega))
theorem raC_0 {y : Nat} (h0 : y ≠ 0) : raC 0 y = 36 ^ 24 := by
  have e : ∀ n, n ≤ 12 → byN 0 n = if n = 0 then 0 else 36 ^ 12 := fun n hn => by
    unfold byN
    by_cases c : n = 0
    · rw [if_pos c, if_pos c]
    · rw [if_neg c, if_neg c, wN_00, ← Nat.pow_add]; congr 1; omega
  have t : ∀ k, k < 12 → (fun n => (byN 0 n - byN 0 (n - 1)) * (36 ^ 12 - rvN y n)) (1 + k) = (fun n => if n = 1 then 36 ^ 24 else 0) (1 + k) := fun k hk => by
    show (byN 0 (1 + k) - byN 0 (1 + k - 1)) * (36 ^ 12 - rvN y (1 + k)) = if 1 + k = 1 then 36 ^ 24 else 0
    rw [e (1 + k) (by omega), e (1 + k - 1) (by omega), if_neg (by omega)]
    by_cases c : k = 0
    · subst c
      rw [if_pos rfl, if_pos rfl]
      unfold rvN
      rw [show 1 + 0 - 1 = 0 from rfl, wN_z, if_neg h0, Nat.zero_mul, Nat.sub_zero, ← Nat.pow_add]
    · rw [if_neg (by omega), if_neg (by omega), Nat.sub_self, Nat.zero_mul]
  unfold raC
  rw [su_cg (g := fun n => if n = 1 then 36 ^ 24 else 0) 12 t]
  simp only [sumB, Nat.reduceAdd, Nat.reduceEqDiff, if_true, if_false, Nat.zero_add, Nat.add_zero]
