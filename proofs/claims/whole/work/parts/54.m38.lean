theorem kd_div {D : Nat → Nat} : ∀ n, (∀ k, k < n → D k ≤ 15) → ∀ k, k < n → kd D 0 n / 16 ^ k % 16 = D k
  | 0, _ => fun k hk => by omega
  | n + 1, h => by
    have hl := kd_lt (B := D) (o := 0) n (fun k hk => by rw [Nat.zero_add]; exact h k (by omega))
    intro k hk
    simp only [kd, Nat.zero_add]
    rcases Nat.lt_or_ge k n with c | c
    · have e : D n * 16 ^ n = 16 ^ k * (16 * (D n * 16 ^ (n - k - 1))) := by
        rw [show n = k + 1 + (n - k - 1) by omega, Nat.pow_add, Nat.pow_add, show k + 1 + (n - k - 1) - k - 1 = n - k - 1 by omega]
        rw [Nat.pow_one, Nat.mul_left_comm, Nat.mul_assoc]
      rw [e, Nat.add_mul_div_left _ _ (Nat.pow_pos (by decide)), Nat.add_mul_mod_self_left]
      exact kd_div n (fun k hk => h k (by omega)) k c
    · obtain rfl : k = n := by omega
      rw [Nat.mul_comm (D k), Nat.add_mul_div_left _ _ (Nat.pow_pos (by decide)), Nat.div_eq_of_lt hl, Nat.zero_add, Nat.mod_eq_of_lt (by have := h k (by omega); omega)]
theorem kd_of (s : Nat) : ∀ n, kd (fun k => s / 16 ^ k % 16) 0 n = s % 16 ^ n
  | 0 => by simp [kd, Nat.mod_one]
  | n + 1 => by
    simp only [kd, Nat.zero_add]; rw [kd_of s n, Nat.pow_succ, Nat.mod_mul, Nat.mul_comm (16 ^ n)]
theorem kd_up {D : Nat → Nat} {j v : Nat} : ∀ n, j < n → kd (va_up D j v) 0 n + D j * 16 ^ j = kd D 0 n + v * 16 ^ j
  | 0, h => by omega
  | n + 1, h => by
    simp only [kd, Nat.zero_add]
    rcases Nat.lt_or_ge j n with c | c
    · have := kd_up (D := D) (v := v) n c
      rw [va_n (show n ≠ j by omega)]; omega
    · obtain rfl : j = n := by omega
      rw [va_s, kd_cg (L := D) j (fun k hk => by rw [Nat.zero_add]; exact va_n (by omega))]; omega
def dgF (s k : Nat) : Nat := s / 16 ^ k % 16
theorem dgF_le (s k : Nat) : dgF s k ≤ 15 := by have : dgF s k < 16 := Nat.mod_lt _ (by decide); omega
theorem dgt_f (s k : Nat) : dgt s (1 + k) = dgF s k := by unfold dgt dgF; rw [Nat.add_sub_cancel_left]
theorem kd_st {s : Nat} (h : s < 16 ^ 6) : kd (dgF s) 0 6 = s := by have := kd_of s 6; rw [Nat.mod_eq_of_lt h] at this; exact this
theorem dgF_kd {D : Nat → Nat} {k : Nat} (h : ∀ k, k < 6 → D k ≤ 15) (hk : k < 6) : dgF (kd D 0 6) k = D k := kd_div 6 h k hk
theorem menS_f (s : Nat) : menS s = sumB (dgF s) 0 6 := by
  unfold menS; simp only [sumB]
  rw [dgt_f, dgt_f, dgt_f, dgt_f, dgt_f, dgt_f]
def pfF (D : Nat → Nat) : Nat → Nat := fun k => (1 + k) * D k
theorem pipS_f (s : Nat) : pipS s = sumB (pfF (dgF s)) 0 6 := by
  unfold pipS; simp only [sumB, pipF, pfF]
  rw [dgt_f, dgt_f, dgt_f, dgt_f, dgt_f, dgt_f]
def mvN (s p d : Nat) : Nat := s - 16 ^ (p - 1) + (if d < p then 16 ^ (p - d - 1) else 0)
def lgl (s p d : Nat) : Prop := 1 ≤ p ∧ p ≤ 6 ∧ 0 < dgt s p ∧ (d ≤ p ∨ s / 16 ^ p = 0)
/-- the digits behind a move -/
def mvD (D : Nat → Nat) (p d : Nat) : Nat → Nat := if d < p then va_up (va_up D (p - 1) (D (p - 1) - 1)) (p - d - 1) (D (p - d - 1) + 1) else va_up D (p - 1) (D (p - 1) - 1)
theorem mv_dig {s p d : Nat} (hs : stnd s) (hd : 1 ≤ d) (h1 : 1 ≤ p) (h2 : p ≤ 6) (h3 : 0 < dgt s p) : mvN s p d = kd (mvD (dgF s) p d) 0 6 ∧ (∀ k, k < 6 → mvD (dgF s) p d k ≤ 15) ∧ (∀ k, k < 6 → dgF (mvN s p d) k = mvD (dgF s) p d k) := by
  have e3 : 0 < dgF s (p - 1) := by rw [← dgt_f, show 1 + (p - 1) = p by omega]; exact h3
  have hm : sumB (dgF s) 0 6 ≤ 15 := by rw [← menS_f]; exact hs.2
  have k1 := kd_up (D := dgF s) (j := p - 1) (v := dgF s (p - 1) - 1) 6 (by omega)
  rw [kd_st hs.1, Nat.sub_mul, Nat.one_mul] at k1
  have hpw : 16 ^ (p - 1) ≤ dgF s (p - 1) * 16 ^ (p - 1) := Nat.le_mul_of_pos_left _ e3
  have hle : 16 ^ (p - 1) ≤ s := by
    have := su_le (B := fun k => dgF s k * 16 ^ k) (o := 0) (j := p - 1) 6 (by omega)
    have e : sumB (fun k => dgF s k * 16 ^ k) 0 6 = kd (dgF s) 0 6 := by simp only [sumB, kd, Nat.zero_add]
    rw [e, kd_st hs.1, Nat.zero_add] at this
    exact Nat.le_trans hpw this
  have eq : mvN s p d = kd (mvD (dgF s) p d) 0 6 ∧ (∀ k, k < 6 → mvD (dgF s) p d k ≤ 15) := by
    unfold mvN mvD
    by_cases c : d < p
    · rw [if_pos c, if_pos c]
      have hq : dgF s (p - d - 1) ≤ 14 := by
        have a := su_in (B := dgF s) (o := 0) (j := p - 1) (v := 0) 6 (by omega)
        rw [Nat.zero_add] at a
        have b := su_le (B := va_up (dgF s) (p - 1) 0) (o := 0) (j := p - d - 1) 6 (by omega)
        rw [Nat.zero_add, va_n (by omega)] at b
        omega
      have k2 := kd_up (D := va_up (dgF s) (p - 1) (dgF s (p - 1) - 1)) (j := p - d - 1) (v := dgF s (p - d - 1) + 1) 6 (by omega)
      rw [va_n (show p - d - 1 ≠ p - 1 by omega), Nat.add_mul, Nat.one_mul] at k2
      refine ⟨by omega, fun k hk => ?_⟩
      by_cases c1 : k = p - d - 1
      · rw [c1, va_s]; omega
      · rw [va_n c1]
        by_cases c2 : k = p - 1
        · rw [c2, va_s]; have := dgF_le s (p - 1); omega
        · rw [va_n c2]; exact dgF_le s k
    · rw [if_neg c, if_neg c]
      refine ⟨by omega, fun k hk => ?_⟩
      by_cases c2 : k = p - 1
      · rw [c2, va_s]; have := dgF_le s (p - 1); omega
      · rw [va_n c2]; exact dgF_le s k
  exact ⟨eq.1, eq.2, fun k hk => by rw [eq.1]; exact dgF_kd eq.2 hk⟩
theorem mv_st {s p d : Nat} (hs : stnd s) (hd : 1 ≤ d) (h1 : 1 ≤ p) (h2 : p ≤ 6) (h3 : 0 < dgt s p) : stnd (mvN s p d) ∧ mvN s p d < s ∧ menS (mvN s p d) + (if d < p then 0 else 1) = menS s ∧ pipS (mvN s p d) + (if d < p then d else p) = pipS s := by
  obtain ⟨m1, m2, m3⟩ := mv_dig hs hd h1 h2 h3
  have e3 : 0 < dgF s (p - 1) := by rw [← dgt_f, show 1 + (p - 1) = p by omega]; exact h3
  have hlt : mvN s p d < 16 ^ 6 := by rw [m1]; have := kd_lt (B := mvD (dgF s) p d) (o := 0) 6 (fun k hk => by rw [Nat.zero_add]; exact m2 k hk); exact this
  have men : menS (mvN s p d) + (if d < p then 0 else 1) = menS s := by
    rw [menS_f, menS_f, su_cg (g := mvD (dgF s) p d) 6 (fun k hk => by rw [Nat.zero_add]; exact m3 k hk)]
    have a := su_in (B := dgF s) (o := 0) (j := p - 1) (v := dgF s (p - 1) - 1) 6 (by omega)
    rw [Nat.zero_add] at a
    unfold mvD
    by_cases c : d < p
    · rw [if_pos c, if_pos c]
      have b := su_in (B := va_up (dgF s) (p - 1) (dgF s (p - 1) - 1)) (o := 0) (j := p - d - 1) (v := dgF s (p - d - 1) + 1) 6 (by omega)
      rw [Nat.zero_add, va_n (by omega)] at b
      omega
    · rw [if_neg c, if_neg c]; omega
  have pip : pipS (mvN s p d) + (if d < p then d else p) = pipS s := by
    rw [pipS_f, pipS_f]
    have f1 : ∀ k, k < 6 → pfF (dgF (mvN s p d)) k = (1 + k) * mvD (dgF s) p d k := fun k hk => by unfold pfF; rw [m3 k hk]
    have a := su_in (B := pfF (dgF s)) (o := 0) (j := p - 1) (v := p * (dgF s (p - 1) - 1)) 6 (by omega)
    rw [Nat.zero_add] at a
    have ap : pfF (dgF s) (p - 1) = p * dgF s (p - 1) := by unfold pfF; rw [show 1 + (p - 1) = p by omega]
    have ap2 : p * (dgF s (p - 1) - 1) + p = p * dgF s (p - 1) := by rw [Nat.mul_sub, Nat.mul_one]; have : p ≤ p * dgF s (p - 1) := Nat.le_mul_of_pos_right _ e3; omega
    by_cases c : d < p
    · rw [if_pos c]
      have b := su_in (B := va_up (pfF (dgF s)) (p - 1) (p * (dgF s (p - 1) - 1))) (o := 0) (j := p - d - 1) (v := (p - d) * (dgF s (p - d - 1) + 1)) 6 (by omega)
      rw [Nat.zero_add, va_n (by omega)] at b
      have bp : pfF (dgF s) (p - d - 1) = (p - d) * dgF s (p - d - 1) := by unfold pfF; rw [show 1 + (p - d - 1) = p - d by omega]
      have bp2 : (p - d) * (dgF s (p - d - 1) + 1) = (p - d) * dgF s (p - d - 1) + (p - d) := by rw [Nat.mul_add, Nat.mul_one]
      rw [su_cg (g := va_up (va_up (pfF (dgF s)) (p - 1) (p * (dgF s (p - 1) - 1))) (p - d - 1) ((p - d) * (dgF s (p - d - 1) + 1))) 6 (fun k hk => by
        rw [Nat.zero_add, f1 k hk]; unfold mvD; rw [if_pos c]
        by_cases c1 : k = p - d - 1
        · rw [c1, va_s, va_s, show 1 + (p - d - 1) = p - d by omega]
        · rw [va_n c1, va_n c1]
          by_cases c2 : k = p - 1
          · rw [c2, va_s, va_s, show 1 + (p - 1) = p by omega]
          · rw [va_n c2, va_n c2]; rfl)]
      omega
    · rw [if_neg c]
      rw [su_cg (g := va_up (pfF (dgF s)) (p - 1) (p * (dgF s (p - 1) - 1))) 6 (fun k hk => by
        rw [Nat.zero_add, f1 k hk]; unfold mvD; rw [if_neg c]
        by_cases c2 : k = p - 1
        · rw [c2, va_s, va_s, show 1 + (p - 1) = p by omega]
        · rw [va_n c2, va_n c2]; rfl)]
      omega
  have hless : mvN s p d < s := by
    have hle : 16 ^ (p - 1) ≤ s := by
      have := su_le (B := fun k => dgF s k * 16 ^ k) (o := 0) (j := p - 1) 6 (by omega)
      have e : sumB (fun k => dgF s k * 16 ^ k) 0 6 = kd (dgF s) 0 6 := by simp only [sumB, kd, Nat.zero_add]
      rw [e, kd_st hs.1, Nat.zero_add] at this
      exact Nat.le_trans (Nat.le_mul_of_pos_left _ e3) this
    have hp1 : 0 < 16 ^ (p - 1) := Nat.pow_pos (by decide)
    unfold mvN
    by_cases c : d < p
    · rw [if_pos c]
      have : 16 ^ (p - d - 1) < 16 ^ (p - 1) := Nat.pow_lt_pow_right (by decide) (by omega)
      omega
    · rw [if_neg c]; omega
  exact ⟨⟨hlt, by have := hs.2; split at men <;> omega⟩, hless, men, pip⟩
