def valW (r : Nat → Int64) : Nat → Nat
  | 0 => 0
  | n + 1 => valW r n + (r n).toNatClampNeg * 2 ^ (31 * n)
def digW (r : Nat → Int64) (n : Nat) : Prop := ∀ k, k < n → ∃ d, d < 2 ^ 31 ∧ r k = lN d
def pwH (r : Nat → Int64) (i n v : Nat) : Nat → Int64 := fun k => if i ≤ k ∧ k < n then lN (v / 2 ^ (31 * k) % 2 ^ 31) else r k
abbrev putW (r : Nat → Int64) (n v : Nat) : Nat → Int64 := pwH r 0 n v
theorem p31 (k : Nat) : 2 ^ (31 * (k + 1)) = 2 ^ (31 * k) * 2 ^ 31 := by rw [← Nat.pow_add]; congr 1
theorem p31a (i k : Nat) : 2 ^ (31 * (i + k)) = 2 ^ (31 * i) * 2 ^ (31 * k) := by rw [← Nat.pow_add]; congr 1; omega
theorem vw_lt {r : Nat → Int64} : ∀ n, digW r n → valW r n < 2 ^ (31 * n)
  | 0, _ => by simp [valW]
  | n + 1, h => by
    have ih := vw_lt n (fun k hk => h k (by omega))
    obtain ⟨d, hd, e⟩ := h n (by omega)
    simp only [valW]; rw [e, l_clamp (by omega), p31]
    have : d * 2 ^ (31 * n) ≤ (2 ^ 31 - 1) * 2 ^ (31 * n) := Nat.mul_le_mul_right _ (by omega)
    have e2 : (2 ^ 31 - 1) * 2 ^ (31 * n) + 2 ^ (31 * n) = 2 ^ (31 * n) * 2 ^ 31 := by rw [Nat.sub_mul, Nat.one_mul, Nat.mul_comm (2 ^ 31)]; have : 2 ^ (31 * n) ≤ 2 ^ (31 * n) * 2 ^ 31 := Nat.le_mul_of_pos_right _ (by decide); omega
    omega
theorem vw_dg {r : Nat → Int64} : ∀ n, digW r n → ∀ k, k < n → r k = lN (valW r n / 2 ^ (31 * k) % 2 ^ 31)
  | 0, _ => fun k hk => by omega
  | n + 1, h => by
    have hl := vw_lt n (fun k hk => h k (by omega))
    obtain ⟨d, hd, e⟩ := h n (by omega)
    intro k hk
    simp only [valW]; rw [e, l_clamp (by omega)]
    rcases Nat.lt_or_ge k n with c | c
    · rw [vw_dg n (fun k hk => h k (by omega)) k c]
      have e3 : d * 2 ^ (31 * n) = 2 ^ (31 * k) * (2 ^ 31 * (d * 2 ^ (31 * (n - k - 1)))) := by
        rw [show 31 * n = 31 * k + 31 + 31 * (n - k - 1) by omega, Nat.pow_add, Nat.pow_add]
        rw [Nat.mul_left_comm, Nat.mul_assoc]
      rw [e3, Nat.add_mul_div_left _ _ (Nat.two_pow_pos _), Nat.add_mul_mod_self_left]
    · obtain rfl : k = n := by omega
      rw [e, Nat.mul_comm d, Nat.add_mul_div_left _ _ (Nat.two_pow_pos _), Nat.div_eq_of_lt hl, Nat.zero_add, Nat.mod_eq_of_lt hd]
theorem pw_self {r : Nat → Int64} {n : Nat} (h : digW r n) : putW r n (valW r n) = r := by
  funext k; unfold putW pwH
  by_cases c : 0 ≤ k ∧ k < n
  · rw [if_pos c]; exact (vw_dg n h k c.2).symm
  · rw [if_neg c]
theorem pw_dig {r : Nat → Int64} {n v : Nat} : digW (putW r n v) n := fun k hk => ⟨_, Nat.mod_lt _ (by decide), by unfold putW pwH; rw [if_pos ⟨by omega, hk⟩]⟩
theorem mod_p31 (v n : Nat) : v % 2 ^ (31 * (n + 1)) = v % 2 ^ (31 * n) + v / 2 ^ (31 * n) % 2 ^ 31 * 2 ^ (31 * n) := by rw [p31, Nat.mod_mul, Nat.mul_comm (2 ^ (31 * n))]
theorem pw_val {r : Nat → Int64} {N v : Nat} : ∀ n, n ≤ N → valW (putW r N v) n = v % 2 ^ (31 * n)
  | 0, _ => by simp [valW, Nat.mod_one]
  | n + 1, h => by
    simp only [valW]; rw [pw_val n (by omega), mod_p31]
    congr 2
    unfold putW pwH; rw [if_pos ⟨by omega, by omega⟩]; exact l_clamp (Nat.lt_trans (Nat.mod_lt _ (by decide)) (by decide))
theorem vw_cg {r r' : Nat → Int64} : ∀ n, (∀ k, k < n → r k = r' k) → valW r n = valW r' n
  | 0, _ => rfl
  | n + 1, h => by simp only [valW]; rw [vw_cg n (fun k hk => h k (by omega)), h n (by omega)]
theorem updL_in {f : Nat → Int64} {k : Nat} {v : Int64} : vp_updL f k v k = v := by simp [vp_updL]
theorem updL_out {f : Nat → Int64} {k j : Nat} {v : Int64} (h : j ≠ k) : vp_updL f k v j = f j := by simp [vp_updL, h]
theorem pwH_e (r : Nat → Int64) (n v : Nat) : pwH r n n v = r := by funext k; unfold pwH; rw [if_neg (by omega)]
theorem pwH_up (r : Nat → Int64) (n v : Nat) : vp_updL (putW r n v) n (lN (v / 2 ^ (31 * n) % 2 ^ 31)) = putW r (n + 1) v := by
  funext k; by_cases c : k = n
  · subst c; rw [updL_in]; unfold putW pwH; rw [if_pos (by omega)]
  · rw [updL_out c]; unfold putW pwH
    by_cases c2 : 0 ≤ k ∧ k < n
    · rw [if_pos c2, if_pos (by omega)]
    · rw [if_neg c2, if_neg (by omega)]
theorem pwH_dn (r : Nat → Int64) (i n v : Nat) (h : i < n) : vp_updL (pwH r (i + 1) n v) i (lN (v / 2 ^ (31 * i) % 2 ^ 31)) = pwH r i n v := by
  funext k; by_cases c : k = i
  · subst c; rw [updL_in]; unfold pwH; rw [if_pos (by omega)]
  · rw [updL_out c]; unfold pwH
    by_cases c2 : i + 1 ≤ k ∧ k < n
    · rw [if_pos c2, if_pos (by omega)]
    · rw [if_neg c2, if_neg (by omega)]
theorem dw_low {T z i j : Nat} (h : j < i) : (T + 2 ^ (31 * i) * z) / 2 ^ (31 * j) % 2 ^ 31 = T / 2 ^ (31 * j) % 2 ^ 31 := by
  rw [show i = j + (1 + (i - j - 1)) by omega, p31a, p31a, Nat.mul_assoc, Nat.mul_assoc, Nat.add_mul_div_left _ _ (Nat.two_pow_pos _), show 31 * 1 = 31 from rfl, Nat.add_mul_mod_self_left]
theorem pw_pw {r : Nat → Int64} {n m v w : Nat} (h : m ≤ n) : putW (putW r m v) n w = putW r n w := by
  funext k; unfold putW pwH
  by_cases c : 0 ≤ k ∧ k < n
  · rw [if_pos c, if_pos c]
  · rw [if_neg c, if_neg c, if_neg (by omega)]
theorem pw_in {r : Nat → Int64} {n v k : Nat} (h : k < n) : putW r n v k = lN (v / 2 ^ (31 * k) % 2 ^ 31) := by unfold putW pwH; rw [if_pos (by omega)]
theorem pw_out {r : Nat → Int64} {n v k : Nat} (h : n ≤ k) : putW r n v k = r k := by unfold putW pwH; rw [if_neg (by omega)]
theorem l_full31 {n : Nat} (h : n < 2 ^ 64) : lN n &&& 2147483647 = lN (n % 2 ^ 31) := wb_mask (k := 31) h (by decide)
theorem l_us31 {n : Nat} (h : n < 2 ^ 64) : ((lN n).toUInt64 >>> ((31 : Int32).toInt64.toUInt64 &&& Int64.toUInt64 63)).toInt64 = lN (n / 2 ^ 31) := wb_shr (k := 31) h (by decide)
theorem l_us62 {n : Nat} (h : n < 2 ^ 64) : ((lN n).toUInt64 >>> ((62 : Int32).toInt64.toUInt64 &&& Int64.toUInt64 63)).toInt64 = lN (n / 2 ^ 62) := wb_shr (k := 62) h (by decide)
theorem l_shl31 (n : Nat) : lN n <<< ((31 : Int32).toInt64 &&& 63) = lN (n * 2 ^ 31) := wb_shl n (k := 31) (by decide)
theorem lN_0 : (0 : Int64) = lN 0 := rfl
