def valR (r : Nat → Int32) : Nat → Nat
  | 0 => 0
  | n + 1 => valR r n + (r n).toNatClampNeg * 2 ^ (28 * n)
def digV (r : Nat → Int32) (n : Nat) : Prop := ∀ k, k < n → ∃ d, d < 2 ^ 28 ∧ r k = nI d
/-- the parts of v from place i up to n -/
def putH (r : Nat → Int32) (i n v : Nat) : Nat → Int32 := fun k => if i ≤ k ∧ k < n then nI (v / 2 ^ (28 * k) % 2 ^ 28) else r k
abbrev putR (r : Nat → Int32) (n v : Nat) : Nat → Int32 := putH r 0 n v
theorem p28 (k : Nat) : 2 ^ (28 * (k + 1)) = 2 ^ (28 * k) * 2 ^ 28 := by rw [← Nat.pow_add]; congr 1
theorem val_lt {r : Nat → Int32} : ∀ n, digV r n → valR r n < 2 ^ (28 * n)
  | 0, _ => by simp [valR]
  | n + 1, h => by
    have ih := val_lt n (fun k hk => h k (by omega))
    obtain ⟨d, hd, e⟩ := h n (by omega)
    simp only [valR]; rw [e, nI_clamp (by omega), p28]
    have : d * 2 ^ (28 * n) ≤ (2 ^ 28 - 1) * 2 ^ (28 * n) := Nat.mul_le_mul_right _ (by omega)
    have e2 : (2 ^ 28 - 1) * 2 ^ (28 * n) + 2 ^ (28 * n) = 2 ^ (28 * n) * 2 ^ 28 := by rw [Nat.sub_mul, Nat.one_mul, Nat.mul_comm (2 ^ 28)]; have : 2 ^ (28 * n) ≤ 2 ^ (28 * n) * 2 ^ 28 := Nat.le_mul_of_pos_right _ (by decide); omega
    omega
theorem val_dg {r : Nat → Int32} : ∀ n, digV r n → ∀ k, k < n → r k = nI (valR r n / 2 ^ (28 * k) % 2 ^ 28)
  | 0, _ => fun k hk => by omega
  | n + 1, h => by
    have hl := val_lt n (fun k hk => h k (by omega))
    obtain ⟨d, hd, e⟩ := h n (by omega)
    intro k hk
    simp only [valR]; rw [e, nI_clamp (by omega)]
    rcases Nat.lt_or_ge k n with c | c
    · rw [val_dg n (fun k hk => h k (by omega)) k c]
      have e3 : d * 2 ^ (28 * n) = 2 ^ (28 * k) * (2 ^ 28 * (d * 2 ^ (28 * (n - k - 1)))) := by
        rw [show 28 * n = 28 * k + 28 + 28 * (n - k - 1) by omega, Nat.pow_add, Nat.pow_add]
        rw [Nat.mul_left_comm, Nat.mul_assoc]
      rw [e3, Nat.add_mul_div_left _ _ (Nat.two_pow_pos _), Nat.add_mul_mod_self_left]
    · obtain rfl : k = n := by omega
      rw [e, Nat.mul_comm d, Nat.add_mul_div_left _ _ (Nat.two_pow_pos _), Nat.div_eq_of_lt hl, Nat.zero_add, Nat.mod_eq_of_lt hd]
theorem put_self {r : Nat → Int32} {n : Nat} (h : digV r n) : putR r n (valR r n) = r := by
  funext k; unfold putR putH
  by_cases c : 0 ≤ k ∧ k < n
  · rw [if_pos c]; exact (val_dg n h k c.2).symm
  · rw [if_neg c]
theorem put_dig {r : Nat → Int32} {n v : Nat} : digV (putR r n v) n := fun k hk => ⟨_, Nat.mod_lt _ (by decide), by unfold putR putH; rw [if_pos ⟨by omega, hk⟩]⟩
theorem mod_p28 (v n : Nat) : v % 2 ^ (28 * (n + 1)) = v % 2 ^ (28 * n) + v / 2 ^ (28 * n) % 2 ^ 28 * 2 ^ (28 * n) := by rw [p28, Nat.mod_mul, Nat.mul_comm (2 ^ (28 * n))]
theorem put_val {r : Nat → Int32} {N v : Nat} : ∀ n, n ≤ N → valR (putR r N v) n = v % 2 ^ (28 * n)
  | 0, _ => by simp [valR, Nat.mod_one]
  | n + 1, h => by
    simp only [valR]; rw [put_val n (by omega), mod_p28]
    congr 2
    unfold putR putH; rw [if_pos ⟨by omega, by omega⟩]; exact nI_clamp (Nat.lt_trans (Nat.mod_lt _ (by decide)) (by decide))
theorem val_cg {r r' : Nat → Int32} : ∀ n, (∀ k, k < n → r k = r' k) → valR r n = valR r' n
  | 0, _ => rfl
  | n + 1, h => by simp only [valR]; rw [val_cg n (fun k hk => h k (by omega)), h n (by omega)]
theorem putH_e (r : Nat → Int32) (n v : Nat) : putH r n n v = r := by funext k; unfold putH; rw [if_neg (by omega)]
theorem putH_up (r : Nat → Int32) (n v : Nat) : upd (putR r n v) n (nI (v / 2 ^ (28 * n) % 2 ^ 28)) = putR r (n + 1) v := by
  funext k; by_cases c : k = n
  · subst c; rw [upd_in]; unfold putR putH; rw [if_pos (by omega)]
  · rw [upd_out c]; unfold putR putH
    by_cases c2 : 0 ≤ k ∧ k < n
    · rw [if_pos c2, if_pos (by omega)]
    · rw [if_neg c2, if_neg (by omega)]
theorem putH_dn (r : Nat → Int32) (i n v : Nat) (h : i < n) : upd (putH r (i + 1) n v) i (nI (v / 2 ^ (28 * i) % 2 ^ 28)) = putH r i n v := by
  funext k; by_cases c : k = i
  · subst c; rw [upd_in]; unfold putH; rw [if_pos (by omega)]
  · rw [upd_out c]; unfold putH
    by_cases c2 : i + 1 ≤ k ∧ k < n
    · rw [if_pos c2, if_pos (by omega)]
    · rw [if_neg c2, if_neg (by omega)]
/-! carries -/
theorem cs_1 {v c M B : Nat} (hM : 0 < M) : (v % (M * B)) * c / M = (v % M) * c / M + v / M % B * c := by
  rw [Nat.mod_mul, Nat.add_mul, Nat.mul_assoc, Nat.add_mul_div_left _ _ hM]
theorem cs_2 {v c M B : Nat} (hM : 0 < M) : (v % (M * B)) * c / M % B = v * c / M % B := by
  have e : v * c = (v % (M * B)) * c + M * (B * (v / (M * B) * c)) := by
    conv => lhs; rw [← Nat.mod_add_div v (M * B), Nat.add_mul]
    congr 1; rw [Nat.mul_assoc, Nat.mul_assoc]
  rw [e, Nat.add_mul_div_left _ _ hM, Nat.add_mul_mod_self_left]
theorem ov_1 {v c M B : Nat} (hc : 0 < c) (hB : 0 < B) : v / c / M % B = ((v / (M * B)) % c * B + v / M % B) / c ∧ ((v / (M * B)) % c * B + v / M % B) % c = v / M % c := by
  have e : v / M = v / (M * B) * B + v / M % B := by rw [← Nat.div_div_eq_div_mul, Nat.mul_comm]; exact (Nat.div_add_mod _ _).symm
  have hd := Nat.mod_lt (v / M) hB
  generalize v / M % B = d at e hd
  generalize v / (M * B) = Q at e
  have e2 : v / M = c * (Q / c * B) + (Q % c * B + d) := by
    rw [e, ← Nat.mul_assoc, ← Nat.add_assoc, ← Nat.add_mul, Nat.div_add_mod]
  have hlt : (Q % c * B + d) / c < B := by
    rw [Nat.div_lt_iff_lt_mul hc]
    have h1 : Q % c * B ≤ (c - 1) * B := Nat.mul_le_mul_right _ (by have := Nat.mod_lt Q hc; omega)
    have h3 : (c - 1) * B + B = B * c := by rw [Nat.sub_mul, Nat.one_mul, Nat.mul_comm c B]; have : B ≤ B * c := Nat.le_mul_of_pos_right _ hc; omega
    omega
  constructor
  · rw [Nat.div_div_eq_div_mul, Nat.mul_comm c M, ← Nat.div_div_eq_div_mul, e2, Nat.mul_add_div hc, Nat.mul_comm (Q / c) B, Nat.mul_add_mod, Nat.mod_eq_of_lt hlt]
  · rw [e2, Nat.mul_add_mod]
