theorem u3_tn {n : Nat} (h : n < 2 ^ 32) : (UInt32.ofNat n).toNat = n := Nat.mod_eq_of_lt h
theorem i_or {k p a b : Nat} (hp : 2 ^ k = p) (ha : a < p) (h : b * p + a < 2 ^ 32) : nI (b * p) ||| nI a = nI (b * p + a) := by
  subst hp
  have h1 : b * 2 ^ k ||| a = b * 2 ^ k + a := by rw [← Nat.shiftLeft_eq, Nat.shiftLeft_add_eq_or_of_lt ha]
  have h3 : UInt32.ofNat (b * 2 ^ k) ||| UInt32.ofNat a = UInt32.ofNat (b * 2 ^ k + a) := UInt32.toNat_inj.mp (by rw [UInt32.toNat_or, u3_tn (by omega), u3_tn (by omega), u3_tn h, h1])
  have h2 := congrArg UInt32.toInt32 h3
  exact h2
theorem sh_a : ∀ s, s < 16 → nI s <<< ((20 : Int32) &&& 31) = nI (s * 1048576) ∧ nI s <<< ((16 : Int32) &&& 31) = nI (s * 65536) ∧ nI s <<< ((12 : Int32) &&& 31) = nI (s * 4096) ∧ nI s <<< ((8 : Int32) &&& 31) = nI (s * 256) ∧ nI s <<< ((4 : Int32) &&& 31) = nI (s * 16) := by decide +kernel
theorem st_or {d1 d2 d3 d4 d5 d6 : Nat} (h1 : d1 < 16) (h2 : d2 < 16) (h3 : d3 < 16) (h4 : d4 < 16) (h5 : d5 < 16) (h6 : d6 < 16) : (((((nI d6 <<< ((20 : Int32) &&& 31)) ||| (nI d5 <<< ((16 : Int32) &&& 31))) ||| (nI d4 <<< ((12 : Int32) &&& 31))) ||| (nI d3 <<< ((8 : Int32) &&& 31))) ||| (nI d2 <<< ((4 : Int32) &&& 31))) ||| nI d1 = nI (d1 + 16 * d2 + 256 * d3 + 4096 * d4 + 65536 * d5 + 1048576 * d6) := by
  have g5 := i_or (k := 20) (p := 1048576) (a := d5 * 65536) (b := d6) (by decide) (by omega) (by omega)
  have g4 := i_or (k := 16) (p := 65536) (a := d4 * 4096) (b := d6 * 16 + d5) (by decide) (by omega) (by omega)
  have g3 := i_or (k := 12) (p := 4096) (a := d3 * 256) (b := d6 * 256 + d5 * 16 + d4) (by decide) (by omega) (by omega)
  have g2 := i_or (k := 8) (p := 256) (a := d2 * 16) (b := d6 * 4096 + d5 * 256 + d4 * 16 + d3) (by decide) (by omega) (by omega)
  have g1 := i_or (k := 4) (p := 16) (a := d1) (b := d6 * 65536 + d5 * 4096 + d4 * 256 + d3 * 16 + d2) (by decide) (by omega) (by omega)
  rw [show (d6 * 16 + d5) * 65536 = d6 * 1048576 + d5 * 65536 by omega] at g4
  rw [show (d6 * 256 + d5 * 16 + d4) * 4096 = d6 * 1048576 + d5 * 65536 + d4 * 4096 by omega] at g3
  rw [show (d6 * 4096 + d5 * 256 + d4 * 16 + d3) * 256 = d6 * 1048576 + d5 * 65536 + d4 * 4096 + d3 * 256 by omega] at g2
  rw [show (d6 * 65536 + d5 * 4096 + d4 * 256 + d3 * 16 + d2) * 16 = d6 * 1048576 + d5 * 65536 + d4 * 4096 + d3 * 256 + d2 * 16 by omega] at g1
  rw [(sh_a d6 h6).1, (sh_a d5 h5).2.1, (sh_a d4 h4).2.2.1, (sh_a d3 h3).2.2.2.1, (sh_a d2 h2).2.2.2.2, g5, g4, g3, g2, g1]
  rw [show d6 * 1048576 + d5 * 65536 + d4 * 4096 + d3 * 256 + d2 * 16 + d1 = d1 + 16 * d2 + 256 * d3 + 4096 * d4 + 65536 * d5 + 1048576 * d6 by omega]
theorem nd {d r : Nat} (h : d < 16) : (d + 16 * r) / 16 = r ∧ (d + 16 * r) % 16 = d := by omega
theorem dv (t : Nat) : t / 256 = t / 16 / 16 ∧ t / 4096 = t / 16 / 16 / 16 ∧ t / 65536 = t / 16 / 16 / 16 / 16 ∧ t / 1048576 = t / 16 / 16 / 16 / 16 / 16 := by
  refine ⟨?_, ?_, ?_, ?_⟩ <;> simp only [Nat.div_div_eq_div_mul, Nat.reduceMul]
theorem st_dig {t : Nat} (h : stnd t) : ∃ d1 d2 d3 d4 d5 d6, t = d1 + 16 * d2 + 256 * d3 + 4096 * d4 + 65536 * d5 + 1048576 * d6 ∧ d1 + d2 + d3 + d4 + d5 + d6 ≤ 15 ∧ pipS t = d1 + 2 * d2 + 3 * d3 + 4 * d4 + 5 * d5 + 6 * d6 := by
  obtain ⟨h1, h2⟩ := h
  unfold pipS; unfold menS at h2
  simp only [sumB, pipF, dgt, Nat.reduceAdd, Nat.reduceSub, Nat.reducePow, Nat.reduceMul, Nat.div_one, Nat.zero_add] at h1 h2 ⊢
  obtain ⟨e2, e3, e4, e5⟩ := dv t
  rw [e2, e3, e4, e5] at h2 ⊢
  clear e2 e3 e4 e5
  have g1 := Nat.div_add_mod t 16
  generalize t / 16 = a1 at *
  generalize t % 16 = c1 at *
  have g2 := Nat.div_add_mod a1 16
  generalize a1 / 16 = a2 at *
  generalize a1 % 16 = c2 at *
  have g3 := Nat.div_add_mod a2 16
  generalize a2 / 16 = a3 at *
  generalize a2 % 16 = c3 at *
  have g4 := Nat.div_add_mod a3 16
  generalize a3 / 16 = a4 at *
  generalize a3 % 16 = c4 at *
  have g5 := Nat.div_add_mod a4 16
  generalize a4 / 16 = a5 at *
  generalize a4 % 16 = c5 at *
  have h5 : a5 < 16 := by omega
  rw [Nat.mod_eq_of_lt h5] at h2 ⊢
  refine ⟨c1, c2, c3, c4, c5, a5, ?_, ?_, ?_⟩
  · subst g5 g4 g3 g2 g1; omega
  · exact h2
  · rw [Nat.one_mul]
theorem dig_st {d1 d2 d3 d4 d5 d6 : Nat} (h : d1 + d2 + d3 + d4 + d5 + d6 ≤ 15) : stnd (d1 + 16 * d2 + 256 * d3 + 4096 * d4 + 65536 * d5 + 1048576 * d6) ∧ pipS (d1 + 16 * d2 + 256 * d3 + 4096 * d4 + 65536 * d5 + 1048576 * d6) = d1 + 2 * d2 + 3 * d3 + 4 * d4 + 5 * d5 + 6 * d6 := by
  have hlt : d1 + 16 * d2 + 256 * d3 + 4096 * d4 + 65536 * d5 + 1048576 * d6 < 16777216 := by omega
  rw [show d1 + 16 * d2 + 256 * d3 + 4096 * d4 + 65536 * d5 + 1048576 * d6 = d1 + 16 * (d2 + 16 * (d3 + 16 * (d4 + 16 * (d5 + 16 * d6)))) by omega] at hlt ⊢
  generalize ht : d1 + 16 * (d2 + 16 * (d3 + 16 * (d4 + 16 * (d5 + 16 * d6)))) = t at *
  have q1 : t / 16 = d2 + 16 * (d3 + 16 * (d4 + 16 * (d5 + 16 * d6))) := by rw [← ht]; exact (nd (by omega)).1
  have q2 : t / 16 / 16 = d3 + 16 * (d4 + 16 * (d5 + 16 * d6)) := by rw [q1]; exact (nd (by omega)).1
  have q3 : t / 16 / 16 / 16 = d4 + 16 * (d5 + 16 * d6) := by rw [q2]; exact (nd (by omega)).1
  have q4 : t / 16 / 16 / 16 / 16 = d5 + 16 * d6 := by rw [q3]; exact (nd (by omega)).1
  have q5 : t / 16 / 16 / 16 / 16 / 16 = d6 := by rw [q4]; exact (nd (by omega)).1
  obtain ⟨e2, e3, e4, e5⟩ := dv t
  have m1 : t % 16 = d1 := by rw [← ht]; exact (nd (by omega)).2
  have m2 : t / 16 % 16 = d2 := by rw [q1]; exact (nd (by omega)).2
  have m3 : t / 256 % 16 = d3 := by rw [e2, q2]; exact (nd (by omega)).2
  have m4 : t / 4096 % 16 = d4 := by rw [e3, q3]; exact (nd (by omega)).2
  have m5 : t / 65536 % 16 = d5 := by rw [e4, q4]; exact (nd (by omega)).2
  have m6 : t / 1048576 % 16 = d6 := by rw [e5, q5]; exact Nat.mod_eq_of_lt (by omega)
  unfold stnd pipS menS
  simp only [sumB, pipF, dgt, Nat.reduceAdd, Nat.reduceSub, Nat.reducePow, Nat.reduceMul, Nat.div_one, Nat.zero_add, m1, m2, m3, m4, m5, m6]
  exact ⟨⟨hlt, h⟩, by rw [Nat.one_mul]⟩
theorem pip_0 {t : Nat} (h : stnd t) (h0 : pipS t = 0) : t = 0 := by
  obtain ⟨d1, d2, d3, d4, d5, d6, e, -, ep⟩ := st_dig h
  omega
theorem pip_z : pipS 0 = 0 := by decide
def cnt : Nat → Nat → Nat → Nat
  | 0, _, L => if L = 0 then 1 else 0
  | p + 1, m, L => sumB (fun h => if h * (p + 1) ≤ L then cnt p (m - h) (L - h * (p + 1)) else 0) 0 (m + 1)
def cnF (p m L : Nat) : Nat → Nat := fun h => if h * (p + 1) ≤ L then cnt p (m - h) (L - h * (p + 1)) else 0
theorem cnt_e (p m L : Nat) : cnt (p + 1) m L = sumB (cnF p m L) 0 (m + 1) := rfl
theorem cnF_in {p m L h : Nat} (hh : h * (p + 1) ≤ L) : cnF p m L h = cnt p (m - h) (L - h * (p + 1)) := by unfold cnF; rw [if_pos hh]
theorem su_tail {f : Nat → Nat} {k : Nat} : ∀ n, k ≤ n → (∀ h, k ≤ h → h < n → f h = 0) → sumB f 0 n = sumB f 0 k
  | 0, hk, _ => by have z : k = 0 := (by omega); rw [z]
  | n + 1, hk, hz => by
    rcases Nat.lt_or_ge n k with c | c
    · have z : k = n + 1 := (by omega); rw [z]
    · simp only [sumB]
      rw [su_tail n c (fun h h1 h2 => hz h h1 (by omega)), Nat.zero_add, hz n c (by omega), Nat.add_zero]
theorem cnt_end {p m L k : Nat} (hk : k ≤ m + 1) (h : k = m + 1 ∨ L < k * (p + 1)) : sumB (cnF p m L) 0 k = cnt (p + 1) m L := by
  rw [cnt_e]
  refine (su_tail _ hk (fun j h1 h2 => ?_)).symm
  rcases h with h | h
  · omega
  · unfold cnF
    have : k * (p + 1) ≤ j * (p + 1) := Nat.mul_le_mul h1 (Nat.le_refl _)
    rw [if_neg (by omega)]
theorem su_one (L : Nat) : ∀ n, sumB (fun h => if h = L then 1 else 0) 0 n = if L < n then 1 else 0
  | 0 => by simp [sumB]
  | n + 1 => by
    simp only [sumB]; rw [su_one L n, Nat.zero_add]
    by_cases c : n = L
    · rw [if_neg (by omega), if_pos c, if_pos (by omega)]
    · rw [if_neg c]
      by_cases c2 : L < n
      · rw [if_pos c2, if_pos (by omega)]
      · rw [if_neg c2, if_neg (by omega)]
theorem cnt_1 (m L : Nat) : cnt 1 m L = if L ≤ m then 1 else 0 := by
  rw [cnt_e]
  have : sumB (cnF 0 m L) 0 (m + 1) = sumB (fun h => if h = L then 1 else 0) 0 (m + 1) := su_cg _ (fun h _ => by
    unfold cnF; rw [Nat.zero_add, Nat.zero_add, Nat.mul_one]
    show (if h ≤ L then (if L - h = 0 then 1 else 0) else 0) = _
    by_cases c : h = L
    · rw [if_pos (by omega), if_pos (by omega), if_pos c]
    · rw [if_neg c]
      by_cases c2 : h ≤ L
      · rw [if_pos c2, if_neg (by omega)]
      · rw [if_neg c2])
  rw [this, su_one]
  by_cases c : L ≤ m
  · rw [if_pos c, if_pos (by omega)]
  · rw [if_neg c, if_neg (by omega)]
theorem cnt_hi : ∀ p m L, p * m < L → cnt p m L = 0
  | 0, m, L, h => by show (if L = 0 then 1 else 0) = 0; rw [if_neg (by omega)]
  | p + 1, m, L, h => by
    rw [cnt_e]
    have : ∀ n, n ≤ m + 1 → sumB (cnF p m L) 0 n = 0 := by
      intro n
      induction n with
      | zero => intro _; rfl
      | succ n ih =>
        intro hn
        simp only [sumB]; rw [ih (by omega), Nat.zero_add, Nat.zero_add]
        unfold cnF
        by_cases c : n * (p + 1) ≤ L
        · rw [if_pos c]
          refine cnt_hi p _ _ ?_
          obtain ⟨j, rfl⟩ : ∃ j, m = n + j := ⟨m - n, by omega⟩
          rw [show n + j - n = j by omega]
          have e1 : (p + 1) * (n + j) = n * (p + 1) + p * j + j := by rw [Nat.mul_add, Nat.mul_comm n, Nat.add_mul p 1 j, Nat.one_mul]; omega
          omega
        · rw [if_neg c]
    exact this _ (Nat.le_refl _)
theorem cnt_0 : ∀ p m, cnt p m 0 = 1
  | 0, _ => rfl
  | p + 1, m => by
    rw [← cnt_end (k := 1) (by omega) (Or.inr (by omega))]
    show 0 + cnF p m 0 (0 + 0) = 1
    unfold cnF; rw [if_pos (by omega), Nat.zero_add]
    have := cnt_0 p m
    simpa using this
def boS (I A : Nat → Nat → Int32) (L : Nat) : Prop := I 0 55 = nI L ∧ L ≤ 90 ∧ (I 0 56 = 0 ∨ rdyS I A) ∧ ∀ t, stnd t → pipS t ≤ L → dnS A t
theorem rd_dn {A A' : Nat → Nat → Int32} {t : Nat} (ht : stnd t) (h1 : ∀ q, q ≠ 51 → q ≠ 52 → q ≠ 53 → A' q = A q) (h2 : ∀ k, k ≠ 0 → A' 51 k = A 51 k) (h3 : A' 51 0 = 0) (h : dnS A t) : dnS A' t := by
  refine dnS_cg (fun k _ => by rw [h1 49 (by decide) (by decide) (by decide)]) ?_ (fun k _ => by rw [h1 50 (by decide) (by decide) (by decide)]) h
  by_cases c : num t = 0
  · have e := h.2.2.1
    have z : t = 0 := num_inj ht st_0 (by rw [c, num_0])
    rw [c] at e ⊢
    rw [h3, e, z]; rfl
  · exact h2 _ c
theorem u2s {I : Nat → Nat → Int32} {k : Nat} {v : Int32} : up2 I 0 k v 0 k = v := by simp [up2, va_up]
theorem u2n {I : Nat → Nat → Int32} {k j : Nat} {v : Int32} (h : j ≠ k) : up2 I 0 k v 0 j = I 0 j := by simp [up2, va_up, h]
def Lx (d6 d5 d4 d3 d2 s6 s5 s4 s3 s2 : Nat) : Prop := d6 < s6 ∨ (d6 = s6 ∧ (d5 < s5 ∨ (d5 = s5 ∧ (d4 < s4 ∨ (d4 = s4 ∧ (d3 < s3 ∨ (d3 = s3 ∧ d2 < s2)))))))
def fl6 (d1 d2 d3 d4 d5 d6 : Nat) : Nat := d1 + 16 * d2 + 256 * d3 + 4096 * d4 + 65536 * d5 + 1048576 * d6
def lnV (I A I1 A1 : Nat → Nat → Int32) (L s6 s5 s4 s3 s2 : Nat) : Prop := rdyS I1 A1 ∧ (∀ k, k ≠ 58 → I1 0 k = I 0 k) ∧ (∀ q, q ≠ 49 → q ≠ 50 → q ≠ 51 → q ≠ 54 → q ≠ 57 → A1 q = A q) ∧ (∀ t, stnd t → pipS t < L → dnS A1 t) ∧ ∀ d1 d2 d3 d4 d5 d6, d1 + d2 + d3 + d4 + d5 + d6 ≤ 15 → d1 + 2 * d2 + 3 * d3 + 4 * d4 + 5 * d5 + 6 * d6 = L → Lx d6 d5 d4 d3 d2 s6 s5 s4 s3 s2 → dnS A1 (fl6 d1 d2 d3 d4 d5 d6)
theorem lnV_u {I A I1 A1 : Nat → Nat → Int32} {L s6 s5 s4 s3 s2 q6 q5 q4 q3 q2 : Nat} (h : lnV I A I1 A1 L s6 s5 s4 s3 s2) (hm : ∀ d1 d2 d3 d4 d5 d6, d1 + d2 + d3 + d4 + d5 + d6 ≤ 15 → d1 + 2 * d2 + 3 * d3 + 4 * d4 + 5 * d5 + 6 * d6 = L → Lx d6 d5 d4 d3 d2 q6 q5 q4 q3 q2 → Lx d6 d5 d4 d3 d2 s6 s5 s4 s3 s2) : lnV I A I1 A1 L q6 q5 q4 q3 q2 :=
  ⟨h.1, h.2.1, h.2.2.1, h.2.2.2.1, fun d1 d2 d3 d4 d5 d6 em ep hl => h.2.2.2.2 d1 d2 d3 d4 d5 d6 em ep (hm d1 d2 d3 d4 d5 d6 em ep hl)⟩
theorem lnV_wk {I A I1 A1 I2 A2 : Nat → Nat → Int32} {L s6 s5 s4 s3 s2 s1 : Nat} (h : lnV I A I1 A1 L s6 s5 s4 s3 s2) (em : s1 + s2 + s3 + s4 + s5 + s6 ≤ 15) (hp : s1 + 2 * s2 + 3 * s3 + 4 * s4 + 5 * s5 + 6 * s6 = L) (hL : 1 ≤ L) (k1 : ∀ k, k ≠ 58 → I2 0 k = I1 0 k) (k2 : ∀ q, q ≠ 49 → q ≠ 50 → q ≠ 51 → q ≠ 54 → q ≠ 57 → A2 q = A1 q) (k3 : dnS A2 (fl6 s1 s2 s3 s4 s5 s6)) (k4 : ∀ t, stnd t → t ≠ fl6 s1 s2 s3 s4 s5 s6 → dnS A1 t → dnS A2 t) : lnV I A I2 A2 L s6 s5 s4 s3 (s2 + 1) := by
  have hall : ∀ t, stnd t → (t ≠ fl6 s1 s2 s3 s4 s5 s6 → dnS A1 t) → dnS A2 t := fun t ht hc => by
    by_cases c : t = fl6 s1 s2 s3 s4 s5 s6
    · rw [c]; exact k3
    · exact k4 t ht c (hc c)
  refine ⟨⟨?_, ?_, ?_, ?_, ?_⟩, fun k hk => (k1 k hk).trans (h.2.1 k hk), fun q q1 q2 q3 q4 q5 => (k2 q q1 q2 q3 q4 q5).trans (h.2.2.1 q q1 q2 q3 q4 q5), fun t ht hc => hall t ht (fun _ => h.2.2.2.1 t ht hc), fun d1 d2 d3 d4 d5 d6 em' ep' hl => hall _ (dig_st em').1 (fun hne => h.2.2.2.2 d1 d2 d3 d4 d5 d6 em' ep' ?_)⟩
  · rw [k1 56 (by decide)]; exact h.1.1
  · rw [k2 52 (by decide) (by decide) (by decide) (by decide) (by decide)]; exact h.1.2.1
  · rw [k2 53 (by decide) (by decide) (by decide) (by decide) (by decide)]; exact h.1.2.2.1
  · rw [k2 53 (by decide) (by decide) (by decide) (by decide) (by decide)]; exact h.1.2.2.2.1
  · have := (hall 0 st_0 (fun _ => h.2.2.2.1 0 st_0 (by rw [pip_z]; omega))).2.2.1
    rw [num_0] at this; exact this
  · by_cases c : d2 = s2 ∧ d3 = s3 ∧ d4 = s4 ∧ d5 = s5 ∧ d6 = s6
    · obtain ⟨rfl, rfl, rfl, rfl, rfl⟩ := c
      have z : d1 = s1 := by omega
      rw [z] at hne
      exact absurd rfl hne
    · unfold Lx at hl ⊢
      clear hne ep' em' hall
      rcases hl with y | ⟨y6, hl⟩
      · exact Or.inl y
      refine Or.inr ⟨y6, ?_⟩
      rcases hl with y | ⟨y5, hl⟩
      · exact Or.inl y
      refine Or.inr ⟨y5, ?_⟩
      rcases hl with y | ⟨y4, hl⟩
      · exact Or.inl y
      refine Or.inr ⟨y4, ?_⟩
      rcases hl with y | ⟨y3, hl⟩
      · exact Or.inl y
      refine Or.inr ⟨y3, ?_⟩
      by_cases y2 : d2 = s2
      · exact absurd ⟨y2, y3, y4, y5, y6⟩ c
      · omega
def leaQ (I A : Nat → Nat → Int32) (J : Nat → Nat → Int64) (L : Nat) : Option Value → HS → List Nat → Prop := fun rv σ' pl' => (90 ≤ L → rv = some (.int 0) ∧ σ' = mS (up2 I 0 0 1) A J ∧ pl' = plM) ∧ (L < 90 → ∃ I' A', rv = some (.int (nI (cnt 6 15 (L + 1)))) ∧ σ' = mS I' A' J ∧ pl' = plM ∧ I' 0 0 = 0 ∧ boS I' A' (L + 1) ∧ (∀ k, k ≠ 0 → k ≠ 55 → k ≠ 56 → k ≠ 58 → I' 0 k = I 0 k) ∧ ∀ q, q ≠ 49 → q ≠ 50 → q ≠ 51 → q ≠ 52 → q ≠ 53 → q ≠ 54 → q ≠ 57 → A' q = A q)
theorem s16 (s6 s5 s4 s3 s2 s1 : Nat) (h : s1 < 16) : (s1 + 16 * s2 + 256 * s3 + 4096 * s4 + 65536 * s5 + 1048576 * s6) / 16 = s2 + 16 * s3 + 256 * s4 + 4096 * s5 + 65536 * s6 := by omega
theorem cnF_e {p m L h m' L' : Nat} (h1 : m' + h = m) (h2 : L' + (p + 1) * h = L) : cnF p m L h = cnt p m' L' := by
  have : h * (p + 1) = (p + 1) * h := Nat.mul_comm _ _
  rw [cnF_in (by omega), this, show m - h = m' by omega, show L - (p + 1) * h = L' by omega]
theorem cnt_x {p m L k : Nat} (hk : k ≤ m + 1) (h : k = m + 1 ∨ L < (p + 1) * k) : sumB (cnF p m L) 0 k = cnt (p + 1) m L := cnt_end hk (by rw [Nat.mul_comm k]; exact h)
