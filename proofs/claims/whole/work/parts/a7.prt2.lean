theorem nd_u {v n n' : Nat} (h : numD v n) (h' : numD v n') : n = n' := by
  have one : ∀ {n n' : Nat}, numD v n → numD v n' → ¬ n < n' := fun {n n'} h h' c => by
    obtain ⟨a1, a2, -⟩ := h
    obtain ⟨b1, -, b3⟩ := h'
    rcases b3 with b3 | b3
    · omega
    · have := Nat.pow_le_pow_right (n := 10) (by decide) (show n ≤ n' - 1 by omega)
      omega
  rcases Nat.lt_trichotomy n n' with c | c | c
  · exact absurd c (one h h')
  · exact c
  · exact absurd c (one h' h)
theorem prT_u {u p len len' : Nat} {txt txt' : Nat → Nat} (h : prT u p len txt) (h' : prT u p len' txt') : len = len' ∧ ∀ i, i < len → txt i = txt' i := by
  rcases h with ⟨h1, h2, h3⟩ | ⟨h0, n2, n3, a, l2, l3, hn, ht, rest⟩ <;> rcases h' with ⟨g1, g2, g3⟩ | ⟨g0, m2, m3, b, k2, k3, gn, gt, rest'⟩
  · refine ⟨by rw [h2, g2], fun i hi => ?_⟩
    obtain rfl : i = 0 := by omega
    rw [h3, g3]
  · exact absurd h1 g0
  · exact absurd g1 h0
  · obtain rfl := ls_u l2 k2
    obtain rfl := ls_u l3 k3
    obtain rfl := nd_u hn gn
    rcases rest with ⟨r1, r2⟩ | ⟨r1, c, r2, r3, r4, r5⟩ <;> rcases rest' with ⟨s1, s2⟩ | ⟨s1, d, s2, s3, s4, s5⟩
    · exact ⟨by rw [r2, s2], fun i hi => by rw [ht i (by omega), gt i (by omega)]⟩
    · exact absurd r1 s1
    · exact absurd s1 r1
    · obtain rfl := nd_u r2 s2
      refine ⟨by rw [r3, s3], fun i hi => ?_⟩
      rcases Nat.lt_trichotomy i a with e | e | e
      · rw [ht i e, gt i e]
      · rw [e, r4, s4]
      · have x := r5 (i - (a + 1)) (by omega)
        have y := s5 (i - (a + 1)) (by omega)
        rw [show a + 1 + (i - (a + 1)) = i by omega] at x y
        rw [x, y]
