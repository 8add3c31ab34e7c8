/-! THE TIE AT THE START -/
theorem dig_z {r : Nat → Int64} (h : r = fun _ => 0) (n : Nat) : digW r n := fun k _ => ⟨0, by decide, by rw [h]; rfl⟩
theorem plN_lt : ∀ q, q ∈ plN → q < 1000 := by decide
theorem plN_b : inB plN := by
  intro q hq
  have h : ∀ q ∈ plB, q ∈ plN := by decide
  exact h q hq
theorem P0_laF : laF P0 := by
  intro q h
  have hq : q ≠ 110 := fun z => by rw [z] at h; exact absurd h (by decide)
  funext k
  unfold P0 pS
  rw [if_neg hq, if_pos h]
theorem zO_bd : bdO zO plN := by
  have h : ∀ i, i < 8 → 200 + 2 * i ∉ plN ∧ 201 + 2 * i ∉ plN := by decide
  exact fun i hi => Or.inr ⟨rfl, (h i hi).1, (h i hi).2⟩
theorem zO_sh : shO zO plN := fun k _ => Or.inr ⟨rfl, fun z => by have := plN_lt _ z; omega, fun z => by have := plN_lt _ z; omega⟩
theorem IN_sh : shI IN := fun k => by
  unfold IN
  rw [up2_r (by omega), up2_r (by omega), up2_r (by omega), up2_r (by omega), up2_r (by omega)]
theorem zO_sd (J : Nat → Nat → Int64) : sdI zO J := ⟨fun t _ => Or.inr (Or.inl rfl), fun t u _ _ h _ => nomatch h.1⟩
theorem plN_rt : rtP P0 plN 0 := by
  have h : ∀ j, j ≤ 6 → (j ≤ 0 → 300 + 2 * j ∈ plN ∧ 301 + 2 * j ∈ plN) ∧ (0 < j → 300 + 2 * j ∉ plN ∧ 301 + 2 * j ∉ plN) := by decide
  exact ⟨⟨by decide, h⟩, rfl, rfl⟩
theorem val_zz {r : Nat → Int32} (h : ∀ k, True → r k = 0) : ∀ n, valR r n = 0 := by
  intro n
  induction n with
  | zero => rfl
  | succ n ih =>
    unfold valR
    rw [ih, h _ trivial]
    simp
theorem t_init {A' : Nat → Nat → Int32} {J' : Nat → Nat → Int64} (hcl : clC P0 zO plN) (hA : ∀ q, q ≠ 118 → q ≠ 131 → A' q = fun _ => 0) (hrk : rkT (A' 118)) (hb : ∀ k, k < 52 → A' 131 k = startB k) (hJ : ∀ q, q ≠ 119 → q ≠ 124 → q ≠ 145 → q ≠ 147 → q ≠ 149 → J' q = fun _ => 0) (hpw : pwT J') : TIE 0 IM AM zJ P0 zO IN A' J' plN := by
  refine ⟨0, B00, 0, 0, 0, 0, 0, (0, 0, fun _ _ => 0, fun _ => 0, 0), ⟨P0_la, plN_b, P0_laF, hcl, zO_bd, zO_sh, IN_sh, hrk, hpw, zO_sd J', dig_z (hJ 141 (by decide) (by decide) (by decide) (by decide) (by decide)) 6, dig_z (hJ 143 (by decide) (by decide) (by decide) (by decide) (by decide)) 6, plN_rt⟩, rfl, ⟨by omega, ok00, rfl, rfl, bd00f _, bd00 hb⟩, ?_, ?_, ⟨0, by omega, rfl, rfl, fun i hi => absurd hi (Nat.not_lt_zero _)⟩, ⟨⟨rfl, by omega, Or.inl rfl, fun t ht hp => ?_⟩, fun k _ => rfl, rfl⟩, ⟨by omega, by omega, rfl, rfl, rfl, fun j hj => absurd hj (Nat.not_lt_zero _)⟩, ⟨by omega, ⟨fun z => absurd rfl z, fun _ => rfl⟩, ⟨plN_rt.1, rfl, rfl, rfl, rfl, rfl, Nat.zero_le _, fun i j _ hj => absurd hj (Nat.not_lt_zero _), fun _ => 0, fun i hi => absurd hi (Nat.not_lt_zero _), fun i j hi => absurd hi (Nat.not_lt_zero _), fun i hi => absurd hi (Nat.not_lt_zero _), fun i hi => absurd hi (Nat.not_lt_zero _)⟩, rfl, (by decide : (0 : Int32) ≤ 4), fun i hi => absurd hi (Nat.not_lt_zero _)⟩⟩
  · refine ⟨⟨(by decide : (0 : Int32) ≤ 0), (by decide : (0 : Int32) ≤ 6)⟩, rfl, rfl, rfl, rfl, rfl, rfl, rfl, rfl, fun z => absurd z (by decide : ¬ (0 : Int32) = 3), fun _ => ⟨rfl, rfl⟩, rfl, rfl, Or.inl rfl, rfl, ?_, ?_⟩
    · rw [hA 115 (by decide) (by decide)]; rfl
    · rw [hA 115 (by decide) (by decide)]; rfl
  · exact ⟨by omega, rfl, rfl, by rw [hA 121 (by decide) (by decide)]; rfl, rfl⟩
  · obtain rfl := pip_0 ht (by omega)
    refine ⟨?_, ?_, rfl, fun z => absurd rfl z⟩
    · exact fun k _ => ⟨0, by decide, rfl⟩
    · rw [eF_0]
      have h : ∀ n, valR (rowAt (AM 49) (8 * num 0)) n = 0 := fun n => val_zz (fun k _ => rfl) n
      exact h 8
