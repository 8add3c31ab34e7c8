/-! the past; choose -/
section
variable {X : Ctx} {b ax ay ao L n g k1 k2 : Nat} {xs0 : Nat → Int32} {I A : Nat → Nat → Int32} {J : Nat → Nat → Int64} {P O : Nat → Nat → Option Nat} {IC AC : Nat → Nat → Int32} {JC : Nat → Nat → Int64} {pl : List Nat} {U : Nat → Int64} {I' A' I2 A2 : Nat → Nat → Int32} {O2 : Nat → Nat → Option Nat} {pl' : List Nat} {p hd : Nat}
theorem kp_x {q1 L0 c : Nat} (h : kpQ P O IC AC JC pl q1 L0 c none (mC P O2 I2 A2 JC) pl') : clC P O2 pl' ∧ bdO O2 pl' ∧ (∀ q, q ∈ pl → q ∈ pl') ∧ (∀ q, q ∈ pl' → q ∈ pl ∨ q = 200 + 2 * L0 ∨ q = 201 + 2 * L0) ∧ (∀ q, q ≠ 103 → O2 q = O q) ∧ I2 102 1 = nI L0 ∧ I2 102 2 = nI (min (c + 1) 8) ∧ I2 (200 + 2 * L0) 1 = IC q1 1 ∧ (∀ q k, q ≠ 102 → q ≠ 200 + 2 * L0 → I2 q k = IC q k) ∧ (∀ j, j < 52 → A2 (201 + 2 * L0) j = AC (q1 + 1) j) ∧ (∀ q, q ≠ 201 + 2 * L0 → A2 q = AC q) ∧ O2 103 L0 = some (200 + 2 * L0) ∧ ∀ i, i ≠ L0 → O2 103 i = O 103 i := by
  obtain ⟨-, O', I', A', e, h⟩ := h
  have eO : O2 = O' := congrArg (fun s : HS => s.2.2.2.2.2.2) e
  have eI : I2 = I' := congrArg (fun s : HS => s.2.2.1) e
  have eA : A2 = A' := congrArg (fun s : HS => s.2.2.2.2.1) e
  subst eO eI eA
  exact h
theorem fr_117 (h : O2 117 = O 117) : frT O2 = frT O := by
  have : freeK O2 = freeK O := by funext k; unfold freeK; rw [h]
  unfold frT
  rw [this]
theorem sdI.o (h : sdI O JC) (e : O2 117 = O 117) : sdI O2 JC := by
  unfold sdI dnC ndC at *
  rw [e]
  exact h
theorem kp_i {L0 c : Nat} (hL : L0 < 8) (iv : invC P O IC AC JC pl g) (h : kpQ P O IC AC JC pl 130 L0 c none (mC P O2 I2 A2 JC) pl') : invC P O2 I2 A2 JC pl' g ∧ frT O2 = frT O := by
  obtain ⟨k1, k2, k3, k4, k5, k6, k7, k8, k9, k10, k11, k12, k13⟩ := kp_x h
  obtain ⟨a1, a2, a3, a4, a5, a6, a7, a8, a9, b1, b2, b3, b4⟩ := iv
  have e117 : O2 117 = O 117 := k5 117 (by decide)
  refine ⟨⟨a1, fun q hq => k3 q (a2 q hq), a3, k1, k2, fun k hk => ?_, fun k => ?_, ?_, a9, b1.o e117, b2, b3, b4.1.up k3 (fun q hq => (k4 q hq).imp id (fun z => Or.inl (by omega))), b4.2⟩, fr_117 e117⟩
  · rw [e117]
    rcases a6 k hk with ⟨c1, c2, c3⟩ | ⟨c1, c2, c3⟩
    · exact Or.inl ⟨c1, k3 _ c2, k3 _ c3⟩
    · refine Or.inr ⟨c1, fun z => ?_, fun z => ?_⟩
      · rcases k4 _ z with z | z | z
        · exact c2 z
        · omega
        · omega
      · rcases k4 _ z with z | z | z
        · exact c3 z
        · omega
        · omega
  · funext j
    rw [k9 _ _ (by omega) (by omega), a7 k]
  · rw [k11 118 (by omega)]; exact a8
/-- one position more is kept -/
theorem t_keep {m : Nat} {B : Nat → Nat} (tb : tBd m B I A IC AC) (ts : tPs p hd I A O IC AC) (h : kpQ P O IC AC JC pl 130 ((hd + 1) % 8) p none (mC P O2 I2 A2 JC) pl') (e19 : I' 0 19 = nI (remP p + 1)) (e18 : A' 18 = remRow (A 18) p (A 1) (I 0 2)) : tPs (remP p + 1) ((hd + 1) % 8) I' A' O2 I2 A2 := by
  obtain ⟨k1, k2, k3, k4, k5, k6, k7, k8, k9, k10, k11, k12, k13⟩ := kp_x h
  obtain ⟨a1, a2, a3, a4, a5, a6⟩ := ts
  obtain ⟨c1, c2, c3, c4, c5, c6⟩ := tb
  have hp : remP p + 1 = min (p + 1) 8 := by unfold remP; split <;> omega
  have hr : remP p ≤ 7 := by omega
  refine ⟨by omega, Nat.mod_lt _ (by decide), e19, k6, by rw [k7, hp], fun j hj => ?_⟩
  generalize eL : (hd + 1) % 8 = L0 at *
  have hL0 : L0 < 8 := by omega
  rw [show remP p + 1 - 1 - j = remP p - j by omega]
  by_cases hj0 : j = 0
  · subst hj0
    rw [show (L0 + 8 - 0) % 8 = L0 by omega, Nat.sub_zero]
    refine ⟨k12, m, B, c1, c2, fun k hk => ?_, by rw [k8]; exact c4, fun k hk => ?_, ?_⟩
    · have := c6 k hk
      rw [Nat.zero_add] at this ⊢
      rw [k10 k hk]
      exact this
    · rw [e18]
      unfold remRow
      rw [upd_out (by omega)]
      unfold segF
      rw [if_pos (by omega), show 53 * remP p + k - 53 * remP p = k by omega]
      have := (c5 k hk).1
      rw [Nat.zero_add] at this
      exact this
    · rw [e18]
      unfold remRow
      rw [upd_in]
      exact c3
  · obtain ⟨u0, m2, B2, u1, u2, u3, u4, u5, u6⟩ := a6 (j - 1) (by unfold remP at hj; split at hj <;> omega)
    have es : (L0 + 8 - j) % 8 = (hd + 8 - (j - 1)) % 8 := by omega
    have hne : (hd + 8 - (j - 1)) % 8 ≠ L0 := by omega
    have hs8 : (hd + 8 - (j - 1)) % 8 < 8 := by omega
    rw [es]
    generalize (hd + 8 - (j - 1)) % 8 = s at *
    have hrow : ∀ k, k < 53 → A' 18 (53 * (remP p - j) + k) = A 18 (53 * (p - 1 - (j - 1)) + k) := by
      intro k hk
      rw [e18]
      unfold remRow
      rw [upd_out (by omega)]
      unfold segF
      rw [if_neg (by omega)]
      unfold remB
      by_cases h8 : p = 8
      · rw [if_pos h8]
        have e7 : remP p = 7 := by unfold remP; rw [if_pos h8]
        rw [e7]
        unfold fillF
        rw [if_pos (by omega)]
        show A 18 (53 * (7 - j) + k + 53) = _
        rw [show 53 * (7 - j) + k + 53 = 53 * (p - 1 - (j - 1)) + k by omega]
      · rw [if_neg h8]
        have e7 : remP p = p := by unfold remP; rw [if_neg h8]
        rw [e7, show p - 1 - (j - 1) = p - j by omega]
    exact ⟨by rw [k13 s hne]; exact u0, m2, B2, u1, u2, by rw [k11 _ (by omega)]; exact u3, by rw [k9 _ _ (by omega) (by omega)]; exact u4, fun k hk => by rw [hrow k (by omega)]; exact u5 k hk, by rw [hrow 52 (by omega)]; exact u6⟩
theorem tw_e {r1 r2 : Nat → Int32} {B : Nat → Nat} {a : Nat} (ha : a ≤ 1) (h1 : bdR r1 0 B) (h2 : bdR r2 0 B) : timesOf r1 1 (26 * a) = twI r2 (nI a) := by
  have hr : ∀ k, k < 52 → r1 k = nI (B k) := fun k hk => by have := (h1 k hk).1; rw [Nat.zero_add] at this; exact this
  have hb : ∀ k, k < 52 → B k ≤ 30 := fun k hk => (h1 k hk).2
  have hcl : ∀ k, k < 52 → clR r2 k = B k := fun k hk => (cl_bd h2 k hk).symm
  have hhi : hiN (clR r2) (26 * a) 25 = hiN B (26 * a) 25 := hi_cg 25 (fun k _ hk => hcl _ (by omega))
  have htf : ∀ i, i ≤ 7 → timesF r1 (26 * a) i = if 18 < hiN B (26 * a) (18 + i) then 3 else 2 := by
    intro i
    induction i with
    | zero =>
      intro _
      have := hi_le B (26 * a) 18
      rw [show 18 + 0 = 18 from rfl, if_neg (by omega)]
      rfl
    | succ i ih =>
      intro hi
      show (if r1 (26 * a + (19 + i)) ≤ 0 then timesF r1 (26 * a) i else 3) = if 18 < (if B (26 * a + (18 + i + 1)) = 0 then hiN B (26 * a) (18 + i) else 18 + i + 1) then 3 else 2
      rw [hr _ (by omega), show 19 + i = 18 + i + 1 by omega]
      have hB := hb (26 * a + (18 + i + 1)) (by omega)
      by_cases hz : B (26 * a + (18 + i + 1)) = 0
      · rw [if_pos ((nI_le0 (by omega)).mpr hz), if_pos hz, ih (by omega)]
      · rw [if_neg (fun z => hz ((nI_le0 (by omega)).mp z)), if_neg hz, if_pos (by omega)]
  have h7 := htf 7 (by omega)
  rw [show 18 + 7 = 25 from rfl] at h7
  unfold timesOf twI twN
  rw [if_neg (by decide : ¬ (1 : Int32) = 0), nI_clamp (by omega), hcl _ (by omega), hhi, hr _ (by omega), h7]
  have hB := hb (26 * a) (by omega)
  by_cases hz : B (26 * a) = 0
  · rw [if_pos ((nI_z (by omega)).mpr hz), if_neg (show ¬ 0 < B (26 * a) by omega)]
    by_cases h18 : 18 < hiN B (26 * a) 25
    · rw [if_pos h18, if_pos h18]; rfl
    · rw [if_neg h18, if_neg h18]; rfl
  · rw [if_neg (fun z => hz ((nI_z (by omega)).mp z)), if_pos (show 0 < B (26 * a) by omega)]
    rfl
end