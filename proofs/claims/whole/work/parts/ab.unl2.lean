theorem gob_i {m d e v w' : Nat} {B B' : Nat → Nat} : gobR m d e B B' w' v ↔ (v = 4 ∧ ∃ f k, 1 ≤ f ∧ f ≤ 25 ∧ cmP B m f d ∧ 1 ≤ k ∧ k ≤ 25 ∧ cmP (mvB B m f d) m k e ∧ B' = mvB (mvB B m f d) m k e ∧ w' = (32 * f + (f - d)) * 1024 ^ 3 + (32 * k + (k - e)) * 1024 ^ 2) ∨ (v = (if e < d then 3 else 2) ∧ ∃ f, 1 ≤ f ∧ f ≤ 25 ∧ cmP B m f d ∧ (¬ ∃ k, 1 ≤ k ∧ k ≤ 25 ∧ cmP (mvB B m f d) m k e) ∧ B' = mvB B m f d ∧ w' = (32 * f + (f - d)) * 1024 ^ 3) ∨ (v = 0 ∧ (¬ ∃ f, 1 ≤ f ∧ f ≤ 25 ∧ cmP B m f d) ∧ B' = B ∧ w' = 0) := by
  constructor
  · rintro (⟨f, f1, f2, f3, ⟨k, k1, k2, k3, e1, e2, e3⟩ | ⟨hn, e1, e2, e3⟩⟩ | ⟨hn, e1, e2, e3⟩)
    · exact Or.inl ⟨e3, f, k, f1, f2, f3, k1, k2, k3, e1, e2⟩
    · exact Or.inr (Or.inl ⟨e3, f, f1, f2, f3, hn, e1, e2⟩)
    · exact Or.inr (Or.inr ⟨e3, hn, e1, e2⟩)
  · rintro (⟨e3, f, k, f1, f2, f3, k1, k2, k3, e1, e2⟩ | ⟨e3, f, f1, f2, f3, hn, e1, e2⟩ | ⟨e3, hn, e1, e2⟩)
    · exact Or.inl ⟨f, f1, f2, f3, Or.inl ⟨k, k1, k2, k3, e1, e2, e3⟩⟩
    · exact Or.inl ⟨f, f1, f2, f3, Or.inr ⟨hn, e1, e2, e3⟩⟩
    · exact Or.inr ⟨hn, e1, e2, e3⟩
/-- what is recorded of weight 4 is what two moves come to -/
theorem wk_4 {m x y w' : Nat} {B B' : Nat → Nat} (hxy : x < y) (hov : ¬ overB B) : wkR m x y B B' w' 4 ↔ rcb m x y B 2 B' w' := by
  have hne : x ≠ y := by omega
  rw [rc2_iff hne]
  constructor
  · rintro (⟨z, -⟩ | ⟨-, z, -⟩ | ⟨-, -, h | h⟩)
    · exact absurd z hov
    · exact absurd z hne
    · rcases gob_i.mp h with ⟨-, f, k, f1, f2, f3, k1, k2, k3, e1, e2⟩ | ⟨e, -⟩ | ⟨e, -⟩
      · exact ⟨1, f, k, by omega, f1, f2, f3, k1, k2, k3, e1, e2⟩
      · split at e <;> omega
      · omega
    · rcases gob_i.mp h with ⟨-, f, k, f1, f2, f3, k1, k2, k3, e1, e2⟩ | ⟨e, -⟩ | ⟨e, -⟩
      · exact ⟨0, f, k, by omega, f1, f2, f3, k1, k2, k3, e1, e2⟩
      · split at e <;> omega
      · omega
  · rintro ⟨s, f, k, hs, f1, f2, f3, k1, k2, k3, e1, e2⟩
    rcases (show s = 0 ∨ s = 1 by omega) with rfl | rfl
    · exact Or.inr (Or.inr ⟨hov, hne, Or.inr (gob_i.mpr (Or.inl ⟨rfl, f, k, f1, f2, f3, k1, k2, k3, e1, e2⟩))⟩)
    · exact Or.inr (Or.inr ⟨hov, hne, Or.inl (gob_i.mpr (Or.inl ⟨rfl, f, k, f1, f2, f3, k1, k2, k3, e1, e2⟩))⟩)
