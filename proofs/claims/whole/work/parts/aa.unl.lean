/-! unlike dice: rows of one and of two -/
def dS (x y s : Nat) : Nat := if s = 0 then x else y
theorem Rch1_i {m x y g L w0 w : Nat} {n L0 : Nat} {B0 B : Nat → Nat} (hxy : x ≠ y) (h : Rch m x y g 1 n L0 B0 w0 L B w) : ∃ s f, s ≤ 1 ∧ 1 ≤ f ∧ f ≤ 25 ∧ L0 / 2 ^ s % 2 = 1 ∧ (g = 0 ∨ dS x y s = g) ∧ cmP B0 m f (dS x y s) ∧ L = L0 - 2 ^ s ∧ B = mvB B0 m f (dS x y s) ∧ w = w0 + (32 * f + (f - dS x y s)) * 1024 ^ (3 - n) := by
  obtain ⟨c, h1, ⟨h2, h3, h4⟩, h5, h6, h7⟩ := h
  have e : dieC x y c = dS x y (c % 2) := rfl
  rw [e] at h3 h4
  refine ⟨c % 2, 25 - c / 2, by omega, by omega, by omega, ?_, h3, h4, ?_, ?_, ?_⟩
  · unfold lfP at h2; rw [if_neg hxy] at h2; exact h2
  · rw [h5]; unfold woF; rw [if_neg hxy]
  · rw [h6]; unfold nxB; rw [e]
  · rw [h7]; unfold nxW cdC; rw [e]
theorem rc1_iff {m x y : Nat} {B0 B : Nat → Nat} {w : Nat} (hxy : x ≠ y) : rcb m x y B0 1 B w ↔ ∃ s f, s ≤ 1 ∧ 1 ≤ f ∧ f ≤ 25 ∧ cmP B0 m f (dS x y s) ∧ B = mvB B0 m f (dS x y s) ∧ w = (32 * f + (f - dS x y s)) * 1024 ^ 3 := by
  constructor
  · rintro ⟨L, h⟩
    obtain ⟨s, f, a, b, c, -, -, d, -, e1, e2⟩ := Rch1_i hxy h
    exact ⟨s, f, a, b, c, d, e1, by rw [e2, Nat.zero_add]⟩
  · rintro ⟨s, f, a, b, c, d, rfl, rfl⟩
    exact ⟨_, rcb_d1 hxy a b c d⟩
theorem rc2_iff {m x y : Nat} {B0 B : Nat → Nat} {w : Nat} (hxy : x ≠ y) : rcb m x y B0 2 B w ↔ ∃ s f k, s ≤ 1 ∧ 1 ≤ f ∧ f ≤ 25 ∧ cmP B0 m f (dS x y s) ∧ 1 ≤ k ∧ k ≤ 25 ∧ cmP (mvB B0 m f (dS x y s)) m k (dS x y (1 - s)) ∧ B = mvB (mvB B0 m f (dS x y s)) m k (dS x y (1 - s)) ∧ w = (32 * f + (f - dS x y s)) * 1024 ^ 3 + (32 * k + (k - dS x y (1 - s))) * 1024 ^ 2 := by
  have h3 : L0F x y = 3 := by unfold L0F; rw [if_neg hxy]
  have flip : ∀ s, s ≤ 1 → (if s = 0 then y else x) = dS x y (1 - s) := fun s hs => by
    unfold dS
    rcases (show s = 0 ∨ s = 1 by omega) with rfl | rfl <;> rfl
  constructor
  · rintro ⟨L, h⟩
    rw [h3] at h
    obtain ⟨c, h1, h2, h4⟩ := h
    have one : Rch m x y 0 1 0 3 B0 0 (woF x y 3 (c % 2)) (nxB m x y B0 c) (nxW x y 0 0 c) := ⟨c, h1, h2, rfl, rfl, rfl⟩
    obtain ⟨s, f, a, b, d, e0, -, e, e1, e2, e3⟩ := Rch1_i hxy one
    rw [e1, e2, e3] at h4
    obtain ⟨s2, k, a2, b2, d2, e4, -, e5, -, e6, e7⟩ := Rch1_i hxy h4
    have es : s2 = 1 - s := by
      rcases (show s = 0 ∨ s = 1 by omega) with rfl | rfl <;> rcases (show s2 = 0 ∨ s2 = 1 by omega) with rfl | rfl
      · exact absurd e4 (by decide)
      · rfl
      · rfl
      · exact absurd e4 (by decide)
    subst es
    exact ⟨s, f, k, a, b, d, e, b2, d2, e5, e6, by rw [e7, Nat.zero_add]⟩
  · rintro ⟨s, f, k, a, b, c, d, e, f1, f2, rfl, rfl⟩
    have := rcb_d2 (m := m) (B0 := B0) hxy a b c d e f1 (by rw [flip s a]; exact f2)
    rw [flip s a] at this
    exact this
