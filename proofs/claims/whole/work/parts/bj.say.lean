/-! say -/
theorem gS_h {m x y f : Nat} {mv : MV} {B : Nat → Nat} {R : Nat → Int32} (hf : f ≤ 1) (hR : ∀ k, k < mv.1 → R k = if mv.2.2.2 k = true then 1 else 0) : (∀ k, k < mv.1 → R k = htN m (dS x y f) (dS x y (1 - f)) mv B k) ↔ goodS m x y f mv B := by
  have key : ∀ k, k < mv.1 → (R k = htN m (dS x y f) (dS x y (1 - f)) mv B k ↔ (hitP (sbd m x y f mv.2.1 B k) m (mv.2.1 k) (dieS x y f k) ↔ mv.2.2.2 k = true)) := by
    intro k hk
    rw [hR k hk]
    unfold htN
    rw [nb_S hf, dk_S hf]
    by_cases h1 : hitP (sbd m x y f mv.2.1 B k) m (mv.2.1 k) (dieS x y f k)
    · rw [if_pos h1]
      by_cases h2 : mv.2.2.2 k = true
      · rw [if_pos h2]; exact ⟨fun _ => ⟨fun _ => h2, fun _ => h1⟩, fun _ => rfl⟩
      · rw [if_neg h2]; exact ⟨fun z => absurd z (by decide), fun z => absurd (z.mp h1) h2⟩
    · rw [if_neg h1]
      by_cases h2 : mv.2.2.2 k = true
      · rw [if_pos h2]; exact ⟨fun z => absurd z (by decide), fun z => absurd (z.mpr h2) h1⟩
      · rw [if_neg h2]; exact ⟨fun _ => ⟨fun z => absurd z h1, fun z => absurd z h2⟩, fun _ => rfl⟩
  unfold goodS
  exact ⟨fun h k hk => (key k hk).mp (h k hk), fun h k hk => (key k hk).mpr (h k hk)⟩
theorem say_t {m x y len g0 cnt n a b wt : Nat} {B : Nat → Nat} {mv : MV} {T T' : Nat → Nat → Nat} {v s8 f42 rv : Int32} {R : Nat → Int32}
    (hx : 1 ≤ x) (hxy : x ≤ y) (hab : (a = x ∧ b = y) ∨ (a = y ∧ b = x)) (hmv : ∀ k, k < mv.1 → mv.2.1 k ≤ 25) (hp : plyP m x y B len g0) (hwt : wt = 2 * len + (if g0 = 0 then 0 else 1)) (hcnt : cnt ≤ 3072) (hk : ∀ i, i < cnt → key m (T i) = key m (T' i)) (hsrt : ∀ i j, i < j → j < cnt → key m (T' j) < key m (T' i)) (hR : ∀ k, k < mv.1 → R k = if mv.2.2.2 k = true then 1 else 0)
    (n1 : ¬ goodM m a b mv B wt → (a = b ∨ ¬ goodM m b a mv B wt) → v = -1)
    (n2 : goodM m a b mv B wt → v = nI (pN m cnt T (key m (nbB m a b mv.2.1 B mv.1))) ∧ s8 = @ite Int32 (∀ k, k < mv.1 → R k = htN m a b mv B k) (Classical.propDecidable _) 1 0)
    (n3 : ¬ goodM m a b mv B wt → a ≠ b → goodM m b a mv B wt → v = nI (pN m cnt T (key m (nbB m b a mv.2.1 B mv.1))) ∧ s8 = @ite Int32 (∀ k, k < mv.1 → R k = htN m b a mv B k) (Classical.propDecidable _) 1 0)
    (hr : (¬ (mv.1 = len ∧ (allS m x y g0 0 mv B ∨ allS m x y g0 1 mv B)) ∧ rv = -4 ∧ f42 = nI n) ∨ (∃ first, first ≤ 1 ∧ mv.1 = len ∧ allS m x y g0 first mv B ∧ ((¬ goodS m x y first mv B ∧ rv = -5 ∧ f42 = nI n) ∨ (goodS m x y first mv B ∧ f42 = -1 ∧ ∃ k, rv = nI k ∧ k ≤ cnt ∧ (∀ i, i < k → key m (sbd m x y first mv.2.1 B mv.1) < key m (T' i)) ∧ (∀ i, k ≤ i → i < cnt → key m (T' i) ≤ key m (sbd m x y first mv.2.1 B mv.1)))))) :
    (v = -1 ∧ rv = -4 ∧ f42 = nI n) ∨ (¬ v = -1 ∧ s8 = 0 ∧ rv = -5 ∧ f42 = nI n) ∨ (¬ v = -1 ∧ ¬ s8 = 0 ∧ rv = v ∧ f42 = -1) := by
  subst hwt
  have hG : ∀ f, f ≤ 1 → (goodM m (dS x y f) (dS x y (1 - f)) mv B (2 * len + (if g0 = 0 then 0 else 1)) ↔ mv.1 = len ∧ allS m x y g0 f mv B) := fun f hf => gM_S hxy hx hmv hf hp
  -- by a choice of the class's
  have one : ∀ fc, fc ≤ 1 → mv.1 = len → allS m x y g0 fc mv B → v = nI (pN m cnt T (key m (nbB m (dS x y fc) (dS x y (1 - fc)) mv.2.1 B mv.1))) → s8 = @ite Int32 (∀ k, k < mv.1 → R k = htN m (dS x y fc) (dS x y (1 - fc)) mv B k) (Classical.propDecidable _) 1 0 → ((¬ v = -1 ∧ s8 = 0 ∧ rv = -5 ∧ f42 = nI n) ∨ (¬ v = -1 ∧ ¬ s8 = 0 ∧ rv = v ∧ f42 = -1)) := by
    intro fc hfc hl hall hv hs8
    have hvn : ¬ v = -1 := by
      rw [hv]
      exact nI_nm (by have := pN_le m cnt T (key m (nbB m (dS x y fc) (dS x y (1 - fc)) mv.2.1 B mv.1)); omega)
    rw [nb_S hfc] at hv
    have hgs := gS_h (m := m) (x := x) (y := y) (B := B) hfc hR
    rcases hr with ⟨hno, -⟩ | ⟨first, hf, -, hallf, hr⟩
    · exact absurd ⟨hl, (by omega : fc = 0 ∨ fc = 1).elim (fun e => Or.inl (e ▸ hall)) (fun e => Or.inr (e ▸ hall))⟩ hno
    · have same : sbd m x y fc mv.2.1 B mv.1 = sbd m x y first mv.2.1 B mv.1 ∧ (goodS m x y fc mv B ↔ goodS m x y first mv B) := by
        by_cases e : fc = first
        · subst e; exact ⟨rfl, Iff.rfl⟩
        · rcases (by omega : (fc = 0 ∧ first = 1) ∨ (fc = 1 ∧ first = 0)) with ⟨rfl, rfl⟩ | ⟨rfl, rfl⟩
          · obtain ⟨b1, b2⟩ := both_S hall hallf
            refine ⟨b1 _ (Nat.le_refl _), ?_⟩
            unfold goodS
            exact ⟨fun h k hk => (b2 k hk).symm.trans (h k hk), fun h k hk => (b2 k hk).trans (h k hk)⟩
          · obtain ⟨b1, b2⟩ := both_S hallf hall
            refine ⟨(b1 _ (Nat.le_refl _)).symm, ?_⟩
            unfold goodS
            exact ⟨fun h k hk => (b2 k hk).trans (h k hk), fun h k hk => (b2 k hk).symm.trans (h k hk)⟩
      rcases hr with ⟨hng, hrv, h42⟩ | ⟨hg, h42, k, hrv, hkc, hlo, hhi⟩
      · refine Or.inl ⟨hvn, ?_, hrv, h42⟩
        rw [hs8, if_neg (fun z => hng (same.2.mp (hgs.mp z)))]
      · refine Or.inr ⟨hvn, ?_, ?_, h42⟩
        · rw [hs8, if_pos (hgs.mpr (same.2.mpr hg))]; decide
        · rw [hrv, hv, same.1]
          congr 1
          refine (pN_is ⟨hkc, fun i hi => ?_, fun i h1 h2 => ?_, fun h => ?_⟩).symm
          · rw [hk i (by omega)]; exact hlo i hi
          · rw [hk i h2]
            exact Nat.lt_of_lt_of_le (hsrt k i h1 h2) (hhi k (Nat.le_refl _) (by omega))
          · rw [hk k h]; exact hhi k (Nat.le_refl _) h
  obtain ⟨f1, hf1, rfl, rfl⟩ : ∃ f1, f1 ≤ 1 ∧ a = dS x y f1 ∧ b = dS x y (1 - f1) := by
    rcases hab with ⟨rfl, rfl⟩ | ⟨rfl, rfl⟩
    · exact ⟨0, by omega, rfl, rfl⟩
    · exact ⟨1, by omega, rfl, rfl⟩
  have e11 : 1 - (1 - f1) = f1 := by omega
  have hG1 := hG f1 hf1
  have hG2 := hG (1 - f1) (by omega)
  rw [e11] at hG2
  by_cases g1 : goodM m (dS x y f1) (dS x y (1 - f1)) mv B (2 * len + (if g0 = 0 then 0 else 1))
  · obtain ⟨z1, z2⟩ := n2 g1
    obtain ⟨y1, y2⟩ := hG1.mp g1
    exact Or.inr (one f1 hf1 y1 y2 z1 z2)
  · by_cases g2 : dS x y f1 ≠ dS x y (1 - f1) ∧ goodM m (dS x y (1 - f1)) (dS x y f1) mv B (2 * len + (if g0 = 0 then 0 else 1))
    · obtain ⟨z1, z2⟩ := n3 g1 g2.1 g2.2
      obtain ⟨y1, y2⟩ := hG2.mp g2.2
      have := one (1 - f1) (by omega) y1 y2
      rw [e11] at this
      exact Or.inr (this z1 z2)
    · have hv := n1 g1 (by
        by_cases e : dS x y f1 = dS x y (1 - f1)
        · exact Or.inl e
        · exact Or.inr (fun z => g2 ⟨e, z⟩))
      rcases hr with ⟨-, hrv, h42⟩ | ⟨first, hf, hl, hallf, -⟩
      · exact Or.inl ⟨hv, hrv, h42⟩
      · exfalso
        by_cases ef : first = f1
        · subst ef; exact g1 (hG1.mpr ⟨hl, hallf⟩)
        · have : first = 1 - f1 := by omega
          subst this
          have z := hG2.mpr ⟨hl, hallf⟩
          by_cases e : dS x y f1 = dS x y (1 - f1)
          · rw [← e] at z g1
            exact g1 z
          · exact g2 ⟨e, z⟩