theorem rch1_g {m x y g : Nat} {B0 B : Nat → Nat} {w : Nat} (hxy : x ≠ y) : rchN m x y g (L0F x y) B0 1 B w ↔ ∃ s f, s ≤ 1 ∧ 1 ≤ f ∧ f ≤ 25 ∧ (g = 0 ∨ dS x y s = g) ∧ cmP B0 m f (dS x y s) ∧ B = mvB B0 m f (dS x y s) ∧ w = (32 * f + (f - dS x y s)) * 1024 ^ 3 := by
  have h3 : L0F x y = 3 := by unfold L0F; rw [if_neg hxy]
  constructor
  · rintro ⟨L, h⟩
    obtain ⟨s, f, a, b, c, -, z, d, -, e1, e2⟩ := Rch1_i hxy h
    exact ⟨s, f, a, b, c, z, d, e1, by rw [e2, Nat.zero_add]⟩
  · rintro ⟨s, f, hs, h1, h2, hg, hc, rfl, rfl⟩
    have e1 : 25 - (2 * (25 - f) + s) / 2 = f := by omega
    have e4 : (2 * (25 - f) + s) % 2 = s := by omega
    have e2 : dieC x y (2 * (25 - f) + s) = dS x y s := by unfold dieC; rw [e4]; rfl
    rw [h3]
    refine ⟨woF x y 3 ((2 * (25 - f) + s) % 2), 2 * (25 - f) + s, by omega, ⟨?_, by rw [e2]; exact hg, by rw [e1, e2]; exact hc⟩, rfl, ?_, ?_⟩
    · rw [e4]; unfold lfP; rw [if_neg hxy]
      rcases (show s = 0 ∨ s = 1 by omega) with rfl | rfl <;> decide
    · unfold nxB; rw [e1, e2]
    · unfold nxW cdC; rw [e1, e2, Nat.zero_add]
theorem unl_T {m x y len g g0 : Nat} {B : Nat → Nat} (hm : m ≤ 1) (hx : 1 ≤ x ∧ x ≤ 6) (hy : 1 ≤ y ∧ y ≤ 6) (hok : okB B) (hxy : x < y) (hov : ¬ overB B) (hp : plyP m x y B len g) : (wkF m x y B g0).1 = 2 * len + (if g = 0 then 0 else 1) ∧ tabS m (rchN m x y g (L0F x y) B len) (wkF m x y B g0).2.1 (wkF m x y B g0).2.2.1 (wkF m x y B g0).2.2.2.1 := by
  have hne : x ≠ y := by omega
  have hR : ∀ B' w' v, wkR m x y B B' w' v ↔ gobR m y x B B' w' v ∨ gobR m x y B B' w' v := fun B' w' v => ⟨fun z => by
    rcases z with z | z | z
    · exact absurd z.1 hov
    · exact absurd z.2.1 hne
    · exact z.2.2, fun z => Or.inr (Or.inr ⟨hov, hne, z⟩)⟩
  obtain ⟨-, -, hmax, hg⟩ := hp
  obtain ⟨hle, Bl, wl, hl⟩ := hmax hov
  have hl : rcb m x y B len Bl wl := hl
  have hle : ∀ d B' w', rcb m x y B d B' w' → d ≤ len := hle
  have l2 := rcb_2 hne hl
  have C := wk_C (g := g0) hm hx hy hok
  have v4 : ∀ B' w' v, wkR m x y B B' w' v → v = 4 ∨ v = 3 ∨ v = 2 ∨ v = 0 := fun B' w' v z => by
    rcases (hR B' w' v).mp z with z | z <;> rcases gob_i.mp z with ⟨e, -⟩ | ⟨e, -⟩ | ⟨e, -⟩ <;> (try split at e) <;> omega
  rcases (show len = 2 ∨ len = 1 ∨ len = 0 by omega) with rfl | rfl | rfl
  · have eg : g = 0 := by
      rcases hg with ⟨z, -⟩ | ⟨-, z⟩
      · exact absurd z.1 (by decide)
      · exact z
    subst eg
    exact cv_tab C ⟨Bl, wl, (wk_4 hxy hov).mpr hl⟩ (fun B' w' v z => by have := v4 B' w' v z; omega) (fun B' w' => wk_4 hxy hov)
  · have no2 : ∀ B' w', ¬ rcb m x y B 2 B' w' := fun B' w' z => by have := hle 2 B' w' z; omega
    have nk : ∀ s f, s ≤ 1 → 1 ≤ f → f ≤ 25 → cmP B m f (dS x y s) → ¬ ∃ k, 1 ≤ k ∧ k ≤ 25 ∧ cmP (mvB B m f (dS x y s)) m k (dS x y (1 - s)) := fun s f hs f1 f2 hc ⟨k, k1, k2, hk⟩ => no2 _ _ ((rc2_iff hne).mpr ⟨s, f, k, hs, f1, f2, hc, k1, k2, hk, rfl, rfl⟩)
    have v3 : ∀ B' w' v, wkR m x y B B' w' v → v ≤ 3 := fun B' w' v z => by
      have := v4 B' w' v z
      have : v ≠ 4 := fun e => no2 B' w' ((wk_4 hxy hov).mp (e ▸ z))
      omega
    by_cases c : ∃ f, 1 ≤ f ∧ f ≤ 25 ∧ cmP B m f y
    · have eg : g = y := by
        rcases hg with ⟨-, z⟩ | ⟨z, -⟩
        · exact z
        · exact absurd ⟨rfl, hne, c⟩ z
      subst eg
      rw [if_neg (by omega)]
      obtain ⟨f, f1, f2, fc⟩ := c
      refine cv_tab (M := 3) C ⟨mvB B m f g, (32 * f + (f - g)) * 1024 ^ 3, (hR _ _ _).mpr (Or.inl (gob_i.mpr (Or.inr (Or.inl ⟨by rw [if_pos hxy], f, f1, f2, fc, nk 1 f (by omega) f1 f2 fc, rfl, rfl⟩))))⟩ v3 (fun B' w' => ?_)
      rw [rch1_g hne]
      constructor
      · intro z
        rcases (hR _ _ _).mp z with z | z <;> rcases gob_i.mp z with ⟨e, -⟩ | ⟨e, f, f1, f2, f3, -, e1, e2⟩ | ⟨e, -⟩
        · omega
        · exact ⟨1, f, by omega, f1, f2, Or.inr rfl, f3, e1, e2⟩
        · omega
        · omega
        · rw [if_neg (by omega)] at e; omega
        · omega
      · rintro ⟨s, f, hs, f1, f2, hz, f3, e1, e2⟩
        have es : s = 1 := by
          rcases (show s = 0 ∨ s = 1 by omega) with rfl | rfl
          · rcases hz with z | z
            · omega
            · exact absurd z hne
          · rfl
        subst es
        exact (hR _ _ _).mpr (Or.inl (gob_i.mpr (Or.inr (Or.inl ⟨by rw [if_pos hxy], f, f1, f2, f3, nk 1 f (by omega) f1 f2 f3, e1, e2⟩))))
    · have eg : g = 0 := by
        rcases hg with ⟨z, -⟩ | ⟨-, z⟩
        · exact absurd z.2.2 c
        · exact z
      subst eg
      rw [if_pos rfl]
      have v2 : ∀ B' w' v, wkR m x y B B' w' v → v ≤ 2 := fun B' w' v z => by
        have h3 := v3 B' w' v z
        rcases (hR _ _ _).mp z with z | z <;> rcases gob_i.mp z with ⟨e, -⟩ | ⟨e, f, f1, f2, f3, -⟩ | ⟨e, -⟩
        · omega
        · exact absurd ⟨f, f1, f2, f3⟩ c
        · omega
        · omega
        · rw [if_neg (by omega)] at e; omega
        · omega
      have one : ∀ B' w', wkR m x y B B' w' 2 ↔ rchN m x y 0 (L0F x y) B 1 B' w' := fun B' w' => by
        rw [rch1_g hne]
        constructor
        · intro z
          rcases (hR _ _ _).mp z with z | z <;> rcases gob_i.mp z with ⟨e, -⟩ | ⟨e, f, f1, f2, f3, -, e1, e2⟩ | ⟨e, -⟩
          · omega
          · exact absurd ⟨f, f1, f2, f3⟩ c
          · omega
          · omega
          · exact ⟨0, f, by omega, f1, f2, Or.inl rfl, f3, e1, e2⟩
          · omega
        · rintro ⟨s, f, hs, f1, f2, -, f3, e1, e2⟩
          have es : s = 0 := by
            rcases (show s = 0 ∨ s = 1 by omega) with rfl | rfl
            · rfl
            · exact absurd ⟨f, f1, f2, f3⟩ c
          subst es
          exact (hR _ _ _).mpr (Or.inr (gob_i.mpr (Or.inr (Or.inl ⟨by rw [if_neg (by omega)], f, f1, f2, f3, nk 0 f (by omega) f1 f2 f3, e1, e2⟩))))
      exact cv_tab (M := 2) C ⟨Bl, wl, (one _ _).mpr hl⟩ v2 one
  · have eg : g = 0 := by
      rcases hg with ⟨z, -⟩ | ⟨-, z⟩
      · exact absurd z.1 (by decide)
      · exact z
    subst eg
    have no1 : ∀ s f, s ≤ 1 → 1 ≤ f → f ≤ 25 → ¬ cmP B m f (dS x y s) := fun s f hs f1 f2 hc => by
      have := hle 1 _ _ ((rc1_iff hne).mpr ⟨s, f, hs, f1, f2, hc, rfl, rfl⟩); omega
    have v0 : ∀ B' w' v, wkR m x y B B' w' v → v = 0 ∧ B' = B ∧ w' = 0 := fun B' w' v z => by
      rcases (hR _ _ _).mp z with z | z <;> rcases gob_i.mp z with ⟨e, f, k, f1, f2, f3, -⟩ | ⟨e, f, f1, f2, f3, -⟩ | ⟨e, -, e1, e2⟩
      · exact absurd f3 (no1 1 f (by omega) f1 f2)
      · exact absurd f3 (no1 1 f (by omega) f1 f2)
      · exact ⟨e, e1, e2⟩
      · exact absurd f3 (no1 0 f (by omega) f1 f2)
      · exact absurd f3 (no1 0 f (by omega) f1 f2)
      · exact ⟨e, e1, e2⟩
    have r0 : wkR m x y B B 0 0 := (hR _ _ _).mpr (Or.inl (gob_i.mpr (Or.inr (Or.inr ⟨rfl, fun ⟨f, f1, f2, f3⟩ => no1 1 f (by omega) f1 f2 f3, rfl, rfl⟩))))
    refine cv_tab (M := 0) C ⟨B, 0, r0⟩ (fun B' w' v z => by have := (v0 B' w' v z).1; omega) (fun B' w' => ⟨fun z => ?_, fun z => ?_⟩)
    · obtain ⟨-, rfl, rfl⟩ := v0 _ _ _ z
      exact rcb_0 m x y B'
    · obtain ⟨L, -, rfl, rfl⟩ := z
      exact r0
