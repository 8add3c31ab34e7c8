theorem ovr_T {m x y len g g0 : Nat} {B : Nat → Nat} (hm : m ≤ 1) (hx : 1 ≤ x ∧ x ≤ 6) (hy : 1 ≤ y ∧ y ≤ 6) (hok : okB B) (hov : overB B) (hp : plyP m x y B len g) : (wkF m x y B g0).1 = 2 * len + (if g = 0 then 0 else 1) ∧ tabS m (rchN m x y g (L0F x y) B len) (wkF m x y B g0).2.1 (wkF m x y B g0).2.2.1 (wkF m x y B g0).2.2.2.1 := by
  obtain ⟨-, h0, -, hg⟩ := hp
  have e := h0 hov
  subst e
  have eg : g = 0 := by
    rcases hg with ⟨z, -⟩ | ⟨-, z⟩
    · exact absurd z.1 (by decide)
    · exact z
  subst eg
  have C := wk_C (g := g0) hm hx hy hok
  have r0 : wkR m x y B B 0 0 := Or.inl ⟨hov, rfl, rfl, rfl⟩
  have v0 : ∀ B' w' v, wkR m x y B B' w' v → v = 0 ∧ B' = B ∧ w' = 0 := fun B' w' v z => by
    rcases z with ⟨-, e1, e2, e3⟩ | z | z
    · exact ⟨e3, e1, e2⟩
    · exact absurd hov z.1
    · exact absurd hov z.1
  refine cv_tab (M := 0) C ⟨B, 0, r0⟩ (fun B' w' v z => by have := (v0 B' w' v z).1; omega) (fun B' w' => ⟨fun z => ?_, fun z => ?_⟩)
  · obtain ⟨-, rfl, rfl⟩ := v0 _ _ _ z
    exact rcb_0 m x y B'
  · obtain ⟨L, -, rfl, rfl⟩ := z
    exact r0
