/-! two tables of one set are one table; told moves on both sides -/
theorem tab_i {m cnt cnt' : Nat} {S : (Nat → Nat) → Nat → Prop} {T T' : Nat → Nat → Nat} {W W' : Nat → Nat} (h : tabS m S cnt T W) (h' : tabS m S cnt' T' W') : ∀ i, (∀ j, j < i → j < cnt → j < cnt' → key m (T j) = key m (T' j)) → i < cnt → i < cnt' ∧ (key m (T i) = key m (T' i)) := fun i ih hi => by
  obtain ⟨a1, a2, a3⟩ := h
  obtain ⟨b1, b2, b3⟩ := h'
  obtain ⟨j, j1, j2, -⟩ := b2 _ _ (a1 i hi)
  have ji : i ≤ j := by
    rcases Nat.lt_or_ge j i with c | c
    · have := ih j c (by omega) j1; have := a3 j i c hi; omega
    · exact c
  have hi' : i < cnt' := by omega
  obtain ⟨k, k1, k2, -⟩ := a2 _ _ (b1 i hi')
  have ki : i ≤ k := by
    rcases Nat.lt_or_ge k i with c | c
    · have := ih k c k1 (by omega); have := b3 k i c hi'; omega
    · exact c
  have l1 : key m (T k) ≤ key m (T i) := by
    rcases Nat.lt_or_eq_of_le ki with c | c
    · exact Nat.le_of_lt (a3 i k c k1)
    · rw [c]; exact Nat.le_refl _
  have l2 : key m (T' j) ≤ key m (T' i) := by
    rcases Nat.lt_or_eq_of_le ji with c | c
    · exact Nat.le_of_lt (b3 i j c j1)
    · rw [c]; exact Nat.le_refl _
  exact ⟨hi', by omega⟩
theorem tab_j {m cnt cnt' : Nat} {S : (Nat → Nat) → Nat → Prop} {T T' : Nat → Nat → Nat} {W W' : Nat → Nat} (h : tabS m S cnt T W) (h' : tabS m S cnt' T' W') : ∀ i, (∀ j, j < i → j < cnt → j < cnt' → key m (T j) = key m (T' j))
  | 0 => fun j hj => by omega
  | i + 1 => fun j hj h1 h2 => (tab_i h h' j (fun k hk => tab_j h h' i k (by omega)) h1).2
theorem tab_u {m cnt cnt' : Nat} {S : (Nat → Nat) → Nat → Prop} {T T' : Nat → Nat → Nat} {W W' : Nat → Nat} (h : tabS m S cnt T W) (h' : tabS m S cnt' T' W') : cnt = cnt' ∧ ∀ i, i < cnt → key m (T i) = key m (T' i) ∧ W i = W' i := by
  have e1 : ∀ {c c' : Nat} {T T' : Nat → Nat → Nat} {W W' : Nat → Nat}, tabS m S c T W → tabS m S c' T' W' → c ≤ c' := fun {c c' T T' W W'} h h' => by
    rcases Nat.lt_or_ge c' c with z | z
    · have := (tab_i h h' c' (tab_j h h' c') z).1; omega
    · exact z
  have ec : cnt = cnt' := Nat.le_antisymm (e1 h h') (e1 h' h)
  subst ec
  have ek : ∀ i, i < cnt → key m (T i) = key m (T' i) := fun i hi => tab_j h h' (i + 1) i (by omega) hi hi
  have ew : ∀ {T T' : Nat → Nat → Nat} {W W' : Nat → Nat}, tabS m S cnt T W → tabS m S cnt T' W' → (∀ i, i < cnt → key m (T i) = key m (T' i)) → ∀ i, i < cnt → W i ≤ W' i := fun {T T' W W'} h h' ek i hi => by
    obtain ⟨j, j1, j2, j3⟩ := h'.2.1 _ _ (h.1 i hi)
    rw [ek i hi] at j2
    have : i = j := by
      rcases Nat.lt_trichotomy i j with c | c | c
      · have := h'.2.2 i j c j1; omega
      · exact c
      · have := h'.2.2 j i c hi; omega
    subst this; exact j3
  exact ⟨rfl, fun i hi => ⟨ek i hi, Nat.le_antisymm (ew h h' ek i hi) (ew h' h (fun i hi => (ek i hi).symm) i hi)⟩⟩
theorem dk_S {x y first k : Nat} (hf : first ≤ 1) : dkN (dS x y first) (dS x y (1 - first)) k = dieS x y first k := by
  unfold dkN dS dieS
  by_cases c : x = y
  · subst c; rw [if_pos rfl]; repeat (first | rfl | split)
  · rw [if_neg c]
    by_cases z : k = 0
    · rw [if_pos z, if_pos z]
    · rw [if_neg z, if_neg z]
theorem nb_S {m x y first : Nat} {fr : Nat → Nat} {B0 : Nat → Nat} (hf : first ≤ 1) : ∀ k, nbB m (dS x y first) (dS x y (1 - first)) fr B0 k = sbd m x y first fr B0 k
  | 0 => rfl
  | k + 1 => by show mvB _ _ _ _ = mvB _ _ _ _; rw [nb_S hf k, dk_S hf]
theorem gM_S {m x y len g first : Nat} {mv : MV} {B0 : Nat → Nat} (hxy : x ≤ y) (hx : 1 ≤ x) (hmv : ∀ k, k < mv.1 → mv.2.1 k ≤ 25) (hf : first ≤ 1) (hp : plyP m x y B0 len g) : goodM m (dS x y first) (dS x y (1 - first)) mv B0 (2 * len + (if g = 0 then 0 else 1)) ↔ mv.1 = len ∧ allS m x y g first mv B0 := by
  have ok : ∀ k, okM m (dS x y first) (dS x y (1 - first)) mv B0 k ↔ mv.2.1 k ≠ 0 ∧ cmP (sbd m x y first mv.2.1 B0 k) m (mv.2.1 k) (dieS x y first k) ∧ mv.2.2.1 k = mv.2.1 k - dieS x y first k := fun k => by
    unfold okM; rw [nb_S hf k, dk_S hf]
    constructor
    · rintro ⟨a, b, c⟩; exact ⟨by omega, c, a⟩
    · rintro ⟨a, b, c⟩; exact ⟨c, by omega, b⟩
  obtain ⟨l4, hov, hmx, hg⟩ := hp
  by_cases c : x = y
  · subst c
    have eg : g = 0 := by
      rcases hg with ⟨z, -⟩ | ⟨-, z⟩
      · exact absurd rfl z.2.1
      · exact z
    subst eg
    have ed : ∀ s, dS x x s = x := fun s => by unfold dS; split <;> rfl
    unfold goodM allS sOK
    rw [if_pos rfl]
    constructor
    · rintro ⟨a, b, e⟩
      rw [ed, ed, if_neg (by omega)] at e
      exact ⟨by omega, fun k hk => ⟨Or.inl rfl, (ok k).mp (b k hk)⟩⟩
    · rintro ⟨a, b⟩
      refine ⟨by rw [ed, ed, if_pos rfl]; omega, fun k hk => (ok k).mpr (b k hk).2, ?_⟩
      rw [ed, ed, if_neg (by omega)]; omega
  · have l2 : len ≤ 2 := by
      by_cases o : overB B0
      · have := hov o; omega
      · obtain ⟨-, Bl, wl, hl⟩ := hmx o
        exact rcb_2 c hl
    have nd : dS x y first ≠ dS x y (1 - first) := by
      rcases (show first = 0 ∨ first = 1 by omega) with rfl | rfl
      · exact c
      · exact Ne.symm c
    have lt : dS x y (1 - first) < dS x y first ↔ first = 1 := by
      rcases (show first = 0 ∨ first = 1 by omega) with rfl | rfl
      · show y < x ↔ _; omega
      · show x < y ↔ _; omega
    unfold goodM allS sOK
    rw [if_neg nd]
    rcases hg with ⟨hg, rfl⟩ | ⟨hg, rfl⟩
    · rw [if_neg (show ¬ g = 0 by omega)]
      obtain ⟨rfl, -, -⟩ := hg
      constructor
      · rintro ⟨a, b, e⟩
        by_cases z : mv.1 = 1 ∧ dS x g (1 - first) < dS x g first
        · refine ⟨z.1, fun k hk => ⟨Or.inr ?_, (ok k).mp (b k hk)⟩⟩
          have : k = 0 := by omega
          subst this
          rw [lt.mp z.2]; unfold dieS; rw [if_neg c]; rfl
        · rw [if_neg z] at e; omega
      · rintro ⟨a, b⟩
        refine ⟨by omega, fun k hk => (ok k).mpr (b k hk).2, ?_⟩
        have f1 : first = 1 := by
          rcases (show first = 0 ∨ first = 1 by omega) with rfl | rfl
          · have := (b 0 (by omega)).1
            rcases this with z | z
            · omega
            · unfold dieS at z; rw [if_neg c] at z; exact absurd z c
          · rfl
        rw [if_pos ⟨a, lt.mpr f1⟩, a]
    · rw [if_pos rfl]
      constructor
      · rintro ⟨a, b, e⟩
        by_cases z : mv.1 = 1 ∧ dS x y (1 - first) < dS x y first
        · rw [if_pos z] at e; omega
        · rw [if_neg z] at e; exact ⟨by omega, fun k hk => ⟨Or.inl rfl, (ok k).mp (b k hk)⟩⟩
      · rintro ⟨a, b⟩
        refine ⟨by omega, fun k hk => (ok k).mpr (b k hk).2, ?_⟩
        rw [if_neg ?_, a]
        rintro ⟨z1, z2⟩
        have z3 := lt.mp z2
        subst z3
        have q := (b 0 (by omega)).2
        have ed : dieS x y 1 0 = y := by unfold dieS; rw [if_neg c]; rfl
        rw [ed] at q
        exact hg ⟨by omega, c, mv.2.1 0, by have := q.1; omega, hmv 0 (by omega), q.2.1⟩
/-- moves that both orders allow bear off: the orders come to one board, and hit nothing -/
theorem mv_off {B : Nat → Nat} {m p x y : Nat} (h : p - x = p - y) (hxy : x ≠ y) : mvB B m p x = mvB B m p y ∧ ¬ hitP B m p x ∧ ¬ hitP B m p y := by
  have h1 : ¬ x < p := by omega
  have h2 : ¬ y < p := by omega
  refine ⟨?_, fun z => h1 z.1, fun z => h2 z.1⟩
  unfold mvB
  rw [if_neg (fun z => h1 z.1), if_neg (fun z => h2 z.1)]
  unfold mv1
  rw [h]
theorem die_f {x y k : Nat} (c : x ≠ y) : dieS x y 0 k ≠ dieS x y 1 k := by
  unfold dieS; rw [if_neg c, if_neg c]
  by_cases z : k = 0
  · rw [if_pos z, if_pos z]; exact c
  · rw [if_neg z, if_neg z]; exact Ne.symm c
theorem both_S {m x y g : Nat} {mv : MV} {B0 : Nat → Nat} (h0 : allS m x y g 0 mv B0) (h1 : allS m x y g 1 mv B0) : (∀ k, k ≤ mv.1 → sbd m x y 0 mv.2.1 B0 k = sbd m x y 1 mv.2.1 B0 k) ∧ (∀ k, k < mv.1 → (hitP (sbd m x y 0 mv.2.1 B0 k) m (mv.2.1 k) (dieS x y 0 k) ↔ hitP (sbd m x y 1 mv.2.1 B0 k) m (mv.2.1 k) (dieS x y 1 k))) := by
  by_cases c : x = y
  · subst c
    have ed : ∀ s k, dieS x x s k = x := fun s k => by unfold dieS; rw [if_pos rfl]
    have e : ∀ k, sbd m x x 0 mv.2.1 B0 k = sbd m x x 1 mv.2.1 B0 k := fun k => by
      induction k with
      | zero => rfl
      | succ k ih => show mvB _ _ _ _ = mvB _ _ _ _; rw [ih, ed, ed]
    exact ⟨fun k _ => e k, fun k _ => by rw [e k, ed, ed]⟩
  · have q : ∀ k, k < mv.1 → mv.2.1 k - dieS x y 0 k = mv.2.1 k - dieS x y 1 k := fun k hk => by rw [← (h0 k hk).2.2.2, ← (h1 k hk).2.2.2]
    have e : ∀ k, k ≤ mv.1 → sbd m x y 0 mv.2.1 B0 k = sbd m x y 1 mv.2.1 B0 k := fun k => by
      induction k with
      | zero => exact fun _ => rfl
      | succ k ih =>
        intro hk
        show mvB _ _ _ _ = mvB _ _ _ _
        rw [ih (by omega)]
        exact (mv_off (q k (by omega)) (die_f c)).1
    exact ⟨e, fun k hk => ⟨fun z => absurd z (mv_off (q k hk) (die_f c)).2.1, fun z => absurd z (mv_off (B := sbd m x y 1 mv.2.1 B0 k) (q k hk) (die_f c)).2.2⟩⟩
