theorem run_ge {P : Int32 → Bool} {T : Nat → Int32} : ∀ f i, i ≤ runT P T f i
  | 0, i => Nat.le_refl _
  | f + 1, i => by
    unfold runT; split
    · have := run_ge (P := P) (T := T) f (i + 1); omega
    · exact Nat.le_refl _
theorem val_eq {T : Nat → Int32} {p : Nat} : ∀ f i v, p ≤ i → runT bDg T f i - p ≤ 2 → valT T p f i v = valD T p f i v
  | 0, _, _, _, _ => rfl
  | f + 1, i, v, hp, h => by
    unfold runT at h; unfold valT valD
    by_cases c : bDg (T i) = true
    · rw [if_pos c] at h ⊢
      have := run_ge (P := bDg) (T := T) f (i + 1)
      rw [if_pos c, if_neg (by omega), if_neg (by omega)]
      exact val_eq f (i + 1) _ (by omega) h
    · rw [if_neg c, if_neg c]
theorem val_100 {T : Nat → Int32} {p : Nat} : ∀ f i v, p ≤ i → 2 < runT bDg T f i - p → (i - p ≤ 2 ∨ v = 100) → valT T p f i v = 100
  | 0, i, v, hp, h, hc => by
    unfold runT at h
    exact hc.resolve_left (by omega)
  | f + 1, i, v, hp, h, hc => by
    unfold runT at h; unfold valT
    by_cases c : bDg (T i) = true
    · rw [if_pos c] at h ⊢
      refine val_100 f (i + 1) _ (by omega) h ?_
      by_cases c2 : 2 ≤ i - p
      · exact Or.inr (if_pos c2)
      · exact Or.inl (by omega)
    · rw [if_neg c] at h ⊢
      exact hc.resolve_left (by omega)
theorem wrd_0 {T : Nat → Int32} {p : Nat} : ∀ f i v, p ≤ i → 3 < runT bLt T f i - p → (i - p ≤ 3 ∨ v = 0) → wrdT T p f i v = 0
  | 0, i, v, hp, h, hc => by
    unfold runT at h
    exact hc.resolve_left (by omega)
  | f + 1, i, v, hp, h, hc => by
    unfold runT at h; unfold wrdT
    by_cases c : bLt (T i) = true
    · rw [if_pos c] at h ⊢
      refine wrd_0 f (i + 1) _ (by omega) h ?_
      by_cases c2 : 3 ≤ i - p
      · exact Or.inr (if_pos c2)
      · exact Or.inl (by omega)
    · rw [if_neg c] at h ⊢
      exact hc.resolve_left (by omega)
theorem lt_nat {x : Int32} (h : bLt x = true) : ∃ k, 97 ≤ k ∧ k ≤ 122 ∧ x = nI k := by
  have h1 := lt_iff.mp h
  obtain ⟨k, hk, rfl⟩ := nI_of2 (x := x) (M := 122) (n := 122) rfl (fun z => by grind) h1.2
  exact ⟨k, (nI_gen 97 (by omega) (by omega)).mp h1.1, hk, rfl⟩
theorem wrd_s {T : Nat → Int32} {p f i : Nat} {v : Int32} (h : bLt (T i) = true) : wrdT T p (f + 1) i v = wrdT T p f (i + 1) (if 3 ≤ i - p then 0 else 256 * v + T i) := by
  conv => lhs; unfold wrdT
  rw [if_pos h]
theorem wrd_e {T : Nat → Int32} {p f i : Nat} {v : Int32} (h : ¬ bLt (T i) = true) : wrdT T p f i v = v := by
  cases f with
  | zero => rfl
  | succ f => unfold wrdT; rw [if_neg h]
theorem run_s {P : Int32 → Bool} {T : Nat → Int32} {f i : Nat} (h : P (T i) = true) : runT P T (f + 1) i = runT P T f (i + 1) := by
  conv => lhs; unfold runT
  rw [if_pos h]
theorem run_e {P : Int32 → Bool} {T : Nat → Int32} {f i : Nat} (h : ¬ P (T i) = true) : runT P T f i = i := by
  cases f with
  | zero => rfl
  | succ f => unfold runT; rw [if_neg h]
/-- a word's code, by its letters -/
theorem wrd_c {T : Nat → Int32} {p f : Nat} (h0 : bLt (T p) = true) (hf : 1 ≤ f) : (runT bLt T f p - p = 3 ∧ ∃ a b c, T p = nI a ∧ T (p + 1) = nI b ∧ T (p + 2) = nI c ∧ 97 ≤ a ∧ a ≤ 122 ∧ 97 ≤ b ∧ b ≤ 122 ∧ 97 ≤ c ∧ c ≤ 122 ∧ wrdT T p f p 0 = nI (65536 * a + 256 * b + c)) ∨ (runT bLt T f p - p ≠ 3 ∧ ∃ k, wrdT T p f p 0 = nI k ∧ k < 65536) := by
  obtain ⟨a, a1, a2, ea⟩ := lt_nat h0
  obtain ⟨f, rfl⟩ : ∃ g, f = g + 1 := ⟨f - 1, by omega⟩
  rw [run_s h0, wrd_s h0, if_neg (by omega)]
  have v1 : 256 * (0 : Int32) + T p = nI a := by rw [ea]; grind
  rw [v1]
  have stop : ∀ g i k, (g = 0 ∨ ¬ bLt (T i) = true) → k < 65536 → i - p ≠ 3 → runT bLt T g i - p ≠ 3 ∧ ∃ k, wrdT T p g i (nI k) = nI k ∧ k < 65536 := fun g i k hg hk hi => by
    rcases hg with rfl | hg
    · exact ⟨hi, k, rfl, hk⟩
    · exact ⟨by rw [run_e hg]; exact hi, k, wrd_e hg, hk⟩
  by_cases c1 : f = 0 ∨ ¬ bLt (T (p + 1)) = true
  · right
    have := stop f (p + 1) a c1 (by omega) (by omega)
    refine ⟨this.1, a, ?_, by omega⟩
    rcases c1 with rfl | c1
    · rfl
    · exact wrd_e c1
  obtain ⟨f, rfl⟩ : ∃ g, f = g + 1 := ⟨f - 1, by omega⟩
  have h1 : bLt (T (p + 1)) = true := by by_cases z : bLt (T (p + 1)) = true; exact z; exact absurd (Or.inr z) c1
  obtain ⟨b, b1, b2, eb⟩ := lt_nat h1
  rw [run_s h1, wrd_s h1, if_neg (by omega)]
  have v2 : 256 * nI a + T (p + 1) = nI (256 * a + b) := by rw [eb, lit 256, pk_mul, nI_add]
  rw [v2]
  by_cases c2 : f = 0 ∨ ¬ bLt (T (p + 1 + 1)) = true
  · right
    have := stop f (p + 1 + 1) (256 * a + b) c2 (by omega) (by omega)
    refine ⟨this.1, 256 * a + b, ?_, by omega⟩
    rcases c2 with rfl | c2
    · rfl
    · exact wrd_e c2
  obtain ⟨f, rfl⟩ : ∃ g, f = g + 1 := ⟨f - 1, by omega⟩
  have h2 : bLt (T (p + 1 + 1)) = true := by by_cases z : bLt (T (p + 1 + 1)) = true; exact z; exact absurd (Or.inr z) c2
  obtain ⟨c, c1', c2', ec⟩ := lt_nat h2
  rw [run_s h2, wrd_s h2, if_neg (by omega)]
  have v3 : 256 * nI (256 * a + b) + T (p + 1 + 1) = nI (65536 * a + 256 * b + c) := by rw [ec, lit 256, pk_mul, nI_add]; congr 1; omega
  rw [v3]
  by_cases c3 : f = 0 ∨ ¬ bLt (T (p + 1 + 1 + 1)) = true
  · left
    have er : runT bLt T f (p + 1 + 1 + 1) = p + 3 := by
      rcases c3 with rfl | c3
      · rfl
      · exact run_e c3
    have ew : wrdT T p f (p + 1 + 1 + 1) (nI (65536 * a + 256 * b + c)) = nI (65536 * a + 256 * b + c) := by
      rcases c3 with rfl | c3
      · rfl
      · exact wrd_e c3
    exact ⟨by rw [er]; omega, a, b, c, ea, eb, ec, a1, a2, b1, b2, c1', c2', ew⟩
  · right
    obtain ⟨f, rfl⟩ : ∃ g, f = g + 1 := ⟨f - 1, by omega⟩
    have h3 : bLt (T (p + 1 + 1 + 1)) = true := by by_cases z : bLt (T (p + 1 + 1 + 1)) = true; exact z; exact absurd (Or.inr z) c3
    have hr : 3 < runT bLt T (f + 1) (p + 1 + 1 + 1) - p := by
      rw [run_s h3]
      have := run_ge (P := bLt) (T := T) f (p + 1 + 1 + 1 + 1); omega
    exact ⟨by omega, 0, wrd_0 (f + 1) (p + 1 + 1 + 1) _ (by omega) hr (Or.inl (by omega)), by omega⟩
def AtC (I : Nat → Nat → Int32) (T : Nat → Int32) (n p sz : Nat) : Prop := p ≤ n ∧ n ≤ sz ∧ sz ≤ 400 ∧ I 104 1 = nI n ∧ I 120 1 = nI sz ∧ I 104 2 = nI (tkA T n p) ∧ I 104 3 = nI p ∧ I 104 4 = nI (tkZ T n p) ∧ I 104 5 = tkK T n p ∧ I 104 6 = tkW T n p
theorem tkA_le {T : Nat → Int32} {n p : Nat} (h : p ≤ n) : p ≤ tkA T n p ∧ tkA T n p ≤ n := by
  unfold tkA
  by_cases c : n ≤ p
  · rw [if_pos c]; omega
  · rw [if_neg c]
    split
    · exact endT_b (n - p) p (Nat.le_refl _) h
    · split
      · exact endT_b (n - p) p (Nat.le_refl _) h
      · omega
theorem tkE_A {T : Nat → Int32} {n p : Nat} (h : p < n) : tkE T n p = tkA T n p := by unfold tkE tkA; rw [if_neg (show ¬ n ≤ p by omega), if_neg (show ¬ n ≤ p by omega)]
theorem ac_rd {I : Nat → Nat → Int32} {T : Nat → Int32} {n p sz : Nat} (h : AtC I T n p sz) : okRd I := ⟨n, tkA T n p, sz, (tkA_le h.1).2, h.2.1, h.2.2.1, h.2.2.2.1, h.2.2.2.2.2.1, h.2.2.2.2.1⟩
theorem ac_sz {I : Nat → Nat → Int32} {T : Nat → Int32} {n p sz : Nat} (h : AtC I T n p sz) : szO (I 120 1) := by
  have := h.2.2.1
  rw [h.2.2.2.2.1]; exact (nI_len 400 (by omega) (by omega)).mpr h.2.2.1
theorem ac_tk {I : Nat → Nat → Int32} {T : Nat → Int32} {n i sz : Nat} (h : rdP I n i sz) : AtC (tkI I T n (endT bBl T n i)) T n (endT bBl T n i) sz := by
  have hb := endT_b (P := bBl) (T := T) (n := n) (n - i) i (Nat.le_refl _) h.1
  exact ⟨hb.2, h.2.1, h.2.2.1, h.2.2.2.1, h.2.2.2.2.2, rfl, rfl, rfl, rfl, rfl⟩
theorem ac_nx {I : Nat → Nat → Int32} {T : Nat → Int32} {n p sz : Nat} (h : AtC I T n p sz) (hp : p < n) : AtC (rgI I T) T n (nxP T n p) sz := by
  have h0 := h.2.1
  have h1 := h.2.2.1
  have h2 := tkA_le (T := T) h.1
  unfold rgI nxP
  rw [h.2.2.2.1, h.2.2.2.2.2.1, nI_clamp (by omega), nI_clamp (by omega), tkE_A hp]
  exact ac_tk ⟨h2.2, h.2.1, h1, h.2.2.2.1, h.2.2.2.2.2.1, h.2.2.2.2.1⟩
theorem ac_sg {I : Nat → Nat → Int32} {T : Nat → Int32} {n p sz : Nat} (h : AtC I T n p sz) (c : Int32) : sgP I c ↔ tkS T n p = 4 ∧ tkV T n p = c := by
  unfold sgP; rw [h.2.2.2.2.2.2.2.2.1, h.2.2.2.2.2.2.2.2.2]
  unfold tkK tkW tkS tkV
  by_cases c1 : n ≤ p
  · simp only [if_pos c1]; exact ⟨fun z => absurd z.1 (by decide), fun z => absurd z.1 (by decide)⟩
  · simp only [if_neg c1]
    by_cases c2 : bDg (T p) = true
    · simp only [if_pos c2]; exact ⟨fun z => absurd z.1 (by decide), fun z => absurd z.1 (by decide)⟩
    · simp only [if_neg c2]
      by_cases c3 : bLt (T p) = true
      · simp only [if_pos c3]; exact ⟨fun z => absurd z.1 (by decide), fun z => absurd z.1 (by decide)⟩
      · simp only [if_neg c3]
        by_cases c4 : bSg (T p) = true
        · simp only [if_pos c4]
        · simp only [if_neg c4]; exact ⟨fun z => absurd z.1 (by decide), fun z => absurd z.1 (by decide)⟩
theorem ac_kn {I : Nat → Nat → Int32} {T : Nat → Int32} {n p sz : Nat} (h : AtC I T n p sz) : (I 104 5 = 1 ↔ tkS T n p = 2) ∧ (I 104 5 = 0 ↔ tkS T n p = 0) ∧ (I 104 5 = 2 ↔ tkS T n p = 3) ∧ (tkS T n p = 0 ↔ n ≤ p) := by
  rw [h.2.2.2.2.2.2.2.2.1]
  unfold tkK tkS
  by_cases c1 : n ≤ p
  · simp only [if_pos c1]; exact ⟨by decide, by decide, by decide, ⟨fun _ => c1, fun _ => trivial⟩⟩
  · simp only [if_neg c1]
    by_cases c2 : bDg (T p) = true
    · simp only [if_pos c2]; exact ⟨by decide, by decide, by decide, ⟨fun z => absurd z (by decide), fun z => absurd z c1⟩⟩
    · simp only [if_neg c2]
      by_cases c3 : bLt (T p) = true
      · simp only [if_pos c3]; exact ⟨by decide, by decide, by decide, ⟨fun z => absurd z (by decide), fun z => absurd z c1⟩⟩
      · simp only [if_neg c3]
        by_cases c4 : bSg (T p) = true
        · simp only [if_pos c4]; exact ⟨by decide, by decide, by decide, ⟨fun z => absurd z (by decide), fun z => absurd z c1⟩⟩
        · simp only [if_neg c4]; exact ⟨by decide, by decide, by decide, ⟨fun z => absurd z (by decide), fun z => absurd z c1⟩⟩
theorem ac_nu {I : Nat → Nat → Int32} {T : Nat → Int32} {n p sz : Nat} (h : AtC I T n p sz) {lo hi : Int32} (hh : hi < 100) : (nuP I lo hi ↔ tkS T n p = 2 ∧ ¬ (tkV T n p < lo ∨ hi < tkV T n p)) ∧ (nuP I lo hi → I 104 6 = tkV T n p) := by
  have kn := (ac_kn h).1
  unfold nuP
  by_cases c : tkS T n p = 2
  · have hK := kn.mpr c
    have c1 : ¬ n ≤ p := fun z => by have := ((ac_kn h).2.2.2.mpr z); rw [c] at this; exact absurd this (by decide)
    have c2 : bDg (T p) = true := by
      by_cases z : bDg (T p) = true
      · exact z
      · exfalso
        unfold tkS at c; rw [if_neg c1, if_neg z] at c
        split at c
        · exact absurd c (by decide)
        · split at c <;> exact absurd c (by decide)
    have eZ : I 104 4 = nI (runT bDg T (n - p) p - p) := by rw [h.2.2.2.2.2.2.2.1]; unfold tkZ endT; rw [if_neg c1, if_pos c2]
    have eW : I 104 6 = valD T p (n - p) p 0 := by rw [h.2.2.2.2.2.2.2.2.2]; unfold tkW; rw [if_neg c1, if_pos c2]
    have eV : tkV T n p = valT T p (n - p) p 0 := by unfold tkV; rw [if_neg c1, if_pos c2]
    have hle := (endT_b (P := bDg) (T := T) (n := n) (n - p) p (Nat.le_refl _) h.1).2
    unfold endT at hle
    have h4 := h.2.1; have h5 := h.2.2.1
    have lt2 : 2 < I 104 4 ↔ 2 < runT bDg T (n - p) p - p := by rw [eZ]; exact nI_gtn 2 (by omega) (by omega)
    by_cases c3 : 2 < runT bDg T (n - p) p - p
    · have e100 := val_100 (T := T) (p := p) (n - p) p 0 (Nat.le_refl _) c3 (Or.inl (by omega))
      exact ⟨⟨fun z => absurd (lt2.mpr c3) z.2.1, fun z => absurd (Or.inr (by rw [eV, e100]; exact hh)) z.2⟩, fun z => absurd (lt2.mpr c3) z.2.1⟩
    · have ee := val_eq (T := T) (p := p) (n - p) p 0 (Nat.le_refl _) (by omega)
      rw [eV, ee, ← eW]
      exact ⟨⟨fun z => ⟨c, fun w => w.elim z.2.2.1 (fun y => by have := z.2.2.2; grind)⟩, fun z => ⟨hK, fun w => c3 (lt2.mp w), fun w => z.2 (Or.inl w), by have := z.2; grind⟩⟩, fun _ => rfl⟩
  · exact ⟨⟨fun z => absurd (kn.mp z.1) c, fun z => absurd z.1 c⟩, fun z => absurd (kn.mp z.1) c⟩
theorem ac_wd {I : Nat → Nat → Int32} {T : Nat → Int32} {n p sz : Nat} (h : AtC I T n p sz) : (wdP I T 98 97 114 ↔ tkS T n p = 3 ∧ tkV T n p = 1) ∧ (wdP I T 111 102 102 ↔ tkS T n p = 3 ∧ tkV T n p = 2) := by
  have kn := (ac_kn h).2.2.1
  unfold wdP
  by_cases c : tkS T n p = 3
  · have hK := kn.mpr c
    have c1 : ¬ n ≤ p := fun z => by have := ((ac_kn h).2.2.2.mpr z); rw [c] at this; exact absurd this (by decide)
    have c2 : ¬ bDg (T p) = true := fun z => by unfold tkS at c; rw [if_neg c1, if_pos z] at c; exact absurd c (by decide)
    have c3 : bLt (T p) = true := by
      by_cases z : bLt (T p) = true
      · exact z
      · exfalso
        unfold tkS at c; rw [if_neg c1, if_neg c2, if_neg z] at c
        split at c <;> exact absurd c (by decide)
    have eZ : I 104 4 = nI (runT bLt T (n - p) p - p) := by rw [h.2.2.2.2.2.2.2.1]; unfold tkZ endT; rw [if_neg c1, if_neg c2, if_pos c3]
    have eV : tkV T n p = wrdC (wrdT T p (n - p) p 0) := by unfold tkV; rw [if_neg c1, if_neg c2, if_pos c3]
    have hle := (endT_b (P := bLt) (T := T) (n := n) (n - p) p (Nat.le_refl _) h.1).2
    unfold endT at hle
    have h4 := h.2.1; have h5 := h.2.2.1
    have z3 : I 104 4 = 3 ↔ runT bLt T (n - p) p - p = 3 := by rw [eZ]; exact nI_eqn 3 (by omega) (by omega)
    rcases wrd_c (T := T) (p := p) (f := n - p) c3 (by omega) with ⟨r3, a, b, cc, ea, eb, ec, a1, a2, b1, b2, c1', c2', ew⟩ | ⟨r3, k, ew, hk⟩
    · have hr : p + 2 < n := by omega
      have at0 : atI T (I 120 1) (I 104 3) = nI a := by rw [h.2.2.2.2.1, h.2.2.2.2.2.2.1, atI_in (by omega) h5, ea]
      have at1 : atI T (I 120 1) (I 104 3 + 1) = nI b := by rw [h.2.2.2.2.1, h.2.2.2.2.2.2.1, nI_1, atI_in (by omega) h5, eb]
      have at2 : atI T (I 120 1) (I 104 3 + 2) = nI cc := by rw [h.2.2.2.2.1, h.2.2.2.2.2.2.1, show nI p + (2 : Int32) = nI (p + 2) from nI_add p 2, atI_in (by omega) h5, ec]
      rw [at0, at1, at2, eV, ew]
      have q1 : ∀ x y : Nat, x < 2 ^ 31 → y < 2 ^ 31 → (nI x = nI y ↔ x = y) := fun x y hx hy => nI_eq hx hy
      have w1 : nI (65536 * a + 256 * b + cc) = 6447474 ↔ a = 98 ∧ b = 97 ∧ cc = 114 := by
        rw [show nI (65536 * a + 256 * b + cc) = 6447474 ↔ 65536 * a + 256 * b + cc = 6447474 from nI_eqn 6447474 (by omega) (by omega)]; omega
      have w2 : nI (65536 * a + 256 * b + cc) = 7300710 ↔ a = 111 ∧ b = 102 ∧ cc = 102 := by
        rw [show nI (65536 * a + 256 * b + cc) = 7300710 ↔ 65536 * a + 256 * b + cc = 7300710 from nI_eqn 7300710 (by omega) (by omega)]; omega
      have e1 : ∀ k : Nat, k < 200 → ∀ x, x ≤ 122 → (nI x = (OfNat.ofNat k : Int32) ↔ x = k) := fun k hk x hx => nI_eqn k (by omega) (by omega)
      unfold wrdC
      constructor
      · constructor
        · rintro ⟨-, -, x1, x2, x3⟩
          refine ⟨c, ?_⟩
          rw [if_pos (w1.mpr ⟨(e1 98 (by omega) a a2).mp x1, (e1 97 (by omega) b b2).mp x2, (e1 114 (by omega) cc c2').mp x3⟩)]
        · rintro ⟨-, x⟩
          have hw : nI (65536 * a + 256 * b + cc) = 6447474 := by
            by_cases z : nI (65536 * a + 256 * b + cc) = 6447474
            · exact z
            · rw [if_neg z] at x; split at x <;> exact absurd x (by decide)
          obtain ⟨rfl, rfl, rfl⟩ := w1.mp hw
          exact ⟨hK, z3.mpr r3, rfl, rfl, rfl⟩
      · constructor
        · rintro ⟨-, -, x1, x2, x3⟩
          refine ⟨c, ?_⟩
          obtain ⟨rfl, rfl, rfl⟩ : a = 111 ∧ b = 102 ∧ cc = 102 := ⟨(e1 111 (by omega) a a2).mp x1, (e1 102 (by omega) b b2).mp x2, (e1 102 (by omega) cc c2').mp x3⟩
          decide
        · rintro ⟨-, x⟩
          have hw : nI (65536 * a + 256 * b + cc) = 7300710 := by
            by_cases z : nI (65536 * a + 256 * b + cc) = 6447474
            · rw [if_pos z] at x; exact absurd x (by decide)
            · rw [if_neg z] at x
              by_cases z2 : nI (65536 * a + 256 * b + cc) = 7300710
              · exact z2
              · rw [if_neg z2] at x; exact absurd x (by decide)
          obtain ⟨rfl, rfl, rfl⟩ := w2.mp hw
          exact ⟨hK, z3.mpr r3, rfl, rfl, rfl⟩
    · have e0 : wrdC (wrdT T p (n - p) p 0) = 0 := by
        rw [ew]; unfold wrdC
        rw [if_neg (fun z => by have := (show nI k = 6447474 ↔ k = 6447474 from nI_eqn 6447474 (by omega) (by omega)).mp z; omega), if_neg (fun z => by have := (show nI k = 7300710 ↔ k = 7300710 from nI_eqn 7300710 (by omega) (by omega)).mp z; omega)]
      rw [eV, e0]
      exact ⟨⟨fun z => absurd (z3.mp z.2.1) r3, fun z => absurd z.2 (by decide)⟩, ⟨fun z => absurd (z3.mp z.2.1) r3, fun z => absurd z.2 (by decide)⟩⟩
  · exact ⟨⟨fun z => absurd (kn.mp z.1) c, fun z => absurd z.1 c⟩, ⟨fun z => absurd (kn.mp z.1) c, fun z => absurd z.1 c⟩⟩
