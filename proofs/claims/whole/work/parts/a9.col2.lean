def gonR (m d : Nat) (B : Nat → Nat) (w v : Nat) : RW := alR (fun f => cmP B m f d) (fun f => oneR (mvB B m f d) (w + (32 * f + (f - d)) * 1024 ^ 2) 4) (oneR B w v) 25
theorem gon_C {m x y d v w : Nat} {B0 B : Nat → Nat} {R : RW} {τ : TB} (hm : m ≤ 1) (hx : 1 ≤ x ∧ x ≤ 6) (hy : 1 ≤ y ∧ y ≤ 6) (hok : okB B0) (hv1 : v = 2 ∨ v = 3) (hr : rcb m x y B0 1 B w) (hr2 : ∀ f, 1 ≤ f → f ≤ 25 → cmP B m f d → rcb m x y B0 2 (mvB B m f d) (w + (32 * f + (f - d)) * 1024 ^ 2)) (h : CvT m x y B0 R τ) : CvT m x y B0 (orR R (gonR m d B w v)) (gonF m d B w v τ) :=
  al_C h (fun f σ R' a b c z => rec_C (v := 4) hm hx hy hok z (hr2 f a b c) (by omega)) (rec_C hm hx hy hok h (by rcases hv1 with rfl | rfl <;> exact hr) (by omega))
def gobR (m d e : Nat) (B : Nat → Nat) : RW := alR (fun f => cmP B m f d) (fun f => gonR m e (mvB B m f d) ((32 * f + (f - d)) * 1024 ^ 3) (if e < d then 3 else 2)) (oneR B 0 0) 25
theorem gob_C {m x y d e : Nat} {B0 : Nat → Nat} {R : RW} {τ : TB} (hm : m ≤ 1) (hx : 1 ≤ x ∧ x ≤ 6) (hy : 1 ≤ y ∧ y ≤ 6) (hok : okB B0) (hr1 : ∀ f, 1 ≤ f → f ≤ 25 → cmP B0 m f d → rcb m x y B0 1 (mvB B0 m f d) ((32 * f + (f - d)) * 1024 ^ 3)) (hr2 : ∀ f, 1 ≤ f → f ≤ 25 → cmP B0 m f d → ∀ k, 1 ≤ k → k ≤ 25 → cmP (mvB B0 m f d) m k e → rcb m x y B0 2 (mvB (mvB B0 m f d) m k e) ((32 * f + (f - d)) * 1024 ^ 3 + (32 * k + (k - e)) * 1024 ^ 2)) (h : CvT m x y B0 R τ) : CvT m x y B0 (orR R (gobR m d e B0)) (gobF m d e B0 τ) :=
  al_C h (fun f σ R' a b c z => gon_C hm hx hy hok (by split <;> omega) (hr1 f a b c) (hr2 f a b c) z) (rec_C (v := 0) hm hx hy hok h (rcb_0 m x y B0) (by omega))
def extR (m d : Nat) : Nat → (Nat → Nat) → Nat → Nat → RW
  | 0, B, _, w => oneR B w 8
  | n + 1, B, top, w => alR (fun f => cmP B m f d) (fun f B' w' v' => ∃ C, C = mvB B m f d ∧ extR m d n C f (w + (32 * f + (f - d)) * 1024 ^ n) B' w' v') (oneR B w (2 * (3 - n))) top
theorem ext_C {m d : Nat} {B0 : Nat → Nat} (hm : m ≤ 1) (hd : 1 ≤ d ∧ d ≤ 6) (hok : okB B0) : ∀ n (B : Nat → Nat) (top w : Nat) (R : RW) (τ : TB), n ≤ 4 → top ≤ 25 → rcb m d d B0 (4 - n) B w → CvT m d d B0 R τ → CvT m d d B0 (orR R (extR m d n B top w)) (extF m d n B top w τ)
  | 0, B, top, w, R, τ, _, _, hr, h => rec_C (v := 8) hm hd hd hok h hr (by omega)
  | n + 1, B, top, w, R, τ, hn, ht, hr, h => al_C h (fun f σ R' a b c z => by
      have hr9 := rcb_s hr (by omega) a (by omega) c
      rw [show 4 - (n + 1) + 1 = 4 - n by omega, show 3 - (4 - (n + 1)) = n by omega] at hr9
      refine (ext_C hm hd hok n (mvB B m f d) f _ R' σ (by omega) (by omega) hr9 z).cg (fun B' w' v' => or_congr Iff.rfl ⟨fun z => ⟨_, rfl, z⟩, ?_⟩)
      rintro ⟨C, rfl, z⟩; exact z) (rec_C (v := 2 * (3 - n)) hm hd hd hok h (by rw [show 2 * (3 - n) / 2 = 4 - (n + 1) by omega]; exact hr) (by omega))
def wkR (m x y : Nat) (B : Nat → Nat) : RW := fun B' w' v' => (overB B ∧ oneR B 0 0 B' w' v') ∨ (¬ overB B ∧ x = y ∧ extR m x 4 B 25 0 B' w' v') ∨ (¬ overB B ∧ x ≠ y ∧ (gobR m y x B B' w' v' ∨ gobR m x y B B' w' v'))
theorem wk_C {m x y g : Nat} {B : Nat → Nat} (hm : m ≤ 1) (hx : 1 ≤ x ∧ x ≤ 6) (hy : 1 ≤ y ∧ y ≤ 6) (hok : okB B) : CvT m x y B (wkR m x y B) (wkF m x y B g) := by
  have h0 := Cv_0 m x y B (fun _ _ => 0) (fun _ => 0) g
  unfold wkF
  by_cases c : overB B
  · rw [if_pos c]
    refine (rec_C (v := 0) hm hx hy hok h0 (rcb_0 m x y B) (by omega)).cg (fun B' w' v' => ⟨fun z => ?_, fun z => ?_⟩)
    · exact z.elim False.elim (fun z => Or.inl ⟨c, z⟩)
    · rcases z with z | z | z
      · exact Or.inr z.2
      · exact absurd c z.1
      · exact absurd c z.1
  · rw [if_neg c]
    by_cases c2 : x = y
    · subst c2; rw [if_pos rfl]
      refine (ext_C hm hx hok 4 B 25 0 _ _ (Nat.le_refl _) (Nat.le_refl _) (rcb_0 m x x B) h0).cg (fun B' w' v' => ⟨fun z => ?_, fun z => ?_⟩)
      · exact z.elim False.elim (fun z => Or.inr (Or.inl ⟨c, rfl, z⟩))
      · rcases z with z | z | z
        · exact absurd z.1 c
        · exact Or.inr z.2.2
        · exact absurd rfl z.2.1
    · rw [if_neg c2]
      refine (gob_C hm hx hy hok (fun f a b z => ⟨_, rcb_d1 (s := 0) c2 (by omega) a b z⟩) (fun f a b z k d e z2 => rcb_d2 (s := 0) c2 (by omega) a b z d e z2) (gob_C hm hx hy hok (fun f a b z => ⟨_, rcb_d1 (s := 1) c2 (by omega) a b z⟩) (fun f a b z k d e z2 => rcb_d2 (s := 1) c2 (by omega) a b z d e z2) h0)).cg (fun B' w' v' => ⟨fun z => ?_, fun z => ?_⟩)
      · rcases z with (z | z) | z
        · exact z.elim
        · exact Or.inr (Or.inr ⟨c, c2, Or.inl z⟩)
        · exact Or.inr (Or.inr ⟨c, c2, Or.inr z⟩)
      · rcases z with z | z | z
        · exact absurd z.1 c
        · exact absurd z.2.1 c2
        · exact z.2.2.elim (fun z => Or.inl (Or.inr z)) Or.inr
