/-! the results' arrays grow six times at the most -/
def iv6 (m x y : Nat) (B0 : Nat → Nat) (τ : TB) : Prop := ivE m x y B0 τ ∧ τ.2.2.2.2 ≤ 6
theorem rc1_6 {m w : Nat} {B : Nat → Nat} {τ : TB} (hc : τ.2.1 ≤ 3060) (h : τ.2.2.2.2 ≤ 6) : (rc1 m τ B w).2.2.2.2 ≤ 6 := by
  unfold rc1
  split
  · exact h
  · unfold insT
    show τ.2.2.2.2 + gwN τ ≤ 6
    unfold gwN
    split
    · exact h
    · rename_i e
      by_cases h6 : τ.2.2.2.2 = 6
      · rw [h6] at e; omega
      · omega
theorem rec_I6 {m x y v w : Nat} {B0 B : Nat → Nat} {τ : TB} (hm : m ≤ 1) (hx : 1 ≤ x ∧ x ≤ 6) (hy : 1 ≤ y ∧ y ≤ 6) (hok : okB B0) (hB : rcb m x y B0 (v / 2) B w) (hv : v ≤ 9) (h : iv6 m x y B0 τ) : iv6 m x y B0 (recF m τ B w v) := by
  refine ⟨rec_I hm hx hy hok hB hv h.1, ?_⟩
  obtain ⟨⟨S, hS⟩, h6⟩ := h
  have hc := fewer hm hx hy hok hS.2.1 hS.2.2
  unfold recF
  split
  · exact h6
  · refine rc1_6 ?_ ?_
    · split
      · exact Nat.zero_le _
      · exact hc
    · split
      · exact h6
      · exact h6
theorem gon_I6 {m x y d v w : Nat} {B0 B : Nat → Nat} {τ : TB} (hm : m ≤ 1) (hx : 1 ≤ x ∧ x ≤ 6) (hy : 1 ≤ y ∧ y ≤ 6) (hok : okB B0) (hv1 : v = 2 ∨ v = 3) (hr : rcb m x y B0 1 B w) (hr2 : ∀ f, 1 ≤ f → f ≤ 25 → cmP B m f d → rcb m x y B0 2 (mvB B m f d) (w + (32 * f + (f - d)) * 1024 ^ 2)) (h : iv6 m x y B0 τ) : iv6 m x y B0 (gonF m d B w v τ) :=
  al_I h (fun f σ a b c z => rec_I6 hm hx hy hok (by rcases hv1 with rfl | rfl <;> first | exact hr2 f a b c | skip) (by omega) z) (fun _ => rec_I6 hm hx hy hok (by rcases hv1 with rfl | rfl <;> exact hr) (by omega) h)
theorem gob_I6 {m x y d e : Nat} {B0 : Nat → Nat} {τ : TB} (hm : m ≤ 1) (hx : 1 ≤ x ∧ x ≤ 6) (hy : 1 ≤ y ∧ y ≤ 6) (hok : okB B0) (hr1 : ∀ f, 1 ≤ f → f ≤ 25 → cmP B0 m f d → rcb m x y B0 1 (mvB B0 m f d) ((32 * f + (f - d)) * 1024 ^ 3)) (hr2 : ∀ f, 1 ≤ f → f ≤ 25 → cmP B0 m f d → ∀ k, 1 ≤ k → k ≤ 25 → cmP (mvB B0 m f d) m k e → rcb m x y B0 2 (mvB (mvB B0 m f d) m k e) ((32 * f + (f - d)) * 1024 ^ 3 + (32 * k + (k - e)) * 1024 ^ 2)) (h : iv6 m x y B0 τ) : iv6 m x y B0 (gobF m d e B0 τ) :=
  al_I h (fun f σ a b c z => gon_I6 hm hx hy hok (by split <;> omega) (hr1 f a b c) (hr2 f a b c) z) (fun _ => rec_I6 hm hx hy hok (rcb_0 m x y B0) (by omega) h)
theorem ext_I6 {m d : Nat} {B0 : Nat → Nat} (hm : m ≤ 1) (hd : 1 ≤ d ∧ d ≤ 6) (hok : okB B0) : ∀ n (B : Nat → Nat) (top w : Nat) (τ : TB), n ≤ 4 → top ≤ 25 → rcb m d d B0 (4 - n) B w → iv6 m d d B0 τ → iv6 m d d B0 (extF m d n B top w τ)
  | 0, B, top, w, τ, _, _, hr, h => rec_I6 (v := 8) hm hd hd hok hr (by omega) h
  | n + 1, B, top, w, τ, hn, ht, hr, h => al_I h (fun f σ a b c z => ext_I6 hm hd hok n _ f _ σ (by omega) (by omega) (by
      have := rcb_s hr (by omega) a (by omega) c
      rw [show 4 - (n + 1) + 1 = 4 - n by omega, show 3 - (4 - (n + 1)) = n by omega] at this
      exact this) z) (fun _ => rec_I6 (v := 2 * (3 - n)) hm hd hd hok (by rw [show 2 * (3 - n) / 2 = 4 - (n + 1) by omega]; exact hr) (by omega) h)
theorem wk_I6 {m x y g : Nat} {B : Nat → Nat} (hm : m ≤ 1) (hx : 1 ≤ x ∧ x ≤ 6) (hy : 1 ≤ y ∧ y ≤ 6) (hok : okB B) (hg : g ≤ 6) : iv6 m x y B (wkF m x y B g) := by
  have h0 : iv6 m x y B (0, 0, fun _ _ => 0, fun _ => 0, g) := ⟨iv_0 m x y B (fun _ _ => 0) (fun _ => 0) g, hg⟩
  unfold wkF
  by_cases c : overB B
  · rw [if_pos c]; exact rec_I6 (v := 0) hm hx hy hok (rcb_0 m x y B) (by omega) h0
  · rw [if_neg c]
    by_cases c2 : x = y
    · subst c2; rw [if_pos rfl]; exact ext_I6 hm hx hok 4 B 25 0 _ (Nat.le_refl _) (Nat.le_refl _) (rcb_0 m x x B) h0
    · rw [if_neg c2]
      exact gob_I6 hm hx hy hok (fun f a b z => ⟨_, rcb_d1 (s := 0) c2 (by omega) a b z⟩) (fun f a b z k d e z2 => rcb_d2 (s := 0) c2 (by omega) a b z d e z2) (gob_I6 hm hx hy hok (fun f a b z => ⟨_, rcb_d1 (s := 1) c2 (by omega) a b z⟩) (fun f a b z k d e z2 => rcb_d2 (s := 1) c2 (by omega) a b z d e z2) h0)
/-! digits of a way -/
theorem Rch_nz {m x y g : Nat} : ∀ k n L (B : Nat → Nat) w L' (B' : Nat → Nat) w', Rch m x y g k n L B w L' B' w' → n + k ≤ 4 → wOK n w → (∀ j, j < n → wdg w j ≠ 0) → ∀ j, j < n + k → wdg w' j ≠ 0
  | 0, n, L, B, w, L', B', w', h, hl, hw, hz => by
    obtain ⟨rfl, rfl, rfl⟩ := h
    exact hz
  | k + 1, n, L, B, w, L', B', w', h, hl, hw, hz => by
    obtain ⟨c, h1, h2, h3⟩ := h
    obtain ⟨e1, e2, e3⟩ := w_ext (n := n) (by omega) hw (cd_lt (x := x) (y := y) h1)
    intro j hj
    refine Rch_nz k (n + 1) _ _ _ _ _ _ h3 (by omega) e1 (fun j hj => ?_) j (by omega)
    by_cases hn : j < n
    · exact fun z => hz j hn ((e2 j hn).symm.trans z)
    · obtain rfl : j = n := by omega
      intro z
      have : cdC x y c = 0 := e3.symm.trans z
      unfold cdC at this
      omega
theorem wdg_0 {len w j : Nat} (h : wOK len w) (h1 : len ≤ j) (h2 : j < 4) : wdg w j = 0 := by
  unfold wOK at h
  unfold wdg
  rcases (by omega : len = 0 ∨ len = 1 ∨ len = 2 ∨ len = 3) with rfl | rfl | rfl | rfl <;> rcases (by omega : j = 0 ∨ j = 1 ∨ j = 2 ∨ j = 3) with rfl | rfl | rfl | rfl <;> simp at h ⊢ <;> omega
