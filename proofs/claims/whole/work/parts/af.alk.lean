/-! alike dice: rows whose points do not rise suffice -/
theorem mvB_far {B : Nat → Nat} {m p d k : Nat} (hm : m ≤ 1) (hp2 : p ≤ 25) (hk : 52 ≤ k) : mvB B m p d k = B k := by
  have e : mv1 B m p d k = B k := by unfold mv1; rw [va_n (by omega), va_n (by omega)]
  unfold mvB
  split
  · rw [va_n (by omega), va_n (by omega), e]
  · exact e
theorem bsw {m d p q : Nat} {B : Nat → Nat} (hm : m ≤ 1) (hd : 1 ≤ d) (hd6 : d ≤ 6) (hp : 1 ≤ p) (hpq : p < q) (hq : q ≤ 25) (h1 : cmP B m p d) (h2 : cmP (mvB B m p d) m q d) : cmP B m q d ∧ cmP (mvB B m q d) m p d ∧ mvB (mvB B m p d) m q d = mvB (mvB B m q d) m p d := by
  have own : ∀ t, t ≤ 25 → mvB B m p d (26 * m + t) = if t = p then B (26 * m + t) - 1 else if t = p - d then B (26 * m + t) + 1 else B (26 * m + t) := fun t ht => mvB_own hm hd hp (by omega) ht
  have opp : ∀ k, k ≤ 25 → mvB B m p d (26 * (1 - m) + k) = if d < p ∧ ¬ B (26 * (1 - m) + (25 - (p - d))) = 0 then (if k = 25 then B (26 * (1 - m) + 25) + 1 else if k = 25 - (p - d) then 0 else B (26 * (1 - m) + k)) else B (26 * (1 - m) + k) := fun k hk => mvB_opp hm (by omega) hd hk
  have own2 : ∀ t, t ≤ 25 → mvB B m q d (26 * m + t) = if t = q then B (26 * m + t) - 1 else if t = q - d then B (26 * m + t) + 1 else B (26 * m + t) := fun t ht => mvB_own hm hd (by omega) hq ht
  have opp2 : ∀ k, k ≤ 25 → mvB B m q d (26 * (1 - m) + k) = if d < q ∧ ¬ B (26 * (1 - m) + (25 - (q - d))) = 0 then (if k = 25 then B (26 * (1 - m) + 25) + 1 else if k = 25 - (q - d) then 0 else B (26 * (1 - m) + k)) else B (26 * (1 - m) + k) := fun k hk => mvB_opp hm hq hd hk
  have bar : B (26 * m + 25) = 0 := by have := h1.2.1; omega
  have h1c := h1
  obtain ⟨a1, a2, a3⟩ := h1c
  have h2c := h2
  obtain ⟨b1, b2, b3⟩ := h2c
  have bq : mvB B m p d (26 * m + q) = B (26 * m + q) := by rw [own q hq, if_neg (by omega), if_neg (by omega)]
  rw [bq] at b1
  have c1 : cmP B m q d := by
    refine ⟨b1, fun z => by omega, ?_⟩
    by_cases c : d < q
    · rw [if_pos c] at b3 ⊢
      rw [opp _ (by omega)] at b3
      split at b3
      · rw [if_neg (by omega), if_neg (by omega)] at b3; exact b3
      · exact b3
    · rw [if_neg c] at b3 ⊢
      refine ⟨fun k k1 k2 => ?_, ?_⟩
      · have := b3.1 k k1 k2
        rw [own k (by omega), if_neg (by omega), if_neg (by omega)] at this
        exact this
      · rcases b3.2 with z | z
        · exact Or.inl z
        · refine Or.inr (fun k k1 k2 => ?_)
          have := z k k1 k2
          rw [own k (by omega), if_neg (by omega), if_neg (by omega)] at this
          exact this
  have c2 : cmP (mvB B m q d) m p d := by
    refine ⟨?_, fun z => ?_, ?_⟩
    · rw [own2 p (by omega), if_neg (by omega)]; split <;> omega
    · have := z.2; rw [own2 25 (by omega)] at this
      by_cases y : 25 = q
      · rw [← y] at b1; omega
      · rw [if_neg y, if_neg (by omega)] at this; omega
    · by_cases c : d < p
      · rw [if_pos c] at a3 ⊢
        rw [opp2 _ (by omega)]
        split
        · rw [if_neg (by omega), if_neg (by omega)]; exact a3
        · exact a3
      · rw [if_neg c] at a3 ⊢
        have q6 : q ≤ 6 := by
          rcases Nat.lt_or_ge 6 q with z | z
          · exact absurd (a3.1 q (by omega) z) b1
          · exact z
        refine ⟨fun k k1 k2 => ?_, Or.inl ?_⟩
        · rw [own2 k (by omega), if_neg (by omega), if_neg (by omega)]; exact a3.1 k k1 k2
        · rcases a3.2 with z | z
          · exact z
          · exact absurd (z q (by omega) hpq) b1
  refine ⟨c1, c2, ?_⟩
  have A1 := alk_s hm hd hd6 (show 1 ≤ q by omega) hq (alk_s hm hd hd6 hp (by omega) (alk_0 (m := m) (d := d) (B0 := B)) h1) h2
  have A2 := alk_s hm hd hd6 hp (by omega) (alk_s hm hd hd6 (show 1 ≤ q by omega) hq (alk_0 (m := m) (d := d) (B0 := B)) c1) c2
  funext k
  rcases Nat.lt_or_ge k 52 with c | c
  · refine alk_eq hm A1 A2 (fun t _ => ?_) k c
    unfold va_up
    by_cases y1 : t = p
    · subst y1; rw [if_neg (by omega), if_pos rfl, if_pos rfl, if_neg (by omega)]
    · by_cases y2 : t = q
      · subst y2; rw [if_pos rfl, if_neg y1, if_neg (by omega), if_pos rfl]
      · rw [if_neg y2, if_neg y1, if_neg y1, if_neg y2]
  · rw [mvB_far hm hq c, mvB_far hm (by omega) c, mvB_far hm (by omega) c, mvB_far hm hq c]
def cdA (d f : Nat) : Nat := 32 * f + (f - d)
/-- moves by one die, the points not rising; the way's digits -/
def AsT (m d : Nat) : Nat → Nat → Nat → (Nat → Nat) → (Nat → Nat) → Nat → Prop
  | 0, _, _, B, B', v => B' = B ∧ v = 0
  | k + 1, e, top, B, B', v => ∃ f v', 1 ≤ f ∧ f ≤ top ∧ cmP B m f d ∧ AsT m d k (e - 1) f (mvB B m f d) B' v' ∧ v = cdA d f * 1024 ^ e + v'
theorem As_m {m d : Nat} : ∀ {k e a b : Nat} {B B' : Nat → Nat} {v : Nat}, a ≤ b → AsT m d k e a B B' v → AsT m d k e b B B' v
  | 0, _, _, _, _, _, _, _, h => h
  | k + 1, _, _, _, _, _, _, hab, ⟨f, v', h1, h2, h⟩ => ⟨f, v', h1, by omega, h⟩
theorem As_in {m d : Nat} (hm : m ≤ 1) (hd : 1 ≤ d) (hd6 : d ≤ 6) : ∀ {n e p q : Nat} {B B' : Nat → Nat} {v : Nat}, 1 ≤ p → p ≤ 25 → q ≤ 25 → cmP B m p d → AsT m d n (e - 1) q (mvB B m p d) B' v → ∃ v', AsT m d (n + 1) e (max p q) B B' v' ∧ cdA d p * 1024 ^ e + v ≤ v'
  | 0, e, p, q, B, B', v, p1, p2, q2, hl, h => ⟨_, ⟨p, v, p1, Nat.le_max_left _ _, hl, h, rfl⟩, Nat.le_refl _⟩
  | n + 1, e, p, q, B, B', v, p1, p2, q2, hl, ⟨q1, v1, g1, h1, h2, h3, ev⟩ => by
    rcases Nat.lt_or_ge p q1 with c | c
    · obtain ⟨l2, l3, eb⟩ := bsw hm hd hd6 p1 c (by omega) hl h2
      rw [eb] at h3
      obtain ⟨v', i1, i2⟩ := As_in hm hd hd6 (e := e - 1) p1 p2 (show q1 ≤ 25 by omega) l3 h3
      refine ⟨_, ⟨q1, v', g1, by omega, l2, As_m (by omega) i1, rfl⟩, ?_⟩
      have c1 : ∃ δ, cdA d q1 = cdA d p + δ := ⟨cdA d q1 - cdA d p, by unfold cdA; omega⟩
      have c2 : ∃ ε, 1024 ^ e = 1024 ^ (e - 1) + ε := ⟨1024 ^ e - 1024 ^ (e - 1), by have := Nat.pow_le_pow_right (n := 1024) (by omega) (show e - 1 ≤ e by omega); omega⟩
      obtain ⟨δ, c1⟩ := c1
      obtain ⟨ε, c2⟩ := c2
      rw [ev, c1, c2]
      simp only [Nat.add_mul, Nat.mul_add]
      omega
    · exact ⟨_, ⟨p, v, p1, Nat.le_max_left _ _, hl, ⟨q1, v1, g1, c, h2, h3, ev⟩, rfl⟩, Nat.le_refl _⟩
theorem Rch_As {m d : Nat} (hm : m ≤ 1) (hd : 1 ≤ d) (hd6 : d ≤ 6) : ∀ k n L (B : Nat → Nat) w L' (B' : Nat → Nat) w', Rch m d d 0 k n L B w L' B' w' → ∃ v, AsT m d k (3 - n) 25 B B' v ∧ w' ≤ w + v
  | 0, n, L, B, w, L', B', w', ⟨_, e1, e2⟩ => ⟨0, ⟨e1, rfl⟩, by omega⟩
  | k + 1, n, L, B, w, L', B', w', ⟨c, h1, ⟨h2, h3, h4⟩, h5⟩ => by
    have ed : dieC d d c = d := by unfold dieC; split <;> rfl
    obtain ⟨v, i1, i2⟩ := Rch_As hm hd hd6 k (n + 1) _ _ _ _ _ _ h5
    unfold nxB at i1
    unfold nxW cdC at i2
    rw [ed] at i1 i2 h4
    rw [show 3 - (n + 1) = 3 - n - 1 by omega] at i1
    obtain ⟨v', j1, j2⟩ := As_in hm hd hd6 (show 1 ≤ 25 - c / 2 by omega) (by omega) (Nat.le_refl 25) h4 i1
    refine ⟨v', As_m (by omega) j1, ?_⟩
    unfold cdA at j2
    omega
theorem As_Rch {m d : Nat} : ∀ k n L (B : Nat → Nat) w top (B' : Nat → Nat) v, top ≤ 25 → k ≤ L → AsT m d k (3 - n) top B B' v → ∃ L', Rch m d d 0 k n L B w L' B' (w + v)
  | 0, n, L, B, w, top, B', v, _, _, ⟨e1, e2⟩ => ⟨L, rfl, e1, by rw [e2]; rfl⟩
  | k + 1, n, L, B, w, top, B', v, ht, hk, ⟨f, v', f1, f2, hc, h, ev⟩ => by
    have e1 : 25 - 2 * (25 - f) / 2 = f := by omega
    have e2 : dieC d d (2 * (25 - f)) = d := by unfold dieC; split <;> rfl
    have e3 : 2 * (25 - f) % 2 = 0 := by omega
    rw [show 3 - n - 1 = 3 - (n + 1) by omega] at h
    obtain ⟨L', i⟩ := As_Rch k (n + 1) (L - 1) (mvB B m f d) (w + cdA d f * 1024 ^ (3 - n)) f B' v' (by omega) (by omega) h
    refine ⟨L', 2 * (25 - f), by omega, ⟨?_, Or.inl rfl, by rw [e1, e2]; exact hc⟩, ?_⟩
    · unfold lfP; rw [if_pos rfl]; exact ⟨by omega, e3⟩
    · unfold woF nxB nxW cdC; rw [if_pos rfl, e1, e2, ev, ← Nat.add_assoc]; exact i
theorem ext_a {m d : Nat} : ∀ n (B : Nat → Nat) top w (B' : Nat → Nat) w' v, n ≤ 4 → extR m d n B top w B' w' v → ∃ k u, k ≤ n ∧ AsT m d k (n - 1) top B B' u ∧ w' = w + u ∧ v = 2 * (4 - n + k)
  | 0, B, top, w, B', w', v, _, ⟨e1, e2, e3⟩ => ⟨0, 0, Nat.le_refl _, ⟨e1, rfl⟩, e2, e3⟩
  | n + 1, B, top, w, B', w', v, hn, h => by
    rcases h with ⟨f, f1, f2, hc, C, rfl, h⟩ | ⟨-, e1, e2, e3⟩
    · obtain ⟨k, u, i1, i2, i3, i4⟩ := ext_a n _ _ _ _ _ _ (by omega) h
      exact ⟨k + 1, _, by omega, ⟨f, u, f1, f2, hc, i2, rfl⟩, by rw [i3]; show w + (32 * f + (f - d)) * 1024 ^ n + u = w + ((32 * f + (f - d)) * 1024 ^ n + u); omega, by omega⟩
    · exact ⟨0, 0, by omega, ⟨e1, rfl⟩, e2, by rw [e3]; omega⟩
theorem ext_b {m d : Nat} : ∀ n (B : Nat → Nat) top w (B' : Nat → Nat) k u, n ≤ 4 → k ≤ n → AsT m d k (n - 1) top B B' u → (k < n → ∀ C v, ¬ AsT m d (k + 1) (n - 1) top B C v) → extR m d n B top w B' (w + u) (2 * (4 - n + k))
  | 0, B, top, w, B', k, u, _, hk, h, _ => by
    have : k = 0 := by omega
    subst this
    obtain ⟨e1, e2⟩ := h
    exact ⟨e1, by rw [e2]; rfl, rfl⟩
  | n + 1, B, top, w, B', 0, u, hn, _, ⟨e1, e2⟩, h => Or.inr ⟨fun ⟨f, f1, f2, hc⟩ => h (by omega) _ _ ⟨f, 0, f1, f2, hc, ⟨rfl, rfl⟩, rfl⟩, e1, by rw [e2]; rfl, by omega⟩
  | n + 1, B, top, w, B', k + 1, u, hn, hk, ⟨f, u', f1, f2, hc, h1, eu⟩, h => by
    have i := ext_b n (mvB B m f d) f (w + (32 * f + (f - d)) * 1024 ^ n) B' k u' (by omega) (by omega) h1 (fun z C v y => h (by omega) _ _ ⟨f, v, f1, f2, hc, y, rfl⟩)
    refine Or.inl ⟨f, f1, f2, hc, _, rfl, ?_⟩
    rw [eu]
    rw [show 4 - (n + 1) + (k + 1) = 4 - n + k by omega, show w + (cdA d f * 1024 ^ (n + 1 - 1) + u') = w + (32 * f + (f - d)) * 1024 ^ n + u' by show w + ((32 * f + (f - d)) * 1024 ^ n + u') = _; omega]
    exact i
theorem alk_T {m d len g g0 : Nat} {B : Nat → Nat} (hm : m ≤ 1) (hx : 1 ≤ d ∧ d ≤ 6) (hok : okB B) (hov : ¬ overB B) (hp : plyP m d d B len g) : (wkF m d d B g0).1 = 2 * len + (if g = 0 then 0 else 1) ∧ tabS m (rchN m d d g (L0F d d) B len) (wkF m d d B g0).2.1 (wkF m d d B g0).2.2.1 (wkF m d d B g0).2.2.2.1 := by
  obtain ⟨l4, -, hmax, hg⟩ := hp
  obtain ⟨hle, Bl, wl, hl⟩ := hmax hov
  have eg : g = 0 := by
    rcases hg with ⟨z, -⟩ | ⟨-, z⟩
    · exact absurd rfl z.2.1
    · exact z
  subst eg
  have h4 : L0F d d = 4 := by unfold L0F; rw [if_pos rfl]
  rw [h4] at hle hl ⊢
  rw [if_pos rfl, Nat.add_zero]
  have C := wk_C (x := d) (y := d) (g := g0) hm hx hx hok
  have hR : ∀ B' w' v, wkR m d d B B' w' v ↔ extR m d 4 B 25 0 B' w' v := fun B' w' v => ⟨fun z => by
    rcases z with z | z | z
    · exact absurd z.1 hov
    · exact z.2.2
    · exact absurd rfl z.2.1, fun z => Or.inr (Or.inl ⟨hov, rfl, z⟩)⟩
  have lk : ∀ k top B' v, k ≤ 4 → top ≤ 25 → AsT m d k 3 top B B' v → k ≤ len := fun k top B' v hk ht h => by
    obtain ⟨L', i⟩ := As_Rch k 0 4 B 0 top B' v ht hk h
    exact hle k B' (0 + v) ⟨L', i⟩
  have srt : ∀ B' w', wkR m d d B B' w' (2 * len) ↔ AsT m d len 3 25 B B' w' := fun B' w' => by
    rw [hR]
    constructor
    · intro z
      obtain ⟨k, u, h1, h2, h3, h5⟩ := ext_a 4 _ _ _ _ _ _ (Nat.le_refl _) z
      have : k = len := by omega
      subst this
      rw [h3, Nat.zero_add]; exact h2
    · intro z
      have := ext_b 4 B 25 0 B' len w' (Nat.le_refl _) l4 z (fun y C v q => by have := lk (len + 1) 25 C v (by omega) (Nat.le_refl _) q; omega)
      rw [Nat.zero_add, show 4 - 4 + len = len by omega] at this
      exact this
  obtain ⟨Ll, hl⟩ := hl
  obtain ⟨vl, sl, -⟩ := Rch_As hm hx.1 hx.2 _ _ _ _ _ _ _ _ hl
  obtain ⟨t1, t2, t3, t4⟩ := cv_tab (M := 2 * len) (S := fun B' w' => AsT m d len 3 25 B B' w') C ⟨Bl, vl, (srt _ _).mpr sl⟩ (fun B' w' v z => by
    obtain ⟨k, u, h1, h2, h3, h5⟩ := ext_a 4 _ _ _ _ _ _ (Nat.le_refl _) ((hR _ _ _).mp z)
    have := lk k 25 B' u h1 (Nat.le_refl _) h2
    omega) srt
  refine ⟨t1, fun i hi => ?_, fun B' w' h => ?_, t4⟩
  · obtain ⟨L', z⟩ := As_Rch len 0 4 B 0 25 _ _ (Nat.le_refl _) l4 (t2 i hi)
    rw [Nat.zero_add] at z
    exact ⟨L', z⟩
  · obtain ⟨L', h⟩ := h
    obtain ⟨v, i1, i2⟩ := Rch_As hm hx.1 hx.2 _ _ _ _ _ _ _ _ h
    obtain ⟨i, a, b, c⟩ := t3 B' v i1
    exact ⟨i, a, b, by omega⟩
/-- the class's table is the reference's, whatever the dice -/
theorem all_T {m x y len g g0 : Nat} {B : Nat → Nat} (hm : m ≤ 1) (hx : 1 ≤ x ∧ x ≤ 6) (hy : 1 ≤ y ∧ y ≤ 6) (hok : okB B) (hxy : x ≤ y) (hp : plyP m x y B len g) : (wkF m x y B g0).1 = 2 * len + (if g = 0 then 0 else 1) ∧ tabS m (rchN m x y g (L0F x y) B len) (wkF m x y B g0).2.1 (wkF m x y B g0).2.2.1 (wkF m x y B g0).2.2.2.1 := by
  by_cases c : overB B
  · exact ovr_T hm hx hy hok c hp
  · rcases Nat.lt_or_eq_of_le hxy with z | z
    · exact unl_T hm hx hy hok z c hp
    · subst z; exact alk_T hm hx hok c hp
