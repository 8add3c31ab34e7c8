theorem pig : ∀ (l : List Nat) (n : Nat) (f : Nat → Nat), (∀ i, i < n → f i ∈ l) → (∀ i j, i < n → j < n → f i = f j → i = j) → n ≤ l.length
  | [], n, f, h, _ => by
    rcases Nat.eq_zero_or_pos n with c | c
    · omega
    · have := h 0 c; cases this
  | a :: l, n, f, h, hi => by
    by_cases c : ∃ i0, i0 < n ∧ f i0 = a
    · obtain ⟨i0, h0, e0⟩ := c
      have := pig l (n - 1) (fun j => f (if j < i0 then j else j + 1)) (fun j hj => by
        have hm := h (if j < i0 then j else j + 1) (by split <;> omega)
        rcases List.mem_cons.mp hm with z | z
        · have := hi _ i0 (by split <;> omega) h0 (z.trans e0.symm)
          split at this <;> omega
        · exact z) (fun i j hi2 hj2 e => by
        have := hi _ _ (by split <;> omega) (by split <;> omega) e
        split at this <;> split at this <;> omega)
      simp only [List.length_cons]; omega
    · have := pig l n f (fun i hi2 => by
        rcases List.mem_cons.mp (h i hi2) with z | z
        · exact absurd ⟨i, hi2, z⟩ c
        · exact z) hi
      simp only [List.length_cons]; omega
theorem pigN {n N : Nat} (f : Nat → Nat) (h : ∀ i, i < n → f i < N) (hi : ∀ i j, i < n → j < n → f i = f j → i = j) : n ≤ N := by
  have := pig (List.range N) n f (fun i h2 => List.mem_range.mpr (h i h2)) hi
  rw [List.length_range] at this; exact this
def cntN (f : Nat → Nat) (t : Nat) : Nat → Nat
  | 0 => 0
  | n + 1 => cntN f t n + if f n = t then 1 else 0
theorem cnt_cg {f g : Nat → Nat} {t : Nat} : ∀ n, (∀ i, i < n → f i = g i) → cntN f t n = cntN g t n
  | 0, _ => rfl
  | n + 1, h => by simp only [cntN]; rw [cnt_cg n (fun i hi => h i (by omega)), h n (by omega)]
theorem cnt_up {f : Nat → Nat} {t i v : Nat} : ∀ n, i < n → cntN (va_up f i v) t n + (if f i = t then 1 else 0) = cntN f t n + if v = t then 1 else 0
  | 0, h => by omega
  | n + 1, h => by
    simp only [cntN]
    rcases Nat.lt_or_ge i n with c | c
    · have := cnt_up (f := f) (t := t) (v := v) n c
      rw [va_n (show n ≠ i by omega)]; omega
    · obtain rfl : i = n := by omega
      rw [va_s, cnt_cg (g := f) i (fun j hj => va_n (by omega))]; omega
theorem cnt_ex {f : Nat → Nat} {t : Nat} : ∀ n, 0 < cntN f t n → ∃ i, i < n ∧ f i = t
  | 0, h => by simp only [cntN] at h; omega
  | n + 1, h => by
    simp only [cntN] at h
    by_cases c : f n = t
    · exact ⟨n, by omega, c⟩
    · rw [if_neg c] at h
      obtain ⟨i, h1, h2⟩ := cnt_ex n h
      exact ⟨i, by omega, h2⟩
/-- the men behind counts -/
theorem men_of (B : Nat → Nat) (o : Nat) : ∀ n, ∃ q : Nat → Nat, (∀ t, t < n → cntN q t (sumB B o n) = B (o + t)) ∧ (∀ i, i < sumB B o n → q i < n)
  | 0 => ⟨fun _ => 0, fun t h => by omega, fun i h => by simp only [sumB] at h; omega⟩
  | n + 1 => by
    obtain ⟨q, h1, h2⟩ := men_of B o n
    have ext : ∀ k, ∀ t, cntN (fun i => if i < sumB B o n then q i else n) t (sumB B o n + k) = (cntN q t (sumB B o n)) + if t = n then k else 0 := by
      intro k t
      induction k with
      | zero => rw [Nat.add_zero, cnt_cg (g := q) _ (fun i hi => by rw [if_pos hi])]; split <;> rfl
      | succ k ih =>
        rw [← Nat.add_assoc]; simp only [cntN]; rw [ih]; simp only [show ¬ sumB B o n + k < sumB B o n by omega, if_false]
        by_cases c : n = t
        · rw [if_pos c, if_pos c.symm, if_pos c.symm]; omega
        · rw [if_neg c, if_neg (fun z => c z.symm), if_neg (fun z => c z.symm)]
    have zero : ∀ N, N ≤ sumB B o n → cntN q n N = 0 := by
      intro N hN
      induction N with
      | zero => rfl
      | succ N ih => simp only [cntN]; rw [ih (by omega), if_neg (by have := h2 N (by omega); omega)]
    refine ⟨fun i => if i < sumB B o n then q i else n, fun t ht => ?_, fun i hi => ?_⟩
    · simp only [sumB]; rw [ext]
      by_cases c : t = n
      · subst c; rw [if_pos rfl, zero _ (Nat.le_refl _)]; omega
      · rw [if_neg c, h1 t (by omega), Nat.add_zero]
    · show (if i < sumB B o n then q i else n) < n + 1
      split
      · have := h2 i (by assumption); omega
      · omega
def c1N (q d : Nat) : Nat → Nat → Nat
  | 0, _ => 0
  | k + 1, p => c1N q d k p + if q - k * d = p then 1 else 0
def cOf (q : Nat → Nat) (d : Nat) (K : Nat → Nat) (p : Nat) : Nat := sumB (fun i => c1N (q i) d (K i) p) 0 15
/-- all ways to share out s steps among n men -/
def ksL : Nat → Nat → List Nat
  | 0, s => if s = 0 then [0] else []
  | n + 1, s => (List.range (s + 1)).flatMap (fun k => (ksL n (s - k)).map (fun v => v + k * 16 ^ n))
theorem ks_mem {K : Nat → Nat} : ∀ n s, sumB K 0 n = s → kd K 0 n ∈ ksL n s
  | 0, s, h => by simp only [sumB] at h; subst h; simp [ksL, kd]
  | n + 1, s, h => by
    simp only [sumB, Nat.zero_add] at h
    have ih := ks_mem (K := K) n (s - K n) (by omega)
    simp only [ksL, List.mem_flatMap, List.mem_range, List.mem_map]
    exact ⟨K n, by omega, kd K 0 n, ih, by simp only [kd, Nat.zero_add]⟩
theorem ks_len : ∀ s, s < 5 → (ksL 15 s).length < 3200 := by decide +kernel
/-- by which men a board of alike dice was reached -/
def menP (m d : Nat) (q B0 B : Nat → Nat) (k : Nat) (K : Nat → Nat) : Prop := sumB K 0 15 = k ∧ (∀ t, 1 ≤ t → t ≤ 25 → cntN (fun i => q i - K i * d) t 15 = B (26 * m + t)) ∧ ∃ C, alk m d B0 B C ∧ ∀ p, 1 ≤ p → C p = cOf q d K p
theorem men_s {m d p k : Nat} {q B0 B K : Nat → Nat} (hm : m ≤ 1) (hd : 1 ≤ d) (hd6 : d ≤ 6) (hp : 1 ≤ p) (hp2 : p ≤ 25) (h : menP m d q B0 B k K) (hc : cmP B m p d) : ∃ K', menP m d q B0 (mvB B m p d) (k + 1) K' := by
  obtain ⟨h1, h2, C, h3, h4⟩ := h
  have b0 := hc.1
  obtain ⟨i, hi, ei⟩ := cnt_ex 15 (by rw [h2 p hp hp2]; omega : 0 < cntN (fun i => q i - K i * d) p 15)
  have ei : q i - K i * d = p := ei
  refine ⟨va_up K i (K i + 1), ?_, fun t ht ht2 => ?_, va_up C p (C p + 1), alk_s hm hd hd6 hp hp2 h3 hc, fun p' hp' => ?_⟩
  · have := su_in (B := K) (o := 0) (j := i) (v := K i + 1) 15 hi
    rw [Nat.zero_add] at this; omega
  · rw [cnt_cg (g := va_up (fun i => q i - K i * d) i (p - d)) 15 (fun j hj => by
      by_cases c : j = i
      · subst c; show q j - va_up K j (K j + 1) j * d = _; rw [va_s, va_s, Nat.add_mul, Nat.one_mul]; omega
      · show q j - va_up K i (K i + 1) j * d = _; rw [va_n c, va_n c])]
    have := cnt_up (f := fun i => q i - K i * d) (t := t) (i := i) (v := p - d) 15 hi
    rw [h2 t ht ht2, ei] at this
    rw [mvB_own hm hd hp hp2 ht2]
    by_cases c : t = p
    · subst c; rw [if_pos rfl] at this ⊢; rw [if_neg (show ¬ t - d = t by omega)] at this; omega
    · rw [if_neg (fun z => c z.symm)] at this; rw [if_neg c]
      by_cases c2 : t = p - d
      · rw [if_pos c2.symm] at this; rw [if_pos c2]; omega
      · rw [if_neg (fun z => c2 z.symm)] at this; rw [if_neg c2]; omega
  · have e2 : cOf q d (va_up K i (K i + 1)) p' = sumB (va_up (fun i => c1N (q i) d (K i) p') i (c1N (q i) d (K i + 1) p')) 0 15 := su_cg 15 (fun j hj => by
      by_cases c : 0 + j = i
      · rw [c]; show c1N (q i) d (va_up K i (K i + 1) i) p' = _; rw [va_s, va_s]
      · show c1N (q (0 + j)) d (va_up K i (K i + 1) (0 + j)) p' = _; rw [va_n c, va_n c])
    have := su_in (B := fun i => c1N (q i) d (K i) p') (o := 0) (j := i) (v := c1N (q i) d (K i + 1) p') 15 hi
    rw [Nat.zero_add] at this
    have e3 : c1N (q i) d (K i + 1) p' = c1N (q i) d (K i) p' + if p = p' then 1 else 0 := by simp only [c1N]; rw [ei]
    have e4 := h4 p' hp'
    have e5 : cOf q d K p' = sumB (fun i => c1N (q i) d (K i) p') 0 15 := rfl
    rw [e2]
    by_cases c : p' = p
    · subst c; rw [va_s]; rw [if_pos rfl] at e3; omega
    · rw [va_n c]; rw [if_neg (fun z => c z.symm)] at e3; omega
theorem men_r {m x g : Nat} {q B0 : Nat → Nat} (hm : m ≤ 1) (hx : 1 ≤ x ∧ x ≤ 6) : ∀ k n L (B : Nat → Nat) w L' (B' : Nat → Nat) w' k0, Rch m x x g k n L B w L' B' w' → (∃ K, menP m x q B0 B k0 K) → ∃ K, menP m x q B0 B' (k0 + k) K
  | 0, n, L, B, w, L', B', w', k0, h, hK => by obtain ⟨rfl, rfl, rfl⟩ := h; exact hK
  | k + 1, n, L, B, w, L', B', w', k0, h, hK => by
    obtain ⟨c, h1, h2, h3⟩ := h
    obtain ⟨K, hK⟩ := hK
    have ed : dieC x x c = x := by unfold dieC; split <;> rfl
    have hc := h2.2.2; rw [ed] at hc
    have := men_r hm hx k (n + 1) _ _ _ _ _ _ (k0 + 1) h3 (by unfold nxB; rw [ed]; exact men_s hm hx.1 hx.2 (by omega) (by omega) hK hc)
    rw [show k0 + 1 + k = k0 + (k + 1) by omega] at this
    exact this
theorem lf_dead {x y s : Nat} (h : x ≠ y) : ¬ lfP x y 0 s := by unfold lfP; rw [if_neg h, Nat.zero_div]; decide
theorem two_steps {m x y g k n L : Nat} {B : Nat → Nat} {w L' : Nat} {B' : Nat → Nat} {w' : Nat} (h : x ≠ y) (hL : L ≤ 3) (hr : Rch m x y g k n L B w L' B' w') : k ≤ 2 := by
  rcases Nat.lt_or_ge k 3 with c | c
  · omega
  · exfalso
    obtain ⟨j, rfl⟩ : ∃ j, k = j + 3 := ⟨k - 3, by omega⟩
    obtain ⟨c1, a1, a2, c2, b1, b2, c3, d1, d2, -⟩ := hr
    have l1 := a2.1; have l2 := b2.1; have l3 := d2.1
    unfold lfP at l1 l2 l3; unfold woF at l2 l3
    simp only [if_neg h] at l1 l2 l3
    rcases (show L = 0 ∨ L = 1 ∨ L = 2 ∨ L = 3 by omega) with rfl | rfl | rfl | rfl <;> rcases (show c1 % 2 = 0 ∨ c1 % 2 = 1 by omega) with e1 | e1 <;> rcases (show c2 % 2 = 0 ∨ c2 % 2 = 1 by omega) with e2 | e2 <;> rcases (show c3 % 2 = 0 ∨ c3 % 2 = 1 by omega) with e3 | e3 <;> rw [e1] at l1 l2 l3 <;> rw [e2] at l2 l3 <;> rw [e3] at l3 <;> simp at l1 l2 l3
/-- never more results than the table has room -/
theorem few {m x y g len cnt : Nat} {B0 : Nat → Nat} {S : (Nat → Nat) → Nat → Prop} {T : Nat → Nat → Nat} {W : Nat → Nat} (hm : m ≤ 1) (hx : 1 ≤ x ∧ x ≤ 6) (hy : 1 ≤ y ∧ y ≤ 6) (hok : okB B0) (hS : ∀ B w, S B w → rchN m x y g (L0F x y) B0 len B w) (h : tabS m S cnt T W) : cnt < 3200 := by
  have hL0 : L0F x y ≤ 4 := by unfold L0F; split <;> omega
  have rch : ∀ i, i < cnt → ∃ L, Rch m x y g len 0 (L0F x y) B0 0 L (T i) (W i) := fun i hi => hS _ _ (h.1 i hi)
  have dis : ∀ i j, i < cnt → j < cnt → key m (T i) = key m (T j) → i = j := fun i j hi hj e => by
    rcases Nat.lt_trichotomy i j with c | c | c
    · have := h.2.2 i j c hj; omega
    · exact c
    · have := h.2.2 j i c hi; omega
  have ch : ∀ (P : Nat → Nat → Prop), (∀ i, i < cnt → ∃ v, P i v) → ∃ f : Nat → Nat, ∀ i, i < cnt → P i (f i) := fun P hP => by
    have : ∀ i, ∃ v, i < cnt → P i v := fun i => by
      by_cases c : i < cnt
      · obtain ⟨v, hv⟩ := hP i c; exact ⟨v, fun _ => hv⟩
      · exact ⟨0, fun z => absurd z c⟩
    exact ⟨fun i => (this i).choose, fun i hi => (this i).choose_spec hi⟩
  by_cases e : x = y
  · subst e
    have so : sumB B0 (26 * m) 26 = 15 := by
      rcases (show m = 0 ∨ m = 1 by omega) with rfl | rfl
      · exact hok.1
      · exact hok.2
    obtain ⟨q, hq1, hq2⟩ := men_of B0 (26 * m) 26
    rw [so] at hq1 hq2
    have start : menP m x q B0 B0 0 (fun _ => 0) := by
      refine ⟨by decide, fun t ht ht2 => ?_, fun _ => 0, alk_0, fun p hp => ?_⟩
      · rw [cnt_cg (g := q) 15 (fun i hi => by show q i - 0 * x = q i; omega)]; exact hq1 t (by omega)
      · show 0 = sumB (fun i => c1N (q i) x 0 p) 0 15
        simp only [c1N]; decide
    have P1 : ∀ i, i < cnt → ∃ v, ∃ K, v = kd K 0 15 ∧ menP m x q B0 (T i) len K := fun i hi => by
      obtain ⟨L, hr⟩ := rch i hi
      obtain ⟨K, hK⟩ := men_r hm hx _ _ _ _ _ _ _ _ 0 hr ⟨_, start⟩
      rw [Nat.zero_add] at hK
      exact ⟨_, K, rfl, hK⟩
    obtain ⟨f, hf⟩ := ch _ P1
    rcases Nat.eq_zero_or_pos cnt with c0 | c0
    · omega
    obtain ⟨L, hr0⟩ := rch 0 c0
    have hlen := (Rch_ok hm hx hy _ _ _ _ _ _ _ _ hr0 (by omega) hok ⟨by decide, Nat.zero_mod _⟩).1
    have := pig (ksL 15 len) cnt f (fun i hi => by obtain ⟨K, e1, e2⟩ := hf i hi; rw [e1]; exact ks_mem 15 len e2.1) (fun i j hi hj e => by
      obtain ⟨K, e1, k1, k2, C, k3, k4⟩ := hf i hi
      obtain ⟨K', e1', k1', k2', C', k3', k4'⟩ := hf j hj
      have dg : ∀ (K : Nat → Nat), sumB K 0 15 = len → ∀ k, k < 15 → K (0 + k) ≤ 15 := fun K hs k hk => by have := su_le (B := K) (o := 0) 15 hk; omega
      have eK := kd_inj 15 (dg K k1) (dg K' k1') (by rw [← e1, ← e1']; exact e)
      have eC : ∀ t, 1 ≤ t → C t = C' t := fun t ht => by
        rw [k4 t ht, k4' t ht]
        exact su_cg 15 (fun i hi => by have := eK i hi; show c1N _ x (K (0 + i)) t = c1N _ x (K' (0 + i)) t; rw [this])
      exact dis i j hi hj (key_cg hm (alk_eq hm k3 k3' eC)))
    have := ks_len len (by omega)
    omega
  · have P1 : ∀ i, i < cnt → ∃ v, v < 2500 ∧ T i = (if len = 0 then B0 else if len = 1 then nxB m x y B0 v else nxB m x y (nxB m x y B0 (v / 50)) (v % 50)) := fun i hi => by
      obtain ⟨L, hr⟩ := rch i hi
      have h2 := two_steps e (by unfold L0F; rw [if_neg e]; omega) hr
      rcases (show len = 0 ∨ len = 1 ∨ len = 2 by omega) with rfl | rfl | rfl
      · exact ⟨0, by omega, by rw [if_pos rfl]; exact hr.2.1⟩
      · obtain ⟨c, h1, h2, h3, h4, h5⟩ := hr
        exact ⟨c, by omega, by rw [if_neg (by decide), if_pos rfl]; exact h4⟩
      · obtain ⟨c, h1, h2, c', g1, g2, g3, g4, g5⟩ := hr
        exact ⟨50 * c + c', by omega, by rw [if_neg (by decide), if_neg (by decide), show (50 * c + c') / 50 = c by omega, show (50 * c + c') % 50 = c' by omega]; exact g4⟩
    obtain ⟨f, hf⟩ := ch _ P1
    have := pigN f (fun i hi => (hf i hi).1) (fun i j hi hj e => dis i j hi hj (by rw [(hf i hi).2, (hf j hj).2, e]))
    omega
