theorem ks_le2 : ∀ s, s < 5 → (ksL 15 s).length ≤ 3060 := by decide +kernel
theorem fewer {m x y g len cnt : Nat} {B0 : Nat → Nat} {S : (Nat → Nat) → Nat → Prop} {T : Nat → Nat → Nat} {W : Nat → Nat} (hm : m ≤ 1) (hx : 1 ≤ x ∧ x ≤ 6) (hy : 1 ≤ y ∧ y ≤ 6) (hok : okB B0) (hS : ∀ B w, S B w → rchN m x y g (L0F x y) B0 len B w) (h : tabS m S cnt T W) : cnt ≤ 3060 := by
  have hL0 : L0F x y ≤ 4 := by unfold L0F; split <;> omega
  have rch : ∀ i, i < cnt → ∃ L, Rch m x y g len 0 (L0F x y) B0 0 L (T i) (W i) := fun i hi => hS _ _ (h.1 i hi)
  have dis : ∀ i j, i < cnt → j < cnt → key m (T i) = key m (T j) → i = j := fun i j hi hj e => by
    rcases Nat.lt_trichotomy i j with c | c | c
    · have := h.2.2 i j c hj; omega
    · exact c
    · have := h.2.2 j i c hi; omega
  have ch : ∀ (P : Nat → Nat → Prop), (∀ i, i < cnt → ∃ v, P i v) → ∃ f : Nat → Nat, ∀ i, i < cnt → P i (f i) := fun P hP => by
    have : ∀ i, ∃ v, i < cnt → P i v := fun i => by
      by_cases c : i < cnt
      · obtain ⟨v, hv⟩ := hP i c; exact ⟨v, fun _ => hv⟩
      · exact ⟨0, fun z => absurd z c⟩
    exact ⟨fun i => (this i).choose, fun i hi => (this i).choose_spec hi⟩
  by_cases e : x = y
  · subst e
    have so : sumB B0 (26 * m) 26 = 15 := by
      rcases (show m = 0 ∨ m = 1 by omega) with rfl | rfl
      · exact hok.1
      · exact hok.2
    obtain ⟨q, hq1, hq2⟩ := men_of B0 (26 * m) 26
    rw [so] at hq1 hq2
    have start : menP m x q B0 B0 0 (fun _ => 0) := by
      refine ⟨by decide, fun t ht ht2 => ?_, fun _ => 0, alk_0, fun p hp => ?_⟩
      · rw [cnt_cg (g := q) 15 (fun i hi => by show q i - 0 * x = q i; omega)]; exact hq1 t (by omega)
      · show 0 = sumB (fun i => c1N (q i) x 0 p) 0 15
        simp only [c1N]; decide
    have P1 : ∀ i, i < cnt → ∃ v, ∃ K, v = kd K 0 15 ∧ menP m x q B0 (T i) len K := fun i hi => by
      obtain ⟨L, hr⟩ := rch i hi
      obtain ⟨K, hK⟩ := men_r hm hx _ _ _ _ _ _ _ _ 0 hr ⟨_, start⟩
      rw [Nat.zero_add] at hK
      exact ⟨_, K, rfl, hK⟩
    obtain ⟨f, hf⟩ := ch _ P1
    rcases Nat.eq_zero_or_pos cnt with c0 | c0
    · omega
    obtain ⟨L, hr0⟩ := rch 0 c0
    have hlen := (Rch_ok hm hx hy _ _ _ _ _ _ _ _ hr0 (by omega) hok ⟨by decide, Nat.zero_mod _⟩).1
    have := pig (ksL 15 len) cnt f (fun i hi => by obtain ⟨K, e1, e2⟩ := hf i hi; rw [e1]; exact ks_mem 15 len e2.1) (fun i j hi hj e => by
      obtain ⟨K, e1, k1, k2, C, k3, k4⟩ := hf i hi
      obtain ⟨K', e1', k1', k2', C', k3', k4'⟩ := hf j hj
      have dg : ∀ (K : Nat → Nat), sumB K 0 15 = len → ∀ k, k < 15 → K (0 + k) ≤ 15 := fun K hs k hk => by have := su_le (B := K) (o := 0) 15 hk; omega
      have eK := kd_inj 15 (dg K k1) (dg K' k1') (by rw [← e1, ← e1']; exact e)
      have eC : ∀ t, 1 ≤ t → C t = C' t := fun t ht => by
        rw [k4 t ht, k4' t ht]
        exact su_cg 15 (fun i hi => by have := eK i hi; show c1N _ x (K (0 + i)) t = c1N _ x (K' (0 + i)) t; rw [this])
      exact dis i j hi hj (key_cg hm (alk_eq hm k3 k3' eC)))
    have := ks_le2 len (by omega)
    omega
  · have P1 : ∀ i, i < cnt → ∃ v, v < 2500 ∧ T i = (if len = 0 then B0 else if len = 1 then nxB m x y B0 v else nxB m x y (nxB m x y B0 (v / 50)) (v % 50)) := fun i hi => by
      obtain ⟨L, hr⟩ := rch i hi
      have h2 := two_steps e (by unfold L0F; rw [if_neg e]; omega) hr
      rcases (show len = 0 ∨ len = 1 ∨ len = 2 by omega) with rfl | rfl | rfl
      · exact ⟨0, by omega, by rw [if_pos rfl]; exact hr.2.1⟩
      · obtain ⟨c, h1, h2, h3, h4, h5⟩ := hr
        exact ⟨c, by omega, by rw [if_neg (by decide), if_pos rfl]; exact h4⟩
      · obtain ⟨c, h1, h2, c', g1, g2, g3, g4, g5⟩ := hr
        exact ⟨50 * c + c', by omega, by rw [if_neg (by decide), if_neg (by decide), show (50 * c + c') / 50 = c by omega, show (50 * c + c') % 50 = c' by omega]; exact g4⟩
    obtain ⟨f, hf⟩ := ch _ P1
    have := pigN f (fun i hi => (hf i hi).1) (fun i j hi hj e => dis i j hi hj (by rw [(hf i hi).2, (hf j hj).2, e]))
    omega

/-! what a table holds at any time: boards that so many moves come to -/
theorem mvB_out {B : Nat → Nat} {m p d k : Nat} (hm : m ≤ 1) (hp : p ≤ 25) (hk : 52 ≤ k) : mvB B m p d k = B k := by
  unfold mvB mv1
  by_cases c : d < p ∧ ¬ B (26 * (1 - m) + (25 - (p - d))) = 0
  · rw [if_pos c, va_n (by omega), va_n (by omega), va_n (by omega), va_n (by omega)]
  · rw [if_neg c, va_n (by omega), va_n (by omega)]
theorem Rch_out {m x y g : Nat} (hm : m ≤ 1) {j : Nat} (hj : 52 ≤ j) : ∀ k n L (B : Nat → Nat) w L' (B' : Nat → Nat) w', Rch m x y g k n L B w L' B' w' → B' j = B j
  | 0, n, L, B, w, L', B', w', h => by rw [h.2.1]
  | k + 1, n, L, B, w, L', B', w', h => by
    obtain ⟨c, h1, h2, h3⟩ := h
    rw [Rch_out hm hj k _ _ _ _ _ _ _ h3]
    exact mvB_out hm (by omega) hj
theorem okB_dg {B : Nat → Nat} (h : okB B) : dgB B := fun k hk => by
  by_cases c : k < 26
  · have := su_le (B := B) (o := 0) (j := k) 26 c; rw [Nat.zero_add] at this; have := h.1; omega
  · have := su_le (B := B) (o := 26) (j := k - 26) 26 (by omega); rw [show 26 + (k - 26) = k by omega] at this; have := h.2; omega
def rcb (m x y : Nat) (B0 : Nat → Nat) (n : Nat) (B : Nat → Nat) (w : Nat) : Prop := rchN m x y 0 (L0F x y) B0 n B w
theorem L0_4 (x y : Nat) : L0F x y ≤ 4 := by unfold L0F; split <;> omega
theorem rcb_ok {m x y n w : Nat} {B0 B : Nat → Nat} (hm : m ≤ 1) (hx : 1 ≤ x ∧ x ≤ 6) (hy : 1 ≤ y ∧ y ≤ 6) (hok : okB B0) (h : rcb m x y B0 n B w) : n ≤ 4 ∧ okB B ∧ wOK n w ∧ w < 2 ^ 40 := by
  obtain ⟨L, h⟩ := h
  have := Rch_ok hm hx hy _ _ _ _ _ _ _ _ h (by have := L0_4 x y; omega) hok ⟨by decide, Nat.zero_mod _⟩
  rw [Nat.zero_add] at this
  exact ⟨by omega, this.2.1, this.2.2, Nat.lt_of_lt_of_le this.2.2.1 (by decide)⟩
theorem rcb_eq {m x y n n' w w' : Nat} {B0 B B' : Nat → Nat} (hm : m ≤ 1) (hx : 1 ≤ x ∧ x ≤ 6) (hy : 1 ≤ y ∧ y ≤ 6) (hok : okB B0) (h : rcb m x y B0 n B w) (h' : rcb m x y B0 n' B' w') (e : key m B = key m B') : B = B' := by
  have a := key_inj hm (okB_dg (rcb_ok hm hx hy hok h).2.1) (okB_dg (rcb_ok hm hx hy hok h').2.1) e
  obtain ⟨L, h⟩ := h
  obtain ⟨L', h'⟩ := h'
  funext k
  by_cases c : k < 52
  · exact a k c
  · rw [Rch_out hm (by omega) _ _ _ _ _ _ _ _ h, Rch_out hm (by omega) _ _ _ _ _ _ _ _ h']
/-- S: what has been recorded of the present weight -/
def ivT (m x y : Nat) (B0 : Nat → Nat) (S : (Nat → Nat) → Nat → Prop) (τ : TB) : Prop := τ.1 ≤ 9 ∧ (∀ B w, S B w → rcb m x y B0 (τ.1 / 2) B w) ∧ tabS m S τ.2.1 τ.2.2.1 τ.2.2.2.1
def recS (τ : TB) (S : (Nat → Nat) → Nat → Prop) (B : Nat → Nat) (w v : Nat) : (Nat → Nat) → Nat → Prop := if v < τ.1 then S else if τ.1 < v then addS (fun _ _ => False) B w else addS S B w
theorem tabS_e (m : Nat) (T : Nat → Nat → Nat) (W : Nat → Nat) : tabS m (fun _ _ => False) 0 T W := ⟨fun i h => by omega, fun B w h => h.elim, fun i j _ h => by omega⟩
theorem srt_pl {m cnt x : Nat} {T : Nat → Nat → Nat} (hs : srtT m cnt T) : plP m cnt T x (pN m cnt T x) := by
  have ex : ∃ p, plP m cnt T x p := by
    have go : ∀ n, n ≤ cnt → (∀ i, i < n → x < key m (T i)) ∨ ∃ p, p < n ∧ (∀ i, i < p → x < key m (T i)) ∧ key m (T p) ≤ x := fun n => by
      induction n with
      | zero => intro _; exact Or.inl (fun i h => by omega)
      | succ n ih =>
        intro hn
        rcases ih (by omega) with h | ⟨p, h1, h2, h3⟩
        · by_cases c : x < key m (T n)
          · exact Or.inl (fun i hi => by
              by_cases e : i = n
              · rw [e]; exact c
              · exact h i (by omega))
          · exact Or.inr ⟨n, by omega, h, by omega⟩
        · exact Or.inr ⟨p, by omega, h2, h3⟩
    rcases go cnt (Nat.le_refl _) with h | ⟨p, h1, h2, h3⟩
    · exact ⟨cnt, Nat.le_refl _, h, fun i a b => by omega, fun h => by omega⟩
    · exact ⟨p, by omega, h2, fun i a b => Nat.lt_of_lt_of_le (hs p i a b) h3, fun _ => h3⟩
  obtain ⟨p, hp⟩ := ex
  rw [pN_is hp]; exact hp
theorem rc1_S {m x y v w : Nat} {B0 B : Nat → Nat} {S : (Nat → Nat) → Nat → Prop} {τ : TB} (hm : m ≤ 1) (hx : 1 ≤ x ∧ x ≤ 6) (hy : 1 ≤ y ∧ y ≤ 6) (hok : okB B0) (h : ivT m x y B0 S τ) (hB : rcb m x y B0 (v / 2) B w) (hv : v = τ.1) : ivT m x y B0 (addS S B w) (rc1 m τ B w) := by
  obtain ⟨wt, cnt, T, W, g⟩ := τ
  obtain ⟨h0, h1, h2⟩ := h
  dsimp only at h0 h1 h2 hv
  subst hv
  have hS : ∀ B' w', addS S B w B' w' → rcb m x y B0 (v / 2) B' w' := fun B' w' z => by
    rcases z with z | ⟨rfl, rfl⟩
    · exact h1 _ _ z
    · exact hB
  have hp := srt_pl (x := key m B) h2.2.2
  unfold rc1
  show ivT m x y B0 (addS S B w) (if pN m cnt T (key m B) < cnt ∧ key m (T (pN m cnt T (key m B))) = key m B then (v, cnt, T, upT W (pN m cnt T (key m B)) (max (W (pN m cnt T (key m B))) w), g) else insT (v, cnt, T, W, g) (pN m cnt T (key m B)) B w)
  generalize pN m cnt T (key m B) = p at hp
  obtain ⟨p1, p2, p3, p4⟩ := hp
  by_cases c : p < cnt ∧ key m (T p) = key m B
  · rw [if_pos c]
    have eT : T p = B := rcb_eq hm hx hy hok (h1 _ _ (h2.1 p c.1)) hB c.2
    refine ⟨h0, hS, ?_⟩
    show tabS m (addS S B w) cnt T (upT W p (max (W p) w))
    by_cases y9 : w ≤ W p
    · rw [show max (W p) w = W p by omega, show upT W p (W p) = W from funext (fun i => by unfold upT; split <;> simp_all)]
      exact tabS_same h2 c.1 c.2.symm y9
    · rw [show max (W p) w = w by omega]
      have := tabS_up (w := w) h2 c.1 c.2.symm (by omega)
      rw [show upT T p B = T from funext (fun i => by unfold upT; split <;> simp_all)] at this
      exact this
  · rw [if_neg c]
    refine ⟨h0, hS, ?_⟩
    exact tabS_in h2 p1 p2 (fun i a b => by
      by_cases e : i = p
      · subst e; have := p4 b; have : key m (T i) ≠ key m B := fun z => c ⟨b, z⟩; omega
      · exact p3 i (by omega) b)
theorem rec_S {m x y v w : Nat} {B0 B : Nat → Nat} {S : (Nat → Nat) → Nat → Prop} {τ : TB} (hm : m ≤ 1) (hx : 1 ≤ x ∧ x ≤ 6) (hy : 1 ≤ y ∧ y ≤ 6) (hok : okB B0) (h : ivT m x y B0 S τ) (hB : rcb m x y B0 (v / 2) B w) (hv : v ≤ 9) : ivT m x y B0 (recS τ S B w v) (recF m τ B w v) ∧ (recF m τ B w v).2.1 ≤ 3060 ∧ (recF m τ B w v).1 ≤ 9 := by
  have main : ivT m x y B0 (recS τ S B w v) (recF m τ B w v) := by
    unfold recS recF
    by_cases c : v < τ.1
    · rw [if_pos c, if_pos c]; exact h
    · rw [if_neg c, if_neg c]
      by_cases c2 : τ.1 < v
      · rw [if_pos c2, if_pos c2]
        exact rc1_S hm hx hy hok (τ := (v, 0, τ.2.2.1, τ.2.2.2.1, τ.2.2.2.2)) ⟨hv, fun _ _ z => z.elim, tabS_e m _ _⟩ hB rfl
      · rw [if_neg c2, if_neg c2]
        exact rc1_S hm hx hy hok h hB (by omega)
  exact ⟨main, fewer hm hx hy hok main.2.1 main.2.2, main.1⟩

theorem r_6_withMove_0 {X : Ctx} (F : Fx X cX6_withMove RX6 7 1 0 0) {Φ : Option Value → HS → List Nat → Prop} (E : Ex X (some .long) 0 0 Φ) {P O : Nat → Nat → Option Nat} (hP : laP P) {I A : Nat → Nat → Int32} {J : Nat → Nat → Int64} {pl : List Nat} (hB : inB pl) {x2 x3 x4 : Int32} {y0 : Int64}
    (e_1 : Φ (some (.long (y0 ||| ((((32 * x3) + x4 : Int32).toInt64) <<< (((10 * (3 - x2)) : Int32).toInt64 &&& 63))))) (mC P O I A J) pl) :
    WA X (mC P O I A J) pl 0 0 0 [(0, .long y0), (2, .int x2), (3, .int x3), (4, .int x4)] [] := by
  refine a_bipush (v := 32) F dX6_withMove_0 (by decide) ?_
  refine a_iload_n F 2 dX6_withMove_2 rfl rfl ?_
  refine a_imul F dX6_withMove_3 ?_
  refine a_iload F 3 dX6_withMove_4 rfl ?_
  refine a_iadd F dX6_withMove_6 ?_
  refine a_i2l F dX6_withMove_7 ?_
  refine a_lstore F dX6_withMove_8 (by decide) rfl ?_
  refine a_lload_n F 1 dX6_withMove_10 rfl rfl ?_
  refine a_lload F 0 dX6_withMove_11 rfl ?_
  refine a_bipush (v := 10) F dX6_withMove_13 (by decide) ?_
  refine a_iconst (v := 3) F dX6_withMove_15 (by decide) ?_
  refine a_iload_n F 2 dX6_withMove_16 rfl rfl ?_
  refine a_isub F dX6_withMove_17 ?_
  refine a_imul F dX6_withMove_18 ?_
  refine a_lshl F dX6_withMove_19 ?_
  refine a_lor F dX6_withMove_20 ?_
  exact a_lret F E dX6_withMove_21 (Nat.le_refl 0) (Nat.le_refl 0) (e_1)
