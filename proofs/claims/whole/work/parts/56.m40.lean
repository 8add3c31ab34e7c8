theorem pip_ex (s : Nat) : pipS s = menS s + sumB (fun k => k * dgF s k) 0 6 := by
  rw [pipS_f, menS_f]; simp only [sumB, pfF]; omega
theorem ones_iff {s : Nat} (hs : stnd s) : pipS s = menS s ↔ s < 16 := by
  rw [pip_ex]
  constructor
  · intro h
    have z : ∀ k, k < 6 → k * dgF s k = 0 := fun k hk => by have := su_le (B := fun k => k * dgF s k) (o := 0) 6 hk; rw [Nat.zero_add] at this; omega
    have e := kd_st hs.1
    have d : ∀ k, 1 ≤ k → k < 6 → dgF s k = 0 := fun k h1 h2 => by rcases Nat.mul_eq_zero.mp (z k h2) with z | z <;> omega
    simp only [kd, Nat.zero_add] at e
    rw [d 1 (by omega) (by omega), d 2 (by omega) (by omega), d 3 (by omega) (by omega), d 4 (by omega) (by omega), d 5 (by omega) (by omega)] at e
    have := dgF_le s 0
    omega
  · intro h
    have d : ∀ k, 1 ≤ k → dgF s k = 0 := fun k h1 => by
      unfold dgF; rw [Nat.div_eq_of_lt (Nat.lt_of_lt_of_le h (by have := Nat.pow_le_pow_right (n := 16) (by decide) h1; rw [Nat.pow_one] at this; exact this))]
    simp only [sumB, Nat.zero_add]
    rw [d 1 (by omega), d 2 (by omega), d 3 (by omega), d 4 (by omega), d 5 (by omega)]; omega
theorem one_st {n : Nat} (h : n ≤ 15) : stnd n ∧ menS n = n ∧ pipS n = n := by
  have d0 : dgF n 0 = n := by unfold dgF; rw [Nat.pow_zero, Nat.div_one]; exact Nat.mod_eq_of_lt (by omega)
  have d : ∀ k, 1 ≤ k → dgF n k = 0 := fun k h1 => by
    unfold dgF; rw [Nat.div_eq_of_lt (Nat.lt_of_lt_of_le (show n < 16 by omega) (by have := Nat.pow_le_pow_right (n := 16) (by decide) h1; rw [Nat.pow_one] at this; exact this))]
  have m : menS n = n := by
    rw [menS_f]; simp only [sumB, Nat.zero_add]; rw [d0, d 1 (by omega), d 2 (by omega), d 3 (by omega), d 4 (by omega), d 5 (by omega)]; rfl
  have st : stnd n := ⟨by omega, by omega⟩
  exact ⟨st, m, by rw [(ones_iff st).mpr (by omega), m]⟩
theorem one_mv {n p d : Nat} (h : n ≤ 15) (hd : 1 ≤ d) (hl : lgl n p d) : p = 1 ∧ mvN n p d + 1 = n := by
  obtain ⟨h1, h2, h3, h4⟩ := hl
  have hp : p = 1 := by
    rcases Nat.lt_or_ge 1 p with c | c
    · exfalso; unfold dgt at h3
      rw [Nat.div_eq_of_lt (Nat.lt_of_lt_of_le (show n < 16 by omega) (by have := Nat.pow_le_pow_right (n := 16) (by decide) (show 1 ≤ p - 1 by omega); rw [Nat.pow_one] at this; exact this))] at h3
      exact absurd h3 (by decide)
    · omega
  subst hp
  refine ⟨rfl, ?_⟩
  unfold mvN; rw [if_neg (by omega)]
  unfold dgt at h3; simp at h3 ⊢; omega
theorem one_lg {n d : Nat} (h : n ≤ 15) (h0 : 1 ≤ n) (hd : 1 ≤ d) : lgl n 1 d ∧ mvN n 1 d = n - 1 := by
  have hl : lgl n 1 d := ⟨by omega, by omega, by unfold dgt; simp; omega, Or.inr (by rw [Nat.pow_one]; exact Nat.div_eq_of_lt (by omega))⟩
  exact ⟨hl, by have := (one_mv h hd hl).2; omega⟩
theorem one_lv {d : Nat} (hd : 1 ≤ d) : ∀ k {n t : Nat}, n ≤ 15 → Lv d k n t → t + k = n
  | 0, n, t, _, h => by rw [show t = n from h]; rfl
  | k + 1, n, t, hn, ⟨u, p, h1, h2, h3⟩ => by
    have := one_lv hd k hn h1
    have := (one_mv (by omega) hd h2).2
    omega
theorem one_lv2 {d : Nat} (hd : 1 ≤ d) : ∀ k {n : Nat}, n ≤ 15 → k ≤ n → Lv d k n (n - k)
  | 0, n, _, _ => rfl
  | k + 1, n, hn, hk => ⟨n - k, 1, one_lv2 hd k hn (by omega), (one_lg (by omega) (by omega) hd).1, by rw [(one_lg (by omega) (by omega) hd).2]; omega⟩
theorem one_res {n a b t : Nat} (h : n ≤ 15) (ha : 1 ≤ a) (hb : 1 ≤ b) (hr : Res n a b t) : t = n - (if a = b then 4 else 2) := by
  by_cases c : a = b
  · subst c; rw [if_pos rfl]
    rcases hr with hr | ⟨hr, rfl⟩
    · rcases hr with ⟨-, hr⟩ | ⟨z, -⟩
      · have := one_lv ha 4 h hr; omega
      · exact absurd rfl z
    · rcases Nat.lt_or_ge n 4 with z | z
      · omega
      · exact absurd ⟨_, Or.inl ⟨rfl, one_lv2 ha 4 h z⟩⟩ hr
  · rw [if_neg c]
    have t2 : ∀ x y, 1 ≤ x → 1 ≤ y → T2 x y n t → t + 2 = n := fun x y hx hy ⟨p, q, h1, h2, h3⟩ => by
      have := (one_mv h hx h1).2
      have := (one_mv (by omega) hy h2).2
      omega
    rcases hr with hr | ⟨hr, rfl⟩
    · rcases hr with ⟨z, -⟩ | ⟨-, z | z⟩
      · exact absurd z c
      · have := t2 a b ha hb z; omega
      · have := t2 b a hb ha z; omega
    · rcases Nat.lt_or_ge n 2 with z | z
      · omega
      · exfalso
        have l1 := one_lg (d := a) h (by omega) ha
        have l2 := one_lg (n := n - 1) (d := b) (by omega) (by omega) hb
        exact hr ⟨_, Or.inr ⟨c, Or.inl ⟨1, 1, l1.1, by rw [l1.2]; exact l2.1, rfl⟩⟩⟩
theorem sumD_two (x y : Nat) : sumD (fun a b => if a = b then x else y) = 6 * x + 30 * y := by
  unfold sumD; simp only [sumB]; simp; omega
theorem six {a b : Nat} (h : a ≤ b) : 6 ^ a ∣ 6 ^ b := Nat.pow_dvd_pow 6 h
theorem ones_ex : ∀ n, n ≤ 15 → 6 ^ (64 - (n + 1) / 2) ∣ eF 32 n ∧ (n ≠ 0 → 36 ∣ sumD (fun a b => eF 32 (bst (eF 32) n a b))) := by
  intro n
  induction n using Nat.strongRecOn with
  | ind n ih =>
    intro hn
    rcases Nat.eq_zero_or_pos n with c | c
    · subst c; rw [eF_0]; exact ⟨Nat.dvd_zero _, fun z => absurd rfl z⟩
    · have st := (one_st hn).1
      have es : sumD (fun a b => eF 32 (bst (eF 32) n a b)) = 6 * eF 32 (n - 4) + 30 * eF 32 (n - 2) := by
        rw [← sumD_two]
        refine sumD_cg (fun a b ha _ hb _ => ?_)
        have := one_res hn ha hb (bst_is (eF 32) ha hb st).1
        rw [this]
        by_cases c2 : a = b
        · rw [if_pos c2, if_pos c2]
        · rw [if_neg c2, if_neg c2]
      have hd : ∀ m, m + 2 ≤ n ∨ m = 0 → m < n → 6 ^ (65 - (n + 1) / 2) ∣ eF 32 m := fun m hm hl => by
        rcases Nat.eq_zero_or_pos m with z | z
        · subst z; rw [eF_0]; exact Nat.dvd_zero _
        · exact Nat.dvd_trans (six (by omega)) (ih m hl (by omega)).1
      have d4 := hd (n - 4) (by omega) (by omega)
      have d2 := hd (n - 2) (by omega) (by omega)
      have dS : 36 * 6 ^ (64 - (n + 1) / 2) ∣ sumD (fun a b => eF 32 (bst (eF 32) n a b)) := by
        rw [es, show 36 * 6 ^ (64 - (n + 1) / 2) = 6 * 6 ^ (65 - (n + 1) / 2) by rw [show 65 - (n + 1) / 2 = (64 - (n + 1) / 2) + 1 by omega, Nat.pow_succ]; omega]
        exact Nat.dvd_add (Nat.mul_dvd_mul_left 6 d4) (Nat.dvd_trans (Nat.mul_dvd_mul_left 6 d2) ⟨5, by omega⟩)
      refine ⟨?_, fun _ => Nat.dvd_trans (Nat.dvd_mul_right _ _) dS⟩
      rw [eF_eq 32 st (by omega)]
      refine Nat.dvd_add ?_ (by rw [show (36 : Nat) ^ 32 = 6 ^ 64 by decide +kernel]; exact six (by omega))
      obtain ⟨w, hw⟩ := dS
      rw [hw, Nat.mul_assoc, Nat.mul_div_cancel_left _ (by decide)]
      exact Nat.dvd_mul_right _ _
def Dp (s : Nat) : Nat := if s < 16 then (s + 3) / 4 else (pipS s + 2) / 3 + 1
theorem mv_two {u p d : Nat} (hu : stnd u) (h16 : ¬ u < 16) (hd : 2 ≤ d) (h : lgl u p d) : pipS (mvN u p d) + 2 ≤ pipS u := by
  have b := (lgl_mv hu (by omega) h).2.2.2
  by_cases c : d < p
  · rw [if_pos c] at b; omega
  · rw [if_neg c] at b
    have : 2 ≤ p := by
      rcases Nat.lt_or_ge 1 p with z | z
      · exact z
      · have : p = 1 := by have := h.1; omega
        subst this
        rcases h.2.2.2 with z2 | z2
        · omega
        · rw [Nat.pow_one] at z2; omega
    omega
theorem mv_one {u p d : Nat} (hu : stnd u) (hd : 1 ≤ d) (h : lgl u p d) : pipS (mvN u p d) + 1 ≤ pipS u := by
  have b := (lgl_mv hu hd h).2.2.2
  have := h.1
  split at b <;> omega
theorem T2_pip {a b s t : Nat} (ha : 1 ≤ a) (hb : 1 ≤ b) (hab : a ≠ b) (hs : stnd s) (h16 : ¬ s < 16) (h : T2 a b s t) : pipS t + 3 ≤ pipS s ∨ (t < 16 ∧ pipS t + 2 ≤ pipS s) := by
  obtain ⟨p, q, h1, h2, rfl⟩ := h
  have m1 := lgl_mv hs ha h1
  have o1 := mv_one hs ha h1
  have o2 := mv_one m1.1 hb h2
  rcases Nat.lt_or_ge 1 a with c | c
  · have := mv_two hs h16 c h1; left; omega
  · by_cases c2 : mvN s p a < 16
    · right; exact ⟨by have := (lgl_mv m1.1 hb h2).2.1; omega, by omega⟩
    · have := mv_two m1.1 c2 (by omega) h2; left; omega
theorem Res_pip {s a b t : Nat} (ha : 1 ≤ a) (hb : 1 ≤ b) (hs : stnd s) (h0 : s ≠ 0) (h : Res s a b t) : pipS t + 1 ≤ pipS s := by
  have hp : ∃ p, lgl s p 1 := any_mv hs h0
  rcases h with h | ⟨h, rfl⟩
  · rcases h with ⟨rfl, h⟩ | ⟨h, h2⟩
    · have := (Lv_st ha 4 hs h).2.2; omega
    · rcases h2 with ⟨p, q, h1, h2, rfl⟩ | ⟨p, q, h1, h2, rfl⟩
      · have := mv_one hs ha h1; have := mv_one (lgl_mv hs ha h1).1 hb h2; omega
      · have := mv_one hs hb h1; have := mv_one (lgl_mv hs hb h1).1 ha h2; omega
  · obtain ⟨p, hp⟩ := hp
    have := mv_one hs (by omega) hp
    rw [show pipS 0 = 0 by decide]; omega
theorem pip_90 {s : Nat} (hs : stnd s) : pipS s ≤ 90 := by
  have h := hs.2
  rw [menS_f] at h; rw [pipS_f]; simp only [sumB, pfF] at h ⊢; omega
theorem Dp_dec {s a b t : Nat} (ha : 1 ≤ a) (hb : 1 ≤ b) (hs : stnd s) (h16 : ¬ s < 16) (h : Res s a b t) : Dp t + 1 ≤ Dp s := by
  have ht := (Res_st ha hb hs h).1
  have tp : t < 16 → pipS t = t := fun z => (one_st (by omega)).2.2
  have hP := Res_pip ha hb hs (by omega) h
  unfold Dp; rw [if_neg h16]
  have key : pipS t + 3 ≤ pipS s ∨ (t < 16 ∧ pipS t + 2 ≤ pipS s) ∨ t = 0 := by
    rcases h with h | ⟨h, rfl⟩
    · rcases h with ⟨rfl, h⟩ | ⟨h, h2⟩
      · have := (Lv_st ha 4 hs h).2.2; left; omega
      · rcases h2 with h2 | h2
        · rcases T2_pip ha hb h hs h16 h2 with z | z
          · left; exact z
          · right; left; exact z
        · rcases T2_pip hb ha (fun z => h z.symm) hs h16 h2 with z | z
          · left; exact z
          · right; left; exact z
    · right; right; rfl
  by_cases c : t < 16
  · rw [if_pos c]; have := tp c; rcases key with z | z | z <;> omega
  · rw [if_neg c]; rcases key with z | z | z <;> omega
theorem eF_ex : ∀ s, stnd s → 36 ^ (32 - Dp s) ∣ eF 32 s ∧ (s ≠ 0 → 36 ∣ sumD (fun a b => eF 32 (bst (eF 32) s a b))) := by
  intro s
  induction s using Nat.strongRecOn with
  | ind s ih =>
    intro hs
    by_cases c : s < 16
    · have o := ones_ex s (by omega)
      refine ⟨Nat.dvd_trans ?_ o.1, o.2⟩
      unfold Dp; rw [if_pos c, show (36 : Nat) = 6 ^ 2 by decide, ← Nat.pow_mul]
      exact six (by omega)
    · have hD : Dp s ≤ 31 := by have := pip_90 hs; unfold Dp; rw [if_neg c]; omega
      have dS : 36 * 36 ^ (32 - Dp s) ∣ sumD (fun a b => eF 32 (bst (eF 32) s a b)) := by
        refine sumD_dvd (fun a b ha _ hb _ => ?_)
        have r := (bst_is (eF 32) ha hb hs).1
        have st := Res_st ha hb hs r
        have dd := Dp_dec ha hb hs c r
        refine Nat.dvd_trans ?_ (ih _ (st.2 (by omega)) st.1).1
        rw [show 36 * 36 ^ (32 - Dp s) = 36 ^ (33 - Dp s) by rw [show 33 - Dp s = (32 - Dp s) + 1 by omega, Nat.pow_succ, Nat.mul_comm]]
        exact Nat.pow_dvd_pow 36 (by omega)
      refine ⟨?_, fun _ => Nat.dvd_trans (Nat.dvd_mul_right _ _) dS⟩
      rw [eF_eq 32 hs (by omega)]
      refine Nat.dvd_add ?_ (Nat.pow_dvd_pow 36 (by omega))
      obtain ⟨w, hw⟩ := dS
      rw [hw, Nat.mul_assoc, Nat.mul_div_cancel_left _ (by decide)]
      exact Nat.dvd_mul_right _ _
/-- the reference's numbers are the class's, times 36 to the 4th -/
theorem eF_4 : ∀ s, stnd s → eF 36 s = 36 ^ 4 * eF 32 s := by
  intro s
  induction s using Nat.strongRecOn with
  | ind s ih =>
    intro hs
    by_cases c : s = 0
    · subst c; rw [eF_0, eF_0, Nat.mul_zero]
    · have bb : ∀ a b, 1 ≤ a → 1 ≤ b → bst (eF 36) s a b = bst (eF 32) s a b := fun a b ha hb => bst_cg ha hb hs (fun t u ht hu => by
        have t1 := Res_st ha hb hs ht; have u1 := Res_st ha hb hs hu
        rw [ih t (t1.2 c) t1.1, ih u (u1.2 c) u1.1]
        exact ⟨by constructor <;> intro _ <;> omega, by constructor <;> intro _ <;> omega⟩)
      rw [eF_eq 36 hs c, eF_eq 32 hs c]
      have e : sumD (fun a b => eF 36 (bst (eF 36) s a b)) = 36 ^ 4 * sumD (fun a b => eF 32 (bst (eF 32) s a b)) := by
        rw [← sumD_mul]
        refine sumD_cg (fun a b ha _ hb _ => ?_)
        have st := Res_st ha hb hs (bst_is (eF 32) ha hb hs).1
        rw [bb a b ha hb, ih _ (st.2 c) st.1]
      rw [e]
      obtain ⟨w, hw⟩ := (eF_ex s hs).2 c
      rw [hw, Nat.mul_left_comm, Nat.mul_div_cancel_left _ (by decide), Nat.mul_div_cancel_left _ (by decide), Nat.mul_add]
theorem bst_36 {s a b : Nat} (hs : stnd s) (ha : 1 ≤ a) (hb : 1 ≤ b) : bst (eF 36) s a b = bst (eF 32) s a b := bst_cg ha hb hs (fun t u ht hu => by
  rw [eF_4 t (Res_st ha hb hs ht).1, eF_4 u (Res_st ha hb hs hu).1]
  exact ⟨by constructor <;> intro _ <;> omega, by constructor <;> intro _ <;> omega⟩)
theorem sumD_le {f : Nat → Nat → Nat} {m : Nat} (h : ∀ a b, 1 ≤ a → a ≤ 6 → 1 ≤ b → b ≤ 6 → f a b ≤ m) : sumD f ≤ 36 * m := by
  unfold sumD; simp only [sumB]; simp
  have g := fun a b h1 h2 h3 h4 => h a b h1 h2 h3 h4
  have h11 := g 1 1 (by omega) (by omega) (by omega) (by omega)
  have h21 := g 2 1 (by omega) (by omega) (by omega) (by omega)
  have h22 := g 2 2 (by omega) (by omega) (by omega) (by omega)
  have h31 := g 3 1 (by omega) (by omega) (by omega) (by omega)
  have h32 := g 3 2 (by omega) (by omega) (by omega) (by omega)
  have h33 := g 3 3 (by omega) (by omega) (by omega) (by omega)
  have h41 := g 4 1 (by omega) (by omega) (by omega) (by omega)
  have h42 := g 4 2 (by omega) (by omega) (by omega) (by omega)
  have h43 := g 4 3 (by omega) (by omega) (by omega) (by omega)
  have h44 := g 4 4 (by omega) (by omega) (by omega) (by omega)
  have h51 := g 5 1 (by omega) (by omega) (by omega) (by omega)
  have h52 := g 5 2 (by omega) (by omega) (by omega) (by omega)
  have h53 := g 5 3 (by omega) (by omega) (by omega) (by omega)
  have h54 := g 5 4 (by omega) (by omega) (by omega) (by omega)
  have h55 := g 5 5 (by omega) (by omega) (by omega) (by omega)
  have h61 := g 6 1 (by omega) (by omega) (by omega) (by omega)
  have h62 := g 6 2 (by omega) (by omega) (by omega) (by omega)
  have h63 := g 6 3 (by omega) (by omega) (by omega) (by omega)
  have h64 := g 6 4 (by omega) (by omega) (by omega) (by omega)
  have h65 := g 6 5 (by omega) (by omega) (by omega) (by omega)
  have h66 := g 6 6 (by omega) (by omega) (by omega) (by omega)
  omega
theorem eF_le (K : Nat) : ∀ s, stnd s → eF K s ≤ pipS s * 36 ^ K := by
  intro s
  induction s using Nat.strongRecOn with
  | ind s ih =>
    intro hs
    by_cases c : s = 0
    · subst c; rw [eF_0]; exact Nat.zero_le _
    · rw [eF_eq K hs c]
      have l : sumD (fun a b => eF K (bst (eF K) s a b)) ≤ 36 * ((pipS s - 1) * 36 ^ K) := sumD_le (fun a b ha _ hb _ => by
        have r := (bst_is (eF K) ha hb hs).1
        have st := Res_st ha hb hs r
        have pp := Res_pip ha hb hs c r
        exact Nat.le_trans (ih _ (st.2 c) st.1) (Nat.mul_le_mul_right _ (by omega)))
      have l2 : sumD (fun a b => eF K (bst (eF K) s a b)) / 36 ≤ (pipS s - 1) * 36 ^ K := Nat.div_le_of_le_mul l
      obtain ⟨p, hp⟩ := any_mv (d := 1) hs c
      have := mv_one hs (by omega) hp
      have e : pipS s * 36 ^ K = (pipS s - 1) * 36 ^ K + 36 ^ K := by
        rw [show pipS s = (pipS s - 1) + 1 by omega, Nat.add_mul, Nat.one_mul]; rfl
      omega
