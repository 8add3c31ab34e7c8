/-! rows of alike dice from no higher point: they come to all results -/
def LvT (d : Nat) : Nat → Nat → Nat → Nat → Prop
  | 0, _, s, u => u = s
  | n + 1, top, s, u => ∃ p, p ≤ top ∧ lgl s p d ∧ LvT d n p (mvN s p d) u
theorem LvT_m {d : Nat} : ∀ {n a b s u : Nat}, a ≤ b → LvT d n a s u → LvT d n b s u
  | 0, _, _, _, _, _, h => h
  | n + 1, a, b, s, u, hab, ⟨p, h1, h2, h3⟩ => ⟨p, Nat.le_trans h1 hab, h2, h3⟩
theorem up_z {s q : Nat} (hs : s < 16 ^ 6) (hq : q ≤ 6) : s / 16 ^ q = 0 ↔ ∀ k, q ≤ k → k < 6 → dgF s k = 0 := by
  constructor
  · intro h k h1 h2
    have hl : s < 16 ^ q := by
      rcases Nat.lt_or_ge s (16 ^ q) with c | c
      · exact c
      · have := Nat.div_pos c (Nat.pow_pos (by decide)); omega
    unfold dgF; rw [Nat.div_eq_of_lt (Nat.lt_of_lt_of_le hl (Nat.pow_le_pow_right (by decide) h1))]
  · intro h
    have e : kd (dgF s) 0 q = kd (dgF s) 0 6 := by
      have : ∀ n, q + n ≤ 6 → kd (dgF s) 0 (q + n) = kd (dgF s) 0 q := by
        intro n
        induction n with
        | zero => intro _; rfl
        | succ n ih =>
          intro hn
          show kd (dgF s) 0 (q + n) + dgF s (0 + (q + n)) * 16 ^ (q + n) = _
          rw [ih (by omega), Nat.zero_add, h (q + n) (by omega) (by omega), Nat.zero_mul, Nat.add_zero]
      have t := this (6 - q) (by omega)
      rw [show q + (6 - q) = 6 by omega] at t; exact t.symm
    rw [kd_st hs] at e
    have hl := kd_lt (B := dgF s) (o := 0) q (fun k _ => dgF_le s (0 + k))
    rw [e] at hl
    exact Nat.div_eq_of_lt hl
theorem mvD_hi {D : Nat → Nat} {p d k : Nat} (h1 : 1 ≤ p) (hd : 1 ≤ d) (hk : p ≤ k) : mvD D p d k = D k := by
  unfold mvD
  by_cases c : d < p
  · rw [if_pos c, va_n (by omega), va_n (by omega)]
  · rw [if_neg c, va_n (by omega)]
theorem mv_hi {s p d k : Nat} (hs : stnd s) (hd : 1 ≤ d) (hl : lgl s p d) (hk : p ≤ k) (h6 : k < 6) : dgF (mvN s p d) k = dgF s k := by
  rw [(mv_dig hs hd hl.1 hl.2.1 hl.2.2.1).2.2 k h6]; exact mvD_hi hl.1 hd hk
theorem dg_F {s p : Nat} (h1 : 1 ≤ p) : dgt s p = dgF s (p - 1) := by have := dgt_f s (p - 1); rw [show 1 + (p - 1) = p by omega] at this; exact this
theorem swap {s p q d : Nat} (hs : stnd s) (hd : 1 ≤ d) (hpq : p < q) (h1 : lgl s p d) (h2 : lgl (mvN s p d) q d) : lgl s q d ∧ lgl (mvN s q d) p d ∧ mvN (mvN s p d) q d = mvN (mvN s q d) p d := by
  obtain ⟨hs1, -, -⟩ := lgl_mv hs hd h1
  have eq : dgF (mvN s p d) (q - 1) = dgF s (q - 1) := mv_hi hs hd h1 (by omega) (by have := h2.2.1; omega)
  have dq : 0 < dgt s q := by rw [dg_F h2.1, ← eq, ← dg_F h2.1]; exact h2.2.2.1
  have l2 : lgl s q d := by
    refine ⟨h2.1, h2.2.1, dq, ?_⟩
    rcases h2.2.2.2 with h | h
    · exact Or.inl h
    · right
      refine (up_z hs.1 h2.2.1).mpr (fun k k1 k2 => ?_)
      rw [← mv_hi hs hd h1 (by omega) k2]
      exact (up_z hs1.1 h2.2.1).mp h k k1 k2
  obtain ⟨hs2, -, -⟩ := lgl_mv hs hd l2
  have ndp : d ≤ p := by
    rcases h1.2.2.2 with h | h
    · exact h
    · have := (up_z hs.1 h1.2.1).mp h (q - 1) (by omega) (by have := h2.2.1; omega)
      rw [dg_F h2.1] at dq; omega
  have l3 : lgl (mvN s q d) p d := by
    refine ⟨h1.1, h1.2.1, ?_, Or.inl ndp⟩
    have e := (mv_dig hs hd l2.1 l2.2.1 l2.2.2.1).2.2 (p - 1) (by have := h1.2.1; omega)
    rw [dg_F h1.1, e]
    have hp0 := h1.2.2.1
    rw [dg_F h1.1] at hp0
    have hp1 := h1.1
    unfold mvD
    by_cases c : d < q
    · rw [if_pos c]
      by_cases c2 : p - 1 = q - d - 1
      · rw [c2, va_s]; omega
      · rw [va_n c2, va_n (by omega)]; exact hp0
    · rw [if_neg c, va_n (by omega)]; exact hp0
  refine ⟨l2, l3, ?_⟩
  have a1 := dg_lo h1.2.2.1
  have a2 := dg_lo h2.2.2.1
  have a3 := dg_lo dq
  have a4 := dg_lo l3.2.2.1
  unfold mvN at *
  omega
theorem LvT_in {d : Nat} (hd : 1 ≤ d) : ∀ {n p q s u : Nat}, stnd s → lgl s p d → LvT d n q (mvN s p d) u → LvT d (n + 1) (max p q) s u
  | 0, p, q, s, u, _, hl, h => ⟨p, Nat.le_max_left _ _, hl, h⟩
  | n + 1, p, q, s, u, hs, hl, ⟨q1, h1, h2, h3⟩ => by
    rcases Nat.lt_or_ge p q1 with c | c
    · obtain ⟨l2, l3, e⟩ := swap hs hd c hl h2
      rw [e] at h3
      have := LvT_in hd (lgl_mv hs hd l2).1 l3 h3
      exact ⟨q1, by omega, l2, LvT_m (by omega) this⟩
    · exact ⟨p, Nat.le_max_left _ _, hl, q1, c, h2, h3⟩
theorem Lv_cons {d : Nat} : ∀ {n p s t : Nat}, lgl s p d → Lv d n (mvN s p d) t → Lv d (n + 1) s t
  | 0, p, s, t, hl, h => ⟨s, p, rfl, hl, h⟩
  | n + 1, p, s, t, hl, ⟨u, q, h1, h2, h3⟩ => ⟨u, q, Lv_cons hl h1, h2, h3⟩
theorem Lv_hd {d : Nat} : ∀ {n s t : Nat}, Lv d (n + 1) s t → ∃ p, lgl s p d ∧ Lv d n (mvN s p d) t
  | 0, s, t, ⟨u, p, h1, h2, h3⟩ => by have h1 : u = s := h1; subst h1; exact ⟨p, h2, h3⟩
  | n + 1, s, t, ⟨u, q, h1, h2, h3⟩ => by
    obtain ⟨p, hl, h⟩ := Lv_hd h1
    exact ⟨p, hl, u, q, h, h2, h3⟩
theorem Lv_T {d : Nat} (hd : 1 ≤ d) : ∀ {n s u : Nat}, stnd s → Lv d n s u → LvT d n 6 s u
  | 0, s, u, _, h => h
  | n + 1, s, u, hs, h => by
    obtain ⟨p, hl, h⟩ := Lv_hd h
    have := LvT_in hd hs hl (Lv_T hd (lgl_mv hs hd hl).1 h)
    exact LvT_m (by have := hl.2.1; omega) this
theorem T_Lv {d : Nat} : ∀ {n a s u : Nat}, LvT d n a s u → Lv d n s u
  | 0, _, _, _, h => h
  | n + 1, a, s, u, ⟨p, _, hl, h⟩ => Lv_cons hl (T_Lv h)
/-- moves by d that a stand takes until none is left -/
def cmF (d : Nat) (D : Nat → Nat) : Nat → Nat := fun k => (k + d) / d * D k
def cmS (s d : Nat) : Nat := sumB (cmF d (dgF s)) 0 6
theorem cm_mv {s p d : Nat} (hs : stnd s) (hd1 : 1 ≤ d) (hd : d ≤ 6) (h : lgl s p d) : cmS (mvN s p d) d + 1 = cmS s d := by
  obtain ⟨-, -, e⟩ := mv_dig hs hd1 h.1 h.2.1 h.2.2.1
  obtain ⟨h1, h2, h3, -⟩ := h
  rw [dg_F h1] at h3
  have ec : cmS (mvN s p d) d = sumB (cmF d (mvD (dgF s) p d)) 0 6 := su_cg 6 (fun k hk => by rw [Nat.zero_add]; unfold cmF; rw [e k hk])
  rw [ec]
  unfold cmS
  generalize dgF s = D at h3
  clear e ec hs
  rcases (show p = 1 ∨ p = 2 ∨ p = 3 ∨ p = 4 ∨ p = 5 ∨ p = 6 by omega) with rfl | rfl | rfl | rfl | rfl | rfl <;> rcases (show d = 1 ∨ d = 2 ∨ d = 3 ∨ d = 4 ∨ d = 5 ∨ d = 6 by omega) with rfl | rfl | rfl | rfl | rfl | rfl <;> (simp [sumB, cmF, mvD, va_up] at h3 ⊢; omega)
theorem cm_0 (d : Nat) : cmS 0 d = 0 := by
  unfold cmS
  have : sumB (cmF d (dgF 0)) 0 6 = sumB (fun _ => 0) 0 6 := su_cg 6 (fun k hk => by unfold cmF dgF; rw [Nat.zero_div]; simp)
  rw [this]; exact su_00 6
theorem Lv_cm {d : Nat} (hd1 : 1 ≤ d) (hd : d ≤ 6) : ∀ {n s u : Nat}, stnd s → Lv d n s u → cmS u d + n = cmS s d
  | 0, s, u, _, h => by have h : u = s := h; rw [h]; rfl
  | n + 1, s, u, hs, h => by
    obtain ⟨p, hl, h⟩ := Lv_hd h
    have h1 := Lv_cm hd1 hd (lgl_mv hs hd1 hl).1 h
    have h2 := cm_mv hs hd1 hd hl
    omega
/-- the class's rows -/
def rsB (d : Nat) : Nat → Nat → Nat → Nat → Prop
  | 0, _, s, u => u = s
  | n + 1, top, s, u => (s = 0 ∧ u = 0) ∨ (s ≠ 0 ∧ ∃ p, 1 ≤ p ∧ p ≤ top ∧ lgl s p d ∧ rsB d n p (mvN s p d) u)
theorem rs_T {d : Nat} : ∀ {n top s u : Nat}, rsB d n top s u → LvT d n top s u ∨ (u = 0 ∧ ∃ k, k < n ∧ LvT d k top s 0)
  | 0, _, _, _, h => Or.inl h
  | n + 1, top, s, u, h => by
    rcases h with ⟨h1, h2⟩ | ⟨-, p, p1, p2, hl, h⟩
    · exact Or.inr ⟨h2, 0, by omega, h1.symm⟩
    · rcases rs_T h with h | ⟨h, k, hk, h2⟩
      · exact Or.inl ⟨p, p2, hl, h⟩
      · exact Or.inr ⟨h, k + 1, by omega, p, p2, hl, h2⟩
theorem T_rs {d : Nat} (hd : 1 ≤ d) : ∀ {n top s u : Nat}, LvT d n top s u → rsB d n top s u
  | 0, _, _, _, h => h
  | n + 1, top, s, u, ⟨p, p2, hl, h⟩ => Or.inr ⟨fun z => not_0 (z ▸ hl), p, hl.1, p2, hl, T_rs hd h⟩
theorem T_rs0 {d : Nat} : ∀ {k n top s : Nat}, k ≤ n → LvT d k top s 0 → rsB d n top s 0
  | 0, 0, _, _, _, h => h
  | 0, n + 1, _, s, _, h => Or.inl ⟨Eq.symm h, rfl⟩
  | k + 1, n + 1, top, s, hk, ⟨p, p2, hl, h⟩ => Or.inr ⟨fun z => not_0 (z ▸ hl), p, hl.1, p2, hl, T_rs0 (by omega) h⟩
theorem Lv_ex {d : Nat} (hd : 1 ≤ d) : ∀ n {s : Nat}, stnd s → (∃ u, Lv d n s u) ∨ ∃ k, k < n ∧ Lv d k s 0
  | 0, s, _ => Or.inl ⟨s, rfl⟩
  | n + 1, s, hs => by
    by_cases c : s = 0
    · subst c; exact Or.inr ⟨0, by omega, rfl⟩
    · obtain ⟨p, hl⟩ := any_mv (d := d) hs c
      rcases Lv_ex hd n (lgl_mv hs hd hl).1 with ⟨u, h⟩ | ⟨k, hk, h⟩
      · exact Or.inl ⟨u, Lv_cons hl h⟩
      · exact Or.inr ⟨k + 1, by omega, Lv_cons hl h⟩
theorem rs_Res {s d u : Nat} (hs : stnd s) (hd1 : 1 ≤ d) (hd : d ≤ 6) : rsB d 4 6 s u ↔ Res s d d u := by
  constructor
  · intro h
    rcases rs_T h with h | ⟨h, k, hk, h2⟩
    · exact Or.inl (Or.inl ⟨rfl, T_Lv h⟩)
    · refine Or.inr ⟨?_, h⟩
      rintro ⟨t, ⟨-, ht⟩ | ⟨ht, -⟩⟩
      · have a := Lv_cm hd1 hd hs (T_Lv h2)
        have b := Lv_cm hd1 hd hs ht
        rw [cm_0] at a; omega
      · exact ht rfl
  · rintro ((⟨-, h⟩ | ⟨h, -⟩) | ⟨h, rfl⟩)
    · exact T_rs hd1 (Lv_T hd1 hs h)
    · exact absurd rfl h
    · rcases Lv_ex hd1 4 hs with ⟨t, ht⟩ | ⟨k, hk, hk2⟩
      · exact absurd ⟨t, Or.inl ⟨rfl, ht⟩⟩ h
      · exact T_rs0 (by omega) (Lv_T hd1 hs hk2)
def bbB (a b s u : Nat) : Prop := ∃ p, lgl s p a ∧ ((mvN s p a = 0 ∧ u = 0) ∨ ∃ q, lgl (mvN s p a) q b ∧ u = mvN (mvN s p a) q b)
theorem pw_one {p q : Nat} (h1 : 1 ≤ q) (h : 0 < dgt (16 ^ (p - 1)) q) (hp : 1 ≤ p) : q = p := by
  unfold dgt at h
  rcases Nat.lt_trichotomy q p with c | c | c
  · rw [show p - 1 = (q - 1) + 1 + (p - q - 1) by omega, Nat.pow_add, Nat.pow_add, Nat.mul_assoc, Nat.mul_div_cancel_left _ (Nat.pow_pos (by decide)), Nat.pow_one, Nat.mul_mod_right] at h; exact absurd h (by decide)
  · exact c
  · rw [Nat.div_eq_of_lt (Nat.pow_lt_pow_right (by decide) (by omega))] at h; exact absurd h (by decide)
theorem mv_z {s p d : Nat} (hl : lgl s p d) (h : mvN s p d = 0) : p ≤ d ∧ s = 16 ^ (p - 1) := by
  have a := dg_lo hl.2.2.1
  unfold mvN at h
  by_cases c : d < p
  · rw [if_pos c] at h; have := Nat.pow_pos (n := p - d - 1) (show 0 < 16 by decide); omega
  · rw [if_neg c] at h; exact ⟨by omega, by omega⟩
theorem one_end {s p a b t : Nat} (hs : stnd s) (hl : lgl s p a) (h : mvN s p a = 0) (hb : 1 ≤ b) (ha : 1 ≤ a) : (T2 a b s t → False) ∧ (T2 b a s t → t = 0) := by
  obtain ⟨hpa, rfl⟩ := mv_z hl h
  constructor
  · rintro ⟨p', q, h1, h2, -⟩
    have e := pw_one h1.1 h1.2.2.1 hl.1
    subst e
    rw [h] at h2; exact not_0 h2
  · rintro ⟨p', q, h1, h2, h3⟩
    have e := pw_one h1.1 h1.2.2.1 hl.1
    subst e
    have em : mvN (16 ^ (p' - 1)) p' b = if b < p' then 16 ^ (p' - b - 1) else 0 := by unfold mvN; omega
    rw [em] at h2 h3
    by_cases c : b < p'
    · rw [if_pos c] at h2 h3
      have e2 := pw_one (p := p' - b) h2.1 (by have := h2.2.2.1; exact this) (by omega)
      rw [h3, e2]; unfold mvN; rw [if_neg (by omega)]; omega
    · rw [if_neg c] at h2; exact absurd h2 not_0
theorem bb_Res {s a b u : Nat} (hs : stnd s) (h0 : s ≠ 0) (hab : a ≠ b) (ha : 1 ≤ a) (hb : 1 ≤ b) : (bbB a b s u ∨ bbB b a s u) ↔ Res s a b u := by
  have one : ∀ {a b : Nat}, a ≠ b → 1 ≤ a → 1 ≤ b → bbB a b s u → Res s a b u := fun {a b} hab ha hb h => by
    obtain ⟨p, hl, ⟨h1, h2⟩ | ⟨q, h1, h2⟩⟩ := h
    · subst h2
      by_cases c : ∃ t, Mx s a b t
      · obtain ⟨t, ht⟩ := c
        obtain ⟨e1, e2⟩ := one_end (t := t) hs hl h1 hb ha
        rcases ht with ⟨z, -⟩ | ⟨-, z | z⟩
        · exact absurd z hab
        · exact absurd z e1
        · have := e2 z; subst this; exact Or.inl (Or.inr ⟨hab, Or.inr z⟩)
      · exact Or.inr ⟨c, rfl⟩
    · exact Or.inl (Or.inr ⟨hab, Or.inl ⟨p, q, hl, h1, h2⟩⟩)
  constructor
  · rintro (h | h)
    · exact one hab ha hb h
    · exact Res_sym (one (fun z => hab z.symm) hb ha h)
  · rintro ((⟨z, -⟩ | ⟨-, ⟨p, q, h1, h2, h3⟩ | ⟨p, q, h1, h2, h3⟩⟩) | ⟨h, rfl⟩)
    · exact absurd z hab
    · exact Or.inl ⟨p, h1, Or.inr ⟨q, h2, h3⟩⟩
    · exact Or.inr ⟨p, h1, Or.inr ⟨q, h2, h3⟩⟩
    · obtain ⟨p, hl⟩ := any_mv (d := a) hs h0
      by_cases c : mvN s p a = 0
      · exact Or.inl ⟨p, hl, Or.inl ⟨c, rfl⟩⟩
      · obtain ⟨q, hq⟩ := any_mv (d := b) (lgl_mv hs ha hl).1 c
        exact absurd ⟨_, Or.inr ⟨hab, Or.inl ⟨p, q, hl, hq, rfl⟩⟩⟩ h
