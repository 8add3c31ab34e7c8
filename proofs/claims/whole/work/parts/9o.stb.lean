/-! the order in which the class works stands out -/
def domS (t b : Nat) : Prop := ∀ p, 1 ≤ p → p ≤ 6 → mfN t p ≤ mfN b p
theorem dom_rf (b : Nat) : domS b b := fun _ _ _ => Nat.le_refl _
theorem dom_tr {a b c : Nat} (h : domS a b) (h2 : domS b c) : domS a c := fun p p1 p2 => Nat.le_trans (h p p1 p2) (h2 p p1 p2)
theorem mf_F {s q : Nat} (h : 1 ≤ q) : mfN s q = sumB (dgF s) (q - 1) (7 - q) := by
  unfold mfN
  have : ∀ n, sumB (dgt s) q n = sumB (dgF s) (q - 1) n := fun n => by
    induction n with
    | zero => rfl
    | succ n ih =>
      show sumB (dgt s) q n + dgt s (q + n) = sumB (dgF s) (q - 1) n + dgF s (q - 1 + n)
      rw [ih, dg_F (by omega), show q + n - 1 = q - 1 + n by omega]
  exact this _
theorem mf_mv {s p d : Nat} (hs : stnd s) (hd : 1 ≤ d) (h : lgl s p d) : domS (mvN s p d) s := fun q q1 q6 => by
  obtain ⟨-, -, e⟩ := mv_dig hs hd h.1 h.2.1 h.2.2.1
  obtain ⟨h1, h2, h3, -⟩ := h
  rw [dg_F h1] at h3
  rw [mf_F q1, mf_F q1]
  have ec : sumB (dgF (mvN s p d)) (q - 1) (7 - q) = sumB (mvD (dgF s) p d) (q - 1) (7 - q) := su_cg _ (fun k hk => e _ (by omega))
  rw [ec]
  generalize dgF s = D at h3
  have e1 : sumB (va_up D (p - 1) (D (p - 1) - 1)) (q - 1) (7 - q) + (if q ≤ p then 1 else 0) = sumB D (q - 1) (7 - q) := by
    by_cases c : q ≤ p
    · rw [if_pos c]
      have z := su_in (B := D) (o := q - 1) (j := p - q) (v := D (p - 1) - 1) (7 - q) (by omega)
      rw [show q - 1 + (p - q) = p - 1 by omega] at z
      omega
    · rw [if_neg c, su_out _ (by omega)]; rfl
  unfold mvD
  by_cases c : d < p
  · rw [if_pos c]
    by_cases c2 : q ≤ p - d
    · rw [if_pos (by omega)] at e1
      have z := su_in (B := va_up D (p - 1) (D (p - 1) - 1)) (o := q - 1) (j := p - d - q) (v := D (p - d - 1) + 1) (7 - q) (by omega)
      rw [show q - 1 + (p - d - q) = p - d - 1 by omega, va_n (show p - d - 1 ≠ p - 1 by omega)] at z
      omega
    · rw [su_out _ (by omega)]; omega
  · rw [if_neg c]; omega
theorem Lv_dom {d : Nat} (hd : 1 ≤ d) : ∀ {n s t : Nat}, stnd s → Lv d n s t → stnd t ∧ domS t s
  | 0, s, t, hs, h => by have h : t = s := h; subst h; exact ⟨hs, dom_rf _⟩
  | n + 1, s, t, hs, ⟨u, p, h1, h2, h3⟩ => by
    obtain ⟨a, b⟩ := Lv_dom hd hs h1
    subst h3
    exact ⟨(lgl_mv a hd h2).1, dom_tr (mf_mv a hd h2) b⟩
theorem T2_dom {a b s t : Nat} (ha : 1 ≤ a) (hb : 1 ≤ b) (hs : stnd s) (h : T2 a b s t) : domS t s := by
  obtain ⟨p, q, h1, h2, rfl⟩ := h
  exact dom_tr (mf_mv (lgl_mv hs ha h1).1 hb h2) (mf_mv hs ha h1)
theorem mf_0 (q : Nat) : mfN 0 q = 0 := by
  unfold mfN
  have : ∀ n, sumB (dgt 0) q n = 0 := fun n => by
    induction n with
    | zero => rfl
    | succ n ih => show sumB (dgt 0) q n + dgt 0 (q + n) = 0; rw [ih]; unfold dgt; rw [Nat.zero_div]
  exact this _
theorem dom_0 (b : Nat) : domS 0 b := fun p _ _ => by rw [mf_0]; exact Nat.zero_le _
theorem Res_dom {s a b t : Nat} (ha : 1 ≤ a) (hb : 1 ≤ b) (hs : stnd s) (h : Res s a b t) : domS t s := by
  rcases h with (⟨-, h⟩ | ⟨-, h | h⟩) | ⟨-, rfl⟩
  · exact (Lv_dom ha hs h).2
  · exact T2_dom ha hb hs h
  · exact T2_dom hb ha hs h
  · exact dom_0 s
theorem dg_sum {s : Nat} (h : s < 16 ^ 6) : s = dgt s 1 + 16 * dgt s 2 + 256 * dgt s 3 + 4096 * dgt s 4 + 65536 * dgt s 5 + 1048576 * dgt s 6 := by
  simp only [dgt, Nat.reduceSub, Nat.reducePow, Nat.pow_zero, Nat.div_one] at *
  omega
theorem mf_all (s : Nat) : mfN s 6 = dgt s 6 ∧ mfN s 5 = dgt s 5 + dgt s 6 ∧ mfN s 4 = dgt s 4 + dgt s 5 + dgt s 6 ∧ mfN s 3 = dgt s 3 + dgt s 4 + dgt s 5 + dgt s 6 ∧ mfN s 2 = dgt s 2 + dgt s 3 + dgt s 4 + dgt s 5 + dgt s 6 ∧ mfN s 1 = dgt s 1 + dgt s 2 + dgt s 3 + dgt s 4 + dgt s 5 + dgt s 6 := by
  simp [mfN, sumB]
/-- the next one -/
def nxS (t p : Nat) : Nat := (t / 16 ^ (p - 1) + 1) * 16 ^ (p - 1)
theorem dg_hi {s t p q : Nat} (h : s / 16 ^ (p - 1) = t / 16 ^ (p - 1)) (p1 : 1 ≤ p) (hq : p ≤ q) : dgt s q = dgt t q := by
  unfold dgt
  rw [show q - 1 = (p - 1) + (q - p) by omega, Nat.pow_add, ← Nat.div_div_eq_div_mul, ← Nat.div_div_eq_div_mul, h]
theorem lo_le {u t p : Nat} (hu : u < 16 ^ 6) (ht : t < 16 ^ 6) (p1 : 1 ≤ p) (p7 : p ≤ 7) (hh : ∀ q, p ≤ q → q ≤ 6 → dgt u q = dgt t q) (hl : ∀ q, 1 ≤ q → q < p → mfN u q ≤ mfN t q) : u ≤ t := by
  have eu := dg_sum hu
  have et := dg_sum ht
  obtain ⟨a6, a5, a4, a3, a2, a1⟩ := mf_all u
  obtain ⟨b6, b5, b4, b3, b2, b1⟩ := mf_all t
  have x1 := hl 1 (by omega)
  have x2 := hl 2 (by omega)
  have x3 := hl 3 (by omega)
  have x4 := hl 4 (by omega)
  have x5 := hl 5 (by omega)
  have x6 := hl 6 (by omega)
  have y1 := fun h => hh 1 h (by omega)
  have y2 := fun h => hh 2 h (by omega)
  have y3 := fun h => hh 3 h (by omega)
  have y4 := fun h => hh 4 h (by omega)
  have y5 := fun h => hh 5 h (by omega)
  have y6 := fun h => hh 6 h (by omega)
  clear hl hh hu ht
  rcases (show p = 1 ∨ p = 2 ∨ p = 3 ∨ p = 4 ∨ p = 5 ∨ p = 6 ∨ p = 7 by omega) with rfl | rfl | rfl | rfl | rfl | rfl | rfl <;> simp only [Nat.reduceLT, Nat.reduceLeDiff, Nat.le_refl, true_imp_iff, false_imp_iff, forall_const, Nat.lt_irrefl, a1, a2, a3, a4, a5, a6, b1, b2, b3, b4, b5, b6] at x1 x2 x3 x4 x5 x6 y1 y2 y3 y4 y5 y6 <;> omega
theorem dom_le {u b : Nat} (hu : stnd u) (hb : stnd b) (h : domS u b) : u ≤ b := lo_le (p := 7) hu.1 hb.1 (by omega) (by omega) (fun q a b => by omega) (fun q a b => h q a (by omega))
theorem nx_gt (t p : Nat) : t < nxS t p := by
  unfold nxS
  have h := Nat.lt_div_mul_add (a := t) (Nat.pow_pos (n := p - 1) (show 0 < 16 by decide))
  rw [Nat.add_mul, Nat.one_mul]; exact h
theorem nx_min {t u b p : Nat} (ht : stnd t) (hu : stnd u) (p1 : 1 ≤ p) (p6 : p ≤ 6) (hd : domS u b) (hm : ∀ q, 1 ≤ q → q < p → mfN b q ≤ mfN t q) (h : t < u) : nxS t p ≤ u := by
  rcases Nat.lt_or_ge u (nxS t p) with c | c
  · exfalso
    have h0 : 0 < 16 ^ (p - 1) := Nat.pow_pos (by decide)
    have e1 : u / 16 ^ (p - 1) < t / 16 ^ (p - 1) + 1 := (Nat.div_lt_iff_lt_mul h0).mpr c
    have e2 : t / 16 ^ (p - 1) ≤ u / 16 ^ (p - 1) := Nat.div_le_div_right (by omega)
    have := lo_le (p := p) hu.1 ht.1 p1 (by omega) (fun q h1 _ => dg_hi (by omega) p1 h1) (fun q h1 h2 => Nat.le_trans (hd q h1 (by omega)) (hm q h1 h2))
    omega
  · exact c
theorem dg_of {u : Nat} (y1 y2 y3 y4 y5 y6 : Nat) (h1 : y1 < 16) (h2 : y2 < 16) (h3 : y3 < 16) (h4 : y4 < 16) (h5 : y5 < 16) (h6 : y6 < 16) (hu : u = y1 + 16 * y2 + 256 * y3 + 4096 * y4 + 65536 * y5 + 1048576 * y6) : u < 16 ^ 6 ∧ dgt u 1 = y1 ∧ dgt u 2 = y2 ∧ dgt u 3 = y3 ∧ dgt u 4 = y4 ∧ dgt u 5 = y5 ∧ dgt u 6 = y6 := by
  have e0 : u < 16 ^ 6 := by omega
  have e1 : u / 16 ^ (1 - 1) = y1 + 16 * y2 + 256 * y3 + 4096 * y4 + 65536 * y5 + 1048576 * y6 := by simp only [Nat.reduceSub, Nat.reducePow, Nat.pow_zero, Nat.div_one]; omega
  have e2 : u / 16 ^ (2 - 1) = y2 + 16 * y3 + 256 * y4 + 4096 * y5 + 65536 * y6 := by simp only [Nat.reduceSub, Nat.reducePow, Nat.pow_zero, Nat.div_one]; omega
  have e3 : u / 16 ^ (3 - 1) = y3 + 16 * y4 + 256 * y5 + 4096 * y6 := by simp only [Nat.reduceSub, Nat.reducePow, Nat.pow_zero, Nat.div_one]; omega
  have e4 : u / 16 ^ (4 - 1) = y4 + 16 * y5 + 256 * y6 := by simp only [Nat.reduceSub, Nat.reducePow, Nat.pow_zero, Nat.div_one]; omega
  have e5 : u / 16 ^ (5 - 1) = y5 + 16 * y6 := by simp only [Nat.reduceSub, Nat.reducePow, Nat.pow_zero, Nat.div_one]; omega
  have e6 : u / 16 ^ (6 - 1) = y6 := by simp only [Nat.reduceSub, Nat.reducePow, Nat.pow_zero, Nat.div_one]; omega
  unfold dgt
  rw [e1, e2, e3, e4, e5, e6]
  clear e1 e2 e3 e4 e5 e6 hu
  refine ⟨e0, ?_, ?_, ?_, ?_, ?_, ?_⟩ <;> omega
theorem nx_mf {t p : Nat} (ht : t < 16 ^ 6) (p1 : 1 ≤ p) (p6 : p ≤ 6) (hp : mfN t p < 15) : nxS t p < 16 ^ 6 ∧ ∀ q, 1 ≤ q → q ≤ 6 → mfN (nxS t p) q = if q ≤ p then mfN t p + 1 else mfN t q := by
  have hd : ∀ q, dgt t q < 16 := fun q => Nat.mod_lt _ (by decide)
  have d1 := hd 1
  have d2 := hd 2
  have d3 := hd 3
  have d4 := hd 4
  have d5 := hd 5
  have d6 := hd 6
  have et := dg_sum ht
  obtain ⟨b6, b5, b4, b3, b2, b1⟩ := mf_all t
  obtain ⟨u, hu⟩ : ∃ u, nxS t p = u := ⟨_, rfl⟩
  rw [hu]
  unfold nxS at hu
  have key : u < 16 ^ 6 ∧ dgt u 6 = (if 6 < p then 0 else if 6 = p then dgt t 6 + 1 else dgt t 6) ∧ dgt u 5 = (if 5 < p then 0 else if 5 = p then dgt t 5 + 1 else dgt t 5) ∧ dgt u 4 = (if 4 < p then 0 else if 4 = p then dgt t 4 + 1 else dgt t 4) ∧ dgt u 3 = (if 3 < p then 0 else if 3 = p then dgt t 3 + 1 else dgt t 3) ∧ dgt u 2 = (if 2 < p then 0 else if 2 = p then dgt t 2 + 1 else dgt t 2) ∧ dgt u 1 = (if 1 < p then 0 else if 1 = p then dgt t 1 + 1 else dgt t 1) := by
    generalize dgt t 1 = x1 at *
    generalize dgt t 2 = x2 at *
    generalize dgt t 3 = x3 at *
    generalize dgt t 4 = x4 at *
    generalize dgt t 5 = x5 at *
    generalize dgt t 6 = x6 at *
    clear hd
    rcases (show p = 1 ∨ p = 2 ∨ p = 3 ∨ p = 4 ∨ p = 5 ∨ p = 6 by omega) with rfl | rfl | rfl | rfl | rfl | rfl
    · have e : t / 16 ^ (1 - 1) = x1 + 16 * x2 + 256 * x3 + 4096 * x4 + 65536 * x5 + 1048576 * x6 := by simp only [Nat.reduceSub, Nat.reducePow, Nat.pow_zero, Nat.div_one]; omega
      have m : x1 + x2 + x3 + x4 + x5 + x6 < 15 := by omega
      rw [e] at hu
      clear e et b1 b2 b3 b4 b5 b6 hp ht
      obtain ⟨z0, z1, z2, z3, z4, z5, z6⟩ := dg_of (u := u) (x1 + 1) x2 x3 x4 x5 x6 (by omega) (by omega) (by omega) (by omega) (by omega) (by omega) (by rw [← hu]; simp only [Nat.reduceSub, Nat.reducePow, Nat.pow_zero, Nat.mul_one]; omega)
      exact ⟨z0, z6, z5, z4, z3, z2, z1⟩
    · have e : t / 16 ^ (2 - 1) = x2 + 16 * x3 + 256 * x4 + 4096 * x5 + 65536 * x6 := by simp only [Nat.reduceSub, Nat.reducePow, Nat.pow_zero, Nat.div_one]; omega
      have m : x2 + x3 + x4 + x5 + x6 < 15 := by omega
      rw [e] at hu
      clear e et b1 b2 b3 b4 b5 b6 hp ht
      obtain ⟨z0, z1, z2, z3, z4, z5, z6⟩ := dg_of (u := u) 0 (x2 + 1) x3 x4 x5 x6 (by omega) (by omega) (by omega) (by omega) (by omega) (by omega) (by rw [← hu]; simp only [Nat.reduceSub, Nat.reducePow, Nat.pow_zero, Nat.mul_one]; omega)
      exact ⟨z0, z6, z5, z4, z3, z2, z1⟩
    · have e : t / 16 ^ (3 - 1) = x3 + 16 * x4 + 256 * x5 + 4096 * x6 := by simp only [Nat.reduceSub, Nat.reducePow, Nat.pow_zero, Nat.div_one]; omega
      have m : x3 + x4 + x5 + x6 < 15 := by omega
      rw [e] at hu
      clear e et b1 b2 b3 b4 b5 b6 hp ht
      obtain ⟨z0, z1, z2, z3, z4, z5, z6⟩ := dg_of (u := u) 0 0 (x3 + 1) x4 x5 x6 (by omega) (by omega) (by omega) (by omega) (by omega) (by omega) (by rw [← hu]; simp only [Nat.reduceSub, Nat.reducePow, Nat.pow_zero, Nat.mul_one]; omega)
      exact ⟨z0, z6, z5, z4, z3, z2, z1⟩
    · have e : t / 16 ^ (4 - 1) = x4 + 16 * x5 + 256 * x6 := by simp only [Nat.reduceSub, Nat.reducePow, Nat.pow_zero, Nat.div_one]; omega
      have m : x4 + x5 + x6 < 15 := by omega
      rw [e] at hu
      clear e et b1 b2 b3 b4 b5 b6 hp ht
      obtain ⟨z0, z1, z2, z3, z4, z5, z6⟩ := dg_of (u := u) 0 0 0 (x4 + 1) x5 x6 (by omega) (by omega) (by omega) (by omega) (by omega) (by omega) (by rw [← hu]; simp only [Nat.reduceSub, Nat.reducePow, Nat.pow_zero, Nat.mul_one]; omega)
      exact ⟨z0, z6, z5, z4, z3, z2, z1⟩
    · have e : t / 16 ^ (5 - 1) = x5 + 16 * x6 := by simp only [Nat.reduceSub, Nat.reducePow, Nat.pow_zero, Nat.div_one]; omega
      have m : x5 + x6 < 15 := by omega
      rw [e] at hu
      clear e et b1 b2 b3 b4 b5 b6 hp ht
      obtain ⟨z0, z1, z2, z3, z4, z5, z6⟩ := dg_of (u := u) 0 0 0 0 (x5 + 1) x6 (by omega) (by omega) (by omega) (by omega) (by omega) (by omega) (by rw [← hu]; simp only [Nat.reduceSub, Nat.reducePow, Nat.pow_zero, Nat.mul_one]; omega)
      exact ⟨z0, z6, z5, z4, z3, z2, z1⟩
    · have e : t / 16 ^ (6 - 1) = x6 := by simp only [Nat.reduceSub, Nat.reducePow, Nat.pow_zero, Nat.div_one]; omega
      have m : x6 < 15 := by omega
      rw [e] at hu
      clear e et b1 b2 b3 b4 b5 b6 hp ht
      obtain ⟨z0, z1, z2, z3, z4, z5, z6⟩ := dg_of (u := u) 0 0 0 0 0 (x6 + 1) (by omega) (by omega) (by omega) (by omega) (by omega) (by omega) (by rw [← hu]; simp only [Nat.reduceSub, Nat.reducePow, Nat.pow_zero, Nat.mul_one]; omega)
      exact ⟨z0, z6, z5, z4, z3, z2, z1⟩
  obtain ⟨k0, k6, k5, k4, k3, k2, k1⟩ := key
  obtain ⟨a6, a5, a4, a3, a2, a1⟩ := mf_all u
  refine ⟨k0, fun q q1 q6 => ?_⟩
  rcases (show p = 1 ∨ p = 2 ∨ p = 3 ∨ p = 4 ∨ p = 5 ∨ p = 6 by omega) with rfl | rfl | rfl | rfl | rfl | rfl <;> rcases (show q = 1 ∨ q = 2 ∨ q = 3 ∨ q = 4 ∨ q = 5 ∨ q = 6 by omega) with rfl | rfl | rfl | rfl | rfl | rfl <;> simp only [a1, a2, a3, a4, a5, a6, b1, b2, b3, b4, b5, b6, k1, k2, k3, k4, k5, k6, Nat.reduceLT, Nat.reduceLeDiff, Nat.le_refl, Nat.reduceEqDiff, Nat.lt_irrefl, if_true, if_false] <;> omega
theorem mf_dn {s p q : Nat} (h : q ≤ p) (hp : p ≤ 7) : mfN s p ≤ mfN s q := by
  induction hh : p - q generalizing q with
  | zero => rw [show q = p by omega]; exact Nat.le_refl _
  | succ n ih =>
    have := ih (q := q + 1) (by omega) (by omega)
    rw [mf_s (p := q) (by omega)]; omega
theorem nx_ok {t b p : Nat} (ht : stnd t) (hb : stnd b) (p1 : 1 ≤ p) (p6 : p ≤ 6) (hd : domS t b) (hp : mfN t p < mfN b p) : stnd (nxS t p) ∧ domS (nxS t p) b := by
  have b15 := mf_le hb p p1 (by omega)
  obtain ⟨k0, k⟩ := nx_mf ht.1 p1 p6 (by omega)
  have dm2 : domS (nxS t p) b := fun q q1 q6 => by
    rw [k q q1 q6]
    by_cases c : q ≤ p
    · rw [if_pos c]; exact Nat.le_trans hp (mf_dn c (by omega))
    · rw [if_neg c]; exact hd q q1 q6
  exact ⟨⟨k0, by have := dm2 1 (by omega) (by omega); rw [mf_men, mf_men] at this; exact Nat.le_trans this hb.2⟩, dm2⟩
/-! a chance within twelve rolls is never nought -/
theorem sumD_66 (f : Nat → Nat → Nat) : f 6 6 ≤ sumD f := by
  simp only [sumD, sumB, Nat.reduceAdd, Nat.reduceEqDiff, if_true, if_false]; omega
theorem Lv6 : ∀ {n s t : Nat}, stnd s → Lv 6 n s t → stnd t ∧ menS t + n = menS s
  | 0, s, t, hs, h => by have h : t = s := h; subst h; exact ⟨hs, rfl⟩
  | n + 1, s, t, hs, ⟨u, p, h1, h2, h3⟩ => by
    obtain ⟨a, b⟩ := Lv6 hs h1
    obtain ⟨x, -, y, -⟩ := lgl_mv a (by omega) h2
    rw [if_neg (by have := h2.2.1; omega)] at y
    subst h3
    exact ⟨x, by omega⟩
theorem men_z {s : Nat} (hs : stnd s) (h : menS s = 0) : s = 0 := by
  have e := dg_sum hs.1
  have a := (mf_all s).2.2.2.2.2
  rw [mf_men] at a; omega
theorem wN_pos : ∀ n {s : Nat}, stnd s → menS s ≤ 4 * n → 0 < wN n s
  | 0, s, hs, h => by
    have := men_z hs (by omega); subst this; rw [wN_00]; exact Nat.pow_pos (by decide)
  | n + 1, s, hs, h => by
    by_cases c : s = 0
    · subst c; rw [wN_00]; exact Nat.pow_pos (by decide)
    · rw [wN_b n s hs c]
      have hr := (bst_is (eF 32) (a := 6) (b := 6) (by omega) (by omega) hs).1
      have hm : menS (bst (eF 32) s 6 6) ≤ 4 * n := by
        rcases hr with (⟨-, hr⟩ | ⟨z, -⟩) | ⟨-, z⟩
        · have := (Lv6 hs hr).2; omega
        · exact absurd rfl z
        · rw [z, show menS 0 = 0 from mf_0 1]; omega
      exact Nat.lt_of_lt_of_le (wN_pos n (Res_st (by omega) (by omega) hs hr).1 hm) (sumD_66 (fun a b => wN n (bst (eF 32) s a b)))
theorem lN_gt {v : Nat} (h : v < 2 ^ 63) (h0 : 0 < v) : (0 : Int64) < lN v := by
  have e : ∀ y : Int64, ¬ (0 : Int64) < y → y.toNatClampNeg = 0 := fun y hy => by
    have h1 : y.toInt ≤ 0 := by have := Int64.not_lt.mp hy; exact Int64.le_iff_toInt_le.mp this
    have : y.toNatClampNeg = y.toInt.toNat := rfl
    omega
  rcases Classical.em ((0 : Int64) < lN v) with c | c
  · exact c
  · have := e _ c; rw [l_clamp h] at this; omega
theorem w12_b {s : Nat} (hs : stnd s) : 0 < wN 12 s ∧ wN 12 s < 2 ^ 63 := ⟨wN_pos 12 hs (by have := hs.2; omega), Nat.lt_of_le_of_lt (wN_le 12 hs) (by decide)⟩
theorem ch_dn {O : Nat → Nat → Option Nat} {J : Nat → Nat → Int64} {s : Nat} (hs : stnd s) (h : dnC O J s) : 0 < chV O J s 12 := by
  rw [dn_ch h (Nat.le_refl _)]; exact lN_gt (w12_b hs).2 (w12_b hs).1
theorem ch_nd {O : Nat → Nat → Option Nat} {J : Nat → Nat → Int64} {s : Nat} (h : ndC O J s) : ¬ 0 < chV O J s 12 := by
  rw [nd_ch h]; decide
