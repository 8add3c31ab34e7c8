def Lv (d : Nat) : Nat → Nat → Nat → Prop
  | 0, s, t => t = s
  | k + 1, s, t => ∃ u p, Lv d k s u ∧ lgl u p d ∧ t = mvN u p d
def T2 (a b s t : Nat) : Prop := ∃ p q, lgl s p a ∧ lgl (mvN s p a) q b ∧ t = mvN (mvN s p a) q b
def Mx (s a b t : Nat) : Prop := (a = b ∧ Lv a 4 s t) ∨ (a ≠ b ∧ (T2 a b s t ∨ T2 b a s t))
/-- all that two dice let a stand come to -/
def Res (s a b t : Nat) : Prop := Mx s a b t ∨ ((¬ ∃ u, Mx s a b u) ∧ t = 0)
theorem Mx_sym {s a b t : Nat} (h : Mx s a b t) : Mx s b a t := by
  rcases h with ⟨rfl, h⟩ | ⟨h, h2⟩
  · exact Or.inl ⟨rfl, h⟩
  · exact Or.inr ⟨fun z => h z.symm, h2.symm⟩
theorem Res_sym {s a b t : Nat} (h : Res s a b t) : Res s b a t := by
  rcases h with h | ⟨h, rfl⟩
  · exact Or.inl (Mx_sym h)
  · exact Or.inr ⟨fun ⟨u, hu⟩ => h ⟨u, Mx_sym hu⟩, rfl⟩
theorem lgl_mv {s p d : Nat} (hs : stnd s) (hd : 1 ≤ d) (h : lgl s p d) : stnd (mvN s p d) ∧ mvN s p d < s ∧ menS (mvN s p d) + (if d < p then 0 else 1) = menS s ∧ pipS (mvN s p d) + (if d < p then d else p) = pipS s := mv_st hs hd h.1 h.2.1 h.2.2.1
theorem any_mv {s d : Nat} (hs : stnd s) (h0 : s ≠ 0) : ∃ p, lgl s p d := by
  obtain ⟨p, h1, h2⟩ := pk_least (fun p => s / 16 ^ p = 0) ⟨6, Nat.div_eq_of_lt hs.1⟩
  have hp6 : p ≤ 6 := Nat.le_of_not_lt (fun z => h2 6 z (Nat.div_eq_of_lt hs.1))
  have hp1 : 1 ≤ p := by
    rcases Nat.eq_zero_or_pos p with z | z
    · subst z; rw [Nat.pow_zero, Nat.div_one] at h1; exact absurd h1 h0
    · exact z
  have h3 := h2 (p - 1) (by omega)
  have h4 : s / 16 ^ (p - 1) < 16 := by
    rw [Nat.div_lt_iff_lt_mul (Nat.pow_pos (by decide)), Nat.mul_comm, ← Nat.pow_succ, show (p - 1).succ = p by omega]
    rcases Nat.lt_or_ge s (16 ^ p) with z | z
    · exact z
    · have := Nat.div_pos z (Nat.pow_pos (by decide)); rw [h1] at this; exact absurd this (by decide)
  exact ⟨p, hp1, hp6, by unfold dgt; rw [Nat.mod_eq_of_lt h4]; exact Nat.pos_of_ne_zero h3, Or.inr h1⟩
theorem Lv_st {d : Nat} (hd : 1 ≤ d) : ∀ k {s t : Nat}, stnd s → Lv d k s t → stnd t ∧ t + k ≤ s ∧ pipS t + k ≤ pipS s
  | 0, s, t, hs, h => by rw [show t = s from h]; exact ⟨hs, by omega, by omega⟩
  | k + 1, s, t, hs, ⟨u, p, h1, h2, h3⟩ => by
    obtain ⟨a1, a2, a3⟩ := Lv_st hd k hs h1
    obtain ⟨b1, b2, b3, b4⟩ := lgl_mv a1 hd h2
    have := h2.1
    rw [h3]; refine ⟨b1, by omega, ?_⟩
    split at b4 <;> omega
theorem T2_st {a b s t : Nat} (ha : 1 ≤ a) (hb : 1 ≤ b) (hs : stnd s) (h : T2 a b s t) : stnd t ∧ t < s := by
  obtain ⟨p, q, h1, h2, rfl⟩ := h
  obtain ⟨a1, a2, -⟩ := lgl_mv hs ha h1
  obtain ⟨b1, b2, -⟩ := lgl_mv a1 hb h2
  exact ⟨b1, by omega⟩
theorem st_0 : stnd 0 := ⟨by decide, by decide⟩
theorem Res_st {s a b t : Nat} (ha : 1 ≤ a) (hb : 1 ≤ b) (hs : stnd s) (h : Res s a b t) : stnd t ∧ (s ≠ 0 → t < s) := by
  rcases h with h | ⟨h, rfl⟩
  · rcases h with ⟨rfl, h⟩ | ⟨h, h2⟩
    · have := Lv_st ha 4 hs h; exact ⟨this.1, fun _ => by omega⟩
    · rcases h2 with h2 | h2
      · have := T2_st ha hb hs h2; exact ⟨this.1, fun _ => this.2⟩
      · have := T2_st hb ha hs h2; exact ⟨this.1, fun _ => this.2⟩
  · exact ⟨st_0, fun z => by omega⟩
theorem Res_ex (s a b : Nat) : ∃ t, Res s a b t := by
  by_cases c : ∃ u, Mx s a b u
  · obtain ⟨u, hu⟩ := c; exact ⟨u, Or.inl hu⟩
  · exact ⟨0, Or.inr ⟨c, rfl⟩⟩
theorem not_0 {p d : Nat} : ¬ lgl 0 p d := fun h => by have := h.2.2.1; unfold dgt at this; rw [Nat.zero_div] at this; exact absurd this (by decide)
theorem Res_0 {a b t : Nat} (h : Res 0 a b t) : t = 0 := by
  rcases h with h | ⟨h, rfl⟩
  · rcases h with ⟨rfl, h⟩ | ⟨h, h2⟩
    · obtain ⟨u, p, h1, h2, -⟩ := h
      have z : ∀ k u, Lv a k 0 u → u = 0 := fun k => by
        induction k with
        | zero => exact fun u h => h
        | succ k ih => rintro u ⟨v, p, h1, h2, -⟩; rw [ih v h1] at h2; exact absurd h2 not_0
      rw [z 3 u h1] at h2; exact absurd h2 not_0
    · rcases h2 with ⟨p, q, h1, -⟩ | ⟨p, q, h1, -⟩ <;> exact absurd h1 not_0
  · rfl
def isB (e : Nat → Nat) (s a b t : Nat) : Prop := Res s a b t ∧ ∀ u, Res s a b u → e t < e u ∨ (e t = e u ∧ u ≤ t)
theorem isB_u {e : Nat → Nat} {s a b t t' : Nat} (h : isB e s a b t) (h' : isB e s a b t') : t = t' := by
  have h1 := h.2 t' h'.1; have h2 := h'.2 t h.1; omega
theorem isB_ex (e : Nat → Nat) {s a b : Nat} (ha : 1 ≤ a) (hb : 1 ≤ b) (hs : stnd s) : ∃ t, isB e s a b t := by
  have le : ∀ t, Res s a b t → t ≤ s := fun t h => by
    have := (Res_st ha hb hs h).2
    by_cases c : s = 0
    · subst c; rw [Res_0 h]; exact Nat.le_refl _
    · exact Nat.le_of_lt (this c)
  obtain ⟨v, ⟨t, h1, h2⟩, h3⟩ := pk_least (fun v => ∃ t, Res s a b t ∧ e t = v) (by obtain ⟨t, h⟩ := Res_ex s a b; exact ⟨e t, t, h, rfl⟩)
  obtain ⟨w, ⟨t', g1, g2, g3⟩, g4⟩ := pk_least (fun w => ∃ t, Res s a b t ∧ e t = v ∧ s - t = w) ⟨s - t, t, h1, h2, rfl⟩
  refine ⟨t', g1, fun u hu => ?_⟩
  rcases Nat.lt_trichotomy (e t') (e u) with c | c | c
  · exact Or.inl c
  · refine Or.inr ⟨c, ?_⟩
    rcases Nat.lt_or_ge (s - u) w with z | z
    · exact absurd ⟨u, hu, by omega, rfl⟩ (g4 (s - u) z)
    · have := le u hu; have := le t' g1; omega
  · exact absurd ⟨u, hu, rfl⟩ (h3 (e u) (by omega))
noncomputable def bst (e : Nat → Nat) (s a b : Nat) : Nat := @dite Nat (∃ t, isB e s a b t) (Classical.propDecidable _) (fun h => h.choose) (fun _ => 0)
theorem bst_is (e : Nat → Nat) {s a b : Nat} (ha : 1 ≤ a) (hb : 1 ≤ b) (hs : stnd s) : isB e s a b (bst e s a b) := by
  have h := isB_ex e ha hb hs
  unfold bst; rw [dif_pos h]; exact h.choose_spec
theorem bst_eq {e : Nat → Nat} {s a b t : Nat} (ha : 1 ≤ a) (hb : 1 ≤ b) (hs : stnd s) (h : isB e s a b t) : bst e s a b = t := isB_u (bst_is e ha hb hs) h
theorem bst_cg {e e' : Nat → Nat} {s a b : Nat} (ha : 1 ≤ a) (hb : 1 ≤ b) (hs : stnd s) (h : ∀ t u, Res s a b t → Res s a b u → ((e t < e u ↔ e' t < e' u) ∧ (e t = e u ↔ e' t = e' u))) : bst e s a b = bst e' s a b := by
  refine bst_eq ha hb hs ⟨(bst_is e' ha hb hs).1, fun u hu => ?_⟩
  have h1 := (bst_is e' ha hb hs).2 u hu
  have h2 := h _ u (bst_is e' ha hb hs).1 hu
  rw [h2.1, h2.2]; exact h1
theorem bst_sym (e : Nat → Nat) {s a b : Nat} (ha : 1 ≤ a) (hb : 1 ≤ b) (hs : stnd s) : bst e s a b = bst e s b a :=
  bst_eq ha hb hs ⟨Res_sym (bst_is e hb ha hs).1, fun u hu => (bst_is e hb ha hs).2 u (Res_sym hu)⟩
/-- over the 36 rolls -/
def sumD (f : Nat → Nat → Nat) : Nat := sumB (fun a => sumB (fun b => (if a = b then 1 else 2) * f a b) 1 a) 1 6
theorem sumD_cg {f g : Nat → Nat → Nat} (h : ∀ a b, 1 ≤ a → a ≤ 6 → 1 ≤ b → b ≤ 6 → f a b = g a b) : sumD f = sumD g := by
  unfold sumD
  refine su_cg 6 (fun k hk => su_cg _ (fun j hj => ?_))
  rw [h _ _ (by omega) (by omega) (by omega) (by omega)]
theorem su_dvd {f : Nat → Nat} {o m : Nat} : ∀ n, (∀ k, k < n → m ∣ f (o + k)) → m ∣ sumB f o n
  | 0, _ => Nat.dvd_zero _
  | n + 1, h => by simp only [sumB]; exact Nat.dvd_add (su_dvd n (fun k hk => h k (by omega))) (h n (by omega))
theorem sumD_dvd {f : Nat → Nat → Nat} {m : Nat} (h : ∀ a b, 1 ≤ a → a ≤ 6 → 1 ≤ b → b ≤ 6 → m ∣ f a b) : m ∣ sumD f :=
  su_dvd 6 (fun k hk => su_dvd _ (fun j hj => Nat.dvd_trans (h _ _ (by omega) (by omega) (by omega) (by omega)) (Nat.dvd_mul_left _ _)))
theorem su_mul {f : Nat → Nat} {o c : Nat} : ∀ n, sumB (fun k => c * f k) o n = c * sumB f o n
  | 0 => rfl
  | n + 1 => by simp only [sumB]; rw [su_mul n, Nat.mul_add]
theorem sumD_mul (c : Nat) (f : Nat → Nat → Nat) : sumD (fun a b => c * f a b) = c * sumD f := by
  unfold sumD
  rw [← su_mul]
  refine su_cg 6 (fun k hk => ?_)
  show _ = c * sumB _ 1 (1 + k)
  rw [← su_mul]
  exact su_cg _ (fun j hj => Nat.mul_left_comm _ _ _)
noncomputable def eStep (K s : Nat) (ih : (t : Nat) → t < s → Nat) : Nat := if s = 0 then 0 else sumD (fun a b => (fun t => if h : t < s then ih t h else 0) (bst (fun t => if h : t < s then ih t h else 0) s a b)) / 36 + 36 ^ K
/-- rolls on average at the least, times 36 to the K -/
noncomputable def eF (K : Nat) : Nat → Nat := WellFounded.fix Nat.lt_wfRel.wf (eStep K)
theorem eF_0 (K : Nat) : eF K 0 = 0 := by unfold eF; rw [WellFounded.fix_eq]; rfl
theorem eF_eq (K : Nat) {s : Nat} (hs : stnd s) (h0 : s ≠ 0) : eF K s = sumD (fun a b => eF K (bst (eF K) s a b)) / 36 + 36 ^ K := by
  have e : eF K s = eStep K s (fun t _ => eF K t) := by unfold eF; rw [WellFounded.fix_eq]; rfl
  rw [e]; unfold eStep; rw [if_neg h0]
  congr 2
  refine sumD_cg (fun a b ha _ hb _ => ?_)
  have lt : ∀ t, Res s a b t → t < s := fun t h => (Res_st ha hb hs h).2 h0
  have eb : bst (fun t => if h : t < s then eF K t else 0) s a b = bst (eF K) s a b := bst_cg ha hb hs (fun t u ht hu => by
    simp only [dif_pos (lt t ht), dif_pos (lt u hu)]; exact ⟨trivial, trivial⟩)
  rw [eb]; simp only [dif_pos (lt _ (bst_is (eF K) ha hb hs).1)]
