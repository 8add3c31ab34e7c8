def mu (d : Nat) : Nat := if d = 0 ∨ d = 2 ∨ d = 5 ∨ d = 9 ∨ d = 14 ∨ d = 20 then 1 else 2
theorem mu_dbl : ∀ d, d < 21 → ((nI d = 0 ∨ nI d = 2 ∨ nI d = 5 ∨ nI d = 9 ∨ nI d = 14 ∨ nI d = 20) ↔ mu d = 1) := by decide +kernel
theorem mu_12 (d : Nat) : mu d = 1 ∨ mu d = 2 := by unfold mu; split <;> omega
theorem mu_36 : sumB (fun d => mu d * 1) 0 21 = 36 := by decide +kernel
theorem dn_d : ∀ d, d < 21 → (dnN (dA d) (dB d) = d ∧ 1 ≤ dB d ∧ dB d ≤ dA d ∧ dA d ≤ 6) := by decide +kernel
theorem sumD_d (f : Nat → Nat → Nat) : sumD f = sumB (fun d => mu d * f (dA d) (dB d)) 0 21 := by
  simp only [sumD, sumB, mu, dA, dB, Nat.reduceAdd, Nat.reduceLT, Nat.reduceEqDiff, Nat.reduceMul, Nat.reduceSub, Nat.reduceDiv, if_true, if_false, or_true, true_or, or_false, false_or, or_self]
  omega
noncomputable def wN : Nat → Nat → Nat
  | 0, s => if s = 0 then 1 else 0
  | n + 1, s => if s = 0 then 36 ^ (n + 1) else sumD (fun a b => wN n (bst (eF 36) s a b))
noncomputable def unum (m : Nat) : Nat := @dite Nat (∃ s, stnd s ∧ num s = m) (Classical.propDecidable _) (fun h => h.choose) (fun _ => 1)
theorem unum_e {s : Nat} (hs : stnd s) : unum (num s) = s := by
  have h : ∃ t, stnd t ∧ num t = num s := ⟨s, hs, rfl⟩
  unfold unum; rw [dif_pos h]
  exact num_inj h.choose_spec.1 hs h.choose_spec.2
theorem unum_n {m : Nat} (h : m ≠ 0) : unum m ≠ 0 := by
  by_cases c : ∃ s, stnd s ∧ num s = m
  · obtain ⟨s, hs, rfl⟩ := c
    rw [unum_e hs]; intro z; rw [z, num_0] at h; exact h rfl
  · unfold unum; rw [dif_neg c]; decide
theorem wN_00 (k : Nat) : wN k 0 = 36 ^ k := by cases k <;> simp [wN]
def knN (L m : Nat) : Prop := ∃ s, stnd s ∧ pipS s ≤ L ∧ num s = m
noncomputable def nxt (s d : Nat) : Nat := if s = 0 then 0 else bst (eF 36) s (dA d) (dB d)
noncomputable def nn (m d : Nat) : Nat := num (nxt (unum m) d)
theorem nn_k {L m d : Nat} (h : knN L m) (hd : d < 21) : knN L (nn m d) := by
  obtain ⟨s, hs, hp, rfl⟩ := h
  unfold nn; rw [unum_e hs]; unfold nxt
  by_cases c : s = 0
  · rw [if_pos c]; exact ⟨0, st_0, by rw [pip_z]; omega, rfl⟩
  · rw [if_neg c]
    have hdd := dn_d d hd
    obtain ⟨y1, y2⟩ := bst_k (a := dA d) (b := dB d) hs (by omega) hdd.2.1 hp
    exact ⟨_, y1, y2, rfl⟩
theorem kn_lt {L m : Nat} (h : knN L m) : m < 54264 := by obtain ⟨s, hs, -, rfl⟩ := h; exact num_lt hs
theorem wn_s {L m k : Nat} (h : knN L m) : sumB (fun d => mu d * wN k (unum (nn m d))) 0 21 = wN (k + 1) (unum m) := by
  obtain ⟨s, hs, hp, rfl⟩ := h
  have e : ∀ d, d < 21 → unum (nn (num s) d) = nxt s d := fun d hd => by
    unfold nn; rw [unum_e hs]
    refine unum_e ?_
    unfold nxt
    by_cases c : s = 0
    · rw [if_pos c]; exact st_0
    · rw [if_neg c]; have hdd := dn_d d hd; exact (bst_k (a := dA d) (b := dB d) hs (by omega) hdd.2.1 hp).1
  have e2 : sumB (fun d => mu d * wN k (unum (nn (num s) d))) 0 21 = sumB (fun d => mu d * wN k (nxt s d)) 0 21 := su_cg 21 (fun d hd => by
    show mu (0 + d) * wN k (unum (nn (num s) (0 + d))) = mu (0 + d) * wN k (nxt s (0 + d))
    rw [e (0 + d) (by omega)])
  rw [e2, unum_e hs]
  by_cases c : s = 0
  · subst c
    have e3 : sumB (fun d => mu d * wN k (nxt 0 d)) 0 21 = sumB (fun d => 36 ^ k * (mu d * 1)) 0 21 := su_cg 21 (fun d hd => by
      show mu (0 + d) * wN k (nxt 0 (0 + d)) = _
      unfold nxt; rw [if_pos rfl, wN_00, Nat.mul_one, Nat.mul_comm])
    rw [e3, su_mul, mu_36, wN_00, Nat.pow_succ]
  · have e3 : sumB (fun d => mu d * wN k (nxt s d)) 0 21 = sumB (fun d => mu d * (fun a b => wN k (bst (eF 36) s a b)) (dA d) (dB d)) 0 21 := su_cg 21 (fun d hd => by
      show mu (0 + d) * wN k (nxt s (0 + d)) = _
      unfold nxt; rw [if_neg c])
    refine e3.trans ((sumD_d (fun a b => wN k (bst (eF 36) s a b))).symm.trans ?_)
    show _ = (if s = 0 then 36 ^ (k + 1) else sumD (fun a b => wN k (bst (eF 36) s a b)))
    rw [if_neg c]
def phi (W f : Nat → Nat) : Nat := sumB (fun m => f m * W m) 0 54264
theorem phi_up {W f : Nat → Nat} {t v : Nat} (ht : t < 54264) : phi W (va_up f t v) + f t * W t = phi W f + v * W t := by
  unfold phi
  have e : (fun m => va_up f t v m * W m) = va_up (fun m => f m * W m) (0 + t) (v * W t) := by
    funext m
    simp only [va_up, Nat.zero_add]
    by_cases c : m = t
    · subst c; rw [if_pos rfl, if_pos rfl]
    · rw [if_neg c, if_neg c]
  rw [e]
  have := su_in (B := fun m => f m * W m) (o := 0) (j := t) (v := v * W t) 54264 ht
  simp only [Nat.zero_add] at this ⊢
  exact this
theorem su_00 : ∀ n, sumB (fun _ => 0) 0 n = 0
  | 0 => rfl
  | n + 1 => by simp only [sumB]; rw [su_00 n]
theorem phi_z {W f : Nat → Nat} (h : ∀ m, f m = 0) : phi W f = 0 := by
  unfold phi
  rw [show (fun m => f m * W m) = (fun _ => 0) from funext (fun m => by rw [h, Nat.zero_mul])]
  exact su_00 _
theorem phi_le {f : Nat → Nat} {t : Nat} (ht : t < 54264) : f t ≤ phi (fun _ => 1) f := by
  unfold phi
  have := su_le (B := fun m => f m * 1) (o := 0) (j := t) 54264 ht
  simp only [Nat.zero_add, Nat.mul_one] at this ⊢
  exact this
theorem phi_at {W f : Nat → Nat} (h : ∀ m, m ≠ 0 → W m = 0) (h0 : W 0 = 1) : phi W f = f 0 := by
  unfold phi
  rw [su_tail (k := 1) 54264 (by omega) (fun m h1 _ => by show f m * W m = 0; rw [h m (by omega), Nat.mul_zero])]
  simp only [sumB, Nat.zero_add, h0, Nat.mul_one]
def lsP (P : Nat → Prop) (f ac : Nat → Nat) (lo n : Nat) : Prop := (∀ i, lo ≤ i → i < n → P (ac i) ∧ 0 < f (ac i)) ∧ (∀ i j, lo ≤ i → i < n → lo ≤ j → j < n → ac i = ac j → i = j) ∧ ∀ m, f m ≠ 0 → ∃ i, lo ≤ i ∧ i < n ∧ ac i = m
theorem ls_take {P : Nat → Prop} {f ac : Nat → Nat} {lo n : Nat} (h : lsP P f ac lo n) (hn : lo < n) : lsP P (va_up f (ac lo) 0) ac (lo + 1) n := by
  refine ⟨fun i h1 h2 => ?_, fun i j h1 h2 h3 h4 => h.2.1 i j (by omega) h2 (by omega) h4, fun m hm => ?_⟩
  · have hne : ac i ≠ ac lo := fun z => by have := h.2.1 i lo (by omega) h2 (Nat.le_refl _) hn z; omega
    rw [va_n hne]; exact h.1 i (by omega) h2
  · by_cases c : m = ac lo
    · rw [c, va_s] at hm; exact absurd rfl hm
    · rw [va_n c] at hm
      obtain ⟨i, y1, y2, y3⟩ := h.2.2 m hm
      refine ⟨i, ?_, y2, y3⟩
      rcases Nat.lt_or_ge lo i with y | y
      · exact y
      · have z : i = lo := by omega
        rw [z] at y3; exact absurd y3.symm c
theorem ls_old {P : Nat → Prop} {g an : Nat → Nat} {mt t c : Nat} (h : lsP P g an 0 mt) (hg : g t ≠ 0) : lsP P (va_up g t (g t + c)) an 0 mt := by
  refine ⟨fun i h1 h2 => ⟨(h.1 i h1 h2).1, ?_⟩, h.2.1, fun m hm => ?_⟩
  · by_cases z : an i = t
    · rw [z, va_s]; omega
    · rw [va_n z]; exact (h.1 i h1 h2).2
  · by_cases z : m = t
    · rw [z]; exact h.2.2 t hg
    · rw [va_n z] at hm; exact h.2.2 m hm
theorem ls_new {P : Nat → Prop} {g an : Nat → Nat} {mt t c : Nat} (h : lsP P g an 0 mt) (hg : g t = 0) (hP : P t) (hc : 0 < c) : lsP P (va_up g t (g t + c)) (va_up an mt t) 0 (mt + 1) := by
  have hnt : ∀ i, i < mt → an i ≠ t := fun i hi z => by have := (h.1 i (Nat.zero_le _) hi).2; rw [z, hg] at this; omega
  refine ⟨fun i h1 h2 => ?_, fun i j h1 h2 h3 h4 e => ?_, fun m hm => ?_⟩
  · by_cases z : i = mt
    · rw [z, va_s, va_s]; exact ⟨hP, by omega⟩
    · rw [va_n z, va_n (hnt i (by omega))]; exact h.1 i h1 (by omega)
  · by_cases z : i = mt
    · by_cases z2 : j = mt
      · rw [z, z2]
      · rw [z, va_s, va_n z2] at e; exact absurd e.symm (hnt j (by omega))
    · by_cases z2 : j = mt
      · rw [z2, va_s, va_n z] at e; exact absurd e (hnt i (by omega))
      · rw [va_n z, va_n z2] at e; exact h.2.1 i j h1 (by omega) h3 (by omega) e
  · by_cases z : m = t
    · exact ⟨mt, by omega, by omega, by rw [va_s, z]⟩
    · rw [va_n z] at hm
      obtain ⟨i, y1, y2, y3⟩ := h.2.2 m hm
      exact ⟨i, y1, by omega, by rw [va_n (by omega)]; exact y3⟩
theorem ls_room {L : Nat} {g an : Nat → Nat} {mt t : Nat} (h : lsP (knN L) g an 0 mt) (hg : g t = 0) (hP : knN L t) : mt < 54264 := by
  have h2 := ls_new (c := 1) h hg hP (by decide)
  have := pigN (n := mt + 1) (N := 54264) (va_up an mt t) (fun i hi => kn_lt (h2.1 i (Nat.zero_le _) hi).1) (fun i j h3 h4 e => h2.2.1 i j (Nat.zero_le _) h3 (Nat.zero_le _) h4 e)
  omega
theorem ls_len {L : Nat} {g an : Nat → Nat} {mt : Nat} (h : lsP (knN L) g an 0 mt) : mt ≤ 54264 :=
  pigN (n := mt) (N := 54264) an (fun i hi => kn_lt (h.1 i (Nat.zero_le _) hi).1) (fun i j h3 h4 e => h.2.1 i j (Nat.zero_le _) h3 (Nat.zero_le _) h4 e)
theorem ul_in {f : Nat → Int64} {k : Nat} {v : Int64} : vp_updL f k v k = v := by simp [vp_updL]
theorem ul_out {f : Nat → Int64} {k j : Nat} {v : Int64} (h : j ≠ k) : vp_updL f k v j = f j := by simp [vp_updL, h]
theorem ul_l {r : Nat → Int64} {f : Nat → Nat} {N t v : Nat} {x : Int64} (h : ∀ m, m < N → r m = lN (f m)) (hx : x = lN v) : ∀ m, m < N → vp_updL r t x m = lN (va_up f t v m) := fun m hm => by
  by_cases c : m = t
  · rw [c, ul_in, va_s]; exact hx
  · rw [ul_out c, va_n c]; exact h m hm
/-- weights that the step of one roll carries on -/
def carry (L : Nat) (Q : (Nat → Nat) → (Nat → Nat) → Nat → Prop) : Prop := ∀ W W' T, Q W W' T → ∀ m, knN L m → sumB (fun d => mu d * W (nn m d)) 0 21 = W' m
def QQ (s r : Nat) (W W' : Nat → Nat) (T : Nat) : Prop := (∃ k, W = (fun m => wN k (unum m)) ∧ W' = (fun m => wN (k + 1) (unum m)) ∧ T = wN (r + k) s) ∨ (W = (fun _ => 1) ∧ W' = (fun _ => 36) ∧ T = 36 ^ r)
theorem QQ_c (L s r : Nat) : carry L (QQ s r) := fun W W' T h m hm => by
  rcases h with ⟨k, rfl, rfl, -⟩ | ⟨rfl, rfl, -⟩
  · exact wn_s hm
  · exact mu_36
def fwR (s r : Nat) (f : Nat → Nat) : Prop := (∀ k, phi (fun m => wN k (unum m)) f = wN (r + k) s) ∧ phi (fun _ => 1) f = 36 ^ r
theorem phi_36 {f : Nat → Nat} : phi (fun _ => 36) f = 36 * phi (fun _ => 1) f := by
  unfold phi
  rw [← su_mul]
  exact su_cg _ (fun m _ => by show f (0 + m) * 36 = 36 * (f (0 + m) * 1); omega)
theorem fw_0 {s r : Nat} {f : Nat → Nat} (h : fwR s r f) : f 0 = wN r s := by
  have := h.1 0
  rw [phi_at (fun m hm => by show wN 0 (unum m) = 0; simp only [wN]; rw [if_neg (unum_n hm)]) (by show wN 0 (unum 0) = 1; rw [show unum 0 = unum (num 0) by rw [num_0], unum_e st_0]; rfl)] at this
  exact this
theorem fw_go {s r : Nat} {f : Nat → Nat} (h : fwR s r f) : ∀ W W' T, QQ s (r + 1) W W' T → phi W' f = T := fun W W' T hq => by
  rcases hq with ⟨k, rfl, rfl, rfl⟩ | ⟨rfl, rfl, rfl⟩
  · rw [h.1 (k + 1)]; congr 1; omega
  · rw [phi_36, h.2, Nat.pow_succ, Nat.mul_comm]
theorem fw_of {s r : Nat} {g : Nat → Nat} (h : ∀ W W' T, QQ s r W W' T → phi W g = T) : fwR s r g :=
  ⟨fun k => h _ _ _ (Or.inl ⟨k, rfl, rfl, rfl⟩), h _ _ _ (Or.inr ⟨rfl, rfl, rfl⟩)⟩
theorem fw_st {s : Nat} (hs : stnd s) : fwR s 0 (va_up (fun _ => 0) (num s) 1) := by
  have e : ∀ W, phi W (va_up (fun _ => 0) (num s) 1) = W (num s) := fun W => by
    have := phi_up (W := W) (f := fun _ => 0) (t := num s) (v := 1) (num_lt hs)
    rw [phi_z (fun _ => rfl)] at this
    simpa using this
  refine ⟨fun k => ?_, ?_⟩
  · rw [e, unum_e hs, Nat.zero_add]
  · rw [e]
def foQ (I A : Nat → Nat → Int32) (J : Nat → Nat → Int64) (s n q : Nat) : Option Value → HS → List Nat → Prop := fun rv σ' pl' => ∃ A' J', rv = none ∧ σ' = mS I A' J' ∧ pl' = plM ∧ (∀ p, p ≠ 69 → p ≠ 70 → A' p = A p) ∧ joS J' ∧ (∀ p, p ≠ 65 → p ≠ 66 → p ≠ q → J' p = J p) ∧ ∀ j, j ≤ n → J' q j = lN (wN j s)
