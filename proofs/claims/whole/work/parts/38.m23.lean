theorem su_cg {f g : Nat → Nat} {o : Nat} : ∀ n, (∀ k, k < n → f (o + k) = g (o + k)) → sumB f o n = sumB g o n
  | 0, _ => rfl
  | n + 1, h => by simp only [sumB]; rw [su_cg n (fun k hk => h k (by omega)), h n (by omega)]
theorem va_s {f : Nat → Nat} {k v : Nat} : va_up f k v k = v := by simp only [va_up, if_true]
theorem va_n {f : Nat → Nat} {k v j : Nat} (h : j ≠ k) : va_up f k v j = f j := by simp only [va_up, if_neg h]
theorem mv1_own {B : Nat → Nat} {m p d t : Nat} (hd : 1 ≤ d) (hp : 1 ≤ p) : mv1 B m p d (26 * m + t) = if t = p then B (26 * m + t) - 1 else if t = p - d then B (26 * m + t) + 1 else B (26 * m + t) := by
  unfold mv1
  by_cases c : t = p
  · subst c; rw [if_pos rfl, va_n (by omega), va_s]
  · rw [if_neg c]
    by_cases c2 : t = p - d
    · rw [if_pos c2, c2, va_s, va_n (by omega)]
    · rw [if_neg c2, va_n (by omega), va_n (by omega)]
theorem mvB_own {B : Nat → Nat} {m p d t : Nat} (hm : m ≤ 1) (hd : 1 ≤ d) (hp : 1 ≤ p) (hp2 : p ≤ 25) (ht : t ≤ 25) : mvB B m p d (26 * m + t) = if t = p then B (26 * m + t) - 1 else if t = p - d then B (26 * m + t) + 1 else B (26 * m + t) := by
  rw [← mv1_own hd hp]; unfold mvB
  split
  · rw [va_n (by omega), va_n (by omega)]
  · rfl
theorem mvB_opp {B : Nat → Nat} {m p d k : Nat} (hm : m ≤ 1) (hp2 : p ≤ 25) (hd : 1 ≤ d) (hk : k ≤ 25) : mvB B m p d (26 * (1 - m) + k) = if d < p ∧ ¬ B (26 * (1 - m) + (25 - (p - d))) = 0 then (if k = 25 then B (26 * (1 - m) + 25) + 1 else if k = 25 - (p - d) then 0 else B (26 * (1 - m) + k)) else B (26 * (1 - m) + k) := by
  have e : mv1 B m p d (26 * (1 - m) + k) = B (26 * (1 - m) + k) := by unfold mv1; rw [va_n (by omega), va_n (by omega)]
  unfold mvB
  split
  · by_cases c : k = 25
    · rw [if_pos c, c, va_s]
    · rw [if_neg c, va_n (by omega)]
      by_cases c2 : k = 25 - (p - d)
      · rw [if_pos c2, c2, va_s]
      · rw [if_neg c2, va_n (by omega), e]
  · exact e
def hsF (B0 : Nat → Nat) (m d : Nat) (C : Nat → Nat) : Nat → Nat := fun u => if 0 < C (u + d) then B0 (26 * (1 - m) + (25 - u)) else 0
/-- a board reached by moves of one die, by how many came from each point -/
def alk (m d : Nat) (B0 B C : Nat → Nat) : Prop :=
  (∀ t, 1 ≤ t → t ≤ 25 → B (26 * m + t) + C t = B0 (26 * m + t) + C (t + d)) ∧ B (26 * m) = B0 (26 * m) + sumB C 1 d ∧
  (∀ u, 1 ≤ u → u ≤ 24 → B (26 * (1 - m) + (25 - u)) = if 0 < C (u + d) then 0 else B0 (26 * (1 - m) + (25 - u))) ∧ B (26 * (1 - m)) = B0 (26 * (1 - m)) ∧
  B (26 * (1 - m) + 25) = B0 (26 * (1 - m) + 25) + sumB (hsF B0 m d C) 1 24
theorem alk_0 {m d : Nat} {B0 : Nat → Nat} : alk m d B0 B0 (fun _ => 0) := by
  have z : ∀ o n, sumB (fun _ => 0) o n = 0 := fun o n => by induction n with
    | zero => rfl
    | succ n ih => simp only [sumB]; omega
  refine ⟨fun t _ _ => rfl, by rw [z]; rfl, fun u _ _ => by rw [if_neg (Nat.lt_irrefl 0)], rfl, ?_⟩
  rw [show hsF B0 m d (fun _ => 0) = fun _ => 0 by funext u; unfold hsF; rw [if_neg (Nat.lt_irrefl 0)], z]; rfl
theorem alk_s {m d p : Nat} {B0 B C : Nat → Nat} (hm : m ≤ 1) (hd : 1 ≤ d) (hd6 : d ≤ 6) (hp : 1 ≤ p) (hp2 : p ≤ 25) (h : alk m d B0 B C) (hc : cmP B m p d) : alk m d B0 (mvB B m p d) (va_up C p (C p + 1)) := by
  obtain ⟨h1, h2, h3, h4, h5⟩ := h
  have b0 := hc.1
  have hcl : d < p → B (26 * (1 - m) + (25 - (p - d))) ≤ 1 := fun z => by have := hc.2.2; rw [if_pos z] at this; exact this
  refine ⟨fun t ht ht2 => ?_, ?_, fun u hu hu2 => ?_, ?_, ?_⟩
  · rw [mvB_own hm hd hp hp2 ht2]
    have := h1 t ht ht2
    by_cases c : t = p
    · subst c; rw [if_pos rfl, va_s, va_n (by omega)]; omega
    · rw [if_neg c, va_n c]
      by_cases c2 : t + d = p
      · rw [if_pos (by omega), c2, va_s]; rw [c2] at this; omega
      · rw [if_neg (by omega), va_n c2]; exact this
  · have e0 := mvB_own (B := B) (t := 0) hm hd hp hp2 (by omega)
    rw [if_neg (by omega)] at e0; simp only [Nat.add_zero] at e0
    rw [e0, h2]
    by_cases c : 0 = p - d
    · rw [if_pos c]
      have := su_in (B := C) (o := 1) (j := p - 1) (v := C p + 1) d (by omega)
      rw [show 1 + (p - 1) = p by omega] at this
      omega
    · rw [if_neg c, su_out d (by omega)]
  · rw [mvB_opp hm hp2 hd (by omega)]
    have e := h3 u hu hu2
    by_cases c : u + d = p
    · have hcl := hcl (by omega)
      rw [show p - d = u by omega] at hcl ⊢
      rw [c, va_s, if_pos (show 0 < C p + 1 by omega)]
      by_cases c2 : B (26 * (1 - m) + (25 - u)) = 0
      · rw [if_neg (fun z => z.2 c2)]; exact c2
      · rw [if_pos ⟨by omega, c2⟩, if_neg (by omega), if_pos rfl]
    · rw [va_n c, ← e]
      split
      · rw [if_neg (by omega), if_neg (by omega)]
      · rfl
  · have e0 := mvB_opp (B := B) (k := 0) hm hp2 hd (by omega)
    simp only [Nat.add_zero] at e0
    rw [e0, ← h4]
    split
    · rw [if_neg (by omega), if_neg (by omega)]
    · rfl
  · rw [mvB_opp hm hp2 hd (by omega), if_pos rfl, h5]
    by_cases c : d < p
    · have hcl := hcl c
      have e := h3 (p - d) (by omega) (by omega)
      rw [show p - d + d = p by omega] at e
      by_cases c3 : 0 < C p
      · rw [if_pos c3] at e
        rw [if_neg (fun z => z.2 e)]
        have : sumB (hsF B0 m d (va_up C p (C p + 1))) 1 24 = sumB (hsF B0 m d C) 1 24 := su_cg 24 (fun k hk => by
          unfold hsF
          by_cases c4 : 1 + k + d = p
          · rw [c4, va_s, if_pos (by omega), if_pos c3]
          · rw [va_n c4])
        omega
      · rw [if_neg c3] at e
        have s1 := su_in (B := hsF B0 m d C) (o := 1) (j := p - d - 1) (v := B0 (26 * (1 - m) + (25 - (p - d)))) 24 (by omega)
        rw [show 1 + (p - d - 1) = p - d by omega] at s1
        have s2 : hsF B0 m d C (p - d) = 0 := by unfold hsF; rw [show p - d + d = p by omega, if_neg c3]
        have s3 : sumB (hsF B0 m d (va_up C p (C p + 1))) 1 24 = sumB (va_up (hsF B0 m d C) (p - d) (B0 (26 * (1 - m) + (25 - (p - d))))) 1 24 := su_cg 24 (fun k hk => by
          by_cases c4 : 1 + k = p - d
          · rw [c4, va_s]; unfold hsF; rw [show p - d + d = p by omega, va_s, if_pos (by omega)]
          · rw [va_n c4]; unfold hsF; rw [va_n (by omega)])
        rw [s3, ← e] at *
        by_cases c5 : B (26 * (1 - m) + (25 - (p - d))) = 0
        · rw [if_neg (fun z => z.2 c5)]; omega
        · rw [if_pos ⟨c, c5⟩]; omega
    · rw [if_neg (fun z => c z.1)]
      have : sumB (hsF B0 m d (va_up C p (C p + 1))) 1 24 = sumB (hsF B0 m d C) 1 24 := su_cg 24 (fun k hk => by
          unfold hsF; rw [va_n (by omega)])
      omega
theorem alk_eq {m d : Nat} {B0 B C B' C' : Nat → Nat} (hm : m ≤ 1) (h : alk m d B0 B C) (h' : alk m d B0 B' C') (e : ∀ t, 1 ≤ t → C t = C' t) : ∀ k, k < 52 → B k = B' k := by
  obtain ⟨h1, h2, h3, h4, h5⟩ := h
  obtain ⟨g1, g2, g3, g4, g5⟩ := h'
  have es : ∀ n, sumB C 1 n = sumB C' 1 n := fun n => su_cg n (fun k hk => e _ (by omega))
  have eh : sumB (hsF B0 m d C) 1 24 = sumB (hsF B0 m d C') 1 24 := su_cg 24 (fun k hk => by unfold hsF; rw [e _ (by omega)])
  have own : ∀ t, t ≤ 25 → B (26 * m + t) = B' (26 * m + t) := fun t ht => by
    rcases Nat.eq_zero_or_pos t with c | c
    · subst c; rw [Nat.add_zero, h2, g2, es]
    · have a := h1 t c ht; have b := g1 t c ht; have e1 := e t c; have e2 := e (t + d) (by omega); omega
  have opp : ∀ t, t ≤ 25 → B (26 * (1 - m) + t) = B' (26 * (1 - m) + t) := fun t ht => by
    rcases (show t = 0 ∨ t = 25 ∨ (1 ≤ t ∧ t ≤ 24) by omega) with c | c | c
    · subst c; rw [Nat.add_zero, h4, g4]
    · subst c; rw [h5, g5, eh]
    · have a := h3 (25 - t) (by omega) (by omega); have b := g3 (25 - t) (by omega) (by omega)
      rw [show 25 - (25 - t) = t by omega] at a b
      rw [a, b, e _ (by omega)]
  intro k hk
  rcases (show m = 0 ∨ m = 1 by omega) with rfl | rfl
  · rcases Nat.lt_or_ge k 26 with c | c
    · have := own k (by omega); simpa using this
    · have := opp (k - 26) (by omega); rw [show 26 * (1 - 0) + (k - 26) = k by omega] at this; exact this
  · rcases Nat.lt_or_ge k 26 with c | c
    · have := opp k (by omega); simpa using this
    · have := own (k - 26) (by omega); rw [show 26 * 1 + (k - 26) = k by omega] at this; exact this
