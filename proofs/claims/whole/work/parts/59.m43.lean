def dlt (d q : Nat) : Nat := 16 ^ q - (if d ≤ q then 16 ^ (q - d) else 0)
theorem mv_dlt {s p d : Nat} (hs : stnd s) (hd : 1 ≤ d) (h : lgl s p d) : mvN s p d + dlt d (p - 1) = s := by
  have h1 := h.1
  have hle : 16 ^ (p - 1) ≤ s := by
    have hp : 0 < s / 16 ^ (p - 1) := by
      rcases Nat.eq_zero_or_pos (s / 16 ^ (p - 1)) with z | z
      · have := h.2.2.1; unfold dgt at this; rw [z] at this; exact absurd this (by decide)
      · exact z
    exact (Nat.one_le_div_iff (Nat.pow_pos (by decide))).mp hp
  unfold mvN dlt
  by_cases c : d < p
  · rw [if_pos c, if_pos (by omega), show p - 1 - d = p - d - 1 by omega]
    have : 16 ^ (p - d - 1) < 16 ^ (p - 1) := Nat.pow_lt_pow_right (by decide) (by omega)
    omega
  · rw [if_neg c, if_neg (by omega)]
    generalize 16 ^ (p - 1) = P at hle ⊢
    omega
theorem Lv_code {d : Nat} (hd : 1 ≤ d) : ∀ k {s t : Nat}, stnd s → Lv d k s t → ∃ C : Nat → Nat, sumB C 0 6 = k ∧ t + sumB (fun q => C q * dlt d q) 0 6 = s
  | 0, s, t, hs, h => ⟨fun _ => 0, by decide, by rw [show t = s from h]; simp [sumB]⟩
  | k + 1, s, t, hs, ⟨u, p, h1, h2, h3⟩ => by
    obtain ⟨C, c1, c2⟩ := Lv_code hd k hs h1
    have su := (Lv_st hd k hs h1).1
    have e := mv_dlt su hd h2
    have p1 := h2.1; have p6 := h2.2.1
    have a := su_in (B := C) (o := 0) (j := p - 1) (v := C (p - 1) + 1) 6 (by omega)
    have b := su_in (B := fun q => C q * dlt d q) (o := 0) (j := p - 1) (v := (C (p - 1) + 1) * dlt d (p - 1)) 6 (by omega)
    rw [Nat.zero_add] at a b
    have eb : sumB (fun q => va_up C (p - 1) (C (p - 1) + 1) q * dlt d q) 0 6 = sumB (va_up (fun q => C q * dlt d q) (p - 1) ((C (p - 1) + 1) * dlt d (p - 1))) 0 6 := su_cg 6 (fun q hq => by
      by_cases c : 0 + q = p - 1
      · show va_up C _ _ (0 + q) * dlt d (0 + q) = _; rw [c, va_s, va_s]
      · show va_up C _ _ (0 + q) * dlt d (0 + q) = _; rw [va_n c, va_n c])
    refine ⟨va_up C (p - 1) (C (p - 1) + 1), by omega, ?_⟩
    rw [eb, h3]
    rw [Nat.add_mul, Nat.one_mul] at b ⊢
    omega
theorem ks_6 : ∀ k, k < 5 → (ksL 6 k).length ≤ 126 := by decide +kernel
theorem choice1 {n : Nat} (P : Nat → Nat → Prop) (h : ∀ i, i < n → ∃ v, P i v) : ∃ f : Nat → Nat, ∀ i, i < n → P i (f i) := by
  have : ∀ i, ∃ v, i < n → P i v := fun i => by
    by_cases c : i < n
    · obtain ⟨v, hv⟩ := h i c; exact ⟨v, fun _ => hv⟩
    · exact ⟨0, fun z => absurd z c⟩
  exact ⟨fun i => (this i).choose, fun i hi => (this i).choose_spec hi⟩
theorem Lv_card {s d k : Nat} (hs : stnd s) (hd : 1 ≤ d) (hk : k ≤ 4) : card (Lv d k s) 126 := by
  intro m f hf hi
  obtain ⟨g, hg⟩ := choice1 (n := m) (fun i v => ∃ C, v = kd C 0 6 ∧ sumB C 0 6 = k ∧ f i + sumB (fun q => C q * dlt d q) 0 6 = s) (fun i h => by obtain ⟨C, c1, c2⟩ := Lv_code hd k hs (hf i h); exact ⟨_, C, rfl, c1, c2⟩)
  have := pig (ksL 6 k) m g (fun i h => by obtain ⟨C, c0, c1, c2⟩ := hg i h; rw [c0]; exact ks_mem 6 k c1) (fun i j h1 h2 e => by
    obtain ⟨C, c0, c1, c2⟩ := hg i h1
    obtain ⟨C', b0, b1, b2⟩ := hg j h2
    have dg : ∀ (C : Nat → Nat), sumB C 0 6 = k → ∀ q, q < 6 → C (0 + q) ≤ 15 := fun C h q hq => by have := su_le (B := C) (o := 0) 6 hq; omega
    have eC := kd_inj 6 (dg C c1) (dg C' b1) (by rw [← c0, ← b0]; exact e)
    have es : sumB (fun q => C q * dlt d q) 0 6 = sumB (fun q => C' q * dlt d q) 0 6 := su_cg 6 (fun q hq => by show C (0 + q) * _ = C' (0 + q) * _; rw [eC q hq])
    exact hi i j h1 h2 (by omega))
  exact Nat.le_trans this (ks_6 k (by omega))
def T1 (d s t : Nat) : Prop := ∃ p, lgl s p d ∧ t = mvN s p d
theorem T1_card {s d : Nat} : card (T1 d s) 6 := by
  intro m f hf hi
  obtain ⟨g, hg⟩ := choice1 (n := m) (fun i v => lgl s (v + 1) d ∧ f i = mvN s (v + 1) d) (fun i h => by obtain ⟨p, h1, h2⟩ := hf i h; exact ⟨p - 1, by rw [show p - 1 + 1 = p by have := h1.1; omega]; exact ⟨h1, h2⟩⟩)
  exact pigN g (fun i h => by have := (hg i h).1.2.1; omega) (fun i j h1 h2 e => hi i j h1 h2 (by rw [(hg i h1).2, (hg j h2).2, e]))
theorem T2_card {s a b : Nat} : card (fun t => T2 a b s t ∨ T2 b a s t) 72 := by
  intro m f hf hi
  let tw : Nat → Nat → Nat → Nat := fun x y v => mvN (mvN s (v / 6 + 1) x) (v % 6 + 1) y
  obtain ⟨g, hg⟩ := choice1 (n := m) (fun i v => v < 72 ∧ f i = if v < 36 then tw a b v else tw b a (v - 36)) (fun i h => by
    rcases hf i h with ⟨p, q, h1, h2, h3⟩ | ⟨p, q, h1, h2, h3⟩
    · have := h1.1; have := h1.2.1; have := h2.1; have := h2.2.1
      refine ⟨6 * (p - 1) + (q - 1), by omega, ?_⟩
      rw [if_pos (by omega)]; show _ = mvN (mvN s _ a) _ b
      rw [show (6 * (p - 1) + (q - 1)) / 6 + 1 = p by omega, show (6 * (p - 1) + (q - 1)) % 6 + 1 = q by omega]; exact h3
    · have := h1.1; have := h1.2.1; have := h2.1; have := h2.2.1
      refine ⟨36 + (6 * (p - 1) + (q - 1)), by omega, ?_⟩
      rw [if_neg (by omega)]; show _ = mvN (mvN s _ b) _ a
      rw [show (36 + (6 * (p - 1) + (q - 1)) - 36) / 6 + 1 = p by omega, show (36 + (6 * (p - 1) + (q - 1)) - 36) % 6 + 1 = q by omega]; exact h3)
  exact pigN g (fun i h => (hg i h).1) (fun i j h1 h2 e => hi i j h1 h2 (by rw [(hg i h1).2, (hg j h2).2, e]))
theorem Lv_dead {d k : Nat} (hd : 1 ≤ d) {s : Nat} (hs : stnd s) (h : ∀ t, ¬ Lv d (k + 1) s t) : ∀ t, Lv d k s t → t = 0 := fun t ht => by
  by_cases c : t = 0
  · exact c
  · obtain ⟨p, hp⟩ := any_mv (d := d) (Lv_st hd k hs ht).1 c
    exact absurd ⟨t, p, ht, hp, rfl⟩ (h _)
theorem Lv_up {d : Nat} {s : Nat} : ∀ j k, (∀ t, ¬ Lv d k s t) → ∀ t, ¬ Lv d (k + j) s t
  | 0, k, h => h
  | j + 1, k, h => fun t ⟨u, p, h1, _⟩ => Lv_up j k h u h1
def srQ (I A : Nat → Nat → Int32) (J : Nat → Nat → Int64) (s a b : Nat) : Option Value → HS → List Nat → Prop := fun rv σ' pl' => ∃ I' A' n r fr, rv = some (.int (nI fr)) ∧ σ' = mS I' A' J ∧ pl' = plM ∧ (∀ k, k ≠ 58 → I' 0 k = I 0 k) ∧ (∀ q, q ≠ 57 → A' q = A q) ∧ rls I' A' n r ∧ fr < n ∧ ∀ t, Res s a b t ↔ ∃ k, fr ≤ k ∧ k < n ∧ r k = t

theorem r_12_standResults_0 {X : Ctx} (F : Fx X cX12_standResults RX12 9 3 0 0) {I A : Nat → Nat → Int32} {J : Nat → Nat → Int64} {x1 x2 x3 : Int32}
    (o_1 : vp_in 0 1000)
    (e_2 : (¬ x2 = x3) → WA X (mS (up2 I 0 58 1) (up1 A 57 (upd (A 57) 0 x1)) J) plM 0 0 92 [(0, .ref 0), (1, .int x1), (2, .int x2), (3, .int x3), (4, .int 0), (5, .int (if x2 ≤ x3 then x3 else x2)), (6, .int (if x2 ≤ x3 then x2 else x3))] [])
    (e_3 : (x2 = x3) → WA X (mS (up2 I 0 58 1) (up1 A 57 (upd (A 57) 0 x1)) J) plM 0 0 23 [(0, .ref 0), (1, .int x1), (2, .int x2), (3, .int x3), (4, .int 0), (5, .int 0)] []) :
    WA X (mS I A J) plM 0 0 0 [(0, .ref 0), (1, .int x1), (2, .int x2), (3, .int x3)] [] := by
  refine a_aload_n F 0 dX12_standResults_0 rfl rfl ?_
  refine a_getr (b := 57) F fl_12_100 rfl (by decide) rfl rfl dX12_standResults_1 ?_
  refine a_iconst (v := 0) F dX12_standResults_4 (by decide) ?_
  refine a_iload_n F 1 dX12_standResults_5 rfl rfl ?_
  refine a_iast F (by decide) rfl (o_1) dX12_standResults_6 ?_
  refine a_aload_n F 0 dX12_standResults_7 rfl rfl ?_
  refine a_iconst (v := 1) F dX12_standResults_8 (by decide) ?_
  refine a_puti F fl_12_359 rfl rfl rfl rfl (by decide) rfl dX12_standResults_9 ?_
  refine a_iconst (v := 0) F dX12_standResults_12 (by decide) ?_
  refine a_istore F dX12_standResults_13 (by decide) rfl ?_
  refine a_iload_n F 3 dX12_standResults_15 rfl rfl ?_
  refine a_iload_n F 4 dX12_standResults_16 rfl rfl ?_
  refine a_icmp_ne (tgt := 68) F dX12_standResults_17 (by decide) (fun (c_1 : ¬ x2 = x3) => ?_) (fun (c_1 : x2 = x3) => ?_)
  · refine a_iload_n F 3 dX12_standResults_68 rfl rfl ?_
    refine a_iload_n F 4 dX12_standResults_69 rfl rfl ?_
    suffices k : ∀ z9 : Int32, z9 = (if x2 ≤ x3 then x3 else x2) → WA X (mS (up2 I 0 58 1) (up1 A 57 (upd (A 57) 0 x1)) J) plM 0 0 78 [(4, .int 0), (0, .ref 0), (1, .int x1), (2, .int x2), (3, .int x3)] [.int z9] by
      refine a_icmp_le (tgt := 77) F dX12_standResults_70 (by decide) (fun (c_2 : x2 ≤ x3) => ?_) (fun (c_2 : ¬ (x2 ≤ x3)) => ?_)
      · refine a_iload_n F 4 dX12_standResults_77 rfl rfl ?_
        exact k _ (by rw [if_pos c_2] <;> rfl)
      · refine a_iload_n F 3 dX12_standResults_73 rfl rfl ?_
        refine a_goto (tgt := 78) F dX12_standResults_74 (by decide) ?_
        exact k _ (by rw [if_neg c_2] <;> rfl)
    rintro _ rfl
    refine a_istore F dX12_standResults_78 (by decide) rfl ?_
    refine a_iload_n F 4 dX12_standResults_80 rfl rfl ?_
    refine a_iload_n F 5 dX12_standResults_81 rfl rfl ?_
    suffices k : ∀ z9 : Int32, z9 = (if x2 ≤ x3 then x2 else x3) → WA X (mS (up2 I 0 58 1) (up1 A 57 (upd (A 57) 0 x1)) J) plM 0 0 90 [(5, .int (if x2 ≤ x3 then x3 else x2)), (4, .int 0), (0, .ref 0), (1, .int x1), (2, .int x2), (3, .int x3)] [.int z9] by
      refine a_icmp_le (tgt := 89) F dX12_standResults_82 (by decide) (fun (c_3 : x2 ≤ x3) => ?_) (fun (c_3 : ¬ (x2 ≤ x3)) => ?_)
      · refine a_iload_n F 4 dX12_standResults_89 rfl rfl ?_
        exact k _ (by rw [if_pos c_3] <;> rfl)
      · refine a_iload_n F 5 dX12_standResults_85 rfl rfl ?_
        refine a_goto (tgt := 90) F dX12_standResults_86 (by decide) ?_
        exact k _ (by rw [if_neg c_3] <;> rfl)
    rintro _ rfl
    refine a_istore F dX12_standResults_90 (by decide) rfl ?_
    refine a_sub [3, 4, 5, 6, 2, 1, 0] rfl ?_
    exact e_2 c_1
  · refine a_iconst (v := 0) F dX12_standResults_20 (by decide) ?_
    refine a_istore F dX12_standResults_21 (by decide) rfl ?_
    refine a_sub [2, 3, 4, 5, 1, 0] rfl ?_
    exact e_3 c_1

theorem r_12_standResults_23 {X : Ctx} (F : Fx X cX12_standResults RX12 9 3 0 0) {Φ : Option Value → HS → List Nat → Prop} (E : Ex X (some .int) 0 0 Φ) {I A : Nat → Nat → Int32} {J : Nat → Nat → Int64} {x1 x2 x3 x4 x5 : Int32}
    (e_1 : (4 ≤ x5) → Φ (some (.int x4)) (mS I A J) plM)
    (e_2 : (¬ (4 ≤ x5)) → WA X (mS I A J) plM 0 0 43 [(6, .int (I 0 58)), (0, .ref 0), (1, .int x1), (2, .int x2), (3, .int x3), (4, .int x4), (5, .int x5)] [.int (I 0 58), .int x2, .int (I 0 58), .int x4, .ref 0]) :
    WA X (mS I A J) plM 0 0 23 [(0, .ref 0), (1, .int x1), (2, .int x2), (3, .int x3), (4, .int x4), (5, .int x5)] [] := by
  refine a_iload F 5 dX12_standResults_23 rfl ?_
  refine a_iconst (v := 4) F dX12_standResults_25 (by decide) ?_
  refine a_icmp_ge (tgt := 65) F dX12_standResults_26 (by decide) (fun (c_4 : 4 ≤ x5) => ?_) (fun (c_4 : ¬ (4 ≤ x5)) => ?_)
  · refine a_iload F 4 dX12_standResults_65 rfl ?_
    exact a_iret F E dX12_standResults_67 (Nat.le_refl 0) (Nat.le_refl 0) (e_1 c_4)
  · refine a_aload_n F 0 dX12_standResults_29 rfl rfl ?_
    refine a_geti F fl_12_359 rfl (by decide) rfl dX12_standResults_30 ?_
    refine a_istore F dX12_standResults_33 (by decide) rfl ?_
    refine a_aload_n F 1 dX12_standResults_35 rfl rfl ?_
    refine a_iload F 5 dX12_standResults_36 rfl ?_
    refine a_iload F 0 dX12_standResults_38 rfl ?_
    refine a_iload_n F 3 dX12_standResults_40 rfl rfl ?_
    refine a_iload F 0 dX12_standResults_41 rfl ?_
    exact e_2 c_4

theorem r_12_standResults_46 {X : Ctx} (F : Fx X cX12_standResults RX12 9 3 0 0) {I A : Nat → Nat → Int32} {J : Nat → Nat → Int64} {x1 x2 x3 x4 x5 x6 : Int32}
    (e_1 : ((I 0 58) ≤ x6) → WA X (mS I A J) plM 0 0 23 [(0, .ref 0), (1, .int x1), (2, .int x2), (3, .int x3), (4, .int x4), (5, .int (x5 + 1))] [])
    (e_2 : (¬ ((I 0 58) ≤ x6)) → WA X (mS I A J) plM 0 0 23 [(0, .ref 0), (1, .int x1), (2, .int x2), (3, .int x3), (4, .int x6), (5, .int (x5 + 1))] []) :
    WA X (mS I A J) plM 0 0 46 [(0, .ref 0), (1, .int x1), (2, .int x2), (3, .int x3), (4, .int x4), (5, .int x5), (6, .int x6)] [] := by
  refine a_aload_n F 0 dX12_standResults_46 rfl rfl ?_
  refine a_geti F fl_12_359 rfl (by decide) rfl dX12_standResults_47 ?_
  refine a_iload F 6 dX12_standResults_50 rfl ?_
  refine a_icmp_le (tgt := 59) F dX12_standResults_52 (by decide) (fun (c_5 : (I 0 58) ≤ x6) => ?_) (fun (c_5 : ¬ ((I 0 58) ≤ x6)) => ?_)
  · refine a_iinc (v := x5 + 1) F 5 dX12_standResults_59 rfl rfl (by decide) rfl ?_
    refine a_goto (tgt := 23) F dX12_standResults_62 (by decide) ?_
    refine a_sub [1, 2, 3, 4, 5, 0] rfl ?_
    exact e_1 c_5
  · refine a_iload F 6 dX12_standResults_55 rfl ?_
    refine a_istore F dX12_standResults_57 (by decide) rfl ?_
    refine a_iinc (v := x5 + 1) F 5 dX12_standResults_59 rfl rfl (by decide) rfl ?_
    refine a_goto (tgt := 23) F dX12_standResults_62 (by decide) ?_
    refine a_sub [2, 3, 4, 5, 1, 0] rfl ?_
    exact e_2 c_5

theorem r_12_standResults_92 {X : Ctx} (F : Fx X cX12_standResults RX12 9 3 0 0) {I A : Nat → Nat → Int32} {J : Nat → Nat → Int64} {x1 x2 x3 x4 x5 x6 : Int32}
    (e_1 : WA X (mS I A J) plM 0 0 98 [(0, .ref 0), (1, .int x1), (2, .int x2), (3, .int x3), (4, .int x4), (5, .int x5), (6, .int x6)] [.int 1, .int x5, .int 1, .int 0, .ref 0]) :
    WA X (mS I A J) plM 0 0 92 [(0, .ref 0), (1, .int x1), (2, .int x2), (3, .int x3), (4, .int x4), (5, .int x5), (6, .int x6)] [] := by
  refine a_aload_n F 0 dX12_standResults_92 rfl rfl ?_
  refine a_iconst (v := 0) F dX12_standResults_93 (by decide) ?_
  refine a_iconst (v := 1) F dX12_standResults_94 (by decide) ?_
  refine a_iload F 5 dX12_standResults_95 rfl ?_
  refine a_iconst (v := 1) F dX12_standResults_97 (by decide) ?_
  exact e_1

theorem r_12_standResults_101 {X : Ctx} (F : Fx X cX12_standResults RX12 9 3 0 0) {I A : Nat → Nat → Int32} {J : Nat → Nat → Int64} {x1 x2 x3 x4 x5 x6 : Int32}
    (e_1 : WA X (mS I A J) plM 0 0 114 [(7, .int (I 0 58)), (0, .ref 0), (1, .int x1), (2, .int x2), (3, .int x3), (4, .int x4), (5, .int x5), (6, .int x6)] [.int (I 0 58), .int x6, .int 1, .int 0, .ref 0]) :
    WA X (mS I A J) plM 0 0 101 [(0, .ref 0), (1, .int x1), (2, .int x2), (3, .int x3), (4, .int x4), (5, .int x5), (6, .int x6)] [] := by
  refine a_aload_n F 0 dX12_standResults_101 rfl rfl ?_
  refine a_geti F fl_12_359 rfl (by decide) rfl dX12_standResults_102 ?_
  refine a_istore F dX12_standResults_105 (by decide) rfl ?_
  refine a_aload_n F 1 dX12_standResults_107 rfl rfl ?_
  refine a_iconst (v := 0) F dX12_standResults_108 (by decide) ?_
  refine a_iconst (v := 1) F dX12_standResults_109 (by decide) ?_
  refine a_iload F 7 dX12_standResults_110 rfl ?_
  refine a_iload F 0 dX12_standResults_112 rfl ?_
  exact e_1

theorem r_12_standResults_117 {X : Ctx} (F : Fx X cX12_standResults RX12 9 3 0 0) {I A : Nat → Nat → Int32} {J : Nat → Nat → Int64} {x1 x2 x3 x4 x5 x6 x7 : Int32}
    (e_1 : WA X (mS I A J) plM 0 0 131 [(8, .int (I 0 58)), (0, .ref 0), (1, .int x1), (2, .int x2), (3, .int x3), (4, .int x4), (5, .int x5), (6, .int x6), (7, .int x7)] [.int (I 0 58), .int x6, .int x7, .int 1, .ref 0]) :
    WA X (mS I A J) plM 0 0 117 [(0, .ref 0), (1, .int x1), (2, .int x2), (3, .int x3), (4, .int x4), (5, .int x5), (6, .int x6), (7, .int x7)] [] := by
  refine a_aload_n F 0 dX12_standResults_117 rfl rfl ?_
  refine a_geti F fl_12_359 rfl (by decide) rfl dX12_standResults_118 ?_
  refine a_istore F dX12_standResults_121 (by decide) rfl ?_
  refine a_aload_n F 1 dX12_standResults_123 rfl rfl ?_
  refine a_iconst (v := 1) F dX12_standResults_124 (by decide) ?_
  refine a_iload F 8 dX12_standResults_125 rfl ?_
  refine a_iload F 7 dX12_standResults_127 rfl ?_
  refine a_iload F 0 dX12_standResults_129 rfl ?_
  exact e_1

theorem r_12_standResults_134 {X : Ctx} (F : Fx X cX12_standResults RX12 9 3 0 0) {I A : Nat → Nat → Int32} {J : Nat → Nat → Int64} {x1 x2 x3 x4 x5 x6 x7 x8 : Int32}
    (e_1 : WA X (mS I A J) plM 0 0 143 [(0, .ref 0), (1, .int x1), (2, .int x2), (3, .int x3), (4, .int x4), (5, .int x5), (6, .int x6), (7, .int x7), (8, .int x8)] [.int x8, .int x5, .int x8, .int x7, .ref 0]) :
    WA X (mS I A J) plM 0 0 134 [(0, .ref 0), (1, .int x1), (2, .int x2), (3, .int x3), (4, .int x4), (5, .int x5), (6, .int x6), (7, .int x7), (8, .int x8)] [] := by
  refine a_aload_n F 0 dX12_standResults_134 rfl rfl ?_
  refine a_iload F 7 dX12_standResults_135 rfl ?_
  refine a_iload F 8 dX12_standResults_137 rfl ?_
  refine a_iload F 5 dX12_standResults_139 rfl ?_
  refine a_iload F 8 dX12_standResults_141 rfl ?_
  exact e_1

theorem r_12_standResults_146 {X : Ctx} (F : Fx X cX12_standResults RX12 9 3 0 0) {Φ : Option Value → HS → List Nat → Prop} (E : Ex X (some .int) 0 0 Φ) {I A : Nat → Nat → Int32} {J : Nat → Nat → Int64} {x1 x2 x3 x4 x5 x6 x7 x8 : Int32}
    (e_1 : ((I 0 58) ≤ x8) → (x7 ≤ 1) → Φ (some (.int 0)) (mS (up2 I 0 58 x7) A J) plM)
    (e_2 : ((I 0 58) ≤ x8) → (¬ (x7 ≤ 1)) → Φ (some (.int 1)) (mS (up2 I 0 58 x7) A J) plM)
    (e_3 : (¬ ((I 0 58) ≤ x8)) → Φ (some (.int x8)) (mS I A J) plM) :
    WA X (mS I A J) plM 0 0 146 [(0, .ref 0), (1, .int x1), (2, .int x2), (3, .int x3), (4, .int x4), (5, .int x5), (6, .int x6), (7, .int x7), (8, .int x8)] [] := by
  refine a_aload_n F 0 dX12_standResults_146 rfl rfl ?_
  refine a_geti F fl_12_359 rfl (by decide) rfl dX12_standResults_147 ?_
  refine a_iload F 8 dX12_standResults_150 rfl ?_
  refine a_icmp_le (tgt := 158) F dX12_standResults_152 (by decide) (fun (c_6 : (I 0 58) ≤ x8) => ?_) (fun (c_6 : ¬ ((I 0 58) ≤ x8)) => ?_)
  · refine a_aload_n F 0 dX12_standResults_158 rfl rfl ?_
    refine a_iload F 7 dX12_standResults_159 rfl ?_
    refine a_puti F fl_12_359 rfl rfl rfl rfl (by decide) rfl dX12_standResults_161 ?_
    refine a_iload F 7 dX12_standResults_164 rfl ?_
    refine a_iconst (v := 1) F dX12_standResults_166 (by decide) ?_
    refine a_icmp_le (tgt := 174) F dX12_standResults_167 (by decide) (fun (c_7 : x7 ≤ 1) => ?_) (fun (c_7 : ¬ (x7 ≤ 1)) => ?_)
    · refine a_iconst (v := 0) F dX12_standResults_174 (by decide) ?_
      exact a_iret F E dX12_standResults_175 (Nat.le_refl 0) (Nat.le_refl 0) (e_1 c_6 c_7)
    · refine a_iconst (v := 1) F dX12_standResults_170 (by decide) ?_
      refine a_goto (tgt := 175) F dX12_standResults_171 (by decide) ?_
      exact a_iret F E dX12_standResults_175 (Nat.le_refl 0) (Nat.le_refl 0) (e_2 c_6 c_7)
  · refine a_iload F 8 dX12_standResults_155 rfl ?_
    exact a_iret F E dX12_standResults_157 (Nat.le_refl 0) (Nat.le_refl 0) (e_3 c_6)

set_option maxRecDepth 10000 in
theorem c_standResults (l : Launch) (I A : Nat → Nat → Int32) (J : Nat → Nat → Int64) (s a b : Nat) (hs : stnd s) (h0 : s ≠ 0) (ha : 1 ≤ a ∧ a ≤ 6) (hb : 1 ≤ b ∧ b ≤ 6) : Con l 3 yX12_standResults cX12_standResults 9 (some .int) [.ref 0, .int (nI s), .int (nI a), .int (nI b)] (mS I A J) plM 0 0 (srQ I A J s a b) := by
  refine Con.of (by decide) (Nat.le_of_ble_eq_true rfl) (fun X hX9 hn9 F E => ?_)
  have hs6 := hs.1
  have r0 : rls (up2 I 0 58 1) (up1 A 57 (upd (A 57) 0 (nI s))) 1 (fun _ => s) := ⟨up2_s, by omega, fun k hk => by have z0 : k = 0 := (by omega); subst z0; rw [up1_s, upd_in]; exact ⟨rfl, hs6⟩⟩
  have fI0 : ∀ k, k ≠ 58 → up2 I 0 58 1 0 k = I 0 k := fun k hk => up2_k hk
  have fA0 : ∀ q, q ≠ 57 → up1 A 57 (upd (A 57) 0 (nI s)) q = A q := fun q hq => up1_p hq
  refine r_12_standResults_0 F (vp_in_nI (n := 0) (by omega) (by omega)) ?_ ?_
  · rw [nI_eq (by omega) (by omega)]; intro hab
    have emax : (if nI a ≤ nI b then nI b else nI a) = nI (max a b) := by
      by_cases c : a ≤ b
      · rw [if_pos ((nI_leI (by omega) (by omega)).mpr c)]; congr 1; omega
      · rw [if_neg (fun z => c ((nI_leI (by omega) (by omega)).mp z))]; congr 1; omega
    have emin : (if nI a ≤ nI b then nI a else nI b) = nI (min a b) := by
      by_cases c : a ≤ b
      · rw [if_pos ((nI_leI (by omega) (by omega)).mpr c)]; congr 1; omega
      · rw [if_neg (fun z => c ((nI_leI (by omega) (by omega)).mp z))]; congr 1; omega
    rw [emax, emin]
    have hres : ∀ t, Res s a b t ↔ Res s (max a b) (min a b) t := fun t => by
      rcases Nat.lt_or_ge a b with c | c
      · rw [show max a b = b by omega, show min a b = a by omega]; exact ⟨Res_sym, Res_sym⟩
      · rw [show max a b = a by omega, show min a b = b by omega]
    have hg : 1 ≤ max a b ∧ max a b ≤ 6 := by omega
    have hm : 1 ≤ min a b ∧ min a b ≤ 6 := by omega
    have hne : max a b ≠ min a b := by omega
    generalize max a b = g at hg hres hne ⊢
    generalize min a b = m at hm hres hne ⊢
    generalize up2 I 0 58 1 = I0 at r0 fI0 ⊢
    generalize up1 A 57 (upd (A 57) 0 (nI s)) = A0 at r0 fA0 ⊢
    refine r_12_standResults_92 F ?_
    refine a_callV (b := 0) (As := [.int 0, .int 1, .int (nI g), .int 1]) (st := []) (ci := 12) F (c_moveAll (xl X) I0 A0 J 0 1 g 1 1 6 (fun _ => s) (fun _ => False) (T1 g s) hg.1 hg.2 (by omega) (by omega) r0 ⟨by omega, fun t => ⟨fun z => z.elim, fun ⟨k, z1, z2, _⟩ => by omega⟩, fun i j z1 z2 => by omega⟩ (fun _ _ _ => hs) T1_card (fun _ z => z.elim) (fun k p _ _ hl => ⟨p, hl, rfl⟩) (by omega)) ml_12_365 im_yX12_moveAll se_yX12_moveAll (by decide) (by decide) rfl (by decide) rfl rfl dX12_standResults_98 (by decide) (Nat.le_refl 0) (Nat.le_refl 0) (hl_r (by decide) (hl_i (hl_i (hl_i (hl_i (hl_i (hl_i hl_nil))))))) hs_nil ?_
    rintro _ _ _ ⟨I1, A1, n1, r1, rfl, rfl, rfl, f1, f2, q1, q2, q3⟩ _
    have S1 : ∀ t, (∃ k, 1 ≤ k ∧ k < n1 ∧ r1 k = t) ↔ T1 g s t := fun t => by
      rw [← q2.2.1 t]
      exact ⟨fun z => z.elim (fun y => y.elim) (fun ⟨k, p, _, _, y1, y2⟩ => ⟨p, y1, y2⟩), fun ⟨p, y1, y2⟩ => Or.inr ⟨0, p, by omega, by omega, y1, y2⟩⟩
    have c1 : n1 ≤ 7 := by have := rlo_card q2 (T1_card (s := s) (d := g)) (fun t ht => (S1 t).mp ((q2.2.1 t).mp ht)); omega
    have l1 := q2.1
    show WA X (mS I1 A1 J) plM 0 0 101 [(0, .ref 0), (1, .int (nI s)), (2, .int (nI a)), (3, .int (nI b)), (4, .int 0), (5, .int (nI g)), (6, .int (nI m))] []
    refine r_12_standResults_101 F ?_
    rw [q1.1]
    have r10 : r1 0 = s := q3 0 (by omega)
    refine a_callV (b := 0) (As := [.int 0, .int 1, .int (nI m), .int (nI n1)]) (st := []) (ci := 12) F (c_moveAll (xl X) I1 A1 J 0 1 m n1 n1 6 r1 (fun _ => False) (T1 m s) hm.1 hm.2 (by omega) (by omega) q1 ⟨by omega, fun t => ⟨fun z => z.elim, fun ⟨k, z1, z2, _⟩ => by omega⟩, fun i j z1 z2 => by omega⟩ (fun k _ hk => by have z0 : k = 0 := (by omega); subst z0; rw [r10]; exact hs) T1_card (fun _ z => z.elim) (fun k p _ hk hl => by have z0 : k = 0 := (by omega); subst z0; rw [r10] at hl ⊢; exact ⟨p, hl, rfl⟩) (by omega)) ml_12_365 im_yX12_moveAll se_yX12_moveAll (by decide) (by decide) rfl (by decide) rfl rfl dX12_standResults_114 (by decide) (Nat.le_refl 0) (Nat.le_refl 0) (hl_i (hl_r (by decide) (hl_i (hl_i (hl_i (hl_i (hl_i (hl_i hl_nil)))))))) hs_nil ?_
    rintro _ _ _ ⟨I2, A2, n2, r2, rfl, rfl, rfl, g1, g2, t1, t2, t3⟩ _
    have S2 : ∀ t, (∃ k, n1 ≤ k ∧ k < n2 ∧ r2 k = t) ↔ T1 m s t := fun t => by
      rw [← t2.2.1 t]
      exact ⟨fun z => z.elim (fun y => y.elim) (fun ⟨k, p, _, hk, y1, y2⟩ => by have z0 : k = 0 := (by omega); subst z0; rw [r10] at y1 y2; exact ⟨p, y1, y2⟩), fun ⟨p, y1, y2⟩ => Or.inr ⟨0, p, by omega, by omega, by rw [r10]; exact y1, by rw [r10]; exact y2⟩⟩
    have c2 : n2 ≤ n1 + 6 := rlo_card t2 (T1_card (s := s) (d := m)) (fun t ht => (S2 t).mp ((t2.2.1 t).mp ht))
    have l2 := t2.1
    refine a_sub [1, 2, 3, 4, 5, 6, 7, 0] rfl ?_
    show WA X (mS I2 A2 J) plM 0 0 117 [(0, .ref 0), (1, .int (nI s)), (2, .int (nI a)), (3, .int (nI b)), (4, .int 0), (5, .int (nI g)), (6, .int (nI m)), (7, .int (nI n1))] []
    refine r_12_standResults_117 F ?_
    rw [t1.1]
    have in1 : ∀ k, 1 ≤ k → k < n1 → T1 g s (r2 k) := fun k k1 k2 => by rw [t3 k k2]; exact (S1 _).mp ⟨k, k1, k2, rfl⟩
    have in2 : ∀ k, n1 ≤ k → k < n2 → T1 m s (r2 k) := fun k k1 k2 => (S2 _).mp ⟨k, k1, k2, rfl⟩
    have st1 : ∀ d u, 1 ≤ d → T1 d s u → stnd u := fun d u hd ⟨p, h1, h2⟩ => by rw [h2]; exact (lgl_mv hs hd h1).1
    refine a_callV (b := 0) (As := [.int 1, .int (nI n1), .int (nI m), .int (nI n2)]) (st := []) (ci := 12) F (c_moveAll (xl X) I2 A2 J 1 n1 m n2 n2 72 r2 (fun _ => False) (fun t => T2 g m s t ∨ T2 m g s t) hm.1 hm.2 l1 l2 t1 ⟨by omega, fun t => ⟨fun z => z.elim, fun ⟨k, z1, z2, _⟩ => by omega⟩, fun i j z1 z2 => by omega⟩ (fun k k1 k2 => st1 g _ hg.1 (in1 k k1 k2)) T2_card (fun _ z => z.elim) (fun k p k1 k2 hl => by
        obtain ⟨p1, y1, y2⟩ := in1 k k1 k2
        rw [y2] at hl ⊢; exact Or.inl ⟨p1, p, y1, hl, rfl⟩) (by omega)) ml_12_365 im_yX12_moveAll se_yX12_moveAll (by decide) (by decide) rfl (by decide) rfl rfl dX12_standResults_131 (by decide) (Nat.le_refl 0) (Nat.le_refl 0) (hl_i (hl_r (by decide) (hl_i (hl_i (hl_i (hl_i (hl_i (hl_i (hl_i hl_nil))))))))) hs_nil ?_
    rintro _ _ _ ⟨I3, A3, n3, r3, rfl, rfl, rfl, k1, k2, u1, u2, u3⟩ _
    have l3 := u2.1
    refine a_sub [1, 2, 3, 4, 5, 6, 7, 8, 0] rfl ?_
    show WA X (mS I3 A3 J) plM 0 0 134 [(0, .ref 0), (1, .int (nI s)), (2, .int (nI a)), (3, .int (nI b)), (4, .int 0), (5, .int (nI g)), (6, .int (nI m)), (7, .int (nI n1)), (8, .int (nI n2))] []
    refine r_12_standResults_134 F ?_
    have S3 : ∀ t, ((fun _ => False) t ∨ ∃ k p, 1 ≤ k ∧ k < n1 ∧ lgl (r2 k) p m ∧ t = mvN (r2 k) p m) ↔ T2 g m s t := fun t => by
      constructor
      · rintro (z | ⟨k, p, z1, z2, z3, z4⟩)
        · exact z.elim
        · obtain ⟨p1, y1, y2⟩ := in1 k z1 z2
          rw [y2] at z3 z4; exact ⟨p1, p, y1, z3, z4⟩
      · rintro ⟨p, q, z1, z2, z3⟩
        obtain ⟨k, y1, y2, y3⟩ := (S1 (mvN s p g)).mpr ⟨p, z1, rfl⟩
        rw [← t3 k y2] at y3
        exact Or.inr ⟨k, q, y1, y2, by rw [y3]; exact z2, by rw [y3]; exact z3⟩
    have in3 : ∀ k, n1 ≤ k → k < n2 → T1 m s (r3 k) := fun k k1 k2 => by rw [u3 k k2]; exact in2 k k1 k2
    refine a_callV (b := 0) (As := [.int (nI n1), .int (nI n2), .int (nI g), .int (nI n2)]) (st := []) (ci := 12) F (c_moveAll (xl X) I3 A3 J n1 n2 g n2 n3 72 r3 _ (fun t => T2 g m s t ∨ T2 m g s t) hg.1 hg.2 l2 (Nat.le_refl _) u1 u2 (fun k k1 k2 => st1 m _ hm.1 (in3 k k1 k2)) T2_card (fun t ht => Or.inl ((S3 t).mp ht)) (fun k p k1 k2 hl => by
        obtain ⟨p1, y1, y2⟩ := in3 k k1 k2
        rw [y2] at hl ⊢; exact Or.inr ⟨p1, p, y1, hl, rfl⟩) (by omega)) ml_12_365 im_yX12_moveAll se_yX12_moveAll (by decide) (by decide) rfl (by decide) rfl rfl dX12_standResults_143 (by decide) (Nat.le_refl 0) (Nat.le_refl 0) (hl_r (by decide) (hl_i (hl_i (hl_i (hl_i (hl_i (hl_i (hl_i (hl_i hl_nil))))))))) hs_nil ?_
    rintro _ _ _ ⟨I4, A4, n4, r4, rfl, rfl, rfl, v1, v2, w1, w2, w3⟩ _
    have l4 := w2.1
    have hn4 := w1.2.1
    show WA X (mS I4 A4 J) plM 0 0 146 [(0, .ref 0), (1, .int (nI s)), (2, .int (nI a)), (3, .int (nI b)), (4, .int 0), (5, .int (nI g)), (6, .int (nI m)), (7, .int (nI n1)), (8, .int (nI n2))] []
    have S4 : ∀ t, (∃ k, n2 ≤ k ∧ k < n4 ∧ r4 k = t) ↔ Mx s g m t := fun t => by
      rw [← w2.2.1 t]
      constructor
      · rintro (z | ⟨k, p, z1, z2, z3, z4⟩)
        · exact Or.inr ⟨hne, Or.inl ((S3 t).mp z)⟩
        · obtain ⟨p1, y1, y2⟩ := in3 k z1 z2
          rw [y2] at z3 z4; exact Or.inr ⟨hne, Or.inr ⟨p1, p, y1, z3, z4⟩⟩
      · rintro (⟨z, -⟩ | ⟨-, z | ⟨p, q, z1, z2, z3⟩⟩)
        · exact absurd z hne
        · exact Or.inl ((S3 t).mpr z)
        · obtain ⟨k, y1, y2, y3⟩ := (S2 (mvN s p m)).mpr ⟨p, z1, rfl⟩
          rw [← u3 k y2] at y3
          exact Or.inr ⟨k, q, y1, y2, by rw [y3]; exact z2, by rw [y3]; exact z3⟩
    have fI4 : ∀ k, k ≠ 58 → I4 0 k = I 0 k := fun k hk => by rw [v1 k hk, k1 k hk, g1 k hk, f1 k hk]; exact fI0 k hk
    have fA4 : ∀ q, q ≠ 57 → A4 q = A q := fun q hq => by rw [v2 q hq, k2 q hq, g2 q hq, f2 q hq]; exact fA0 q hq
    have le4 : I4 0 58 ≤ nI n2 ↔ n4 ≤ n2 := by rw [w1.1]; exact nI_leI (by omega) (by omega)
    obtain ⟨p0, hp0⟩ := any_mv (d := g) hs h0
    obtain ⟨k0, y1, y2, y3⟩ := (S1 (mvN s p0 g)).mpr ⟨p0, hp0, rfl⟩
    refine r_12_standResults_146 F E (fun c c2 => ?_) (fun c c2 => ?_) (fun c => ?_)
    · exfalso; have := (nI_len 1 (by omega) (by omega)).mp c2; omega
    · have hn42 := le4.mp c
      have noM : ¬ ∃ u, Mx s g m u := fun ⟨u, hu⟩ => by obtain ⟨k, z1, z2, -⟩ := (S4 u).mpr hu; omega
      refine ⟨_, A4, n1, r4, 1, rfl, rfl, rfl, fun k hk => by rw [up2_k hk]; exact fI4 k hk, fA4, ⟨up2_s, by omega, fun k hk => w1.2.2 k (by omega)⟩, by omega, fun t => ?_⟩
      rw [hres t]
      have r41 : ∀ k, k < n1 → r4 k = r1 k := fun k hk => by rw [w3 k (by omega), u3 k (by omega), t3 k hk]
      have all0 : ∀ k, 1 ≤ k → k < n1 → r4 k = 0 := fun k z1 z2 => by
        rw [r41 k z2]
        by_cases c0 : r1 k = 0
        · exact c0
        · exfalso
          obtain ⟨p1, x1, x2⟩ := (S1 (r1 k)).mp ⟨k, z1, z2, rfl⟩
          obtain ⟨p2, x3⟩ := any_mv (d := m) (st1 g _ hg.1 ⟨p1, x1, x2⟩) c0
          rw [x2] at x3
          exact noM ⟨_, Or.inr ⟨hne, Or.inl ⟨p1, p2, x1, x3, rfl⟩⟩⟩
      constructor
      · rintro (z | ⟨-, rfl⟩)
        · exact absurd ⟨t, z⟩ noM
        · exact ⟨1, by omega, by omega, all0 1 (by omega) (by omega)⟩
      · rintro ⟨k, z1, z2, z3⟩
        rw [all0 k z1 z2] at z3
        exact Or.inr ⟨noM, z3.symm⟩
    · have hn42 : n2 < n4 := Nat.lt_of_not_le (fun z => c (le4.mpr z))
      refine ⟨I4, A4, n4, r4, n2, rfl, rfl, rfl, fI4, fA4, w1, hn42, fun t => ?_⟩
      rw [hres t, S4 t]
      constructor
      · rintro (z | ⟨z, -⟩)
        · exact z
        · exact absurd ⟨r4 n2, (S4 _).mp ⟨n2, by omega, hn42, rfl⟩⟩ z
      · exact Or.inl
  · rw [nI_eq (by omega) (by omega)]; rintro rfl
    have loop : ∀ f k (I1 A1 : Nat → Nat → Int32) (n1 fr j : Nat) (r1 : Nat → Nat), k + f = 4 → j ≤ k → (∀ k, k ≠ 58 → I1 0 k = I 0 k) → (∀ q, q ≠ 57 → A1 q = A q) → rls I1 A1 n1 r1 → n1 ≤ 1 + 126 * k → fr < n1 → (∀ t, Lv a j s t ↔ ∃ i, fr ≤ i ∧ i < n1 ∧ r1 i = t) → (j = k ∨ ∀ t, ¬ Lv a (j + 1) s t) → WA X (mS I1 A1 J) plM 0 0 23 [(0, .ref 0), (1, .int (nI s)), (2, .int (nI a)), (3, .int (nI a)), (4, .int (nI fr)), (5, .int (nI k))] [] := by
      intro f
      induction f with
      | zero =>
        intro k I1 A1 n1 fr j r1 hk hj fI fA hr hb hfr hS hd
        obtain rfl : k = 4 := by omega
        have h4 : (4 : Int32) ≤ nI 4 := by decide
        refine r_12_standResults_23 F E (fun _ => ?_) (fun z => absurd h4 z)
        refine ⟨I1, A1, n1, r1, fr, rfl, rfl, rfl, fI, fA, hr, hfr, fun t => ?_⟩
        rw [← hS t]
        by_cases c : j = 4
        · subst c
          constructor
          · rintro (z | ⟨z, -⟩)
            · rcases z with ⟨-, z⟩ | ⟨z, -⟩
              · exact z
              · exact absurd rfl z
            · exact absurd ⟨r1 fr, Or.inl ⟨rfl, (hS _).mpr ⟨fr, Nat.le_refl _, hfr, rfl⟩⟩⟩ z
          · exact fun z => Or.inl (Or.inl ⟨rfl, z⟩)
        · have dead := hd.resolve_left c
          have no4 : ∀ t, ¬ Lv a 4 s t := by have := Lv_up (d := a) (s := s) (4 - (j + 1)) (j + 1) dead; rw [show j + 1 + (4 - (j + 1)) = 4 by omega] at this; exact this
          have all0 := Lv_dead ha.1 hs dead
          have noM : ¬ ∃ u, Mx s a a u := fun ⟨u, hu⟩ => by
            rcases hu with ⟨-, z⟩ | ⟨z, -⟩
            · exact no4 u z
            · exact z rfl
          constructor
          · rintro (z | ⟨-, rfl⟩)
            · exact absurd ⟨t, z⟩ noM
            · have := (hS (r1 fr)).mpr ⟨fr, Nat.le_refl _, hfr, rfl⟩
              rw [all0 _ this] at this; exact this
          · exact fun z => Or.inr ⟨noM, all0 t z⟩
      | succ f ih =>
        intro k I1 A1 n1 fr j r1 hk hj fI fA hr hb hfr hS hd
        have h4 : ¬ (4 : Int32) ≤ nI k := nI_ge (b := 4) (by omega) (by omega)
        refine r_12_standResults_23 F E (fun z => absurd z h4) (fun _ => ?_)
        rw [hr.1]
        have inL : ∀ i, fr ≤ i → i < n1 → Lv a j s (r1 i) := fun i i1 i2 => (hS _).mpr ⟨i, i1, i2, rfl⟩
        refine a_callV (b := 0) (As := [.int (nI fr), .int (nI n1), .int (nI a), .int (nI n1)]) (st := []) (ci := 12) F (c_moveAll (xl X) I1 A1 J fr n1 a n1 n1 126 r1 (fun _ => False) (Lv a (j + 1) s) ha.1 ha.2 (by omega) (Nat.le_refl _) hr ⟨by omega, fun t => ⟨fun z => z.elim, fun ⟨k, z1, z2, _⟩ => by omega⟩, fun i j z1 z2 => by omega⟩ (fun i i1 i2 => (Lv_st ha.1 j hs (inL i i1 i2)).1) (Lv_card hs ha.1 (by omega)) (fun _ z => z.elim) (fun i p i1 i2 hl => ⟨r1 i, p, inL i i1 i2, hl, rfl⟩) (by omega)) ml_12_365 im_yX12_moveAll se_yX12_moveAll (by decide) (by decide) rfl (by decide) rfl rfl dX12_standResults_43 (by decide) (Nat.le_refl 0) (Nat.le_refl 0) (hl_i (hl_r (by decide) (hl_i (hl_i (hl_i (hl_i (hl_i hl_nil))))))) hs_nil ?_
        rintro _ _ _ ⟨I2, A2, n2, r2, rfl, rfl, rfl, g1, g2, t1, t2, t3⟩ _
        have l2 := t2.1
        have hn2 := t1.2.1
        have S2 : ∀ t, (∃ i, n1 ≤ i ∧ i < n2 ∧ r2 i = t) ↔ Lv a (j + 1) s t := fun t => by
          rw [← t2.2.1 t]
          constructor
          · rintro (z | ⟨i, p, z1, z2, z3, z4⟩)
            · exact z.elim
            · exact ⟨r1 i, p, inL i z1 z2, z3, z4⟩
          · rintro ⟨u, p, z1, z2, z3⟩
            obtain ⟨i, y1, y2, rfl⟩ := (hS u).mp z1
            exact Or.inr ⟨i, p, y1, y2, z2, z3⟩
        have c2 : n2 ≤ n1 + 126 := rlo_card t2 (Lv_card hs ha.1 (show j + 1 ≤ 4 by omega)) (fun t ht => (S2 t).mp ((t2.2.1 t).mp ht))
        refine a_sub [1, 2, 3, 4, 5, 6, 0] rfl ?_
        show WA X (mS I2 A2 J) plM 0 0 46 [(0, .ref 0), (1, .int (nI s)), (2, .int (nI a)), (3, .int (nI a)), (4, .int (nI fr)), (5, .int (nI k)), (6, .int (nI n1))] []
        have le2 : I2 0 58 ≤ nI n1 ↔ n2 ≤ n1 := by rw [t1.1]; exact nI_leI (by omega) (by omega)
        have fI2 : ∀ k, k ≠ 58 → I2 0 k = I 0 k := fun k hk => (g1 k hk).trans (fI k hk)
        have fA2 : ∀ q, q ≠ 57 → A2 q = A q := fun q hq => (g2 q hq).trans (fA q hq)
        refine r_12_standResults_46 F (fun c => ?_) (fun c => ?_)
        · have h21 : n2 = n1 := by have := le2.mp c; omega
          rw [nI_1]
          refine ih (k + 1) I2 A2 n2 fr j r2 (by omega) (by omega) fI2 fA2 t1 (by omega) (by omega) (fun t => ?_) (Or.inr (fun t ht => by obtain ⟨i, z1, z2, -⟩ := (S2 t).mpr ht; omega))
          rw [hS t, h21]
          constructor
          · rintro ⟨i, z1, z2, z3⟩; exact ⟨i, z1, z2, by rw [t3 i z2]; exact z3⟩
          · rintro ⟨i, z1, z2, z3⟩; exact ⟨i, z1, z2, by rw [← t3 i z2]; exact z3⟩
        · have h21 : n1 < n2 := Nat.lt_of_not_le (fun z => c (le2.mpr z))
          rw [nI_1]
          have hjk : j = k := by
            rcases hd with z | z
            · exact z
            · exact absurd ((S2 (r2 n1)).mp ⟨n1, Nat.le_refl _, h21, rfl⟩) (z _)
          exact ih (k + 1) I2 A2 n2 n1 (j + 1) r2 (by omega) (by omega) fI2 fA2 t1 (by omega) h21 (fun t => (S2 t).symm) (Or.inl (by omega))
    exact loop 4 0 _ _ 1 0 0 (fun _ => s) rfl (Nat.le_refl _) fI0 fA0 r0 (by omega) (by omega) (fun t => ⟨fun z => ⟨0, by omega, by omega, (show t = s from z).symm⟩, fun ⟨i, _, _, z⟩ => z.symm⟩) (Or.inl rfl)
