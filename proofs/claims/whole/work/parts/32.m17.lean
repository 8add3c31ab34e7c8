/-- digits as a number, the last the heaviest -/
def kd (B : Nat → Nat) (o : Nat) : Nat → Nat
  | 0 => 0
  | n + 1 => kd B o n + B (o + n) * 16 ^ n
theorem kd_lt {B : Nat → Nat} {o : Nat} : ∀ n, (∀ k, k < n → B (o + k) ≤ 15) → kd B o n < 16 ^ n
  | 0, _ => by simp [kd]
  | n + 1, h => by
    have h1 := kd_lt n (fun k hk => h k (by omega))
    have h2 : B (o + n) * 16 ^ n ≤ 15 * 16 ^ n := Nat.mul_le_mul_right _ (h n (by omega))
    have h3 : (16 : Nat) ^ (n + 1) = 16 * 16 ^ n := by rw [Nat.pow_succ, Nat.mul_comm]
    simp only [kd]; omega
theorem kd_c {T L : Nat → Nat} {o n : Nat} (hT : ∀ k, k < n → T (o + k) ≤ 15) (h : T (o + n) < L (o + n)) : kd T o (n + 1) < kd L o (n + 1) := by
  have h1 := kd_lt n hT
  have h2 : (T (o + n) + 1) * 16 ^ n ≤ L (o + n) * 16 ^ n := Nat.mul_le_mul_right _ h
  rw [Nat.add_mul, Nat.one_mul] at h2
  simp only [kd]; omega
theorem kd_inj {T L : Nat → Nat} {o : Nat} : ∀ n, (∀ k, k < n → T (o + k) ≤ 15) → (∀ k, k < n → L (o + k) ≤ 15) → kd T o n = kd L o n → ∀ k, k < n → T (o + k) = L (o + k)
  | 0, _, _, _ => fun k hk => by omega
  | n + 1, hT, hL, h => by
    have e : T (o + n) = L (o + n) := by
      rcases Nat.lt_trichotomy (T (o + n)) (L (o + n)) with c | c | c
      · have := kd_c (fun k hk => hT k (by omega)) c; omega
      · exact c
      · have := kd_c (fun k hk => hL k (by omega)) c; omega
    simp only [kd] at h; rw [e] at h
    intro k hk
    rcases Nat.lt_or_ge k n with c | c
    · exact kd_inj n (fun k hk => hT k (by omega)) (fun k hk => hL k (by omega)) (by omega) k c
    · obtain rfl : k = n := by omega
      exact e
theorem kd_cg {T L : Nat → Nat} {o : Nat} : ∀ n, (∀ k, k < n → T (o + k) = L (o + k)) → kd T o n = kd L o n
  | 0, _ => rfl
  | n + 1, h => by simp only [kd]; rw [kd_cg n (fun k hk => h k (by omega)), h n (by omega)]
/-- a board as a number: the mover's points first, from the bar down -/
def key (m : Nat) (B : Nat → Nat) : Nat := kd B (26 * m) 26 * 16 ^ 26 + kd B (26 * (1 - m)) 26
def dgB (B : Nat → Nat) : Prop := ∀ k, k < 52 → B k ≤ 15
theorem key_inj {T L : Nat → Nat} {m : Nat} (hm : m ≤ 1) (hT : dgB T) (hL : dgB L) (h : key m T = key m L) : ∀ k, k < 52 → T k = L k := by
  have t1 := kd_lt (B := T) (o := 26 * (1 - m)) 26 (fun k hk => hT _ (by omega))
  have t2 := kd_lt (B := L) (o := 26 * (1 - m)) 26 (fun k hk => hL _ (by omega))
  unfold key at h
  have e : (16 : Nat) ^ 26 = 20282409603651670423947251286016 := by decide +kernel
  rw [e] at h t1 t2
  have a1 : kd T (26 * m) 26 = kd L (26 * m) 26 := by omega
  have a2 : kd T (26 * (1 - m)) 26 = kd L (26 * (1 - m)) 26 := by omega
  have b1 := kd_inj 26 (fun k hk => hT _ (by omega)) (fun k hk => hL _ (by omega)) a1
  have b2 := kd_inj 26 (fun k hk => hT _ (by omega)) (fun k hk => hL _ (by omega)) a2
  intro k hk
  rcases Nat.lt_or_ge k 26 with c | c <;> (rcases (show m = 0 ∨ m = 1 by omega) with rfl | rfl)
  · have := b1 k c; simpa using this
  · have := b2 k c; simpa using this
  · have := b2 (k - 26) (by omega); rw [show 26 * (1 - 0) + (k - 26) = k by omega] at this; exact this
  · have := b1 (k - 26) (by omega); rw [show 26 * 1 + (k - 26) = k by omega] at this; exact this
theorem key_cg {T L : Nat → Nat} {m : Nat} (hm : m ≤ 1) (h : ∀ k, k < 52 → T k = L k) : key m T = key m L := by
  unfold key; rw [kd_cg (L := L) 26 (fun k hk => h _ (by omega)), kd_cg (L := L) (o := 26 * (1 - m)) 26 (fun k hk => h _ (by omega))]
def agS (x y : Nat → Int32) : Nat → Int32
  | 0 => 0
  | n + 1 => if x n - y n = 0 then agS x y n else x n - y n
theorem ag_kd {T L : Nat → Nat} {o : Nat} {x y : Nat → Int32} : ∀ n, (∀ k, k < n → T (o + k) ≤ 15 ∧ x k = nI (T (o + k))) → (∀ k, k < n → L (o + k) ≤ 15 ∧ y k = nI (L (o + k))) → (agS x y n = 0 ↔ kd T o n = kd L o n) ∧ (agS x y n ≤ 0 ↔ kd T o n ≤ kd L o n)
  | 0, _, _ => ⟨⟨fun _ => rfl, fun _ => rfl⟩, ⟨fun _ => Nat.le_refl _, fun _ => (by decide : (0 : Int32) ≤ 0)⟩⟩
  | n + 1, hT, hL => by
    have ih := ag_kd (T := T) (L := L) (o := o) n (fun k hk => hT k (by omega)) (fun k hk => hL k (by omega))
    have t := hT n (by omega); have l := hL n (by omega)
    simp only [agS]; rw [t.2, l.2]
    rcases Nat.lt_trichotomy (T (o + n)) (L (o + n)) with c | c | c
    · have h1 := kd_c (fun k hk => (hT k (by omega)).1) c
      have h2 := pk_sneg (a := T (o + n)) (b := L (o + n)) (by omega) c
      have h3 : ¬ nI (T (o + n)) - nI (L (o + n)) = 0 := fun e => by rw [e] at h2; exact absurd h2 (by decide)
      rw [if_neg h3]
      exact ⟨⟨fun e => absurd e h3, fun e => by omega⟩, ⟨fun _ => by omega, fun _ => Int32.le_of_lt h2⟩⟩
    · rw [c, pk_sub (Nat.le_refl _), Nat.sub_self, if_pos (by rfl)]
      simp only [kd]; rw [c, ih.1, ih.2]
      constructor <;> constructor <;> intro _ <;> omega
    · have h1 := kd_c (fun k hk => (hL k (by omega)).1) c
      rw [pk_sub (Nat.le_of_lt c)]
      have h3 : ¬ nI (T (o + n) - L (o + n)) = 0 := fun e => by have := (nI_z (by omega)).mp e; omega
      rw [if_neg h3]
      exact ⟨⟨fun e => absurd e h3, fun e => by omega⟩, ⟨fun e => by have := (nI_le0 (by omega)).mp e; omega, fun e => by omega⟩⟩
theorem ag_in1 {r w p : Int32} (hr : 0 ≤ r ∧ r < 3200) (hw : 0 ≤ w ∧ w ≤ 1) (hp : 0 ≤ p ∧ p ≤ 25) : vp_in (52 * r + 26 * w + p) 166400 := in_i (N := 166400) rfl (by grind)
theorem ag_in2 {a w p : Int32} (hr : 0 ≤ a ∧ a ≤ 8) (hw : 0 ≤ w ∧ w ≤ 1) (hp : 0 ≤ p ∧ p ≤ 25) : vp_in (52 * a + 26 * w + p) 468 := in_i (N := 468) rfl (by grind)
theorem nI_m1 (n : Nat) : nI (n + 1) + (-1) = nI n := by rw [← nI_1 n]; grind
def agI (R L : Nat → Int32) (a r m : Int32) : Int32 :=
  if agS (fun p => R (((52 * r) + (26 * m)) + nI p).toNatClampNeg) (fun p => L (((52 * a) + (26 * m)) + nI p).toNatClampNeg) 26 = 0 then agS (fun p => R (((52 * r) + (26 * (1 - m))) + nI p).toNatClampNeg) (fun p => L (((52 * a) + (26 * (1 - m))) + nI p).toNatClampNeg) 26
  else agS (fun p => R (((52 * r) + (26 * m)) + nI p).toNatClampNeg) (fun p => L (((52 * a) + (26 * m)) + nI p).toNatClampNeg) 26
theorem ag_key {R L : Nat → Int32} {T B : Nat → Nat} {a r m : Nat} (hr : r < 3200) (ha : a ≤ 8) (hm : m ≤ 1) (hT : dgB T) (hB : dgB B) (rT : bdR R (52 * r) T) (rB : bdR L (52 * a) B) : (agI R L (nI a) (nI r) (nI m) = 0 ↔ key m T = key m B) ∧ (agI R L (nI a) (nI r) (nI m) ≤ 0 ↔ key m T ≤ key m B) := by
  have e1m : (1 : Int32) - nI m = nI (1 - m) := pk_sub (a := 1) hm
  have er : ∀ p w, 52 * nI r + 26 * nI w + nI p = nI (52 * r + (26 * w + p)) := fun p w => by rw [lit 52, lit 26, pk_mul, pk_mul, nI_add, nI_add, Nat.add_assoc]
  have ea : ∀ p w, 52 * nI a + 26 * nI w + nI p = nI (52 * a + (26 * w + p)) := fun p w => by rw [lit 52, lit 26, pk_mul, pk_mul, nI_add, nI_add, Nat.add_assoc]
  have side : ∀ w, w ≤ 1 → (agS (fun p => R (((52 * nI r) + (26 * nI w)) + nI p).toNatClampNeg) (fun p => L (((52 * nI a) + (26 * nI w)) + nI p).toNatClampNeg) 26 = 0 ↔ kd T (26 * w) 26 = kd B (26 * w) 26) ∧ (agS (fun p => R (((52 * nI r) + (26 * nI w)) + nI p).toNatClampNeg) (fun p => L (((52 * nI a) + (26 * nI w)) + nI p).toNatClampNeg) 26 ≤ 0 ↔ kd T (26 * w) 26 ≤ kd B (26 * w) 26) := by
    intro w hw
    refine ag_kd 26 (fun k hk => ⟨hT _ (by omega), ?_⟩) (fun k hk => ⟨hB _ (by omega), ?_⟩)
    · show R _ = _; rw [er, nI_clamp (by omega)]; exact (rT _ (by omega)).1
    · show L _ = _; rw [ea, nI_clamp (by omega)]; exact (rB _ (by omega)).1
  have s1 := side m hm
  have s2 := side (1 - m) (by omega)
  have t1 := kd_lt (B := T) (o := 26 * (1 - m)) 26 (fun k hk => hT _ (by omega))
  have t2 := kd_lt (B := B) (o := 26 * (1 - m)) 26 (fun k hk => hB _ (by omega))
  have e : (16 : Nat) ^ 26 = 20282409603651670423947251286016 := by decide +kernel
  unfold agI key; rw [e1m]
  rw [e] at t1 t2 ⊢
  by_cases c : kd T (26 * m) 26 = kd B (26 * m) 26
  · rw [if_pos (s1.1.mpr c), s2.1, s2.2, c]
    constructor <;> constructor <;> intro _ <;> omega
  · rw [if_neg (fun z => c (s1.1.mp z)), s1.1, s1.2]
    constructor <;> constructor <;> intro _ <;> omega

theorem r_12_against_0 {X : Ctx} (F : Fx X cX12_against RX12 7 1 0 0) {I A : Nat → Nat → Int32} {J : Nat → Nat → Int64} {x1 x2 : Int32}
    (e_1 : WA X (mS I A J) plM 0 0 2 [(0, .ref 0), (1, .int x1), (2, .int x2), (3, .int 0)] []) :
    WA X (mS I A J) plM 0 0 0 [(0, .ref 0), (1, .int x1), (2, .int x2)] [] := by
  refine a_iconst (v := 0) F dX12_against_0 (by decide) ?_
  refine a_istore_n F dX12_against_1 rfl (by decide) rfl ?_
  refine a_sub [1, 2, 3, 0] rfl ?_
  exact e_1

theorem r_12_against_2 {X : Ctx} (F : Fx X cX12_against RX12 7 1 0 0) {Φ : Option Value → HS → List Nat → Prop} (E : Ex X (some .int) 0 0 Φ) {I A : Nat → Nat → Int32} {J : Nat → Nat → Int64} {x1 x2 x3 : Int32}
    (e_1 : (2 ≤ x3) → Φ (some (.int 0)) (mS I A J) plM)
    (e_2 : (¬ (2 ≤ x3)) → (¬ x3 = 0) → WA X (mS I A J) plM 0 0 33 [(0, .ref 0), (1, .int x1), (2, .int x2), (3, .int x3), (4, .int (26 * (1 - (I 0 8)))), (5, .int 25)] [])
    (e_3 : (¬ (2 ≤ x3)) → (x3 = 0) → WA X (mS I A J) plM 0 0 33 [(0, .ref 0), (1, .int x1), (2, .int x2), (3, .int x3), (4, .int (26 * (I 0 8))), (5, .int 25)] []) :
    WA X (mS I A J) plM 0 0 2 [(0, .ref 0), (1, .int x1), (2, .int x2), (3, .int x3)] [] := by
  refine a_iload_n F 3 dX12_against_2 rfl rfl ?_
  refine a_iconst (v := 2) F dX12_against_3 (by decide) ?_
  refine a_icmp_ge (tgt := 91) F dX12_against_4 (by decide) (fun (c_1 : 2 ≤ x3) => ?_) (fun (c_1 : ¬ (2 ≤ x3)) => ?_)
  · refine a_iconst (v := 0) F dX12_against_91 (by decide) ?_
    exact a_iret F E dX12_against_92 (Nat.le_refl 0) (Nat.le_refl 0) (e_1 c_1)
  · refine a_bipush (v := 26) F dX12_against_7 (by decide) ?_
    refine a_iload_n F 3 dX12_against_9 rfl rfl ?_
    refine a_if_ne (tgt := 20) F dX12_against_10 (by decide) (fun (c_2 : ¬ x3 = 0) => ?_) (fun (c_2 : x3 = 0) => ?_)
    · refine a_iconst (v := 1) F dX12_against_20 (by decide) ?_
      refine a_aload_n F 0 dX12_against_21 rfl rfl ?_
      refine a_geti F fl_12_176 rfl (by decide) rfl dX12_against_22 ?_
      refine a_isub F dX12_against_25 ?_
      refine a_imul F dX12_against_26 ?_
      refine a_istore F dX12_against_27 (by decide) rfl ?_
      refine a_bipush (v := 25) F dX12_against_29 (by decide) ?_
      refine a_istore F dX12_against_31 (by decide) rfl ?_
      refine a_sub [2, 3, 4, 5, 1, 0] rfl ?_
      exact e_2 c_1 c_2
    · refine a_aload_n F 0 dX12_against_13 rfl rfl ?_
      refine a_geti F fl_12_176 rfl (by decide) rfl dX12_against_14 ?_
      refine a_goto (tgt := 26) F dX12_against_17 (by decide) ?_
      refine a_imul F dX12_against_26 ?_
      refine a_istore F dX12_against_27 (by decide) rfl ?_
      refine a_bipush (v := 25) F dX12_against_29 (by decide) ?_
      refine a_istore F dX12_against_31 (by decide) rfl ?_
      refine a_sub [2, 3, 4, 5, 1, 0] rfl ?_
      exact e_3 c_1 c_2

theorem r_12_against_33 {X : Ctx} (F : Fx X cX12_against RX12 7 1 0 0) {Φ : Option Value → HS → List Nat → Prop} (E : Ex X (some .int) 0 0 Φ) {I A : Nat → Nat → Int32} {J : Nat → Nat → Int64} {x1 x2 x3 x4 x5 : Int32}
    (e_1 : (x5 < 0) → WA X (mS I A J) plM 0 0 2 [(0, .ref 0), (1, .int x1), (2, .int x2), (3, .int (x3 + 1))] [])
    (o_2 : (¬ (x5 < 0)) → vp_in (((52 * x2) + x4) + x5) 166400)
    (o_3 : (¬ (x5 < 0)) → vp_in (((52 * x1) + x4) + x5) 468)
    (e_4 : (¬ (x5 < 0)) → (((A 13 (((52 * x2) + x4) + x5).toNatClampNeg) - (A 3 (((52 * x1) + x4) + x5).toNatClampNeg)) = 0) → WA X (mS I A J) plM 0 0 33 [(0, .ref 0), (1, .int x1), (2, .int x2), (3, .int x3), (4, .int x4), (5, .int (x5 + (-1)))] [])
    (e_5 : (¬ (x5 < 0)) → (¬ (((A 13 (((52 * x2) + x4) + x5).toNatClampNeg) - (A 3 (((52 * x1) + x4) + x5).toNatClampNeg)) = 0)) → Φ (some (.int ((A 13 (((52 * x2) + x4) + x5).toNatClampNeg) - (A 3 (((52 * x1) + x4) + x5).toNatClampNeg)))) (mS I A J) plM) :
    WA X (mS I A J) plM 0 0 33 [(0, .ref 0), (1, .int x1), (2, .int x2), (3, .int x3), (4, .int x4), (5, .int x5)] [] := by
  refine a_iload F 5 dX12_against_33 rfl ?_
  refine a_if_lt (tgt := 85) F dX12_against_35 (by decide) (fun (c_3 : x5 < 0) => ?_) (fun (c_3 : ¬ (x5 < 0)) => ?_)
  · refine a_iinc (v := x3 + 1) F 3 dX12_against_85 rfl rfl (by decide) rfl ?_
    refine a_goto (tgt := 2) F dX12_against_88 (by decide) ?_
    refine a_sub [1, 2, 3, 0] rfl ?_
    exact e_1 c_3
  · refine a_aload_n F 0 dX12_against_38 rfl rfl ?_
    refine a_getr (b := 13) F fl_12_33 rfl (by decide) rfl rfl dX12_against_39 ?_
    refine a_bipush (v := 52) F dX12_against_42 (by decide) ?_
    refine a_iload_n F 2 dX12_against_44 rfl rfl ?_
    refine a_imul F dX12_against_45 ?_
    refine a_iload F 4 dX12_against_46 rfl ?_
    refine a_iadd F dX12_against_48 ?_
    refine a_iload F 5 dX12_against_49 rfl ?_
    refine a_iadd F dX12_against_51 ?_
    refine a_iald F (by decide) rfl (o_2 c_3) dX12_against_52 ?_
    refine a_aload_n F 0 dX12_against_53 rfl rfl ?_
    refine a_getr (b := 3) F fl_12_17 rfl (by decide) rfl rfl dX12_against_54 ?_
    refine a_bipush (v := 52) F dX12_against_57 (by decide) ?_
    refine a_iload_n F 1 dX12_against_59 rfl rfl ?_
    refine a_imul F dX12_against_60 ?_
    refine a_iload F 4 dX12_against_61 rfl ?_
    refine a_iadd F dX12_against_63 ?_
    refine a_iload F 5 dX12_against_64 rfl ?_
    refine a_iadd F dX12_against_66 ?_
    refine a_iald F (by decide) rfl (o_3 c_3) dX12_against_67 ?_
    refine a_isub F dX12_against_68 ?_
    refine a_istore F dX12_against_69 (by decide) rfl ?_
    refine a_iload F 0 dX12_against_71 rfl ?_
    refine a_if_eq (tgt := 79) F dX12_against_73 (by decide) (fun (c_4 : ((A 13 (((52 * x2) + x4) + x5).toNatClampNeg) - (A 3 (((52 * x1) + x4) + x5).toNatClampNeg)) = 0) => ?_) (fun (c_4 : ¬ (((A 13 (((52 * x2) + x4) + x5).toNatClampNeg) - (A 3 (((52 * x1) + x4) + x5).toNatClampNeg)) = 0)) => ?_)
    · refine a_iinc (v := x5 + (-1)) F 6 dX12_against_79 rfl rfl (by decide) rfl ?_
      refine a_goto (tgt := 33) F dX12_against_82 (by decide) ?_
      refine a_sub [2, 3, 4, 5, 6, 0] rfl ?_
      exact e_4 c_3 c_4
    · refine a_iload F 0 dX12_against_76 rfl ?_
      exact a_iret F E dX12_against_78 (Nat.le_refl 0) (Nat.le_refl 0) (e_5 c_3 c_4)

set_option maxRecDepth 10000 in
theorem c_against (l : Launch) (I A : Nat → Nat → Int32) (J : Nat → Nat → Int64) (a r : Int32) (ha : 0 ≤ a ∧ a ≤ 8) (hr : 0 ≤ r ∧ r < 3200) (h8 : I 0 8 = 0 ∨ I 0 8 = 1) : Con l 1 yX12_against cX12_against 7 (some .int) [.ref 0, .int a, .int r] (mS I A J) plM 0 0 (PM (some (.int (agI (A 13) (A 3) a r (I 0 8)))) I A J) := by
  refine Con.of (by decide) (Nat.le_of_ble_eq_true rfl) (fun X hX9 hn9 F E => ?_)
  have inner : ∀ (x3 w : Int32), w = I 0 8 ∨ w = 1 - I 0 8 → (agS (fun p => A 13 (((52 * r) + (26 * w)) + nI p).toNatClampNeg) (fun p => A 3 (((52 * a) + (26 * w)) + nI p).toNatClampNeg) 26 = 0 → WA X (mS I A J) plM 0 0 2 [(0, .ref 0), (1, .int a), (2, .int r), (3, .int (x3 + 1))] []) →
      (¬ agS (fun p => A 13 (((52 * r) + (26 * w)) + nI p).toNatClampNeg) (fun p => A 3 (((52 * a) + (26 * w)) + nI p).toNatClampNeg) 26 = 0 → agI (A 13) (A 3) a r (I 0 8) = agS (fun p => A 13 (((52 * r) + (26 * w)) + nI p).toNatClampNeg) (fun p => A 3 (((52 * a) + (26 * w)) + nI p).toNatClampNeg) 26) →
      ∀ n, n ≤ 26 → agS (fun p => A 13 (((52 * r) + (26 * w)) + nI p).toNatClampNeg) (fun p => A 3 (((52 * a) + (26 * w)) + nI p).toNatClampNeg) n = agS (fun p => A 13 (((52 * r) + (26 * w)) + nI p).toNatClampNeg) (fun p => A 3 (((52 * a) + (26 * w)) + nI p).toNatClampNeg) 26 → WA X (mS I A J) plM 0 0 33 [(0, .ref 0), (1, .int a), (2, .int r), (3, .int x3), (4, .int (26 * w)), (5, .int (nI n + (-1)))] [] := by
    intro x3 w hw K K2 n
    induction n with
    | zero =>
      intro _ he
      have h0 : nI 0 + (-1) < 0 := by decide
      exact r_12_against_33 F E (fun _ => K he.symm) (fun h => absurd h0 h) (fun h => absurd h0 h) (fun h => absurd h0 h) (fun h => absurd h0 h)
    | succ n ih =>
      intro hn he
      have e1 : nI (n + 1) + (-1) = nI n := nI_m1 n
      rw [e1]
      have h0 : ¬ nI n < 0 := fun z => by have := (nI_ltn 0 (by omega) (by omega)).mp z; omega
      have g1 : 0 ≤ nI n := (nI_gen 0 (by omega) (by omega)).mpr (by omega)
      have g2 : nI n ≤ 25 := (nI_len 25 (by omega) (by omega)).mpr (by omega)
      have gw : 0 ≤ w ∧ w ≤ 1 := by rcases hw with rfl | rfl <;> rcases h8 with h | h <;> rw [h] <;> decide
      refine r_12_against_33 F E (fun h => absurd h h0) (fun _ => ag_in1 hr gw ⟨g1, g2⟩) (fun _ => ag_in2 ha gw ⟨g1, g2⟩) (fun _ c => ih (by omega) ?_) (fun _ c => ?_)
      · rw [← he]; simp only [agS]; rw [if_pos c]
      · have e2 : agS (fun p => A 13 (((52 * r) + (26 * w)) + nI p).toNatClampNeg) (fun p => A 3 (((52 * a) + (26 * w)) + nI p).toNatClampNeg) 26 = A 13 (52 * r + 26 * w + nI n).toNatClampNeg - A 3 (52 * a + 26 * w + nI n).toNatClampNeg := by rw [← he]; simp only [agS]; rw [if_neg c]
        refine ⟨?_, rfl, rfl⟩
        rw [K2 (by rw [e2]; exact c), e2]
  refine r_12_against_0 F ?_
  refine r_12_against_2 F E (fun h => absurd h (by decide)) (fun _ h => absurd rfl h) (fun _ _ => ?_)
  refine inner 0 (I 0 8) (Or.inl rfl) (fun h1 => ?_) (fun h1 => by unfold agI; rw [if_neg h1]) 26 (Nat.le_refl _) rfl
  refine r_12_against_2 F E (fun h => absurd h (by decide)) (fun _ _ => ?_) (fun _ h => absurd h (by decide))
  refine inner (0 + 1) (1 - I 0 8) (Or.inr rfl) (fun h2 => ?_) (fun h2 => by unfold agI; rw [if_pos h1]) 26 (Nat.le_refl _) rfl
  refine r_12_against_2 F E (fun _ => ⟨?_, rfl, rfl⟩) (fun h => absurd (by decide) h) (fun h => absurd (by decide) h)
  unfold agI; rw [if_pos h1, h2]
