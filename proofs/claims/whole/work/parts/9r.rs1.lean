/-! the results: their key, their order -/
theorem lN_ti {v : Nat} (h : v < 2 ^ 63) : (lN v).toInt = (v : Int) := Int64.toInt_ofNat_of_lt h
theorem lN_leq {a b : Nat} (ha : a < 2 ^ 63) (hb : b < 2 ^ 63) : lN a ≤ lN b ↔ a ≤ b := by rw [Int64.le_iff_toInt_le, lN_ti ha, lN_ti hb]; omega
theorem lN_inj {a b : Nat} (ha : a < 2 ^ 63) (hb : b < 2 ^ 63) : lN a = lN b ↔ a = b := ⟨fun h => by have := congrArg Int64.toInt h; rw [lN_ti ha, lN_ti hb] at this; omega, fun h => by rw [h]⟩
theorem sh_one {a : Nat} (h : a < 2 ^ 31) : ((nI a).toUInt32 >>> ((1 : Int32).toUInt32 &&& Int32.toUInt32 31)).toInt32 = nI (a / 2) := by
  rw [show ((1 : Int32).toUInt32 &&& Int32.toUInt32 31) = UInt32.ofNat 1 by decide]
  apply Int32.toBitVec_inj.mp
  apply BitVec.eq_of_toNat_eq
  show ((nI a).toUInt32 >>> UInt32.ofNat 1).toNat = (BitVec.ofNat 32 _).toNat
  have h1 : (UInt32.ofNat 1).toNat = 1 := by decide
  have h2 : (nI a).toUInt32.toNat = a := by
    show (BitVec.ofNat 32 a).toNat = a
    rw [BitVec.toNat_ofNat, Nat.mod_eq_of_lt (by omega)]
  rw [UInt32.toNat_shiftRight, h1, h2, show 1 % 32 = 1 from rfl, Nat.shiftRight_eq_div_pow, BitVec.toNat_ofNat, Nat.mod_eq_of_lt (by omega)]
def hvF (m : Nat) (B : Nat → Nat) (k : Nat) : Nat := kd B (26 * (if k < 2 then m else 1 - m) + (if k % 2 = 0 then 13 else 0)) 13
theorem kd_add (B : Nat → Nat) (o a : Nat) : ∀ b, kd B o (a + b) = kd B o a + kd B (o + a) b * 16 ^ a
  | 0 => by simp [kd]
  | b + 1 => by
    show kd B o (a + b) + B (o + (a + b)) * 16 ^ (a + b) = kd B o a + (kd B (o + a) b + B (o + a + b) * 16 ^ b) * 16 ^ a
    rw [kd_add B o a b, Nat.add_mul, Nat.pow_add, Nat.add_assoc o a b, Nat.mul_assoc, Nat.mul_comm (16 ^ b), Nat.add_assoc]
theorem key_hv (m : Nat) (B : Nat → Nat) : key m B = ((hvF m B 0 * 16 ^ 13 + hvF m B 1) * 16 ^ 13 + hvF m B 2) * 16 ^ 13 + hvF m B 3 := by
  unfold key
  have e := fun o => kd_add B o 13 13
  rw [show (26 : Nat) = 13 + 13 from rfl, e, e]
  show (kd B ((13 + 13) * m) 13 + kd B ((13 + 13) * m + 13) 13 * 16 ^ 13) * 16 ^ (13 + 13) + (kd B ((13 + 13) * (1 - m)) 13 + kd B ((13 + 13) * (1 - m) + 13) 13 * 16 ^ 13) = ((kd B (26 * m + 13) 13 * 16 ^ 13 + kd B (26 * m) 13) * 16 ^ 13 + kd B (26 * (1 - m) + 13) 13) * 16 ^ 13 + kd B (26 * (1 - m)) 13
  rw [show 13 + 13 = 26 from rfl]
  generalize kd B (26 * m) 13 = x1
  generalize kd B (26 * m + 13) 13 = x0
  generalize kd B (26 * (1 - m)) 13 = x3
  generalize kd B (26 * (1 - m) + 13) 13 = x2
  simp only [Nat.reducePow]; omega
theorem hv_lt {m k : Nat} {B : Nat → Nat} (hm : m ≤ 1) (h : dgB B) : hvF m B k < 16 ^ 13 := by
  unfold hvF
  refine kd_lt 13 (fun j hj => h _ ?_)
  split <;> split <;> omega
theorem hv_63 {m k : Nat} {B : Nat → Nat} (hm : m ≤ 1) (h : dgB B) : hvF m B k < 2 ^ 63 := Nat.lt_trans (hv_lt hm h) (by decide)
theorem key_c {m k : Nat} {B T : Nat → Nat} (hm : m ≤ 1) (hB : dgB B) (hT : dgB T) (hk : k < 4) (h : ∀ j, j < k → hvF m T j = hvF m B j) (hl : hvF m T k < hvF m B k) : key m T < key m B := by
  rw [key_hv, key_hv]
  have b := fun k => hv_lt (k := k) hm hB
  have t := fun k => hv_lt (k := k) hm hT
  have b0 := b 0
  have b1 := b 1
  have b2 := b 2
  have b3 := b 3
  have t0 := t 0
  have t1 := t 1
  have t2 := t 2
  have t3 := t 3
  clear b t
  rcases (show k = 0 ∨ k = 1 ∨ k = 2 ∨ k = 3 by omega) with rfl | rfl | rfl | rfl
  · simp only [Nat.reducePow] at *; omega
  · have h0 := h 0 (by omega)
    simp only [Nat.reducePow] at *; omega
  · have h0 := h 0 (by omega)
    have h1 := h 1 (by omega)
    simp only [Nat.reducePow] at *; omega
  · have h0 := h 0 (by omega)
    have h1 := h 1 (by omega)
    have h2 := h 2 (by omega)
    simp only [Nat.reducePow] at *; omega
theorem key_e {m : Nat} {B T : Nat → Nat} (h : ∀ j, j < 4 → hvF m B j = hvF m T j) : key m B = key m T := by
  rw [key_hv, key_hv, h 0 (by omega), h 1 (by omega), h 2 (by omega), h 3 (by omega)]
/-- below 0 if x comes ahead -/
def cmK (x y : Nat) : Int32 := if y < x then -1 else if x < y then 1 else 0
def keR (J : Nat → Int64) (m : Nat) (B : Nat → Nat) : Prop := ∀ k, k < 4 → J k = lN (hvF m B k)
def tbR (R : Nat → Int32) (C : Nat → Int64) (m cnt : Nat) (o : Nat → Nat) (T : Nat → Nat → Nat) (W : Nat → Nat) : Prop := (∀ i, i < cnt → R i = nI (o i) ∧ o i < cnt) ∧ (∀ i j, i < cnt → j < cnt → o i = o j → i = j) ∧ (∀ i, i < cnt → dgB (T i) ∧ keR (fun k => C (5 * o i + k)) m (T i)) ∧ (∀ i, i < cnt → W i < 2 ^ 40 ∧ C (5 * o i + 4) = lN (W i))
def mkQ (P O : Nat → Nat → Option Nat) (I A : Nat → Nat → Int32) (J : Nat → Nat → Int64) (pl : List Nat) (m : Nat) (B : Nat → Nat) : Option Value → HS → List Nat → Prop := fun r σ' pl' => r = none ∧ pl = pl' ∧ ∃ J', σ' = mC P O I A J' ∧ (∀ q, q ≠ 111 → J' q = J q) ∧ keR (J' 111) m B

theorem r_6_makeKey_0 {X : Ctx} (F : Fx X cX6_makeKey RX6 1 2 0 0) {P O : Nat → Nat → Option Nat} (hP : laP P) {I A : Nat → Nat → Int32} {J : Nat → Nat → Int64} {pl : List Nat} (hB : inB pl) {qc qo : Nat} (hk_qc : kC qc = 14) (hp_qc : qc ∈ pl) (hc9 : P 110 3 = some qc) (hk_qo : kC qo = 13) (hp_qo : qo ∈ pl) (ho9 : P 110 4 = some qo)
    (e_1 : WA X (mC P O I A J) pl 0 0 15 [(0, .ref 110)] [.int 25, .int (I 110 6), .ref 130, .int 0, .ref 111]) :
    WA X (mC P O I A J) pl 0 0 0 [(0, .ref 110)] [] := by
  refine a_aload_n F 0 dX6_makeKey_0 rfl rfl ?_
  refine a_getr (b := 111) F fl_6_11 rfl (hB _ (by decide)) rfl ((hP 110 1 (by decide)).trans rfl) dX6_makeKey_1 ?_
  refine a_iconst (v := 0) F dX6_makeKey_4 (by decide) ?_
  refine a_aload_n F 0 dX6_makeKey_5 rfl rfl ?_
  refine a_getr (b := 130) F fl_6_26 rfl (hB _ (by decide)) rfl ((hP 110 0 (by decide)).trans rfl) dX6_makeKey_6 ?_
  refine a_aload_n F 0 dX6_makeKey_9 rfl rfl ?_
  refine a_geti F fl_6_42 rfl (hB _ (by decide)) rfl dX6_makeKey_10 ?_
  refine a_bipush (v := 25) F dX6_makeKey_13 (by decide) ?_
  exact e_1

theorem r_6_makeKey_18 {X : Ctx} (F : Fx X cX6_makeKey RX6 1 2 0 0) {P O : Nat → Nat → Option Nat} (hP : laP P) {I A : Nat → Nat → Int32} {J : Nat → Nat → Int64} {pl : List Nat} (hB : inB pl) {qc qo : Nat} (hk_qc : kC qc = 14) (hp_qc : qc ∈ pl) (hc9 : P 110 3 = some qc) (hk_qo : kC qo = 13) (hp_qo : qo ∈ pl) (ho9 : P 110 4 = some qo) {y9 : Int64}
    (o_1 : vp_in 0 4)
    (e_2 : WA X (mC P O I A (up1 J 111 (vp_updL (J 111) 0 y9))) pl 0 0 34 [(0, .ref 110)] [.int 12, .int (I 110 6), .ref 130, .int 1, .ref 111]) :
    WA X (mC P O I A J) pl 0 0 18 [(0, .ref 110)] [.long y9, .int 0, .ref 111] := by
  refine a_last F (hB _ (by decide)) rfl (o_1) dX6_makeKey_18 ?_
  refine a_aload_n F 0 dX6_makeKey_19 rfl rfl ?_
  refine a_getr (b := 111) F fl_6_11 rfl (hB _ (by decide)) rfl ((hP 110 1 (by decide)).trans rfl) dX6_makeKey_20 ?_
  refine a_iconst (v := 1) F dX6_makeKey_23 (by decide) ?_
  refine a_aload_n F 0 dX6_makeKey_24 rfl rfl ?_
  refine a_getr (b := 130) F fl_6_26 rfl (hB _ (by decide)) rfl ((hP 110 0 (by decide)).trans rfl) dX6_makeKey_25 ?_
  refine a_aload_n F 0 dX6_makeKey_28 rfl rfl ?_
  refine a_geti F fl_6_42 rfl (hB _ (by decide)) rfl dX6_makeKey_29 ?_
  refine a_bipush (v := 12) F dX6_makeKey_32 (by decide) ?_
  exact e_2

theorem r_6_makeKey_37 {X : Ctx} (F : Fx X cX6_makeKey RX6 1 2 0 0) {P O : Nat → Nat → Option Nat} (hP : laP P) {I A : Nat → Nat → Int32} {J : Nat → Nat → Int64} {pl : List Nat} (hB : inB pl) {qc qo : Nat} (hk_qc : kC qc = 14) (hp_qc : qc ∈ pl) (hc9 : P 110 3 = some qc) (hk_qo : kC qo = 13) (hp_qo : qo ∈ pl) (ho9 : P 110 4 = some qo) {y9 : Int64}
    (o_1 : vp_in 1 4)
    (e_2 : WA X (mC P O I A (up1 J 111 (vp_updL (J 111) 1 y9))) pl 0 0 55 [(0, .ref 110)] [.int 25, .int (1 - (I 110 6)), .ref 130, .int 2, .ref 111]) :
    WA X (mC P O I A J) pl 0 0 37 [(0, .ref 110)] [.long y9, .int 1, .ref 111] := by
  refine a_last F (hB _ (by decide)) rfl (o_1) dX6_makeKey_37 ?_
  refine a_aload_n F 0 dX6_makeKey_38 rfl rfl ?_
  refine a_getr (b := 111) F fl_6_11 rfl (hB _ (by decide)) rfl ((hP 110 1 (by decide)).trans rfl) dX6_makeKey_39 ?_
  refine a_iconst (v := 2) F dX6_makeKey_42 (by decide) ?_
  refine a_aload_n F 0 dX6_makeKey_43 rfl rfl ?_
  refine a_getr (b := 130) F fl_6_26 rfl (hB _ (by decide)) rfl ((hP 110 0 (by decide)).trans rfl) dX6_makeKey_44 ?_
  refine a_iconst (v := 1) F dX6_makeKey_47 (by decide) ?_
  refine a_aload_n F 0 dX6_makeKey_48 rfl rfl ?_
  refine a_geti F fl_6_42 rfl (hB _ (by decide)) rfl dX6_makeKey_49 ?_
  refine a_isub F dX6_makeKey_52 ?_
  refine a_bipush (v := 25) F dX6_makeKey_53 (by decide) ?_
  exact e_2

theorem r_6_makeKey_58 {X : Ctx} (F : Fx X cX6_makeKey RX6 1 2 0 0) {P O : Nat → Nat → Option Nat} (hP : laP P) {I A : Nat → Nat → Int32} {J : Nat → Nat → Int64} {pl : List Nat} (hB : inB pl) {qc qo : Nat} (hk_qc : kC qc = 14) (hp_qc : qc ∈ pl) (hc9 : P 110 3 = some qc) (hk_qo : kC qo = 13) (hp_qo : qo ∈ pl) (ho9 : P 110 4 = some qo) {y9 : Int64}
    (o_1 : vp_in 2 4)
    (e_2 : WA X (mC P O I A (up1 J 111 (vp_updL (J 111) 2 y9))) pl 0 0 76 [(0, .ref 110)] [.int 12, .int (1 - (I 110 6)), .ref 130, .int 3, .ref 111]) :
    WA X (mC P O I A J) pl 0 0 58 [(0, .ref 110)] [.long y9, .int 2, .ref 111] := by
  refine a_last F (hB _ (by decide)) rfl (o_1) dX6_makeKey_58 ?_
  refine a_aload_n F 0 dX6_makeKey_59 rfl rfl ?_
  refine a_getr (b := 111) F fl_6_11 rfl (hB _ (by decide)) rfl ((hP 110 1 (by decide)).trans rfl) dX6_makeKey_60 ?_
  refine a_iconst (v := 3) F dX6_makeKey_63 (by decide) ?_
  refine a_aload_n F 0 dX6_makeKey_64 rfl rfl ?_
  refine a_getr (b := 130) F fl_6_26 rfl (hB _ (by decide)) rfl ((hP 110 0 (by decide)).trans rfl) dX6_makeKey_65 ?_
  refine a_iconst (v := 1) F dX6_makeKey_68 (by decide) ?_
  refine a_aload_n F 0 dX6_makeKey_69 rfl rfl ?_
  refine a_geti F fl_6_42 rfl (hB _ (by decide)) rfl dX6_makeKey_70 ?_
  refine a_isub F dX6_makeKey_73 ?_
  refine a_bipush (v := 12) F dX6_makeKey_74 (by decide) ?_
  exact e_2

theorem r_6_makeKey_79 {X : Ctx} (F : Fx X cX6_makeKey RX6 1 2 0 0) {Φ : Option Value → HS → List Nat → Prop} (E : Ex X none 0 0 Φ) {P O : Nat → Nat → Option Nat} (hP : laP P) {I A : Nat → Nat → Int32} {J : Nat → Nat → Int64} {pl : List Nat} (hB : inB pl) {qc qo : Nat} (hk_qc : kC qc = 14) (hp_qc : qc ∈ pl) (hc9 : P 110 3 = some qc) (hk_qo : kC qo = 13) (hp_qo : qo ∈ pl) (ho9 : P 110 4 = some qo) {y9 : Int64}
    (o_1 : vp_in 3 4)
    (e_2 : Φ none (mC P O I A (up1 J 111 (vp_updL (J 111) 3 y9))) pl) :
    WA X (mC P O I A J) pl 0 0 79 [(0, .ref 110)] [.long y9, .int 3, .ref 111] := by
  refine a_last F (hB _ (by decide)) rfl (o_1) dX6_makeKey_79 ?_
  exact a_vret F E dX6_makeKey_80 (Nat.le_refl 0) (Nat.le_refl 0) (e_2)

set_option maxRecDepth 10000 in
theorem c_6_makeKey (l : Launch) {P O : Nat → Nat → Option Nat} (hP : laP P) (I A : Nat → Nat → Int32) (J : Nat → Nat → Int64) {pl : List Nat} (hB : inB pl) {qc qo : Nat} (hk_qc : kC qc = 14) (hp_qc : qc ∈ pl) (hc9 : P 110 3 = some qc) (hk_qo : kC qo = 13) (hp_qo : qo ∈ pl) (ho9 : P 110 4 = some qo) (m : Nat) (B : Nat → Nat) (hm : m ≤ 1) (h6 : I 110 6 = nI m) (hb : bdR (A 131) 0 B) (hd : dgB B) : Con l 2 yX6_makeKey cX6_makeKey 1 none [.ref 110] (mC P O I A J) pl 0 0 (mkQ P O I A J pl m B) := by
  refine Con.of (by decide) (Nat.le_of_ble_eq_true rfl) (fun X hX9 hn9 F E => ?_)
  have e1 : (1 : Int32) - nI m = nI (1 - m) := pk_sub (a := 1) (b := m) hm
  refine r_6_makeKey_0 F hP hB hk_qc hp_qc hc9 hk_qo hp_qo ho9 ?_
  rw [h6]
  refine a_callV (b := 130) (As := [.int (nI m), .int (nI 25)]) (st := [.int 0, .ref 111]) (ci := 0) F (c_0_half (xl X) hP I A J hB 130 rfl (hB _ (by decide)) (hB _ (by decide)) m 25 B (by omega) (Or.inl rfl) hb hd) ml_6_122 im_yX0_half se_yX0_half (by decide) (by decide) rfl (hB _ (by decide)) rfl rfl dX6_makeKey_15 (Nat.le_of_ble_eq_true rfl) (Nat.le_refl 0) (Nat.le_refl 0) (hl_r (hB _ (by decide)) hl_nil) (hs_i (hs_r (hB _ (by decide)) hs_nil)) ?_
  rintro _ _ _ ⟨rfl, rfl, rfl⟩ _
  refine r_6_makeKey_18 F hP hB hk_qc hp_qc hc9 hk_qo hp_qo ho9 (vp_in_nI (n := 0) (by omega) (by omega)) ?_
  rw [h6]
  refine a_callV (b := 130) (As := [.int (nI m), .int (nI 12)]) (st := [.int 1, .ref 111]) (ci := 0) F (c_0_half (xl X) hP I A _ hB 130 rfl (hB _ (by decide)) (hB _ (by decide)) m 12 B (by omega) (Or.inr rfl) hb hd) ml_6_122 im_yX0_half se_yX0_half (by decide) (by decide) rfl (hB _ (by decide)) rfl rfl dX6_makeKey_34 (Nat.le_of_ble_eq_true rfl) (Nat.le_refl 0) (Nat.le_refl 0) (hl_r (hB _ (by decide)) hl_nil) (hs_i (hs_r (hB _ (by decide)) hs_nil)) ?_
  rintro _ _ _ ⟨rfl, rfl, rfl⟩ _
  refine r_6_makeKey_37 F hP hB hk_qc hp_qc hc9 hk_qo hp_qo ho9 (vp_in_nI (n := 1) (by omega) (by omega)) ?_
  rw [h6, e1]
  refine a_callV (b := 130) (As := [.int (nI (1 - m)), .int (nI 25)]) (st := [.int 2, .ref 111]) (ci := 0) F (c_0_half (xl X) hP I A _ hB 130 rfl (hB _ (by decide)) (hB _ (by decide)) (1 - m) 25 B (by omega) (Or.inl rfl) hb hd) ml_6_122 im_yX0_half se_yX0_half (by decide) (by decide) rfl (hB _ (by decide)) rfl rfl dX6_makeKey_55 (Nat.le_of_ble_eq_true rfl) (Nat.le_refl 0) (Nat.le_refl 0) (hl_r (hB _ (by decide)) hl_nil) (hs_i (hs_r (hB _ (by decide)) hs_nil)) ?_
  rintro _ _ _ ⟨rfl, rfl, rfl⟩ _
  refine r_6_makeKey_58 F hP hB hk_qc hp_qc hc9 hk_qo hp_qo ho9 (vp_in_nI (n := 2) (by omega) (by omega)) ?_
  rw [h6, e1]
  refine a_callV (b := 130) (As := [.int (nI (1 - m)), .int (nI 12)]) (st := [.int 3, .ref 111]) (ci := 0) F (c_0_half (xl X) hP I A _ hB 130 rfl (hB _ (by decide)) (hB _ (by decide)) (1 - m) 12 B (by omega) (Or.inr rfl) hb hd) ml_6_122 im_yX0_half se_yX0_half (by decide) (by decide) rfl (hB _ (by decide)) rfl rfl dX6_makeKey_76 (Nat.le_of_ble_eq_true rfl) (Nat.le_refl 0) (Nat.le_refl 0) (hl_r (hB _ (by decide)) hl_nil) (hs_i (hs_r (hB _ (by decide)) hs_nil)) ?_
  rintro _ _ _ ⟨rfl, rfl, rfl⟩ _
  refine r_6_makeKey_79 F E hP hB hk_qc hp_qc hc9 hk_qo hp_qo ho9 (vp_in_nI (n := 3) (by omega) (by omega)) ?_
  refine ⟨rfl, rfl, _, rfl, fun q h => by rw [up1_p h, up1_p h, up1_p h, up1_p h], fun k hk => ?_⟩
  rw [up1_s, up1_s, up1_s, up1_s]
  rcases (show k = 0 ∨ k = 1 ∨ k = 2 ∨ k = 3 by omega) with rfl | rfl | rfl | rfl
  · rw [updL_out (by decide), updL_out (by decide), updL_out (by decide), updL_in]; rfl
  · rw [updL_out (by decide), updL_out (by decide), updL_in]; rfl
  · rw [updL_out (by decide), updL_in]; rfl
  · rw [updL_in]; rfl

theorem r_6_compareKey_0 {X : Ctx} (F : Fx X cX6_compareKey RX6 5 1 0 0) {P O : Nat → Nat → Option Nat} (hP : laP P) {I A : Nat → Nat → Int32} {J : Nat → Nat → Int64} {pl : List Nat} (hB : inB pl) {qc qo : Nat} (hk_qc : kC qc = 14) (hp_qc : qc ∈ pl) (hc9 : P 110 3 = some qc) (hk_qo : kC qo = 13) (hp_qo : qo ∈ pl) (ho9 : P 110 4 = some qo) {x1 : Int32}
    (e_1 : WA X (mC P O I A J) pl 0 0 2 [(0, .ref 110), (1, .int x1), (2, .int 0)] []) :
    WA X (mC P O I A J) pl 0 0 0 [(0, .ref 110), (1, .int x1)] [] := by
  refine a_iconst (v := 0) F dX6_compareKey_0 (by decide) ?_
  refine a_istore_n F dX6_compareKey_1 rfl (by decide) rfl ?_
  refine a_sub [1, 2, 0] rfl ?_
  exact e_1

theorem r_6_compareKey_2 {X : Ctx} (F : Fx X cX6_compareKey RX6 5 1 0 0) {Φ : Option Value → HS → List Nat → Prop} (E : Ex X (some .int) 0 0 Φ) {P O : Nat → Nat → Option Nat} (hP : laP P) {I A : Nat → Nat → Int32} {J : Nat → Nat → Int64} {pl : List Nat} (hB : inB pl) {qc qo : Nat} (hk_qc : kC qc = 14) (hp_qc : qc ∈ pl) (hc9 : P 110 3 = some qc) (hk_qo : kC qo = 13) (hp_qo : qo ∈ pl) (ho9 : P 110 4 = some qo) {x1 x2 : Int32}
    (e_1 : (4 ≤ x2) → Φ (some (.int 0)) (mC P O I A J) pl)
    (o_2 : (¬ (4 ≤ x2)) → vp_in ((x1 * 5) + x2) (nC qc))
    (o_3 : (¬ (4 ≤ x2)) → vp_in x2 4)
    (e_4 : (¬ (4 ≤ x2)) → ((lg_cmp (J 111 x2.toNatClampNeg) (J qc ((x1 * 5) + x2).toNatClampNeg)) = 0) → WA X (mC P O I A J) pl 0 0 2 [(0, .ref 110), (1, .int x1), (2, .int (x2 + 1))] [])
    (o_5 : (¬ (4 ≤ x2)) → (¬ ((lg_cmp (J 111 x2.toNatClampNeg) (J qc ((x1 * 5) + x2).toNatClampNeg)) = 0)) → vp_in x2 4)
    (e_6 : (¬ (4 ≤ x2)) → (¬ ((lg_cmp (J 111 x2.toNatClampNeg) (J qc ((x1 * 5) + x2).toNatClampNeg)) = 0)) → ((lg_cmp (J 111 x2.toNatClampNeg) (J qc ((x1 * 5) + x2).toNatClampNeg)) ≤ 0) → Φ (some (.int 1)) (mC P O I A J) pl)
    (e_7 : (¬ (4 ≤ x2)) → (¬ ((lg_cmp (J 111 x2.toNatClampNeg) (J qc ((x1 * 5) + x2).toNatClampNeg)) = 0)) → (¬ ((lg_cmp (J 111 x2.toNatClampNeg) (J qc ((x1 * 5) + x2).toNatClampNeg)) ≤ 0)) → Φ (some (.int (-1))) (mC P O I A J) pl) :
    WA X (mC P O I A J) pl 0 0 2 [(0, .ref 110), (1, .int x1), (2, .int x2)] [] := by
  refine a_iload_n F 2 dX6_compareKey_2 rfl rfl ?_
  refine a_iconst (v := 4) F dX6_compareKey_3 (by decide) ?_
  refine a_icmp_ge (tgt := 52) F dX6_compareKey_4 (by decide) (fun (c_1 : 4 ≤ x2) => ?_) (fun (c_1 : ¬ (4 ≤ x2)) => ?_)
  · refine a_iconst (v := 0) F dX6_compareKey_52 (by decide) ?_
    exact a_iret F E dX6_compareKey_53 (Nat.le_refl 0) (Nat.le_refl 0) (e_1 c_1)
  · refine a_aload_n F 0 dX6_compareKey_7 rfl rfl ?_
    refine a_getr (b := qc) F fl_6_19 rfl (hB _ (by decide)) rfl hc9 dX6_compareKey_8 ?_
    refine a_iload_n F 1 dX6_compareKey_11 rfl rfl ?_
    refine a_iconst (v := 5) F dX6_compareKey_12 (by decide) ?_
    refine a_imul F dX6_compareKey_13 ?_
    refine a_iload_n F 2 dX6_compareKey_14 rfl rfl ?_
    refine a_iadd F dX6_compareKey_15 ?_
    refine a_lald F (hp_qc) hk_qc (o_2 c_1) dX6_compareKey_16 ?_
    refine a_lstore_n F dX6_compareKey_17 rfl (by decide) rfl ?_
    refine a_aload_n F 1 dX6_compareKey_18 rfl rfl ?_
    refine a_getr (b := 111) F fl_6_11 rfl (hB _ (by decide)) rfl ((hP 110 1 (by decide)).trans rfl) dX6_compareKey_19 ?_
    refine a_iload_n F 3 dX6_compareKey_22 rfl rfl ?_
    refine a_lald F (hB _ (by decide)) rfl (o_3 c_1) dX6_compareKey_23 ?_
    refine a_lload_n F 0 dX6_compareKey_24 rfl rfl ?_
    refine a_lcmp F dX6_compareKey_25 ?_
    refine a_if_eq (tgt := 46) F dX6_compareKey_26 (by decide) (fun (c_2 : (lg_cmp (J 111 x2.toNatClampNeg) (J qc ((x1 * 5) + x2).toNatClampNeg)) = 0) => ?_) (fun (c_2 : ¬ ((lg_cmp (J 111 x2.toNatClampNeg) (J qc ((x1 * 5) + x2).toNatClampNeg)) = 0)) => ?_)
    · refine a_iinc (v := x2 + 1) F 3 dX6_compareKey_46 rfl rfl (by decide) rfl ?_
      refine a_goto (tgt := 2) F dX6_compareKey_49 (by decide) ?_
      refine a_sub [2, 3, 0] rfl ?_
      exact e_4 c_1 c_2
    · refine a_aload_n F 1 dX6_compareKey_29 rfl rfl ?_
      refine a_getr (b := 111) F fl_6_11 rfl (hB _ (by decide)) rfl ((hP 110 1 (by decide)).trans rfl) dX6_compareKey_30 ?_
      refine a_iload_n F 3 dX6_compareKey_33 rfl rfl ?_
      refine a_lald F (hB _ (by decide)) rfl (o_5 c_1 c_2) dX6_compareKey_34 ?_
      refine a_lload_n F 0 dX6_compareKey_35 rfl rfl ?_
      refine a_lcmp F dX6_compareKey_36 ?_
      refine a_if_le (tgt := 44) F dX6_compareKey_37 (by decide) (fun (c_3 : (lg_cmp (J 111 x2.toNatClampNeg) (J qc ((x1 * 5) + x2).toNatClampNeg)) ≤ 0) => ?_) (fun (c_3 : ¬ ((lg_cmp (J 111 x2.toNatClampNeg) (J qc ((x1 * 5) + x2).toNatClampNeg)) ≤ 0)) => ?_)
      · refine a_iconst (v := 1) F dX6_compareKey_44 (by decide) ?_
        exact a_iret F E dX6_compareKey_45 (Nat.le_refl 0) (Nat.le_refl 0) (e_6 c_1 c_2 c_3)
      · refine a_iconst (v := (-1)) F dX6_compareKey_40 (by decide) ?_
        refine a_goto (tgt := 45) F dX6_compareKey_41 (by decide) ?_
        exact a_iret F E dX6_compareKey_45 (Nat.le_refl 0) (Nat.le_refl 0) (e_7 c_1 c_2 c_3)

set_option maxRecDepth 10000 in
theorem c_6_compareKey (l : Launch) {P O : Nat → Nat → Option Nat} (hP : laP P) (I A : Nat → Nat → Int32) (J : Nat → Nat → Int64) {pl : List Nat} (hB : inB pl) {qc qo : Nat} (hk_qc : kC qc = 14) (hp_qc : qc ∈ pl) (hc9 : P 110 3 = some qc) (hk_qo : kC qo = 13) (hp_qo : qo ∈ pl) (ho9 : P 110 4 = some qo) (m s : Nat) (B T : Nat → Nat) (hm : m ≤ 1) (hn : nC qc ≤ 20000) (hs : 5 * s + 5 ≤ nC qc) (hB9 : dgB B) (hT9 : dgB T) (h1 : keR (J 111) m B) (h2 : keR (fun k => J qc (5 * s + k)) m T) : Con l 1 yX6_compareKey cX6_compareKey 5 (some .int) [.ref 110, .int (nI s)] (mC P O I A J) pl 0 0 (PC (some (.int (cmK (key m B) (key m T)))) P O I A J pl) := by
  refine Con.of (by decide) (Nat.le_of_ble_eq_true rfl) (fun X hX9 hn9 F E => ?_)
  have lp : ∀ f k, k + f = 4 → (∀ j, j < k → hvF m B j = hvF m T j) → WA X (mC P O I A J) pl 0 0 2 [(0, .ref 110), (1, .int (nI s)), (2, .int (nI k))] [] := by
    intro f
    induction f with
    | zero =>
      intro k hk he
      obtain rfl : k = 4 := by omega
      refine r_6_compareKey_2 F E hP hB hk_qc hp_qc hc9 hk_qo hp_qo ho9 (fun _ => ?_) (fun z => absurd (by decide) z) (fun z => absurd (by decide) z) (fun z => absurd (by decide) z) (fun z => absurd (by decide) z) (fun z => absurd (by decide) z) (fun z => absurd (by decide) z)
      rw [key_e he]; unfold cmK; rw [if_neg (Nat.lt_irrefl _), if_neg (Nat.lt_irrefl _)]; exact ⟨rfl, rfl, rfl⟩
    | succ f ih =>
      intro k hk he
      have nlt : ¬ (4 : Int32) ≤ nI k := fun z => by have := (nI_gen 4 (by omega) (by omega)).mp z; omega
      have ei : nI s * 5 + nI k = nI (5 * s + k) := by rw [show nI s * 5 = nI (s * 5) from (Int32.ofNat_mul s 5).symm, nI_add, Nat.mul_comm]
      have vk : vp_in (nI k) 4 := vp_in_nI (by omega) (by omega)
      have ec : lg_cmp (J 111 (nI k).toNatClampNeg) (J qc (nI s * 5 + nI k).toNatClampNeg) = lg_cmp (lN (hvF m B k)) (lN (hvF m T k)) := by
        rw [ei, nI_clamp (by omega), nI_clamp (by omega), h1 k (by omega)]; exact congrArg _ (h2 k (by omega))
      refine r_6_compareKey_2 F E hP hB hk_qc hp_qc hc9 hk_qo hp_qo ho9 (fun z => absurd z nlt) (fun _ => by rw [ei]; exact vp_in_nI (by omega) (by omega)) (fun _ => vk) (fun _ z => ?_) (fun _ _ => vk) (fun _ z w => ?_) (fun _ z w => ?_)
      · rw [ec, lg_cmp_eq, lN_inj (hv_63 hm hB9) (hv_63 hm hT9)] at z
        rw [nI_1]
        refine ih (k + 1) (by omega) (fun j hj => ?_)
        by_cases c : j = k
        · rw [c]; exact z
        · exact he j (by omega)
      · rw [ec, lg_cmp_eq, lN_inj (hv_63 hm hB9) (hv_63 hm hT9)] at z
        rw [ec, lg_cmp_le, lN_leq (hv_63 hm hB9) (hv_63 hm hT9)] at w
        have := key_c hm hT9 hB9 (k := k) (by omega) (fun j hj => he j hj) (by omega)
        unfold cmK; rw [if_neg (by omega), if_pos this]; exact ⟨rfl, rfl, rfl⟩
      · rw [ec, lg_cmp_le, lN_leq (hv_63 hm hB9) (hv_63 hm hT9)] at w
        have := key_c hm hB9 hT9 (k := k) (by omega) (fun j hj => (he j hj).symm) (by omega)
        unfold cmK; rw [if_pos this]; exact ⟨rfl, rfl, rfl⟩
  refine r_6_compareKey_0 F hP hB hk_qc hp_qc hc9 hk_qo hp_qo ho9 ?_
  exact lp 4 0 rfl (fun j hj => by omega)

def srtT (m cnt : Nat) (T : Nat → Nat → Nat) : Prop := ∀ i j, i < j → j < cnt → key m (T j) < key m (T i)
def plP (m cnt : Nat) (T : Nat → Nat → Nat) (x p : Nat) : Prop := p ≤ cnt ∧ (∀ i, i < p → x < key m (T i)) ∧ (∀ i, p < i → i < cnt → key m (T i) < x) ∧ (p < cnt → key m (T p) ≤ x)
def plQ (P O : Nat → Nat → Option Nat) (I A : Nat → Nat → Int32) (J : Nat → Nat → Int64) (pl : List Nat) (m cnt : Nat) (T : Nat → Nat → Nat) (x : Nat) : Option Value → HS → List Nat → Prop := fun r σ' pl' => pl = pl' ∧ σ' = mC P O I A J ∧ ∃ p, r = some (.int (nI p)) ∧ plP m cnt T x p

theorem r_6_placeOfKey_0 {X : Ctx} (F : Fx X cX6_placeOfKey RX6 5 2 0 0) {P O : Nat → Nat → Option Nat} (hP : laP P) {I A : Nat → Nat → Int32} {J : Nat → Nat → Int64} {pl : List Nat} (hB : inB pl) {qc qo : Nat} (hk_qc : kC qc = 14) (hp_qc : qc ∈ pl) (hc9 : P 110 3 = some qc) (hk_qo : kC qo = 13) (hp_qo : qo ∈ pl) (ho9 : P 110 4 = some qo)
    (e_1 : WA X (mC P O I A J) pl 0 0 9 [(0, .ref 110), (1, .int 0), (2, .int (I 110 7)), (3, .int 0)] []) :
    WA X (mC P O I A J) pl 0 0 0 [(0, .ref 110)] [] := by
  refine a_iconst (v := 0) F dX6_placeOfKey_0 (by decide) ?_
  refine a_istore_n F dX6_placeOfKey_1 rfl (by decide) rfl ?_
  refine a_aload_n F 1 dX6_placeOfKey_2 rfl rfl ?_
  refine a_geti F fl_6_30 rfl (hB _ (by decide)) rfl dX6_placeOfKey_3 ?_
  refine a_istore_n F dX6_placeOfKey_6 rfl (by decide) rfl ?_
  refine a_iconst (v := 0) F dX6_placeOfKey_7 (by decide) ?_
  refine a_istore_n F dX6_placeOfKey_8 rfl (by decide) rfl ?_
  refine a_sub [3, 2, 1, 0] rfl ?_
  exact e_1

theorem r_6_placeOfKey_9 {X : Ctx} (F : Fx X cX6_placeOfKey RX6 5 2 0 0) {Φ : Option Value → HS → List Nat → Prop} (E : Ex X (some .int) 0 0 Φ) {P O : Nat → Nat → Option Nat} (hP : laP P) {I A : Nat → Nat → Int32} {J : Nat → Nat → Int64} {pl : List Nat} (hB : inB pl) {qc qo : Nat} (hk_qc : kC qc = 14) (hp_qc : qc ∈ pl) (hc9 : P 110 3 = some qc) (hk_qo : kC qo = 13) (hp_qo : qo ∈ pl) (ho9 : P 110 4 = some qo) {x1 x2 x3 : Int32}
    (e_1 : (32 ≤ x3) → Φ (some (.int x1)) (mC P O I A J) pl)
    (e_2 : (¬ (32 ≤ x3)) → (x2 ≤ x1) → Φ (some (.int x1)) (mC P O I A J) pl)
    (o_3 : (¬ (32 ≤ x3)) → (¬ (x2 ≤ x1)) → vp_in ((((x1 + x2) : Int32).toUInt32 >>> ((1 : Int32).toUInt32 &&& Int32.toUInt32 31)).toInt32) (nC qo))
    (e_4 : (¬ (32 ≤ x3)) → (¬ (x2 ≤ x1)) → WA X (mC P O I A J) pl 0 0 35 [(4, .int ((((x1 + x2) : Int32).toUInt32 >>> ((1 : Int32).toUInt32 &&& Int32.toUInt32 31)).toInt32)), (0, .ref 110), (1, .int x1), (2, .int x2), (3, .int x3)] [.int (A qo ((((x1 + x2) : Int32).toUInt32 >>> ((1 : Int32).toUInt32 &&& Int32.toUInt32 31)).toInt32).toNatClampNeg), .ref 110]) :
    WA X (mC P O I A J) pl 0 0 9 [(0, .ref 110), (1, .int x1), (2, .int x2), (3, .int x3)] [] := by
  refine a_iload_n F 3 dX6_placeOfKey_9 rfl rfl ?_
  refine a_bipush (v := 32) F dX6_placeOfKey_10 (by decide) ?_
  refine a_icmp_ge (tgt := 78) F dX6_placeOfKey_12 (by decide) (fun (c_1 : 32 ≤ x3) => ?_) (fun (c_1 : ¬ (32 ≤ x3)) => ?_)
  · refine a_iload_n F 1 dX6_placeOfKey_78 rfl rfl ?_
    exact a_iret F E dX6_placeOfKey_79 (Nat.le_refl 0) (Nat.le_refl 0) (e_1 c_1)
  · refine a_iload_n F 1 dX6_placeOfKey_15 rfl rfl ?_
    refine a_iload_n F 2 dX6_placeOfKey_16 rfl rfl ?_
    refine a_icmp_ge (tgt := 78) F dX6_placeOfKey_17 (by decide) (fun (c_2 : x2 ≤ x1) => ?_) (fun (c_2 : ¬ (x2 ≤ x1)) => ?_)
    · refine a_iload_n F 1 dX6_placeOfKey_78 rfl rfl ?_
      exact a_iret F E dX6_placeOfKey_79 (Nat.le_refl 0) (Nat.le_refl 0) (e_2 c_1 c_2)
    · refine a_iload_n F 1 dX6_placeOfKey_20 rfl rfl ?_
      refine a_iload_n F 2 dX6_placeOfKey_21 rfl rfl ?_
      refine a_iadd F dX6_placeOfKey_22 ?_
      refine a_iconst (v := 1) F dX6_placeOfKey_23 (by decide) ?_
      refine a_iushr F dX6_placeOfKey_24 ?_
      refine a_istore F dX6_placeOfKey_25 (by decide) rfl ?_
      refine a_aload_n F 1 dX6_placeOfKey_27 rfl rfl ?_
      refine a_aload_n F 1 dX6_placeOfKey_28 rfl rfl ?_
      refine a_getr (b := qo) F fl_6_22 rfl (hB _ (by decide)) rfl ho9 dX6_placeOfKey_29 ?_
      refine a_iload F 0 dX6_placeOfKey_32 rfl ?_
      refine a_iald F (hp_qo) hk_qo (o_3 c_1 c_2) dX6_placeOfKey_34 ?_
      exact e_4 c_1 c_2

theorem r_6_placeOfKey_38 {X : Ctx} (F : Fx X cX6_placeOfKey RX6 5 2 0 0) {P O : Nat → Nat → Option Nat} (hP : laP P) {I A : Nat → Nat → Int32} {J : Nat → Nat → Int64} {pl : List Nat} (hB : inB pl) {qc qo : Nat} (hk_qc : kC qc = 14) (hp_qc : qc ∈ pl) (hc9 : P 110 3 = some qc) (hk_qo : kC qo = 13) (hp_qo : qo ∈ pl) (ho9 : P 110 4 = some qo) {x1 x2 x3 x4 x9 : Int32}
    (o_1 : (0 ≤ x9) → vp_in x4 (nC qo))
    (e_2 : (0 ≤ x9) → WA X (mC P O I A J) pl 0 0 55 [(0, .ref 110), (1, .int x1), (2, .int x2), (3, .int x3), (4, .int x4)] [.int (A qo x4.toNatClampNeg), .ref 110])
    (e_3 : (¬ (0 ≤ x9)) → WA X (mC P O I A J) pl 0 0 9 [(0, .ref 110), (1, .int x1), (2, .int x4), (3, .int (x3 + 1))] []) :
    WA X (mC P O I A J) pl 0 0 38 [(0, .ref 110), (1, .int x1), (2, .int x2), (3, .int x3), (4, .int x4)] [.int x9] := by
  refine a_if_ge (tgt := 47) F dX6_placeOfKey_38 (by decide) (fun (c_3 : 0 ≤ x9) => ?_) (fun (c_3 : ¬ (0 ≤ x9)) => ?_)
  · refine a_aload_n F 0 dX6_placeOfKey_47 rfl rfl ?_
    refine a_aload_n F 0 dX6_placeOfKey_48 rfl rfl ?_
    refine a_getr (b := qo) F fl_6_22 rfl (hB _ (by decide)) rfl ho9 dX6_placeOfKey_49 ?_
    refine a_iload F 4 dX6_placeOfKey_52 rfl ?_
    refine a_iald F (hp_qo) hk_qo (o_1 c_3) dX6_placeOfKey_54 ?_
    exact e_2 c_3
  · refine a_iload F 4 dX6_placeOfKey_41 rfl ?_
    refine a_istore_n F dX6_placeOfKey_43 rfl (by decide) rfl ?_
    refine a_goto (tgt := 72) F dX6_placeOfKey_44 (by decide) ?_
    refine a_iinc (v := x3 + 1) F 3 dX6_placeOfKey_72 rfl rfl (by decide) rfl ?_
    refine a_goto (tgt := 9) F dX6_placeOfKey_75 (by decide) ?_
    refine a_sub [2, 3, 1, 0] rfl ?_
    exact e_3 c_3

theorem r_6_placeOfKey_58 {X : Ctx} (F : Fx X cX6_placeOfKey RX6 5 2 0 0) {Φ : Option Value → HS → List Nat → Prop} (E : Ex X (some .int) 0 0 Φ) {P O : Nat → Nat → Option Nat} (hP : laP P) {I A : Nat → Nat → Int32} {J : Nat → Nat → Int64} {pl : List Nat} (hB : inB pl) {qc qo : Nat} (hk_qc : kC qc = 14) (hp_qc : qc ∈ pl) (hc9 : P 110 3 = some qc) (hk_qo : kC qo = 13) (hp_qo : qo ∈ pl) (ho9 : P 110 4 = some qo) {x1 x2 x3 x4 x9 : Int32}
    (e_1 : (x9 ≤ 0) → Φ (some (.int x4)) (mC P O I A J) pl)
    (e_2 : (¬ (x9 ≤ 0)) → WA X (mC P O I A J) pl 0 0 9 [(0, .ref 110), (1, .int (x4 + 1)), (2, .int x2), (3, .int (x3 + 1))] []) :
    WA X (mC P O I A J) pl 0 0 58 [(0, .ref 110), (1, .int x1), (2, .int x2), (3, .int x3), (4, .int x4)] [.int x9] := by
  refine a_if_le (tgt := 69) F dX6_placeOfKey_58 (by decide) (fun (c_4 : x9 ≤ 0) => ?_) (fun (c_4 : ¬ (x9 ≤ 0)) => ?_)
  · refine a_iload F 4 dX6_placeOfKey_69 rfl ?_
    exact a_iret F E dX6_placeOfKey_71 (Nat.le_refl 0) (Nat.le_refl 0) (e_1 c_4)
  · refine a_iload F 4 dX6_placeOfKey_61 rfl ?_
    refine a_iconst (v := 1) F dX6_placeOfKey_63 (by decide) ?_
    refine a_iadd F dX6_placeOfKey_64 ?_
    refine a_istore_n F dX6_placeOfKey_65 rfl (by decide) rfl ?_
    refine a_goto (tgt := 72) F dX6_placeOfKey_66 (by decide) ?_
    refine a_iinc (v := x3 + 1) F 3 dX6_placeOfKey_72 rfl rfl (by decide) rfl ?_
    refine a_goto (tgt := 9) F dX6_placeOfKey_75 (by decide) ?_
    refine a_sub [2, 1, 3, 0] rfl ?_
    exact e_2 c_4

set_option maxRecDepth 10000 in
theorem c_6_placeOfKey (l : Launch) {P O : Nat → Nat → Option Nat} (hP : laP P) (I A : Nat → Nat → Int32) (J : Nat → Nat → Int64) {pl : List Nat} (hB : inB pl) {qc qo : Nat} (hk_qc : kC qc = 14) (hp_qc : qc ∈ pl) (hc9 : P 110 3 = some qc) (hk_qo : kC qo = 13) (hp_qo : qo ∈ pl) (ho9 : P 110 4 = some qo) (m cnt : Nat) (o : Nat → Nat) (T : Nat → Nat → Nat) (W : Nat → Nat) (B : Nat → Nat) (hm : m ≤ 1) (hn : nC qc = 5 * nC qo) (hn2 : nC qo ≤ 3200) (hc : cnt ≤ nC qo) (h7 : I 110 7 = nI cnt) (ht : tbR (A qo) (J qc) m cnt o T W) (hs : srtT m cnt T) (hB9 : dgB B) (h1 : keR (J 111) m B) : Con l 2 yX6_placeOfKey cX6_placeOfKey 5 (some .int) [.ref 110] (mC P O I A J) pl 0 0 (plQ P O I A J pl m cnt T (key m B)) := by
  refine Con.of (by decide) (Nat.le_of_ble_eq_true rfl) (fun X hX9 hn9 F E => ?_)
  have lp : ∀ f n lo hi, n + f = 32 → lo ≤ hi → hi ≤ cnt → hi - lo < 2 ^ f → (∀ i, i < lo → key m B < key m (T i)) → (∀ i, hi ≤ i → i < cnt → key m (T i) < key m B) → WA X (mC P O I A J) pl 0 0 9 [(0, .ref 110), (1, .int (nI lo)), (2, .int (nI hi)), (3, .int (nI n))] [] := by
    intro f
    induction f with
    | zero =>
      intro n lo hi hnf hl hh hp ha hb
      obtain rfl : n = 32 := by omega
      have e : lo = hi := by have : (2 : Nat) ^ 0 = 1 := rfl; omega
      refine r_6_placeOfKey_9 F E hP hB hk_qc hp_qc hc9 hk_qo hp_qo ho9 (fun _ => ⟨rfl, rfl, lo, rfl, by omega, ha, fun i h1 h2 => hb i (by omega) h2, fun h => Nat.le_of_lt (hb lo (by omega) h)⟩) (fun z => absurd (by decide) z) (fun z => absurd (by decide) z) (fun z => absurd (by decide) z)
    | succ f ih =>
      intro n lo hi hnf hl hh hp ha hb
      have nlt : ¬ (32 : Int32) ≤ nI n := fun z => by have := (nI_gen 32 (by omega) (by omega)).mp z; omega
      by_cases c : lo = hi
      · have z : nI hi ≤ nI lo := by rw [c]; exact Int32.le_refl _
        exact r_6_placeOfKey_9 F E hP hB hk_qc hp_qc hc9 hk_qo hp_qo ho9 (fun z => absurd z nlt) (fun _ _ => ⟨rfl, rfl, lo, rfl, by omega, ha, fun i h1 h2 => hb i (by omega) h2, fun h => Nat.le_of_lt (hb lo (by omega) h)⟩) (fun _ y => absurd z y) (fun _ y => absurd z y)
      have z : ¬ nI hi ≤ nI lo := fun z => by have := (nI_leI (by omega) (by omega)).mp z; omega
      obtain ⟨M, hM⟩ : ∃ M, (lo + hi) / 2 = M := ⟨_, rfl⟩
      have eM : ((((nI lo + nI hi) : Int32).toUInt32 >>> ((1 : Int32).toUInt32 &&& Int32.toUInt32 31)).toInt32) = nI M := by rw [nI_add, sh_one (by omega), hM]
      have pf : (2 : Nat) ^ (f + 1) = 2 * 2 ^ f := by rw [Nat.pow_succ, Nat.mul_comm]
      have vM : vp_in (nI M) (nC qo) := vp_in_nI (by omega) (by omega)
      have oM := ht.1 M (by omega)
      refine r_6_placeOfKey_9 F E hP hB hk_qc hp_qc hc9 hk_qo hp_qo ho9 (fun z => absurd z nlt) (fun _ y => absurd y z) (fun _ _ => by rw [eM]; exact vM) (fun _ _ => ?_)
      rw [eM, nI_clamp (by omega), oM.1]
      refine a_callV (b := 110) (As := [.int (nI (o M))]) (st := []) (ci := 6) F (c_6_compareKey (xl X) hP I A J hB hk_qc hp_qc hc9 hk_qo hp_qo ho9 m (o M) B (T M) hm (by omega) (by omega) hB9 (ht.2.2.1 M (by omega)).1 h1 (ht.2.2.1 M (by omega)).2) ml_6_96 im_yX6_compareKey se_yX6_compareKey (by decide) (by decide) rfl (hB _ (by decide)) rfl rfl dX6_placeOfKey_35 (by decide) (Nat.le_refl 0) (Nat.le_refl 0) (hl_i (hl_r (hB _ (by decide)) (hl_i (hl_i (hl_i hl_nil))))) hs_nil ?_
      rintro _ _ _ ⟨rfl, rfl, rfl⟩ _
      refine a_sub [1, 2, 3, 4, 0] rfl ?_
      have srt : ∀ i, i < cnt → (i < M → key m (T M) < key m (T i)) ∧ (M < i → key m (T i) < key m (T M)) := fun i hi => ⟨fun h => hs i M h (by omega), fun h => hs M i h hi⟩
      refine r_6_placeOfKey_38 F hP hB hk_qc hp_qc hc9 hk_qo hp_qo ho9 (fun _ => vM) (fun y => ?_) (fun y => ?_)
      · have nb : ¬ key m (T M) < key m B := fun h => by unfold cmK at y; rw [if_pos h] at y; exact absurd y (by decide)
        rw [nI_clamp (by omega), oM.1]
        refine a_callV (b := 110) (As := [.int (nI (o M))]) (st := []) (ci := 6) F (c_6_compareKey (xl X) hP I A J hB hk_qc hp_qc hc9 hk_qo hp_qo ho9 m (o M) B (T M) hm (by omega) (by omega) hB9 (ht.2.2.1 M (by omega)).1 h1 (ht.2.2.1 M (by omega)).2) ml_6_96 im_yX6_compareKey se_yX6_compareKey (by decide) (by decide) rfl (hB _ (by decide)) rfl rfl dX6_placeOfKey_55 (by decide) (Nat.le_refl 0) (Nat.le_refl 0) (hl_r (hB _ (by decide)) (hl_i (hl_i (hl_i (hl_i hl_nil))))) hs_nil ?_
        rintro _ _ _ ⟨rfl, rfl, rfl⟩ _
        refine r_6_placeOfKey_58 F E hP hB hk_qc hp_qc hc9 hk_qo hp_qo ho9 (fun w => ?_) (fun w => ?_)
        · have e : key m B = key m (T M) := by
            by_cases h : key m B < key m (T M)
            · unfold cmK at w; rw [if_neg nb, if_pos h] at w; exact absurd w (by decide)
            · omega
          exact ⟨rfl, rfl, M, rfl, by omega, fun i hi => by rw [e]; exact (srt i (by omega)).1 hi, fun i h1 h2 => by rw [e]; exact (srt i h2).2 h1, fun _ => by rw [e]; exact Nat.le_refl _⟩
        · have h : key m B < key m (T M) := by
            by_cases h : key m B < key m (T M)
            · exact h
            · unfold cmK at w; rw [if_neg nb, if_neg h] at w; exact absurd (by decide) w
          rw [nI_1, nI_1]
          refine ih (n + 1) (M + 1) hi (by omega) (by omega) hh (by omega) (fun i hi9 => ?_) hb
          by_cases y9 : i = M
          · rw [y9]; exact h
          · exact Nat.lt_trans h ((srt i (by omega)).1 (by omega))
      · have h : key m (T M) < key m B := by
          by_cases h : key m (T M) < key m B
          · exact h
          · unfold cmK at y; rw [if_neg h] at y
            exact absurd (by split <;> decide) y
        rw [nI_1]
        refine ih (n + 1) lo M (by omega) (by omega) (by omega) (by omega) ha (fun i h1 h2 => ?_)
        by_cases y9 : i = M
        · rw [y9]; exact h
        · exact Nat.lt_trans ((srt i h2).2 (by omega)) h
  refine r_6_placeOfKey_0 F hP hB hk_qc hp_qc hc9 hk_qo hp_qo ho9 ?_
  rw [h7]
  exact lp 32 0 0 cnt rfl (Nat.zero_le _) (Nat.le_refl _) (by have : (2 : Nat) ^ 32 = 4294967296 := rfl; omega) (fun i hi => by omega) (fun i h1 h2 => by omega)
