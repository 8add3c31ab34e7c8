theorem Con.imp {l : Launch} {d : Nat} {y : MethodName} {cc : ByteArray} {nL : Nat} {ret : Option FieldType} {avs : List Value} {σ : HS} {pl : List Nat} {mc ms : Nat} {Φ Ψ : Option Value → HS → List Nat → Prop} (h : Con l d y cc nL ret avs σ pl mc ms Φ) (hq : ∀ r σ' pl', Φ r σ' pl' → Ψ r σ' pl') : Con l d y cc nL ret avs σ pl mc ms Ψ := by
  intro D cy sz ad p e h1 h2 h3 s m args below h4 h5 h6 h7
  obtain ⟨n, o, g1, g2, g3, ⟨⟨r, σ', pl', ad', k1, k2, k3⟩, g5⟩, g6⟩ := h D cy sz ad p e h1 h2 h3 s m args below h4 h5 h6 h7
  exact ⟨n, o, g1, g2, g3, ⟨⟨r, σ', pl', ad', k1, hq r σ' pl' k2, k3⟩, g5⟩, g6⟩
def lfI (a b l s : Int32) : Prop := if a = b then 0 < l ∧ s = 0 else ((l >>> (s &&& 31)) &&& 1) = 1
def woI (a b l s : Int32) : Int32 := if a = b then l - 1 else l &&& ((1 <<< (s &&& 31)) ^^^ (-1))
def lfP (x y L s : Nat) : Prop := if x = y then 0 < L ∧ s = 0 else L / 2 ^ s % 2 = 1
def woF (x y L s : Nat) : Nat := if x = y then L - 1 else L - 2 ^ s
theorem lf_t : ∀ L, L < 5 → ∀ s, s < 2 → ((((nI L >>> (nI s &&& 31)) &&& 1) = 1) ↔ L / 2 ^ s % 2 = 1) := by decide +kernel
theorem wo_t : ∀ L, L < 5 → ∀ s, s < 2 → L / 2 ^ s % 2 = 1 → nI L &&& ((1 <<< (nI s &&& 31)) ^^^ (-1)) = nI (L - 2 ^ s) := by decide +kernel
theorem lf_n {x y L s : Nat} (hx : x ≤ 6) (hy : y ≤ 6) (hL : L ≤ 4) (hs : s ≤ 1) : lfI (nI x) (nI y) (nI L) (nI s) ↔ lfP x y L s := by
  unfold lfI lfP
  have ex := nI_eq (a := x) (b := y) (by omega) (by omega)
  by_cases c : x = y
  · rw [if_pos (ex.mpr c), if_pos c, nI_gtn 0 (by omega) (by omega), nI_z (by omega)]
  · rw [if_neg (fun z => c (ex.mp z)), if_neg c]; exact lf_t L (by omega) s (by omega)
theorem wo_n {x y L s : Nat} (hx : x ≤ 6) (hy : y ≤ 6) (hL : L ≤ 4) (hs : s ≤ 1) (h : lfP x y L s) : woI (nI x) (nI y) (nI L) (nI s) = nI (woF x y L s) ∧ woF x y L s < L := by
  unfold lfP at h; unfold woI woF
  have ex := nI_eq (a := x) (b := y) (by omega) (by omega)
  by_cases c : x = y
  · rw [if_pos c] at h; rw [if_pos c, if_pos (ex.mpr c)]; exact ⟨pk_sub (b := 1) h.1, by omega⟩
  · rw [if_neg c] at h; rw [if_neg c, if_neg (fun z => c (ex.mp z))]; refine ⟨wo_t L (by omega) s (by omega) h, ?_⟩
    rcases (show s = 0 ∨ s = 1 by omega) with rfl | rfl <;> simp at h ⊢ <;> omega
theorem cmP_cg {B B' : Nat → Nat} {m p d : Nat} (hm : m ≤ 1) (hp : p ≤ 25) (h : ∀ k, k < 52 → B k = B' k) : cmP B m p d ↔ cmP B' m p d := by
  have h1 := h (26 * m + p) (by omega)
  have h2 := h (26 * m + 25) (by omega)
  have h3 := h (26 * (1 - m) + (25 - (p - d))) (by omega)
  unfold cmP; rw [h1, h2, h3]
  by_cases c : d < p
  · rw [if_pos c, if_pos c]
  · rw [if_neg c, if_neg c]
    constructor
    · rintro ⟨a1, a2, a3, a4⟩
      exact ⟨a1, a2, fun k hk h7 => by rw [← h _ (by omega)]; exact a3 k hk h7, a4.imp id (fun z j g1 g2 => by rw [← h _ (by omega)]; exact z j g1 g2)⟩
    · rintro ⟨a1, a2, a3, a4⟩
      exact ⟨a1, a2, fun k hk h7 => by rw [h _ (by omega)]; exact a3 k hk h7, a4.imp id (fun z j g1 g2 => by rw [h _ (by omega)]; exact z j g1 g2)⟩
def cmI (L : Nat → Int32) (a m p d : Int32) : Prop := cmP (fun k => (L (52 * a.toNatClampNeg + k)).toNatClampNeg) m.toNatClampNeg p.toNatClampNeg d.toNatClampNeg
def cmOK (L : Nat → Int32) (a0 m0 p0 d0 : Int32) : Prop := ∃ (a m p d : Nat) (B : Nat → Nat), a0 = nI a ∧ m0 = nI m ∧ p0 = nI p ∧ d0 = nI d ∧ a ≤ 8 ∧ m ≤ 1 ∧ 1 ≤ p ∧ p ≤ 25 ∧ 1 ≤ d ∧ d ≤ 6 ∧ bdR L (52 * a) B
theorem cmI_n {L : Nat → Int32} {a m p d : Nat} {B : Nat → Nat} (ha : a ≤ 8) (hm : m ≤ 1) (hp : p ≤ 25) (hd : d ≤ 6) (hB : bdR L (52 * a) B) : cmI L (nI a) (nI m) (nI p) (nI d) ↔ cmP B m p d := by
  unfold cmI; rw [nI_clamp (by omega), nI_clamp (by omega), nI_clamp (by omega), nI_clamp (by omega)]
  exact cmP_cg hm hp (fun k hk => by rw [(hB k hk).1]; exact nI_clamp (by have := (hB k hk).2; omega))
theorem c_canMoveI (l : Launch) (I A : Nat → Nat → Int32) (J : Nat → Nat → Int64) (a0 p0 d0 : Int32) (h : cmOK (A 3) a0 (I 0 8) p0 d0) : Con l 1 yX12_canMove cX12_canMove 9 (some .boolean) [.ref 0, .int a0, .int p0, .int d0] (mS I A J) plM 0 0 (PM (some (.int (@ite Int32 (cmI (A 3) a0 (I 0 8) p0 d0) (Classical.propDecidable _) 1 0))) I A J) := by
  obtain ⟨a, m, p, d, B, rfl, h8, rfl, rfl, ha, hm, hp1, hp, hd1, hd, hB⟩ := h
  have e := cmI_n ha hm hp hd hB
  have k := c_canMove l I A J a m p d B ha hm h8 hp1 hp hd1 hd hB
  refine k.imp (fun r σ' pl' hq => ?_)
  by_cases c : cmP B m p d
  · rw [h8, if_pos (e.mpr c)]; exact hq.1 c
  · rw [h8, if_neg (fun z => c (e.mp z))]; exact hq.2 c

theorem r_12_isLeft_0 {X : Ctx} (F : Fx X cX12_isLeft RX12 3 1 0 0) {Φ : Option Value → HS → List Nat → Prop} (E : Ex X (some .boolean) 0 0 Φ) {I A : Nat → Nat → Int32} {J : Nat → Nat → Int64} {x1 x2 : Int32}
    (e_1 : (¬ (I 0 9) = (I 0 10)) → (¬ ((x1 >>> (x2 &&& 31)) &&& 1) = 1) → Φ (some (.int 0)) (mS I A J) plM)
    (e_2 : (¬ (I 0 9) = (I 0 10)) → (((x1 >>> (x2 &&& 31)) &&& 1) = 1) → Φ (some (.int 1)) (mS I A J) plM)
    (e_3 : ((I 0 9) = (I 0 10)) → (x1 ≤ 0) → Φ (some (.int 0)) (mS I A J) plM)
    (e_4 : ((I 0 9) = (I 0 10)) → (¬ (x1 ≤ 0)) → (¬ x2 = 0) → Φ (some (.int 0)) (mS I A J) plM)
    (e_5 : ((I 0 9) = (I 0 10)) → (¬ (x1 ≤ 0)) → (x2 = 0) → Φ (some (.int 1)) (mS I A J) plM) :
    WA X (mS I A J) plM 0 0 0 [(0, .ref 0), (1, .int x1), (2, .int x2)] [] := by
  refine a_aload_n F 0 dX12_isLeft_0 rfl rfl ?_
  refine a_geti F fl_12_179 rfl (by decide) rfl dX12_isLeft_1 ?_
  refine a_aload_n F 0 dX12_isLeft_4 rfl rfl ?_
  refine a_geti F fl_12_182 rfl (by decide) rfl dX12_isLeft_5 ?_
  refine a_icmp_ne (tgt := 27) F dX12_isLeft_8 (by decide) (fun (c_1 : ¬ (I 0 9) = (I 0 10)) => ?_) (fun (c_1 : (I 0 9) = (I 0 10)) => ?_)
  · refine a_iload_n F 1 dX12_isLeft_27 rfl rfl ?_
    refine a_iload_n F 2 dX12_isLeft_28 rfl rfl ?_
    refine a_ishr F dX12_isLeft_29 ?_
    refine a_iconst (v := 1) F dX12_isLeft_30 (by decide) ?_
    refine a_iand F dX12_isLeft_31 ?_
    refine a_iconst (v := 1) F dX12_isLeft_32 (by decide) ?_
    refine a_icmp_ne (tgt := 40) F dX12_isLeft_33 (by decide) (fun (c_2 : ¬ ((x1 >>> (x2 &&& 31)) &&& 1) = 1) => ?_) (fun (c_2 : ((x1 >>> (x2 &&& 31)) &&& 1) = 1) => ?_)
    · refine a_iconst (v := 0) F dX12_isLeft_40 (by decide) ?_
      exact a_zret F E (by decide) dX12_isLeft_41 (Nat.le_refl 0) (Nat.le_refl 0) (e_1 c_1 c_2)
    · refine a_iconst (v := 1) F dX12_isLeft_36 (by decide) ?_
      refine a_goto (tgt := 41) F dX12_isLeft_37 (by decide) ?_
      exact a_zret F E (by decide) dX12_isLeft_41 (Nat.le_refl 0) (Nat.le_refl 0) (e_2 c_1 c_2)
  · refine a_iload_n F 1 dX12_isLeft_11 rfl rfl ?_
    refine a_if_le (tgt := 23) F dX12_isLeft_12 (by decide) (fun (c_3 : x1 ≤ 0) => ?_) (fun (c_3 : ¬ (x1 ≤ 0)) => ?_)
    · refine a_iconst (v := 0) F dX12_isLeft_23 (by decide) ?_
      refine a_goto (tgt := 41) F dX12_isLeft_24 (by decide) ?_
      exact a_zret F E (by decide) dX12_isLeft_41 (Nat.le_refl 0) (Nat.le_refl 0) (e_3 c_1 c_3)
    · refine a_iload_n F 2 dX12_isLeft_15 rfl rfl ?_
      refine a_if_ne (tgt := 23) F dX12_isLeft_16 (by decide) (fun (c_4 : ¬ x2 = 0) => ?_) (fun (c_4 : x2 = 0) => ?_)
      · refine a_iconst (v := 0) F dX12_isLeft_23 (by decide) ?_
        refine a_goto (tgt := 41) F dX12_isLeft_24 (by decide) ?_
        exact a_zret F E (by decide) dX12_isLeft_41 (Nat.le_refl 0) (Nat.le_refl 0) (e_4 c_1 c_3 c_4)
      · refine a_iconst (v := 1) F dX12_isLeft_19 (by decide) ?_
        refine a_goto (tgt := 41) F dX12_isLeft_20 (by decide) ?_
        exact a_zret F E (by decide) dX12_isLeft_41 (Nat.le_refl 0) (Nat.le_refl 0) (e_5 c_1 c_3 c_4)

set_option maxRecDepth 10000 in
theorem c_isLeft (l : Launch) (I A : Nat → Nat → Int32) (J : Nat → Nat → Int64) (a b : Int32) : Con l 1 yX12_isLeft cX12_isLeft 3 (some .boolean) [.ref 0, .int a, .int b] (mS I A J) plM 0 0 (PM (some (.int (@ite Int32 (lfI (I 0 9) (I 0 10) a b) (Classical.propDecidable _) 1 0))) I A J) := by
  refine Con.of (by decide) (Nat.le_of_ble_eq_true rfl) (fun X hX9 hn9 F E => ?_)
  refine r_12_isLeft_0 F E ?_ ?_ ?_ ?_ ?_ <;> (clear F E hn9 hX9; (try clear X); intros <;> (refine ⟨?_, rfl, rfl⟩; first | (rw [if_pos (by unfold lfI; simp_all; try grind)]; done) | (rw [if_neg (by unfold lfI; simp_all; try grind)]; done)))

theorem r_12_without_0 {X : Ctx} (F : Fx X cX12_without RX12 3 1 0 0) {Φ : Option Value → HS → List Nat → Prop} (E : Ex X (some .int) 0 0 Φ) {I A : Nat → Nat → Int32} {J : Nat → Nat → Int64} {x1 x2 : Int32}
    (e_1 : (¬ (I 0 9) = (I 0 10)) → Φ (some (.int (x1 &&& ((1 <<< (x2 &&& 31)) ^^^ (-1))))) (mS I A J) plM)
    (e_2 : ((I 0 9) = (I 0 10)) → Φ (some (.int (x1 - 1))) (mS I A J) plM) :
    WA X (mS I A J) plM 0 0 0 [(0, .ref 0), (1, .int x1), (2, .int x2)] [] := by
  refine a_aload_n F 0 dX12_without_0 rfl rfl ?_
  refine a_geti F fl_12_179 rfl (by decide) rfl dX12_without_1 ?_
  refine a_aload_n F 0 dX12_without_4 rfl rfl ?_
  refine a_geti F fl_12_182 rfl (by decide) rfl dX12_without_5 ?_
  refine a_icmp_ne (tgt := 17) F dX12_without_8 (by decide) (fun (c_1 : ¬ (I 0 9) = (I 0 10)) => ?_) (fun (c_1 : (I 0 9) = (I 0 10)) => ?_)
  · refine a_iload_n F 1 dX12_without_17 rfl rfl ?_
    refine a_iconst (v := 1) F dX12_without_18 (by decide) ?_
    refine a_iload_n F 2 dX12_without_19 rfl rfl ?_
    refine a_ishl F dX12_without_20 ?_
    refine a_iconst (v := (-1)) F dX12_without_21 (by decide) ?_
    refine a_ixor F dX12_without_22 ?_
    refine a_iand F dX12_without_23 ?_
    exact a_iret F E dX12_without_24 (Nat.le_refl 0) (Nat.le_refl 0) (e_1 c_1)
  · refine a_iload_n F 1 dX12_without_11 rfl rfl ?_
    refine a_iconst (v := 1) F dX12_without_12 (by decide) ?_
    refine a_isub F dX12_without_13 ?_
    refine a_goto (tgt := 24) F dX12_without_14 (by decide) ?_
    exact a_iret F E dX12_without_24 (Nat.le_refl 0) (Nat.le_refl 0) (e_2 c_1)

set_option maxRecDepth 10000 in
theorem c_without (l : Launch) (I A : Nat → Nat → Int32) (J : Nat → Nat → Int64) (a b : Int32) : Con l 1 yX12_without cX12_without 3 (some .int) [.ref 0, .int a, .int b] (mS I A J) plM 0 0 (PM (some (.int (woI (I 0 9) (I 0 10) a b))) I A J) := by
  refine Con.of (by decide) (Nat.le_of_ble_eq_true rfl) (fun X hX9 hn9 F E => ?_)
  refine r_12_without_0 F E ?_ ?_ <;> (clear F E hn9 hX9; (try clear X); intros <;> (refine ⟨?_, rfl, rfl⟩; simp_all [woI]))
