def tfoR (r : Nat → Int32) (a b v : Int32) : Nat → Int32 := upd (upd r (a * 26 + 0).toNatClampNeg (r (a * 26 + 0).toNatClampNeg - v)) (a * 26 + b).toNatClampNeg (upd r (a * 26 + 0).toNatClampNeg (r (a * 26 + 0).toNatClampNeg - v) (a * 26 + b).toNatClampNeg + v)

def stk1 (T : Nat → Int32) (n pl all : Nat) (rd : Nat → Nat) (p : Nat) : Except (Nat × Nat) (Nat × Nat × (Nat → Nat)) :=
  if ¬ tkS T n p = 2 then .error (1, p)
  else if tkV T n p < 1 ∨ 25 < tkV T n p then .error (2, p)
  else if 0 < rd (26 * pl + tkN T n p) then .error (3, p)
  else if pl = 1 ∧ tkN T n p < 25 ∧ 0 < rd (25 - tkN T n p) then .error (5, p)
  else if ¬ (tkS T n (nxP T n p) = 4 ∧ tkV T n (nxP T n p) = 58) then .error (1, nxP T n p)
  else if ¬ tkS T n (nxP T n (nxP T n p)) = 2 then .error (1, nxP T n (nxP T n p))
  else if tkV T n (nxP T n (nxP T n p)) < 1 ∨ 15 < tkV T n (nxP T n (nxP T n p)) then .error (2, nxP T n (nxP T n p))
  else if 15 < all + tkN T n (nxP T n (nxP T n p)) then .error (4, nxP T n (nxP T n p))
  else .ok (nxP T n (nxP T n (nxP T n p)), all + tkN T n (nxP T n (nxP T n p)), va_up rd (26 * pl + tkN T n p) (tkN T n (nxP T n (nxP T n p))))
def stkN (T : Nat → Int32) (n pl f : Nat) : Except (Nat × Nat) (Nat × Nat × (Nat → Nat)) → Except (Nat × Nat) (Nat × (Nat → Nat))
  | .error e => .error e
  | .ok r => if tkS T n r.1 = 4 ∧ tkV T n r.1 = 44 then stkF T n pl f r.2.1 r.2.2 (nxP T n r.1) else .ok (r.1, r.2.2)
theorem stkF_1 (T : Nat → Int32) (n pl f all : Nat) (rd : Nat → Nat) (p : Nat) : stkF T n pl (f + 1) all rd p = stkN T n pl f (stk1 T n pl all rd p) := by
  conv => lhs; unfold stkF
  unfold stk1
  by_cases c1 : ¬ tkS T n p = 2
  · rw [if_pos c1, if_pos c1]; rfl
  rw [if_neg c1, if_neg c1]
  by_cases c2 : tkV T n p < 1 ∨ 25 < tkV T n p
  · rw [if_pos c2, if_pos c2]; rfl
  rw [if_neg c2, if_neg c2]
  by_cases c3 : 0 < rd (26 * pl + tkN T n p)
  · rw [if_pos c3, if_pos c3]; rfl
  rw [if_neg c3, if_neg c3]
  by_cases c4 : pl = 1 ∧ tkN T n p < 25 ∧ 0 < rd (25 - tkN T n p)
  · rw [if_pos c4, if_pos c4]; rfl
  rw [if_neg c4, if_neg c4]
  by_cases c5 : ¬ (tkS T n (nxP T n p) = 4 ∧ tkV T n (nxP T n p) = 58)
  · rw [if_pos c5, if_pos c5]; rfl
  rw [if_neg c5, if_neg c5]
  by_cases c6 : ¬ tkS T n (nxP T n (nxP T n p)) = 2
  · rw [if_pos c6, if_pos c6]; rfl
  rw [if_neg c6, if_neg c6]
  by_cases c7 : tkV T n (nxP T n (nxP T n p)) < 1 ∨ 15 < tkV T n (nxP T n (nxP T n p))
  · rw [if_pos c7, if_pos c7]; rfl
  rw [if_neg c7, if_neg c7]
  by_cases c8 : 15 < all + tkN T n (nxP T n (nxP T n p))
  · rw [if_pos c8, if_pos c8]; rfl
  rw [if_neg c8, if_neg c8]
  rfl
def FrC (I I' : Nat → Nat → Int32) : Prop := ∀ q k, ¬ (q = 104 ∧ 2 ≤ k ∧ k ≤ 8) → I' q k = I q k
theorem FrC.rf (I : Nat → Nat → Int32) : FrC I I := fun _ _ _ => rfl
theorem FrC.tr {I I' I2 : Nat → Nat → Int32} (h : FrC I I') (h2 : FrC I' I2) : FrC I I2 := fun q k hk => (h2 q k hk).trans (h q k hk)
theorem fr_up {I : Nat → Nat → Int32} {k : Nat} {v : Int32} (h1 : 2 ≤ k) (h2 : k ≤ 8) : FrC I (up2 I 104 k v) := fun q j hj => by
  by_cases c : q = 104
  · subst c
    have : j ≠ k := fun z => hj ⟨rfl, by omega, by omega⟩
    simp [up2, va_up, this]
  · simp [up2, c]
theorem fr_rg (I : Nat → Nat → Int32) (T : Nat → Int32) : FrC I (rgI I T) := by
  unfold rgI tkI tokC
  exact ((((fr_up (by decide) (by decide)).tr (fr_up (by decide) (by decide))).tr (fr_up (by decide) (by decide))).tr (fr_up (by decide) (by decide))).tr (fr_up (by decide) (by decide))
theorem fr_fa (I : Nat → Nat → Int32) (x : Int32) : FrC I (faI I x) := by
  unfold faI; exact (fr_up (by decide) (by decide)).tr (fr_up (by decide) (by decide))
theorem rg_78 (I : Nat → Nat → Int32) (T : Nat → Int32) : rgI I T 104 7 = I 104 7 ∧ rgI I T 104 8 = I 104 8 := ⟨rfl, rfl⟩
theorem fa_78 (I : Nat → Nat → Int32) (x : Int32) : faI I x 104 7 = x ∧ faI I x 104 8 = I 104 3 := ⟨rfl, rfl⟩
theorem ac_fr {I I' : Nat → Nat → Int32} {T : Nat → Int32} {n p sz : Nat} (h : AtC I T n p sz) (e : ∀ q k, (q = 104 ∧ 1 ≤ k ∧ k ≤ 6) ∨ (q = 120 ∧ k = 1) → I' q k = I q k) : AtC I' T n p sz := by
  obtain ⟨h1, h2, h3, h4, h5, h6, h7, h8, h9, h10⟩ := h
  exact ⟨h1, h2, h3, by rw [e 104 1 (by omega)]; exact h4, by rw [e 120 1 (by omega)]; exact h5, by rw [e 104 2 (by omega)]; exact h6, by rw [e 104 3 (by omega)]; exact h7, by rw [e 104 4 (by omega)]; exact h8, by rw [e 104 5 (by omega)]; exact h9, by rw [e 104 6 (by omega)]; exact h10⟩
theorem ac_lt {I : Nat → Nat → Int32} {T : Nat → Int32} {n p sz : Nat} (h : AtC I T n p sz) (h0 : tkS T n p ≠ 0) : p < n := Nat.lt_of_not_le (fun z => h0 ((ac_kn h).2.2.2.mpr z))
/-- a number that is asked for and there -/
theorem ac_num {I : Nat → Nat → Int32} {T : Nat → Int32} {n p sz : Nat} (h : AtC I T n p sz) {lo hi : Nat} (hh : hi < 100) (hl : lo ≤ hi) (hn : nuP I (nI lo) (nI hi)) : tkS T n p = 2 ∧ ¬ (tkV T n p < nI lo ∨ nI hi < tkV T n p) ∧ tkV T n p = nI (tkN T n p) ∧ lo ≤ tkN T n p ∧ tkN T n p ≤ hi ∧ I 104 6 = nI (tkN T n p) ∧ p < n := by
  have h100 : nI hi < 100 := (nI_ltn 100 (by omega) (by omega)).mpr hh
  have hx := (ac_nu h h100).1.mp hn
  have hv := (ac_nu h h100).2 hn
  have h1 : ¬ tkV T n p < nI lo := fun z => hx.2 (Or.inl z)
  have h2 : ¬ nI hi < tkV T n p := fun z => hx.2 (Or.inr z)
  have hlo : (0 : Int32) ≤ nI lo := (nI_gen 0 (by omega) (by omega)).mpr (Nat.zero_le _)
  have h99 : nI hi ≤ 99 := (nI_len 99 (by omega) (by omega)).mpr (by omega)
  obtain ⟨k, hk, ek⟩ := nI_of2 (x := tkV T n p) (M := 99) (n := 99) rfl (by grind) (by grind)
  have en : tkN T n p = k := by unfold tkN; rw [ek, nI_clamp (by omega)]
  rw [ek] at h1 h2
  have g1 : lo ≤ k := Nat.le_of_not_lt (fun z => h1 ((nI_ltI (by omega) (by omega)).mpr z))
  have g2 : k ≤ hi := Nat.le_of_not_lt (fun z => h2 ((nI_ltI (by omega) (by omega)).mpr z))
  exact ⟨hx.1, hx.2, by rw [en]; exact ek, by omega, by omega, by rw [hv, en]; exact ek, ac_lt h (by rw [hx.1]; decide)⟩
/-- a number that is asked for and not there -/
theorem ac_non {I : Nat → Nat → Int32} {T : Nat → Int32} {n p sz : Nat} (h : AtC I T n p sz) {lo hi : Nat} (hh : hi < 100) (hn : ¬ nuP I (nI lo) (nI hi)) : ∃ c, c < 10 ∧ nuI I (nI lo) (nI hi) = faI I (nI c) ∧ ((¬ tkS T n p = 2 ∧ c = 1) ∨ (tkS T n p = 2 ∧ (tkV T n p < nI lo ∨ nI hi < tkV T n p) ∧ c = 2)) := by
  have h100 : nI hi < 100 := (nI_ltn 100 (by omega) (by omega)).mpr hh
  have hx := (not_congr (ac_nu h (lo := nI lo) h100).1).mp hn
  have kn := (ac_kn h).1
  unfold nuI; rw [if_neg hn]
  by_cases c : tkS T n p = 2
  · rw [if_pos (kn.mpr c)]
    refine ⟨2, by omega, rfl, Or.inr ⟨c, ?_, rfl⟩⟩
    by_cases z : tkV T n p < nI lo ∨ nI hi < tkV T n p
    · exact z
    · exact absurd ⟨c, z⟩ hx
  · rw [if_neg (fun z => c (kn.mp z))]
    exact ⟨1, by omega, rfl, Or.inl ⟨c, rfl⟩⟩
theorem nu_in {I : Nat → Nat → Int32} {lo hi : Int32} (h : nuP I lo hi) : nuI I lo hi = I := by unfold nuI; rw [if_pos h]
theorem ps_in {I : Nat → Nat → Int32} {T : Nat → Int32} {c : Int32} (h : sgP I c) : psI I T c = rgI I T := by unfold psI; rw [if_pos h]
theorem ps_no {I : Nat → Nat → Int32} {T : Nat → Int32} {c : Int32} (h : ¬ sgP I c) : psI I T c = faI I 1 := by unfold psI; rw [if_neg h]
def rdB (r : Nat → Int32) (rd al : Nat → Nat) : Prop := (∀ q k, q ≤ 1 → 1 ≤ k → k ≤ 25 → r (26 * q + k) = nI (rd (26 * q + k)) ∧ rd (26 * q + k) ≤ 15) ∧ ∀ q, q ≤ 1 → r (26 * q) = nI (15 - al q) ∧ al q ≤ 15
theorem rdB_tfo {r : Nat → Int32} {rd al : Nat → Nat} {m k v : Nat} (h : rdB r rd al) (hm : m ≤ 1) (hk1 : 1 ≤ k) (hk : k ≤ 25) (h0 : rd (26 * m + k) = 0) (hv : al m + v ≤ 15) : rdB (tfoR r (nI m) (nI k) (nI v)) (va_up rd (26 * m + k) v) (va_up al m (al m + v)) := by
  unfold tfoR
  rw [show nI m * 26 + 0 = nI (26 * m) from ix_a m 0, ix_a, nI_clamp (by omega), nI_clamp (by omega)]
  have e1 : r (26 * m) - nI v = nI (15 - (al m + v)) := by rw [(h.2 m hm).1, pk_sub (by omega)]; congr 1; omega
  have e2 : r (26 * m + k) = nI 0 := by rw [(h.1 m k hm hk1 hk).1, h0]
  rw [upd_out (show 26 * m + k ≠ 26 * m by omega), e1, e2, nI_add, Nat.zero_add]
  refine ⟨fun q j hq hj1 hj => ?_, fun q hq => ?_⟩
  · by_cases c : 26 * q + j = 26 * m + k
    · rw [c, upd_in, va_s]; exact ⟨rfl, by omega⟩
    · rw [upd_out c, va_n c, upd_out (by omega)]; exact h.1 q j hq hj1 hj
  · by_cases c : q = m
    · subst c
      rw [upd_out (by omega), upd_in, va_s]; exact ⟨rfl, hv⟩
    · rw [upd_out (by omega), upd_out (by omega), va_n c]; exact h.2 q hq
def stQ (P O : Nat → Nat → Option Nat) (I A : Nat → Nat → Int32) (J : Nat → Nat → Int64) (pl : List Nat) (n sz m : Nat) (al : Nat → Nat) (res : Except (Nat × Nat) (Nat × Nat × (Nat → Nat))) : Option Value → HS → List Nat → Prop := fun rv σ' pl' => pl = pl' ∧ ∃ I' A', σ' = mC P O I' A' J ∧ FrC I I' ∧ (∀ q, q ≠ 133 → A' q = A q) ∧
  match res with
  | .error fp => rv = some (.int 0) ∧ I' 104 7 = nI fp.1 ∧ I' 104 8 = nI fp.2
  | .ok r => rv = some (.int 1) ∧ AtC I' (A 121) n r.1 sz ∧ I' 104 7 = I 104 7 ∧ I' 104 8 = I 104 8 ∧ rdB (A' 133) r.2.2 (va_up al m r.2.1)

theorem r_9_readStack_0 {X : Ctx} (F : Fx X cX9_readStack RX9 3 7 0 0) {Φ : Option Value → HS → List Nat → Prop} (E : Ex X (some .boolean) 0 0 Φ) {P O : Nat → Nat → Option Nat} (hP : laP P) {I A : Nat → Nat → Int32} {J : Nat → Nat → Int64} {pl : List Nat} (hB : inB pl) {x1 : Int32}
    (e_1 : (nuP I (1 : Int32) (25 : Int32)) → WA X (mC P O (nuI I (1 : Int32) (25 : Int32)) A J) pl 0 0 15 [(0, .ref 106), (1, .int x1)] [])
    (e_2 : (¬ (nuP I (1 : Int32) (25 : Int32))) → Φ (some (.int 0)) (mC P O (nuI I (1 : Int32) (25 : Int32)) A J) pl) :
    WA X (mC P O I A J) pl 0 0 0 [(0, .ref 106), (1, .int x1)] [] := by
  refine a_aload_n F 0 dX9_readStack_0 rfl rfl ?_
  refine a_getr (b := 104) F fl_9_29 rfl (hB _ (by decide)) rfl ((hP 106 0 (by decide)).trans rfl) dX9_readStack_1 ?_
  refine a_iconst (v := 1) F dX9_readStack_4 (by decide) ?_
  refine a_bipush (v := 25) F dX9_readStack_5 (by decide) ?_
  refine a_callV (b := 104) (As := [.int 1, .int 25]) (st := []) (ci := 5) F (c_5_isNumber (xl X) hP I A J hB (1 : Int32) (25 : Int32)) ml_9_63 im_yX5_isNumber se_yX5_isNumber (by decide) (by decide) rfl (hB _ (by decide)) rfl rfl dX9_readStack_7 (by decide) (Nat.le_refl 0) (Nat.le_refl 0) (hl_r (hB _ (by decide)) (hl_i hl_nil)) hs_nil ?_
  rintro _ _ _ ⟨rfl, rfl, rfl⟩ _
  show WA X (mC P O (nuI I (1 : Int32) (25 : Int32)) A J) pl 0 0 10 [(0, .ref 106), (1, .int x1)] [.int (@ite Int32 (nuP I (1 : Int32) (25 : Int32)) (Classical.propDecidable _) 1 0)]
  refine a_ite (fun (c_1 : nuP I (1 : Int32) (25 : Int32)) => ?_) (fun (c_1 : ¬ (nuP I (1 : Int32) (25 : Int32))) => ?_)
  · refine a_if_ne (tgt := 15) F dX9_readStack_10 (by decide) (fun (c_2 : ¬ (1 : Int32) = 0) => ?_) (fun (c_2 : (1 : Int32) = 0) => ?_)
    · exact e_1 c_1
    · exact absurd c_2 (by decide)
  · refine a_if_ne (tgt := 15) F dX9_readStack_10 (by decide) (fun (c_3 : ¬ (0 : Int32) = 0) => ?_) (fun (c_3 : (0 : Int32) = 0) => ?_)
    · exact absurd c_3 (by decide)
    · refine a_iconst (v := 0) F dX9_readStack_13 (by decide) ?_
      exact a_zret F E (by decide) dX9_readStack_14 (Nat.le_refl 0) (Nat.le_refl 0) (e_2 c_1)

theorem r_9_readStack_15 {X : Ctx} (F : Fx X cX9_readStack RX9 3 7 0 0) {Φ : Option Value → HS → List Nat → Prop} (E : Ex X (some .boolean) 0 0 Φ) {P O : Nat → Nat → Option Nat} (hP : laP P) {I A : Nat → Nat → Int32} {J : Nat → Nat → Int64} {pl : List Nat} (hB : inB pl) {x1 : Int32}
    (o_1 : vp_in (x1 * 26 + (I 104 6)) 52)
    (e_2 : (((A 133) (x1 * 26 + (I 104 6)).toNatClampNeg) ≤ 0) → WA X (mC P O I A J) pl 0 0 44 [(0, .ref 106), (1, .int x1), (2, .int (I 104 6))] [])
    (e_3 : (¬ (((A 133) (x1 * 26 + (I 104 6)).toNatClampNeg) ≤ 0)) → Φ (some (.int 0)) (mC P O (faI I (3 : Int32)) A J) pl) :
    WA X (mC P O I A J) pl 0 0 15 [(0, .ref 106), (1, .int x1)] [] := by
  refine a_aload_n F 0 dX9_readStack_15 rfl rfl ?_
  refine a_getr (b := 104) F fl_9_29 rfl (hB _ (by decide)) rfl ((hP 106 0 (by decide)).trans rfl) dX9_readStack_16 ?_
  refine a_geti F fl_9_67 rfl (hB _ (by decide)) rfl dX9_readStack_19 ?_
  refine a_istore_n F dX9_readStack_22 rfl (by decide) rfl ?_
  refine a_aload_n F 1 dX9_readStack_23 rfl rfl ?_
  refine a_getr (b := 132) F fl_9_12 rfl (hB _ (by decide)) rfl ((hP 106 1 (by decide)).trans rfl) dX9_readStack_24 ?_
  refine a_iload_n F 2 dX9_readStack_27 rfl rfl ?_
  refine a_iload_n F 0 dX9_readStack_28 rfl rfl ?_
  refine a_callV (b := 132) (As := [.int x1, .int (I 104 6)]) (st := []) (ci := 0) F (c_0_count (xl X) hP I A J hB 132 rfl (hB _ (by decide)) (hB _ (by decide)) x1 (I 104 6) (o_1)) ml_9_71 im_yX0_count se_yX0_count (by decide) (by decide) rfl (hB _ (by decide)) rfl rfl dX9_readStack_29 (by decide) (Nat.le_refl 0) (Nat.le_refl 0) (hl_i (hl_r (hB _ (by decide)) (hl_i hl_nil))) hs_nil ?_
  rintro _ _ _ ⟨rfl, rfl, rfl⟩ _
  show WA X (mC P O I A J) pl 0 0 32 [(2, .int (I 104 6)), (0, .ref 106), (1, .int x1)] [.int ((A 133) (x1 * 26 + (I 104 6)).toNatClampNeg)]
  refine a_if_le (tgt := 44) F dX9_readStack_32 (by decide) (fun (c_4 : ((A 133) (x1 * 26 + (I 104 6)).toNatClampNeg) ≤ 0) => ?_) (fun (c_4 : ¬ (((A 133) (x1 * 26 + (I 104 6)).toNatClampNeg) ≤ 0)) => ?_)
  · refine a_sub [1, 2, 0] rfl ?_
    exact e_2 c_4
  · refine a_aload_n F 1 dX9_readStack_35 rfl rfl ?_
    refine a_getr (b := 104) F fl_9_29 rfl (hB _ (by decide)) rfl ((hP 106 0 (by decide)).trans rfl) dX9_readStack_36 ?_
    refine a_iconst (v := 3) F dX9_readStack_39 (by decide) ?_
    refine a_callV (b := 104) (As := [.int 3]) (st := []) (ci := 5) F (c_5_fail (xl X) hP I A J hB (3 : Int32)) ml_9_75 im_yX5_fail se_yX5_fail (by decide) (by decide) rfl (hB _ (by decide)) rfl rfl dX9_readStack_40 (by decide) (Nat.le_refl 0) (Nat.le_refl 0) (hl_i (hl_r (hB _ (by decide)) (hl_i hl_nil))) hs_nil ?_
    rintro _ _ _ ⟨rfl, rfl, rfl⟩ _
    show WA X (mC P O (faI I (3 : Int32)) A J) pl 0 0 43 [(2, .int (I 104 6)), (0, .ref 106), (1, .int x1)] [.int 0]
    exact a_zret F E (by decide) dX9_readStack_43 (Nat.le_refl 0) (Nat.le_refl 0) (e_3 c_4)

theorem r_9_readStack_44 {X : Ctx} (F : Fx X cX9_readStack RX9 3 7 0 0) {Φ : Option Value → HS → List Nat → Prop} (E : Ex X (some .boolean) 0 0 Φ) {P O : Nat → Nat → Option Nat} (hP : laP P) {I A : Nat → Nat → Int32} {J : Nat → Nat → Int64} {pl : List Nat} (hB : inB pl) {x1 x2 : Int32}
    (e_1 : (¬ x1 = 1) → WA X (mC P O I A J) pl 0 0 79 [(0, .ref 106), (1, .int x1), (2, .int x2)] [])
    (e_2 : (x1 = 1) → (x2 = 25) → WA X (mC P O I A J) pl 0 0 79 [(0, .ref 106), (1, .int x1), (2, .int x2)] [])
    (o_3 : (x1 = 1) → (¬ (x2 = 25)) → vp_in ((0 : Int32) * 26 + (25 - x2)) 52)
    (e_4 : (x1 = 1) → (¬ (x2 = 25)) → (((A 133) ((0 : Int32) * 26 + (25 - x2)).toNatClampNeg) ≤ 0) → WA X (mC P O I A J) pl 0 0 79 [(0, .ref 106), (1, .int x1), (2, .int x2)] [])
    (e_5 : (x1 = 1) → (¬ (x2 = 25)) → (¬ (((A 133) ((0 : Int32) * 26 + (25 - x2)).toNatClampNeg) ≤ 0)) → Φ (some (.int 0)) (mC P O (faI I (5 : Int32)) A J) pl) :
    WA X (mC P O I A J) pl 0 0 44 [(0, .ref 106), (1, .int x1), (2, .int x2)] [] := by
  refine a_iload_n F 1 dX9_readStack_44 rfl rfl ?_
  refine a_iconst (v := 1) F dX9_readStack_45 (by decide) ?_
  refine a_icmp_ne (tgt := 79) F dX9_readStack_46 (by decide) (fun (c_5 : ¬ x1 = 1) => ?_) (fun (c_5 : x1 = 1) => ?_)
  · exact e_1 c_5
  · refine a_iload_n F 2 dX9_readStack_49 rfl rfl ?_
    refine a_bipush (v := 25) F dX9_readStack_50 (by decide) ?_
    refine a_icmp_eq (tgt := 79) F dX9_readStack_52 (by decide) (fun (c_6 : x2 = 25) => ?_) (fun (c_6 : ¬ (x2 = 25)) => ?_)
    · exact e_2 c_5 c_6
    · refine a_aload_n F 0 dX9_readStack_55 rfl rfl ?_
      refine a_getr (b := 132) F fl_9_12 rfl (hB _ (by decide)) rfl ((hP 106 1 (by decide)).trans rfl) dX9_readStack_56 ?_
      refine a_iconst (v := 0) F dX9_readStack_59 (by decide) ?_
      refine a_bipush (v := 25) F dX9_readStack_60 (by decide) ?_
      refine a_iload_n F 2 dX9_readStack_62 rfl rfl ?_
      refine a_isub F dX9_readStack_63 ?_
      refine a_callV (b := 132) (As := [.int 0, .int (25 - x2)]) (st := []) (ci := 0) F (c_0_count (xl X) hP I A J hB 132 rfl (hB _ (by decide)) (hB _ (by decide)) (0 : Int32) (25 - x2) (o_3 c_5 c_6)) ml_9_71 im_yX0_count se_yX0_count (by decide) (by decide) rfl (hB _ (by decide)) rfl rfl dX9_readStack_64 (by decide) (Nat.le_refl 0) (Nat.le_refl 0) (hl_r (hB _ (by decide)) (hl_i (hl_i hl_nil))) hs_nil ?_
      rintro _ _ _ ⟨rfl, rfl, rfl⟩ _
      show WA X (mC P O I A J) pl 0 0 67 [(0, .ref 106), (1, .int x1), (2, .int x2)] [.int ((A 133) ((0 : Int32) * 26 + (25 - x2)).toNatClampNeg)]
      refine a_if_le (tgt := 79) F dX9_readStack_67 (by decide) (fun (c_7 : ((A 133) ((0 : Int32) * 26 + (25 - x2)).toNatClampNeg) ≤ 0) => ?_) (fun (c_7 : ¬ (((A 133) ((0 : Int32) * 26 + (25 - x2)).toNatClampNeg) ≤ 0)) => ?_)
      · exact e_4 c_5 c_6 c_7
      · refine a_aload_n F 0 dX9_readStack_70 rfl rfl ?_
        refine a_getr (b := 104) F fl_9_29 rfl (hB _ (by decide)) rfl ((hP 106 0 (by decide)).trans rfl) dX9_readStack_71 ?_
        refine a_iconst (v := 5) F dX9_readStack_74 (by decide) ?_
        refine a_callV (b := 104) (As := [.int 5]) (st := []) (ci := 5) F (c_5_fail (xl X) hP I A J hB (5 : Int32)) ml_9_75 im_yX5_fail se_yX5_fail (by decide) (by decide) rfl (hB _ (by decide)) rfl rfl dX9_readStack_75 (by decide) (Nat.le_refl 0) (Nat.le_refl 0) (hl_r (hB _ (by decide)) (hl_i (hl_i hl_nil))) hs_nil ?_
        rintro _ _ _ ⟨rfl, rfl, rfl⟩ _
        show WA X (mC P O (faI I (5 : Int32)) A J) pl 0 0 78 [(0, .ref 106), (1, .int x1), (2, .int x2)] [.int 0]
        exact a_zret F E (by decide) dX9_readStack_78 (Nat.le_refl 0) (Nat.le_refl 0) (e_5 c_5 c_6 c_7)

theorem r_9_readStack_79 {X : Ctx} (F : Fx X cX9_readStack RX9 3 7 0 0) {P O : Nat → Nat → Option Nat} (hP : laP P) {I A : Nat → Nat → Int32} {J : Nat → Nat → Int64} {pl : List Nat} (hB : inB pl) {x1 x2 : Int32}
    (o_1 : okRd I)
    (e_2 : WA X (mC P O (rgI I (A 121)) A J) pl 0 0 86 [(0, .ref 106), (1, .int x1), (2, .int x2)] []) :
    WA X (mC P O I A J) pl 0 0 79 [(0, .ref 106), (1, .int x1), (2, .int x2)] [] := by
  refine a_aload_n F 0 dX9_readStack_79 rfl rfl ?_
  refine a_getr (b := 104) F fl_9_29 rfl (hB _ (by decide)) rfl ((hP 106 0 (by decide)).trans rfl) dX9_readStack_80 ?_
  refine a_callV (b := 104) (As := []) (st := []) (ci := 5) F (c_5_readI (xl X) hP I A J hB (o_1)) ml_9_60 im_yX5_read se_yX5_read (by decide) (by decide) rfl (hB _ (by decide)) rfl rfl dX9_readStack_83 (by decide) (Nat.le_refl 0) (Nat.le_refl 0) (hl_r (hB _ (by decide)) (hl_i (hl_i hl_nil))) hs_nil ?_
  rintro _ _ _ ⟨rfl, rfl, rfl⟩ _
  show WA X (mC P O (rgI I (A 121)) A J) pl 0 0 86 [(0, .ref 106), (1, .int x1), (2, .int x2)] []
  exact e_2

theorem r_9_readStack_86 {X : Ctx} (F : Fx X cX9_readStack RX9 3 7 0 0) {Φ : Option Value → HS → List Nat → Prop} (E : Ex X (some .boolean) 0 0 Φ) {P O : Nat → Nat → Option Nat} (hP : laP P) {I A : Nat → Nat → Int32} {J : Nat → Nat → Int64} {pl : List Nat} (hB : inB pl) {x1 x2 : Int32}
    (o_1 : okRd I)
    (e_2 : (sgP I (58 : Int32)) → WA X (mC P O (psI I (A 121) (58 : Int32)) A J) pl 0 0 98 [(0, .ref 106), (1, .int x1), (2, .int x2)] [])
    (e_3 : (¬ (sgP I (58 : Int32))) → Φ (some (.int 0)) (mC P O (psI I (A 121) (58 : Int32)) A J) pl) :
    WA X (mC P O I A J) pl 0 0 86 [(0, .ref 106), (1, .int x1), (2, .int x2)] [] := by
  refine a_aload_n F 0 dX9_readStack_86 rfl rfl ?_
  refine a_getr (b := 104) F fl_9_29 rfl (hB _ (by decide)) rfl ((hP 106 0 (by decide)).trans rfl) dX9_readStack_87 ?_
  refine a_bipush (v := 58) F dX9_readStack_90 (by decide) ?_
  refine a_callV (b := 104) (As := [.int 58]) (st := []) (ci := 5) F (c_5_passSign (xl X) hP I A J hB (58 : Int32) (o_1)) ml_9_46 im_yX5_passSign se_yX5_passSign (by decide) (by decide) rfl (hB _ (by decide)) rfl rfl dX9_readStack_92 (by decide) (Nat.le_refl 0) (Nat.le_refl 0) (hl_r (hB _ (by decide)) (hl_i (hl_i hl_nil))) hs_nil ?_
  rintro _ _ _ ⟨rfl, rfl, rfl⟩ _
  show WA X (mC P O (psI I (A 121) (58 : Int32)) A J) pl 0 0 95 [(0, .ref 106), (1, .int x1), (2, .int x2)] [.int (@ite Int32 (sgP I (58 : Int32)) (Classical.propDecidable _) 1 0)]
  refine a_ite (fun (c_8 : sgP I (58 : Int32)) => ?_) (fun (c_8 : ¬ (sgP I (58 : Int32))) => ?_)
  · refine a_if_eq (tgt := 111) F dX9_readStack_95 (by decide) (fun (c_9 : (1 : Int32) = 0) => ?_) (fun (c_9 : ¬ ((1 : Int32) = 0)) => ?_)
    · exact absurd c_9 (by decide)
    · exact e_2 c_8
  · refine a_if_eq (tgt := 111) F dX9_readStack_95 (by decide) (fun (c_10 : (0 : Int32) = 0) => ?_) (fun (c_10 : ¬ ((0 : Int32) = 0)) => ?_)
    · refine a_iconst (v := 0) F dX9_readStack_111 (by decide) ?_
      exact a_zret F E (by decide) dX9_readStack_112 (Nat.le_refl 0) (Nat.le_refl 0) (e_3 c_8)
    · exact absurd c_10 (by decide)

theorem r_9_readStack_98 {X : Ctx} (F : Fx X cX9_readStack RX9 3 7 0 0) {Φ : Option Value → HS → List Nat → Prop} (E : Ex X (some .boolean) 0 0 Φ) {P O : Nat → Nat → Option Nat} (hP : laP P) {I A : Nat → Nat → Int32} {J : Nat → Nat → Int64} {pl : List Nat} (hB : inB pl) {x1 x2 : Int32}
    (e_1 : (nuP I (1 : Int32) (15 : Int32)) → WA X (mC P O (nuI I (1 : Int32) (15 : Int32)) A J) pl 0 0 113 [(0, .ref 106), (1, .int x1), (2, .int x2)] [])
    (e_2 : (¬ (nuP I (1 : Int32) (15 : Int32))) → Φ (some (.int 0)) (mC P O (nuI I (1 : Int32) (15 : Int32)) A J) pl) :
    WA X (mC P O I A J) pl 0 0 98 [(0, .ref 106), (1, .int x1), (2, .int x2)] [] := by
  refine a_aload_n F 0 dX9_readStack_98 rfl rfl ?_
  refine a_getr (b := 104) F fl_9_29 rfl (hB _ (by decide)) rfl ((hP 106 0 (by decide)).trans rfl) dX9_readStack_99 ?_
  refine a_iconst (v := 1) F dX9_readStack_102 (by decide) ?_
  refine a_bipush (v := 15) F dX9_readStack_103 (by decide) ?_
  refine a_callV (b := 104) (As := [.int 1, .int 15]) (st := []) (ci := 5) F (c_5_isNumber (xl X) hP I A J hB (1 : Int32) (15 : Int32)) ml_9_63 im_yX5_isNumber se_yX5_isNumber (by decide) (by decide) rfl (hB _ (by decide)) rfl rfl dX9_readStack_105 (by decide) (Nat.le_refl 0) (Nat.le_refl 0) (hl_r (hB _ (by decide)) (hl_i (hl_i hl_nil))) hs_nil ?_
  rintro _ _ _ ⟨rfl, rfl, rfl⟩ _
  show WA X (mC P O (nuI I (1 : Int32) (15 : Int32)) A J) pl 0 0 108 [(0, .ref 106), (1, .int x1), (2, .int x2)] [.int (@ite Int32 (nuP I (1 : Int32) (15 : Int32)) (Classical.propDecidable _) 1 0)]
  refine a_ite (fun (c_11 : nuP I (1 : Int32) (15 : Int32)) => ?_) (fun (c_11 : ¬ (nuP I (1 : Int32) (15 : Int32))) => ?_)
  · refine a_if_ne (tgt := 113) F dX9_readStack_108 (by decide) (fun (c_12 : ¬ (1 : Int32) = 0) => ?_) (fun (c_12 : (1 : Int32) = 0) => ?_)
    · exact e_1 c_11
    · exact absurd c_12 (by decide)
  · refine a_if_ne (tgt := 113) F dX9_readStack_108 (by decide) (fun (c_13 : ¬ (0 : Int32) = 0) => ?_) (fun (c_13 : (0 : Int32) = 0) => ?_)
    · exact absurd c_13 (by decide)
    · refine a_iconst (v := 0) F dX9_readStack_111 (by decide) ?_
      exact a_zret F E (by decide) dX9_readStack_112 (Nat.le_refl 0) (Nat.le_refl 0) (e_2 c_11)

theorem r_9_readStack_113 {X : Ctx} (F : Fx X cX9_readStack RX9 3 7 0 0) {Φ : Option Value → HS → List Nat → Prop} (E : Ex X (some .boolean) 0 0 Φ) {P O : Nat → Nat → Option Nat} (hP : laP P) {I A : Nat → Nat → Int32} {J : Nat → Nat → Int64} {pl : List Nat} (hB : inB pl) {x1 x2 : Int32}
    (o_1 : vp_in (x1 * 26 + (0 : Int32)) 52)
    (e_2 : ((I 104 6) ≤ ((A 133) (x1 * 26 + (0 : Int32)).toNatClampNeg)) → WA X (mC P O I A J) pl 0 0 141 [(0, .ref 106), (1, .int x1), (2, .int x2)] [])
    (e_3 : (¬ ((I 104 6) ≤ ((A 133) (x1 * 26 + (0 : Int32)).toNatClampNeg))) → Φ (some (.int 0)) (mC P O (faI I (4 : Int32)) A J) pl) :
    WA X (mC P O I A J) pl 0 0 113 [(0, .ref 106), (1, .int x1), (2, .int x2)] [] := by
  refine a_aload_n F 0 dX9_readStack_113 rfl rfl ?_
  refine a_getr (b := 104) F fl_9_29 rfl (hB _ (by decide)) rfl ((hP 106 0 (by decide)).trans rfl) dX9_readStack_114 ?_
  refine a_geti F fl_9_67 rfl (hB _ (by decide)) rfl dX9_readStack_117 ?_
  refine a_aload_n F 0 dX9_readStack_120 rfl rfl ?_
  refine a_getr (b := 132) F fl_9_12 rfl (hB _ (by decide)) rfl ((hP 106 1 (by decide)).trans rfl) dX9_readStack_121 ?_
  refine a_iload_n F 1 dX9_readStack_124 rfl rfl ?_
  refine a_iconst (v := 0) F dX9_readStack_125 (by decide) ?_
  refine a_callV (b := 132) (As := [.int x1, .int 0]) (st := [.int (I 104 6)]) (ci := 0) F (c_0_count (xl X) hP I A J hB 132 rfl (hB _ (by decide)) (hB _ (by decide)) x1 (0 : Int32) (o_1)) ml_9_71 im_yX0_count se_yX0_count (by decide) (by decide) rfl (hB _ (by decide)) rfl rfl dX9_readStack_126 (Nat.le_of_ble_eq_true rfl) (Nat.le_refl 0) (Nat.le_refl 0) (hl_r (hB _ (by decide)) (hl_i (hl_i hl_nil))) (hs_i hs_nil) ?_
  rintro _ _ _ ⟨rfl, rfl, rfl⟩ _
  show WA X (mC P O I A J) pl 0 0 129 [(0, .ref 106), (1, .int x1), (2, .int x2)] [.int ((A 133) (x1 * 26 + (0 : Int32)).toNatClampNeg), .int (I 104 6)]
  refine a_icmp_le (tgt := 141) F dX9_readStack_129 (by decide) (fun (c_14 : (I 104 6) ≤ ((A 133) (x1 * 26 + (0 : Int32)).toNatClampNeg)) => ?_) (fun (c_14 : ¬ ((I 104 6) ≤ ((A 133) (x1 * 26 + (0 : Int32)).toNatClampNeg))) => ?_)
  · exact e_2 c_14
  · refine a_aload_n F 0 dX9_readStack_132 rfl rfl ?_
    refine a_getr (b := 104) F fl_9_29 rfl (hB _ (by decide)) rfl ((hP 106 0 (by decide)).trans rfl) dX9_readStack_133 ?_
    refine a_iconst (v := 4) F dX9_readStack_136 (by decide) ?_
    refine a_callV (b := 104) (As := [.int 4]) (st := []) (ci := 5) F (c_5_fail (xl X) hP I A J hB (4 : Int32)) ml_9_75 im_yX5_fail se_yX5_fail (by decide) (by decide) rfl (hB _ (by decide)) rfl rfl dX9_readStack_137 (by decide) (Nat.le_refl 0) (Nat.le_refl 0) (hl_r (hB _ (by decide)) (hl_i (hl_i hl_nil))) hs_nil ?_
    rintro _ _ _ ⟨rfl, rfl, rfl⟩ _
    show WA X (mC P O (faI I (4 : Int32)) A J) pl 0 0 140 [(0, .ref 106), (1, .int x1), (2, .int x2)] [.int 0]
    exact a_zret F E (by decide) dX9_readStack_140 (Nat.le_refl 0) (Nat.le_refl 0) (e_3 c_14)

theorem r_9_readStack_141 {X : Ctx} (F : Fx X cX9_readStack RX9 3 7 0 0) {Φ : Option Value → HS → List Nat → Prop} (E : Ex X (some .boolean) 0 0 Φ) {P O : Nat → Nat → Option Nat} (hP : laP P) {I A : Nat → Nat → Int32} {J : Nat → Nat → Int64} {pl : List Nat} (hB : inB pl) {x1 x2 : Int32}
    (o_1 : vp_in (x1 * 26 + 0) 52)
    (o_2 : vp_in (x1 * 26 + x2) 52)
    (o_3 : okRd I)
    (e_4 : Φ (some (.int 1)) (mC P O (rgI I ((up1 A 133 (tfoR (A 133) x1 x2 (I 104 6))) 121)) (up1 A 133 (tfoR (A 133) x1 x2 (I 104 6))) J) pl) :
    WA X (mC P O I A J) pl 0 0 141 [(0, .ref 106), (1, .int x1), (2, .int x2)] [] := by
  refine a_aload_n F 0 dX9_readStack_141 rfl rfl ?_
  refine a_getr (b := 132) F fl_9_12 rfl (hB _ (by decide)) rfl ((hP 106 1 (by decide)).trans rfl) dX9_readStack_142 ?_
  refine a_iload_n F 1 dX9_readStack_145 rfl rfl ?_
  refine a_iload_n F 2 dX9_readStack_146 rfl rfl ?_
  refine a_aload_n F 0 dX9_readStack_147 rfl rfl ?_
  refine a_getr (b := 104) F fl_9_29 rfl (hB _ (by decide)) rfl ((hP 106 0 (by decide)).trans rfl) dX9_readStack_148 ?_
  refine a_geti F fl_9_67 rfl (hB _ (by decide)) rfl dX9_readStack_151 ?_
  refine a_callV (b := 132) (As := [.int x1, .int x2, .int (I 104 6)]) (st := []) (ci := 0) F (c_0_takeFromOff (xl X) hP I A J hB 132 rfl (hB _ (by decide)) (hB _ (by decide)) x1 x2 (I 104 6) (o_1) (o_2)) ml_9_78 im_yX0_takeFromOff se_yX0_takeFromOff (by decide) (by decide) rfl (hB _ (by decide)) rfl rfl dX9_readStack_154 (by decide) (Nat.le_refl 0) (Nat.le_refl 0) (hl_r (hB _ (by decide)) (hl_i (hl_i hl_nil))) hs_nil ?_
  rintro _ _ _ ⟨rfl, rfl, rfl⟩ _
  show WA X (mC P O I (up1 A 133 (tfoR (A 133) x1 x2 (I 104 6))) J) pl 0 0 157 [(0, .ref 106), (1, .int x1), (2, .int x2)] []
  refine a_aload_n F 0 dX9_readStack_157 rfl rfl ?_
  refine a_getr (b := 104) F fl_9_29 rfl (hB _ (by decide)) rfl ((hP 106 0 (by decide)).trans rfl) dX9_readStack_158 ?_
  refine a_callV (b := 104) (As := []) (st := []) (ci := 5) F (c_5_readI (xl X) hP I (up1 A 133 (tfoR (A 133) x1 x2 (I 104 6))) J hB (o_3)) ml_9_60 im_yX5_read se_yX5_read (by decide) (by decide) rfl (hB _ (by decide)) rfl rfl dX9_readStack_161 (by decide) (Nat.le_refl 0) (Nat.le_refl 0) (hl_r (hB _ (by decide)) (hl_i (hl_i hl_nil))) hs_nil ?_
  rintro _ _ _ ⟨rfl, rfl, rfl⟩ _
  show WA X (mC P O (rgI I ((up1 A 133 (tfoR (A 133) x1 x2 (I 104 6))) 121)) (up1 A 133 (tfoR (A 133) x1 x2 (I 104 6))) J) pl 0 0 164 [(0, .ref 106), (1, .int x1), (2, .int x2)] []
  refine a_iconst (v := 1) F dX9_readStack_164 (by decide) ?_
  exact a_zret F E (by decide) dX9_readStack_165 (Nat.le_refl 0) (Nat.le_refl 0) (e_4)

