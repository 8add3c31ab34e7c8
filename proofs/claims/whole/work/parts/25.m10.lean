/-! TOKENS -/
def tokI (I : Nat → Nat → Int32) (nx so va pl : Int32) : Nat → Nat → Int32 := up2 (up2 (up2 (up2 I 0 37 nx) 0 38 so) 0 39 va) 0 40 pl
theorem tok_self (I : Nat → Nat → Int32) : tokI I (I 0 37) (I 0 38) (I 0 39) (I 0 40) = I := by
  funext q k; by_cases hq : q = 0 <;> by_cases h1 : k = 37 <;> by_cases h2 : k = 38 <;> by_cases h3 : k = 39 <;> by_cases h4 : k = 40 <;> simp_all [tokI, up2, va_up]
theorem tok37 (I : Nat → Nat → Int32) (a b c d w : Int32) : up2 (tokI I a b c d) 0 37 w = tokI I w b c d := by
  funext q k; by_cases hq : q = 0 <;> by_cases h1 : k = 37 <;> by_cases h2 : k = 38 <;> by_cases h3 : k = 39 <;> by_cases h4 : k = 40 <;> simp_all [tokI, up2, va_up]
theorem tok38 (I : Nat → Nat → Int32) (a b c d w : Int32) : up2 (tokI I a b c d) 0 38 w = tokI I a w c d := by
  funext q k; by_cases hq : q = 0 <;> by_cases h1 : k = 37 <;> by_cases h2 : k = 38 <;> by_cases h3 : k = 39 <;> by_cases h4 : k = 40 <;> simp_all [tokI, up2, va_up]
theorem tok39 (I : Nat → Nat → Int32) (a b c d w : Int32) : up2 (tokI I a b c d) 0 39 w = tokI I a b w d := by
  funext q k; by_cases hq : q = 0 <;> by_cases h1 : k = 37 <;> by_cases h2 : k = 38 <;> by_cases h3 : k = 39 <;> by_cases h4 : k = 40 <;> simp_all [tokI, up2, va_up]
theorem tok40 (I : Nat → Nat → Int32) (a b c d w : Int32) : up2 (tokI I a b c d) 0 40 w = tokI I a b c w := by
  funext q k; by_cases hq : q = 0 <;> by_cases h1 : k = 37 <;> by_cases h2 : k = 38 <;> by_cases h3 : k = 39 <;> by_cases h4 : k = 40 <;> simp_all [tokI, up2, va_up]
def bDg (x : Int32) : Bool := decide (48 ≤ x) && decide (x ≤ 57)
def bLt (x : Int32) : Bool := decide (97 ≤ x) && decide (x ≤ 122)
def bSg (x : Int32) : Bool := decide (33 ≤ x) && decide (x ≤ 126)
def bBl (x : Int32) : Bool := decide (x = 32) || decide (x = 10)
def runT (P : Int32 → Bool) (T : Nat → Int32) : Nat → Nat → Nat
  | 0, i => i
  | f + 1, i => if P (T i) = true then runT P T f (i + 1) else i
/-- from i on, the end of the run of bytes with P -/
def endT (P : Int32 → Bool) (T : Nat → Int32) (n i : Nat) : Nat := runT P T (n - i) i
theorem endT_n {P : Int32 → Bool} {T : Nat → Int32} {n i : Nat} (h : n ≤ i) : endT P T n i = i := by
  unfold endT; rw [show n - i = 0 by omega]; rfl
theorem endT_t {P : Int32 → Bool} {T : Nat → Int32} {n i : Nat} (h : i < n) (hp : P (T i) = true) : endT P T n i = endT P T n (i + 1) := by
  unfold endT; rw [show n - i = (n - (i + 1)) + 1 by omega]; simp [runT, hp]
theorem endT_f {P : Int32 → Bool} {T : Nat → Int32} {n i : Nat} (h : i < n) (hp : ¬ P (T i) = true) : endT P T n i = i := by
  unfold endT; rw [show n - i = (n - (i + 1)) + 1 by omega]; simp [runT, hp]
theorem endT_b {P : Int32 → Bool} {T : Nat → Int32} {n : Nat} : ∀ (f i : Nat), n - i ≤ f → i ≤ n → i ≤ endT P T n i ∧ endT P T n i ≤ n := by
  intro f
  induction f with
  | zero => intro i h1 h2; rw [endT_n (by omega)]; omega
  | succ f ih =>
    intro i h1 h2
    rcases Nat.lt_or_ge i n with h | h
    · by_cases hp : P (T i) = true
      · rw [endT_t h hp]; have := ih (i + 1) (by omega) (by omega); omega
      · rw [endT_f h hp]; omega
    · rw [endT_n h]; omega
def valT (T : Nat → Int32) (p : Nat) : Nat → Nat → Int32 → Int32
  | 0, _, v => v
  | f + 1, i, v => if bDg (T i) = true then valT T p f (i + 1) (if 2 ≤ i - p then 100 else 10 * v + T i - 48) else v
def wrdT (T : Nat → Int32) (p : Nat) : Nat → Nat → Int32 → Int32
  | 0, _, v => v
  | f + 1, i, v => if bLt (T i) = true then wrdT T p f (i + 1) (if 3 ≤ i - p then 0 else 256 * v + T i) else v
def tkS (T : Nat → Int32) (n p : Nat) : Int32 := if n ≤ p then 0 else if bDg (T p) = true then 2 else if bLt (T p) = true then 3 else if bSg (T p) = true then 4 else 1
def tkE (T : Nat → Int32) (n p : Nat) : Nat := if n ≤ p then p + 1 else if bDg (T p) = true then endT bDg T n p else if bLt (T p) = true then endT bLt T n p else p + 1
def wrdC (v : Int32) : Int32 := if v = 6447474 then 1 else if v = 7300710 then 2 else 0
def tkV (T : Nat → Int32) (n p : Nat) : Int32 := if n ≤ p then 0 else if bDg (T p) = true then valT T p (n - p) p 0 else if bLt (T p) = true then wrdC (wrdT T p (n - p) p 0) else T p
def goI (I : Nat → Nat → Int32) (T : Nat → Int32) (n i : Nat) : Nat → Nat → Int32 := tokI I (nI (tkE T n (endT bBl T n i))) (tkS T n (endT bBl T n i)) (tkV T n (endT bBl T n i)) (nI (endT bBl T n i))
theorem dg_iff {x : Int32} : bDg x = true ↔ 48 ≤ x ∧ x ≤ 57 := by simp [bDg]
theorem lt_iff {x : Int32} : bLt x = true ↔ 97 ≤ x ∧ x ≤ 122 := by simp [bLt]
theorem sg_iff {x : Int32} : bSg x = true ↔ 33 ≤ x ∧ x ≤ 126 := by simp [bSg]
theorem bl_iff {x : Int32} : bBl x = true ↔ x = 32 ∨ x = 10 := by simp [bBl]

theorem r_12_go_0 {X : Ctx} (F : Fx X cX12_go RX12 2 2 0 0) {I A : Nat → Nat → Int32} {J : Nat → Nat → Int64}
    (e_1 : ((I 0 36) ≤ (I 0 37)) → WA X (mS I A J) plM 0 0 52 [(0, .ref 0)] [])
    (o_2 : (¬ ((I 0 36) ≤ (I 0 37))) → vp_in (I 0 37) 400)
    (e_3 : (¬ ((I 0 36) ≤ (I 0 37))) → ((A 34 (I 0 37).toNatClampNeg) = 32) → WA X (mS (up2 I 0 37 ((I 0 37) + 1)) A J) plM 0 0 0 [(0, .ref 0)] [])
    (o_4 : (¬ ((I 0 36) ≤ (I 0 37))) → (¬ ((A 34 (I 0 37).toNatClampNeg) = 32)) → vp_in (I 0 37) 400)
    (e_5 : (¬ ((I 0 36) ≤ (I 0 37))) → (¬ ((A 34 (I 0 37).toNatClampNeg) = 32)) → (¬ (A 34 (I 0 37).toNatClampNeg) = 10) → WA X (mS I A J) plM 0 0 52 [(0, .ref 0)] [])
    (e_6 : (¬ ((I 0 36) ≤ (I 0 37))) → (¬ ((A 34 (I 0 37).toNatClampNeg) = 32)) → ((A 34 (I 0 37).toNatClampNeg) = 10) → WA X (mS (up2 I 0 37 ((I 0 37) + 1)) A J) plM 0 0 0 [(0, .ref 0)] []) :
    WA X (mS I A J) plM 0 0 0 [(0, .ref 0)] [] := by
  refine a_aload_n F 0 dX12_go_0 rfl rfl ?_
  refine a_geti F fl_12_287 rfl (by decide) rfl dX12_go_1 ?_
  refine a_aload_n F 0 dX12_go_4 rfl rfl ?_
  refine a_geti F fl_12_290 rfl (by decide) rfl dX12_go_5 ?_
  refine a_icmp_ge (tgt := 52) F dX12_go_8 (by decide) (fun (c_1 : (I 0 36) ≤ (I 0 37)) => ?_) (fun (c_1 : ¬ ((I 0 36) ≤ (I 0 37))) => ?_)
  · exact e_1 c_1
  · refine a_aload_n F 0 dX12_go_11 rfl rfl ?_
    refine a_getr (b := 34) F fl_12_57 rfl (by decide) rfl rfl dX12_go_12 ?_
    refine a_aload_n F 0 dX12_go_15 rfl rfl ?_
    refine a_geti F fl_12_287 rfl (by decide) rfl dX12_go_16 ?_
    refine a_iald F (by decide) rfl (o_2 c_1) dX12_go_19 ?_
    refine a_bipush (v := 32) F dX12_go_20 (by decide) ?_
    refine a_icmp_eq (tgt := 39) F dX12_go_22 (by decide) (fun (c_2 : (A 34 (I 0 37).toNatClampNeg) = 32) => ?_) (fun (c_2 : ¬ ((A 34 (I 0 37).toNatClampNeg) = 32)) => ?_)
    · refine a_aload_n F 0 dX12_go_39 rfl rfl ?_
      refine a_dup F dX12_go_40 rfl ?_
      refine a_geti F fl_12_287 rfl (by decide) rfl dX12_go_41 ?_
      refine a_iconst (v := 1) F dX12_go_44 (by decide) ?_
      refine a_iadd F dX12_go_45 ?_
      refine a_puti F fl_12_287 rfl rfl rfl rfl (by decide) rfl dX12_go_46 ?_
      refine a_goto (tgt := 0) F dX12_go_49 (by decide) ?_
      exact e_3 c_1 c_2
    · refine a_aload_n F 0 dX12_go_25 rfl rfl ?_
      refine a_getr (b := 34) F fl_12_57 rfl (by decide) rfl rfl dX12_go_26 ?_
      refine a_aload_n F 0 dX12_go_29 rfl rfl ?_
      refine a_geti F fl_12_287 rfl (by decide) rfl dX12_go_30 ?_
      refine a_iald F (by decide) rfl (o_4 c_1 c_2) dX12_go_33 ?_
      refine a_bipush (v := 10) F dX12_go_34 (by decide) ?_
      refine a_icmp_ne (tgt := 52) F dX12_go_36 (by decide) (fun (c_3 : ¬ (A 34 (I 0 37).toNatClampNeg) = 10) => ?_) (fun (c_3 : (A 34 (I 0 37).toNatClampNeg) = 10) => ?_)
      · exact e_5 c_1 c_2 c_3
      · refine a_aload_n F 0 dX12_go_39 rfl rfl ?_
        refine a_dup F dX12_go_40 rfl ?_
        refine a_geti F fl_12_287 rfl (by decide) rfl dX12_go_41 ?_
        refine a_iconst (v := 1) F dX12_go_44 (by decide) ?_
        refine a_iadd F dX12_go_45 ?_
        refine a_puti F fl_12_287 rfl rfl rfl rfl (by decide) rfl dX12_go_46 ?_
        refine a_goto (tgt := 0) F dX12_go_49 (by decide) ?_
        exact e_6 c_1 c_2 c_3

theorem r_12_go_52 {X : Ctx} (F : Fx X cX12_go RX12 2 2 0 0) {Φ : Option Value → HS → List Nat → Prop} (E : Ex X none 0 0 Φ) {I A : Nat → Nat → Int32} {J : Nat → Nat → Int64}
    (o_1 : (¬ ((I 0 36) ≤ (I 0 37))) → vp_in (I 0 37) 400)
    (o_2 : ((I 0 37) < (I 0 36)) → 0 ≤ (I 0 37) ∧ (I 0 36) ≤ 400)
    (e_3 : ((I 0 37) < (I 0 36)) → ((I 0 37) < (I 0 36) ∧ (48 : Int32) ≤ (A 34) (I 0 37).toNatClampNeg ∧ (A 34) (I 0 37).toNatClampNeg ≤ (57 : Int32)) → WA X (mS (up2 (up2 (up2 (up2 I 0 40 (I 0 37)) 0 39 (if (I 0 36) ≤ (I 0 37) then 0 else (A 34 (I 0 37).toNatClampNeg))) 0 38 2) 0 39 0) A J) plM 0 0 166 [(0, .ref 0)] [])
    (o_4 : ((I 0 37) < (I 0 36)) → (¬ ((I 0 37) < (I 0 36) ∧ (48 : Int32) ≤ (A 34) (I 0 37).toNatClampNeg ∧ (A 34) (I 0 37).toNatClampNeg ≤ (57 : Int32))) → 0 ≤ (I 0 37) ∧ (I 0 36) ≤ 400)
    (e_5 : ((I 0 37) < (I 0 36)) → (¬ ((I 0 37) < (I 0 36) ∧ (48 : Int32) ≤ (A 34) (I 0 37).toNatClampNeg ∧ (A 34) (I 0 37).toNatClampNeg ≤ (57 : Int32))) → ((I 0 37) < (I 0 36) ∧ (97 : Int32) ≤ (A 34) (I 0 37).toNatClampNeg ∧ (A 34) (I 0 37).toNatClampNeg ≤ (122 : Int32)) → WA X (mS (up2 (up2 (up2 I 0 40 (I 0 37)) 0 39 (if (I 0 36) ≤ (I 0 37) then 0 else (A 34 (I 0 37).toNatClampNeg))) 0 38 3) A J) plM 0 0 242 [(0, .ref 0), (1, .int 0)] [])
    (o_6 : ((I 0 37) < (I 0 36)) → (¬ ((I 0 37) < (I 0 36) ∧ (48 : Int32) ≤ (A 34) (I 0 37).toNatClampNeg ∧ (A 34) (I 0 37).toNatClampNeg ≤ (57 : Int32))) → (¬ ((I 0 37) < (I 0 36) ∧ (97 : Int32) ≤ (A 34) (I 0 37).toNatClampNeg ∧ (A 34) (I 0 37).toNatClampNeg ≤ (122 : Int32))) → 0 ≤ (I 0 37) ∧ (I 0 36) ≤ 400)
    (e_7 : ((I 0 37) < (I 0 36)) → (¬ ((I 0 37) < (I 0 36) ∧ (48 : Int32) ≤ (A 34) (I 0 37).toNatClampNeg ∧ (A 34) (I 0 37).toNatClampNeg ≤ (57 : Int32))) → (¬ ((I 0 37) < (I 0 36) ∧ (97 : Int32) ≤ (A 34) (I 0 37).toNatClampNeg ∧ (A 34) (I 0 37).toNatClampNeg ≤ (122 : Int32))) → ((I 0 37) < (I 0 36) ∧ (33 : Int32) ≤ (A 34) (I 0 37).toNatClampNeg ∧ (A 34) (I 0 37).toNatClampNeg ≤ (126 : Int32)) → Φ none (mS (up2 (up2 (up2 (up2 I 0 40 (I 0 37)) 0 39 (if (I 0 36) ≤ (I 0 37) then 0 else (A 34 (I 0 37).toNatClampNeg))) 0 38 4) 0 37 ((I 0 37) + 1)) A J) plM)
    (e_8 : ((I 0 37) < (I 0 36)) → (¬ ((I 0 37) < (I 0 36) ∧ (48 : Int32) ≤ (A 34) (I 0 37).toNatClampNeg ∧ (A 34) (I 0 37).toNatClampNeg ≤ (57 : Int32))) → (¬ ((I 0 37) < (I 0 36) ∧ (97 : Int32) ≤ (A 34) (I 0 37).toNatClampNeg ∧ (A 34) (I 0 37).toNatClampNeg ≤ (122 : Int32))) → (¬ ((I 0 37) < (I 0 36) ∧ (33 : Int32) ≤ (A 34) (I 0 37).toNatClampNeg ∧ (A 34) (I 0 37).toNatClampNeg ≤ (126 : Int32))) → Φ none (mS (up2 (up2 (up2 (up2 I 0 40 (I 0 37)) 0 39 (if (I 0 36) ≤ (I 0 37) then 0 else (A 34 (I 0 37).toNatClampNeg))) 0 38 1) 0 37 ((I 0 37) + 1)) A J) plM)
    (e_9 : (¬ ((I 0 37) < (I 0 36))) → Φ none (mS (up2 (up2 (up2 (up2 I 0 40 (I 0 37)) 0 39 (if (I 0 36) ≤ (I 0 37) then 0 else (A 34 (I 0 37).toNatClampNeg))) 0 38 0) 0 37 ((I 0 37) + 1)) A J) plM) :
    WA X (mS I A J) plM 0 0 52 [(0, .ref 0)] [] := by
  refine a_aload_n F 0 dX12_go_52 rfl rfl ?_
  refine a_aload_n F 0 dX12_go_53 rfl rfl ?_
  refine a_geti F fl_12_287 rfl (by decide) rfl dX12_go_54 ?_
  refine a_puti F fl_12_293 rfl rfl rfl rfl (by decide) rfl dX12_go_57 ?_
  refine a_aload_n F 0 dX12_go_60 rfl rfl ?_
  refine a_aload_n F 0 dX12_go_61 rfl rfl ?_
  refine a_geti F fl_12_287 rfl (by decide) rfl dX12_go_62 ?_
  refine a_aload_n F 0 dX12_go_65 rfl rfl ?_
  refine a_geti F fl_12_290 rfl (by decide) rfl dX12_go_66 ?_
  suffices k : ∀ z9 : Int32, z9 = (if (I 0 36) ≤ (I 0 37) then 0 else (A 34 (I 0 37).toNatClampNeg)) → WA X (mS (up2 I 0 40 (I 0 37)) A J) plM 0 0 85 [(0, .ref 0)] [.int z9, .ref 0] by
    refine a_icmp_ge (tgt := 84) F dX12_go_69 (by decide) (fun (c_4 : (I 0 36) ≤ (I 0 37)) => ?_) (fun (c_4 : ¬ ((I 0 36) ≤ (I 0 37))) => ?_)
    · refine a_iconst (v := 0) F dX12_go_84 (by decide) ?_
      exact k _ (by rw [if_pos c_4] <;> rfl)
    · refine a_aload_n F 0 dX12_go_72 rfl rfl ?_
      refine a_getr (b := 34) F fl_12_57 rfl (by decide) rfl rfl dX12_go_73 ?_
      refine a_aload_n F 0 dX12_go_76 rfl rfl ?_
      refine a_geti F fl_12_287 rfl (by decide) rfl dX12_go_77 ?_
      refine a_iald F (by decide) rfl (o_1 c_4) dX12_go_80 ?_
      refine a_goto (tgt := 85) F dX12_go_81 (by decide) ?_
      exact k _ (by rw [if_neg c_4] <;> rfl)
  rintro _ rfl
  refine a_puti F fl_12_296 rfl rfl rfl rfl (by decide) rfl dX12_go_85 ?_
  refine a_aload_n F 0 dX12_go_88 rfl rfl ?_
  refine a_aload_n F 0 dX12_go_89 rfl rfl ?_
  refine a_geti F fl_12_287 rfl (by decide) rfl dX12_go_90 ?_
  refine a_aload_n F 0 dX12_go_93 rfl rfl ?_
  refine a_geti F fl_12_290 rfl (by decide) rfl dX12_go_94 ?_
  refine a_icmp_lt (tgt := 104) F dX12_go_97 (by decide) (fun (c_5 : (I 0 37) < (I 0 36)) => ?_) (fun (c_5 : ¬ ((I 0 37) < (I 0 36))) => ?_)
  · refine a_aload_n F 0 dX12_go_104 rfl rfl ?_
    refine a_bipush (v := 48) F dX12_go_105 (by decide) ?_
    refine a_bipush (v := 57) F dX12_go_107 (by decide) ?_
    refine a_callV (b := 0) (As := [.int 48, .int 57]) (st := [.ref 0]) (ci := 12) F (c_isByte (xl X) (up2 (up2 I 0 40 (I 0 37)) 0 39 (if (I 0 36) ≤ (I 0 37) then 0 else (A 34 (I 0 37).toNatClampNeg))) A J 48 57 (o_2 c_5)) ml_12_299 im_yX12_isByte se_yX12_isByte (by decide) (by decide) rfl (by decide) rfl rfl dX12_go_109 (Nat.le_of_ble_eq_true rfl) (Nat.le_refl 0) (Nat.le_refl 0) (hl_r (by decide) hl_nil) (hs_r (by decide) hs_nil) ?_
    rintro _ _ _ ⟨rfl, rfl, rfl⟩ _
    show WA X (mS (up2 (up2 I 0 40 (I 0 37)) 0 39 (if (I 0 36) ≤ (I 0 37) then 0 else (A 34 (I 0 37).toNatClampNeg))) A J) plM 0 0 112 [(0, .ref 0)] [.int (if (I 0 37) < (I 0 36) ∧ (48 : Int32) ≤ (A 34) (I 0 37).toNatClampNeg ∧ (A 34) (I 0 37).toNatClampNeg ≤ (57 : Int32) then 1 else 0), .ref 0]
    refine a_ite (fun (c_6 : (I 0 37) < (I 0 36) ∧ (48 : Int32) ≤ (A 34) (I 0 37).toNatClampNeg ∧ (A 34) (I 0 37).toNatClampNeg ≤ (57 : Int32)) => ?_) (fun (c_6 : ¬ ((I 0 37) < (I 0 36) ∧ (48 : Int32) ≤ (A 34) (I 0 37).toNatClampNeg ∧ (A 34) (I 0 37).toNatClampNeg ≤ (57 : Int32))) => ?_)
    · refine a_if_eq (tgt := 119) F dX12_go_112 (by decide) (fun (c_7 : (1 : Int32) = 0) => ?_) (fun (c_7 : ¬ ((1 : Int32) = 0)) => ?_)
      · exact absurd c_7 (by decide)
      · refine a_iconst (v := 2) F dX12_go_115 (by decide) ?_
        refine a_goto (tgt := 150) F dX12_go_116 (by decide) ?_
        refine a_puti F fl_12_302 rfl rfl rfl rfl (by decide) rfl dX12_go_150 ?_
        refine a_aload_n F 0 dX12_go_153 rfl rfl ?_
        refine a_geti F fl_12_302 rfl (by decide) rfl dX12_go_154 ?_
        refine a_iconst (v := 2) F dX12_go_157 (by decide) ?_
        refine a_icmp_ne (tgt := 232) F dX12_go_158 (by decide) (fun (c_8 : ¬ (2 : Int32) = 2) => ?_) (fun (c_8 : (2 : Int32) = 2) => ?_)
        · exact absurd c_8 (by decide)
        · refine a_aload_n F 0 dX12_go_161 rfl rfl ?_
          refine a_iconst (v := 0) F dX12_go_162 (by decide) ?_
          refine a_puti F fl_12_296 rfl rfl rfl rfl (by decide) rfl dX12_go_163 ?_
          exact e_3 c_5 c_6
    · refine a_if_eq (tgt := 119) F dX12_go_112 (by decide) (fun (c_9 : (0 : Int32) = 0) => ?_) (fun (c_9 : ¬ ((0 : Int32) = 0)) => ?_)
      · refine a_aload_n F 0 dX12_go_119 rfl rfl ?_
        refine a_bipush (v := 97) F dX12_go_120 (by decide) ?_
        refine a_bipush (v := 122) F dX12_go_122 (by decide) ?_
        refine a_callV (b := 0) (As := [.int 97, .int 122]) (st := [.ref 0]) (ci := 12) F (c_isByte (xl X) (up2 (up2 I 0 40 (I 0 37)) 0 39 (if (I 0 36) ≤ (I 0 37) then 0 else (A 34 (I 0 37).toNatClampNeg))) A J 97 122 (o_4 c_5 c_6)) ml_12_299 im_yX12_isByte se_yX12_isByte (by decide) (by decide) rfl (by decide) rfl rfl dX12_go_124 (Nat.le_of_ble_eq_true rfl) (Nat.le_refl 0) (Nat.le_refl 0) (hl_r (by decide) hl_nil) (hs_r (by decide) hs_nil) ?_
        rintro _ _ _ ⟨rfl, rfl, rfl⟩ _
        show WA X (mS (up2 (up2 I 0 40 (I 0 37)) 0 39 (if (I 0 36) ≤ (I 0 37) then 0 else (A 34 (I 0 37).toNatClampNeg))) A J) plM 0 0 127 [(0, .ref 0)] [.int (if (I 0 37) < (I 0 36) ∧ (97 : Int32) ≤ (A 34) (I 0 37).toNatClampNeg ∧ (A 34) (I 0 37).toNatClampNeg ≤ (122 : Int32) then 1 else 0), .ref 0]
        refine a_ite (fun (c_10 : (I 0 37) < (I 0 36) ∧ (97 : Int32) ≤ (A 34) (I 0 37).toNatClampNeg ∧ (A 34) (I 0 37).toNatClampNeg ≤ (122 : Int32)) => ?_) (fun (c_10 : ¬ ((I 0 37) < (I 0 36) ∧ (97 : Int32) ≤ (A 34) (I 0 37).toNatClampNeg ∧ (A 34) (I 0 37).toNatClampNeg ≤ (122 : Int32))) => ?_)
        · refine a_if_eq (tgt := 134) F dX12_go_127 (by decide) (fun (c_11 : (1 : Int32) = 0) => ?_) (fun (c_11 : ¬ ((1 : Int32) = 0)) => ?_)
          · exact absurd c_11 (by decide)
          · refine a_iconst (v := 3) F dX12_go_130 (by decide) ?_
            refine a_goto (tgt := 150) F dX12_go_131 (by decide) ?_
            refine a_puti F fl_12_302 rfl rfl rfl rfl (by decide) rfl dX12_go_150 ?_
            refine a_aload_n F 0 dX12_go_153 rfl rfl ?_
            refine a_geti F fl_12_302 rfl (by decide) rfl dX12_go_154 ?_
            refine a_iconst (v := 2) F dX12_go_157 (by decide) ?_
            refine a_icmp_ne (tgt := 232) F dX12_go_158 (by decide) (fun (c_12 : ¬ (3 : Int32) = 2) => ?_) (fun (c_12 : (3 : Int32) = 2) => ?_)
            · refine a_aload_n F 0 dX12_go_232 rfl rfl ?_
              refine a_geti F fl_12_302 rfl (by decide) rfl dX12_go_233 ?_
              refine a_iconst (v := 3) F dX12_go_236 (by decide) ?_
              refine a_icmp_ne (tgt := 329) F dX12_go_237 (by decide) (fun (c_13 : ¬ (3 : Int32) = 3) => ?_) (fun (c_13 : (3 : Int32) = 3) => ?_)
              · exact absurd c_13 (by decide)
              · refine a_iconst (v := 0) F dX12_go_240 (by decide) ?_
                refine a_istore_n F dX12_go_241 rfl (by decide) rfl ?_
                refine a_sub [1, 0] rfl ?_
                exact e_5 c_5 c_6 c_10
            · exact absurd c_12 (by decide)
        · refine a_if_eq (tgt := 134) F dX12_go_127 (by decide) (fun (c_14 : (0 : Int32) = 0) => ?_) (fun (c_14 : ¬ ((0 : Int32) = 0)) => ?_)
          · refine a_aload_n F 0 dX12_go_134 rfl rfl ?_
            refine a_bipush (v := 33) F dX12_go_135 (by decide) ?_
            refine a_bipush (v := 126) F dX12_go_137 (by decide) ?_
            refine a_callV (b := 0) (As := [.int 33, .int 126]) (st := [.ref 0]) (ci := 12) F (c_isByte (xl X) (up2 (up2 I 0 40 (I 0 37)) 0 39 (if (I 0 36) ≤ (I 0 37) then 0 else (A 34 (I 0 37).toNatClampNeg))) A J 33 126 (o_6 c_5 c_6 c_10)) ml_12_299 im_yX12_isByte se_yX12_isByte (by decide) (by decide) rfl (by decide) rfl rfl dX12_go_139 (Nat.le_of_ble_eq_true rfl) (Nat.le_refl 0) (Nat.le_refl 0) (hl_r (by decide) hl_nil) (hs_r (by decide) hs_nil) ?_
            rintro _ _ _ ⟨rfl, rfl, rfl⟩ _
            show WA X (mS (up2 (up2 I 0 40 (I 0 37)) 0 39 (if (I 0 36) ≤ (I 0 37) then 0 else (A 34 (I 0 37).toNatClampNeg))) A J) plM 0 0 142 [(0, .ref 0)] [.int (if (I 0 37) < (I 0 36) ∧ (33 : Int32) ≤ (A 34) (I 0 37).toNatClampNeg ∧ (A 34) (I 0 37).toNatClampNeg ≤ (126 : Int32) then 1 else 0), .ref 0]
            refine a_ite (fun (c_15 : (I 0 37) < (I 0 36) ∧ (33 : Int32) ≤ (A 34) (I 0 37).toNatClampNeg ∧ (A 34) (I 0 37).toNatClampNeg ≤ (126 : Int32)) => ?_) (fun (c_15 : ¬ ((I 0 37) < (I 0 36) ∧ (33 : Int32) ≤ (A 34) (I 0 37).toNatClampNeg ∧ (A 34) (I 0 37).toNatClampNeg ≤ (126 : Int32))) => ?_)
            · refine a_if_eq (tgt := 149) F dX12_go_142 (by decide) (fun (c_16 : (1 : Int32) = 0) => ?_) (fun (c_16 : ¬ ((1 : Int32) = 0)) => ?_)
              · exact absurd c_16 (by decide)
              · refine a_iconst (v := 4) F dX12_go_145 (by decide) ?_
                refine a_goto (tgt := 150) F dX12_go_146 (by decide) ?_
                refine a_puti F fl_12_302 rfl rfl rfl rfl (by decide) rfl dX12_go_150 ?_
                refine a_aload_n F 0 dX12_go_153 rfl rfl ?_
                refine a_geti F fl_12_302 rfl (by decide) rfl dX12_go_154 ?_
                refine a_iconst (v := 2) F dX12_go_157 (by decide) ?_
                refine a_icmp_ne (tgt := 232) F dX12_go_158 (by decide) (fun (c_17 : ¬ (4 : Int32) = 2) => ?_) (fun (c_17 : (4 : Int32) = 2) => ?_)
                · refine a_aload_n F 0 dX12_go_232 rfl rfl ?_
                  refine a_geti F fl_12_302 rfl (by decide) rfl dX12_go_233 ?_
                  refine a_iconst (v := 3) F dX12_go_236 (by decide) ?_
                  refine a_icmp_ne (tgt := 329) F dX12_go_237 (by decide) (fun (c_18 : ¬ (4 : Int32) = 3) => ?_) (fun (c_18 : (4 : Int32) = 3) => ?_)
                  · refine a_aload_n F 0 dX12_go_329 rfl rfl ?_
                    refine a_dup F dX12_go_330 rfl ?_
                    refine a_geti F fl_12_287 rfl (by decide) rfl dX12_go_331 ?_
                    refine a_iconst (v := 1) F dX12_go_334 (by decide) ?_
                    refine a_iadd F dX12_go_335 ?_
                    refine a_puti F fl_12_287 rfl rfl rfl rfl (by decide) rfl dX12_go_336 ?_
                    exact a_vret F E dX12_go_339 (Nat.le_refl 0) (Nat.le_refl 0) (e_7 c_5 c_6 c_10 c_15)
                  · exact absurd c_18 (by decide)
                · exact absurd c_17 (by decide)
            · refine a_if_eq (tgt := 149) F dX12_go_142 (by decide) (fun (c_19 : (0 : Int32) = 0) => ?_) (fun (c_19 : ¬ ((0 : Int32) = 0)) => ?_)
              · refine a_iconst (v := 1) F dX12_go_149 (by decide) ?_
                refine a_puti F fl_12_302 rfl rfl rfl rfl (by decide) rfl dX12_go_150 ?_
                refine a_aload_n F 0 dX12_go_153 rfl rfl ?_
                refine a_geti F fl_12_302 rfl (by decide) rfl dX12_go_154 ?_
                refine a_iconst (v := 2) F dX12_go_157 (by decide) ?_
                refine a_icmp_ne (tgt := 232) F dX12_go_158 (by decide) (fun (c_20 : ¬ (1 : Int32) = 2) => ?_) (fun (c_20 : (1 : Int32) = 2) => ?_)
                · refine a_aload_n F 0 dX12_go_232 rfl rfl ?_
                  refine a_geti F fl_12_302 rfl (by decide) rfl dX12_go_233 ?_
                  refine a_iconst (v := 3) F dX12_go_236 (by decide) ?_
                  refine a_icmp_ne (tgt := 329) F dX12_go_237 (by decide) (fun (c_21 : ¬ (1 : Int32) = 3) => ?_) (fun (c_21 : (1 : Int32) = 3) => ?_)
                  · refine a_aload_n F 0 dX12_go_329 rfl rfl ?_
                    refine a_dup F dX12_go_330 rfl ?_
                    refine a_geti F fl_12_287 rfl (by decide) rfl dX12_go_331 ?_
                    refine a_iconst (v := 1) F dX12_go_334 (by decide) ?_
                    refine a_iadd F dX12_go_335 ?_
                    refine a_puti F fl_12_287 rfl rfl rfl rfl (by decide) rfl dX12_go_336 ?_
                    exact a_vret F E dX12_go_339 (Nat.le_refl 0) (Nat.le_refl 0) (e_8 c_5 c_6 c_10 c_15)
                  · exact absurd c_21 (by decide)
                · exact absurd c_20 (by decide)
              · exact absurd c_19 (by decide)
          · exact absurd c_14 (by decide)
      · exact absurd c_9 (by decide)
  · refine a_iconst (v := 0) F dX12_go_100 (by decide) ?_
    refine a_goto (tgt := 150) F dX12_go_101 (by decide) ?_
    refine a_puti F fl_12_302 rfl rfl rfl rfl (by decide) rfl dX12_go_150 ?_
    refine a_aload_n F 0 dX12_go_153 rfl rfl ?_
    refine a_geti F fl_12_302 rfl (by decide) rfl dX12_go_154 ?_
    refine a_iconst (v := 2) F dX12_go_157 (by decide) ?_
    refine a_icmp_ne (tgt := 232) F dX12_go_158 (by decide) (fun (c_22 : ¬ (0 : Int32) = 2) => ?_) (fun (c_22 : (0 : Int32) = 2) => ?_)
    · refine a_aload_n F 0 dX12_go_232 rfl rfl ?_
      refine a_geti F fl_12_302 rfl (by decide) rfl dX12_go_233 ?_
      refine a_iconst (v := 3) F dX12_go_236 (by decide) ?_
      refine a_icmp_ne (tgt := 329) F dX12_go_237 (by decide) (fun (c_23 : ¬ (0 : Int32) = 3) => ?_) (fun (c_23 : (0 : Int32) = 3) => ?_)
      · refine a_aload_n F 0 dX12_go_329 rfl rfl ?_
        refine a_dup F dX12_go_330 rfl ?_
        refine a_geti F fl_12_287 rfl (by decide) rfl dX12_go_331 ?_
        refine a_iconst (v := 1) F dX12_go_334 (by decide) ?_
        refine a_iadd F dX12_go_335 ?_
        refine a_puti F fl_12_287 rfl rfl rfl rfl (by decide) rfl dX12_go_336 ?_
        exact a_vret F E dX12_go_339 (Nat.le_refl 0) (Nat.le_refl 0) (e_9 c_5)
      · exact absurd c_23 (by decide)
    · exact absurd c_22 (by decide)

theorem r_12_go_166 {X : Ctx} (F : Fx X cX12_go RX12 2 2 0 0) {Φ : Option Value → HS → List Nat → Prop} (E : Ex X none 0 0 Φ) {I A : Nat → Nat → Int32} {J : Nat → Nat → Int64}
    (o_1 : 0 ≤ (I 0 37) ∧ (I 0 36) ≤ 400)
    (o_2 : ((I 0 37) < (I 0 36) ∧ (48 : Int32) ≤ (A 34) (I 0 37).toNatClampNeg ∧ (A 34) (I 0 37).toNatClampNeg ≤ (57 : Int32)) → (¬ (2 ≤ ((I 0 37) - (I 0 40)))) → vp_in (I 0 37) 400)
    (e_3 : ((I 0 37) < (I 0 36) ∧ (48 : Int32) ≤ (A 34) (I 0 37).toNatClampNeg ∧ (A 34) (I 0 37).toNatClampNeg ≤ (57 : Int32)) → WA X (mS (up2 (up2 I 0 39 (if 2 ≤ ((I 0 37) - (I 0 40)) then 100 else (((10 * (I 0 39)) + (A 34 (I 0 37).toNatClampNeg)) - 48))) 0 37 ((I 0 37) + 1)) A J) plM 0 0 166 [(0, .ref 0)] [])
    (e_4 : (¬ ((I 0 37) < (I 0 36) ∧ (48 : Int32) ≤ (A 34) (I 0 37).toNatClampNeg ∧ (A 34) (I 0 37).toNatClampNeg ≤ (57 : Int32))) → Φ none (mS I A J) plM) :
    WA X (mS I A J) plM 0 0 166 [(0, .ref 0)] [] := by
  refine a_aload_n F 0 dX12_go_166 rfl rfl ?_
  refine a_bipush (v := 48) F dX12_go_167 (by decide) ?_
  refine a_bipush (v := 57) F dX12_go_169 (by decide) ?_
  refine a_callV (b := 0) (As := [.int 48, .int 57]) (st := []) (ci := 12) F (c_isByte (xl X) I A J 48 57 (o_1)) ml_12_299 im_yX12_isByte se_yX12_isByte (by decide) (by decide) rfl (by decide) rfl rfl dX12_go_171 (by decide) (Nat.le_refl 0) (Nat.le_refl 0) (hl_r (by decide) hl_nil) hs_nil ?_
  rintro _ _ _ ⟨rfl, rfl, rfl⟩ _
  show WA X (mS I A J) plM 0 0 174 [(0, .ref 0)] [.int (if (I 0 37) < (I 0 36) ∧ (48 : Int32) ≤ (A 34) (I 0 37).toNatClampNeg ∧ (A 34) (I 0 37).toNatClampNeg ≤ (57 : Int32) then 1 else 0)]
  refine a_ite (fun (c_24 : (I 0 37) < (I 0 36) ∧ (48 : Int32) ≤ (A 34) (I 0 37).toNatClampNeg ∧ (A 34) (I 0 37).toNatClampNeg ≤ (57 : Int32)) => ?_) (fun (c_24 : ¬ ((I 0 37) < (I 0 36) ∧ (48 : Int32) ≤ (A 34) (I 0 37).toNatClampNeg ∧ (A 34) (I 0 37).toNatClampNeg ≤ (57 : Int32))) => ?_)
  · refine a_if_eq (tgt := 339) F dX12_go_174 (by decide) (fun (c_25 : (1 : Int32) = 0) => ?_) (fun (c_25 : ¬ ((1 : Int32) = 0)) => ?_)
    · exact absurd c_25 (by decide)
    · refine a_aload_n F 0 dX12_go_177 rfl rfl ?_
      refine a_aload_n F 0 dX12_go_178 rfl rfl ?_
      refine a_geti F fl_12_287 rfl (by decide) rfl dX12_go_179 ?_
      refine a_aload_n F 0 dX12_go_182 rfl rfl ?_
      refine a_geti F fl_12_293 rfl (by decide) rfl dX12_go_183 ?_
      refine a_isub F dX12_go_186 ?_
      refine a_iconst (v := 2) F dX12_go_187 (by decide) ?_
      suffices k : ∀ z9 : Int32, z9 = (if 2 ≤ ((I 0 37) - (I 0 40)) then 100 else (((10 * (I 0 39)) + (A 34 (I 0 37).toNatClampNeg)) - 48)) → WA X (mS I A J) plM 0 0 216 [(0, .ref 0)] [.int z9, .ref 0] by
        refine a_icmp_ge (tgt := 214) F dX12_go_188 (by decide) (fun (c_26 : 2 ≤ ((I 0 37) - (I 0 40))) => ?_) (fun (c_26 : ¬ (2 ≤ ((I 0 37) - (I 0 40)))) => ?_)
        · refine a_bipush (v := 100) F dX12_go_214 (by decide) ?_
          exact k _ (by rw [if_pos c_26] <;> rfl)
        · refine a_bipush (v := 10) F dX12_go_191 (by decide) ?_
          refine a_aload_n F 0 dX12_go_193 rfl rfl ?_
          refine a_geti F fl_12_296 rfl (by decide) rfl dX12_go_194 ?_
          refine a_imul F dX12_go_197 ?_
          refine a_aload_n F 0 dX12_go_198 rfl rfl ?_
          refine a_getr (b := 34) F fl_12_57 rfl (by decide) rfl rfl dX12_go_199 ?_
          refine a_aload_n F 0 dX12_go_202 rfl rfl ?_
          refine a_geti F fl_12_287 rfl (by decide) rfl dX12_go_203 ?_
          refine a_iald F (by decide) rfl (o_2 c_24 c_26) dX12_go_206 ?_
          refine a_iadd F dX12_go_207 ?_
          refine a_bipush (v := 48) F dX12_go_208 (by decide) ?_
          refine a_isub F dX12_go_210 ?_
          refine a_goto (tgt := 216) F dX12_go_211 (by decide) ?_
          exact k _ (by rw [if_neg c_26] <;> rfl)
      rintro _ rfl
      refine a_puti F fl_12_296 rfl rfl rfl rfl (by decide) rfl dX12_go_216 ?_
      refine a_aload_n F 0 dX12_go_219 rfl rfl ?_
      refine a_dup F dX12_go_220 rfl ?_
      refine a_geti F fl_12_287 rfl (by decide) rfl dX12_go_221 ?_
      refine a_iconst (v := 1) F dX12_go_224 (by decide) ?_
      refine a_iadd F dX12_go_225 ?_
      refine a_puti F fl_12_287 rfl rfl rfl rfl (by decide) rfl dX12_go_226 ?_
      refine a_goto (tgt := 166) F dX12_go_229 (by decide) ?_
      exact e_3 c_24
  · refine a_if_eq (tgt := 339) F dX12_go_174 (by decide) (fun (c_27 : (0 : Int32) = 0) => ?_) (fun (c_27 : ¬ ((0 : Int32) = 0)) => ?_)
    · exact a_vret F E dX12_go_339 (Nat.le_refl 0) (Nat.le_refl 0) (e_4 c_24)
    · exact absurd c_27 (by decide)

theorem r_12_go_242 {X : Ctx} (F : Fx X cX12_go RX12 2 2 0 0) {Φ : Option Value → HS → List Nat → Prop} (E : Ex X none 0 0 Φ) {I A : Nat → Nat → Int32} {J : Nat → Nat → Int64} {x1 : Int32}
    (o_1 : 0 ≤ (I 0 37) ∧ (I 0 36) ≤ 400)
    (o_2 : ((I 0 37) < (I 0 36) ∧ (97 : Int32) ≤ (A 34) (I 0 37).toNatClampNeg ∧ (A 34) (I 0 37).toNatClampNeg ≤ (122 : Int32)) → (¬ (3 ≤ ((I 0 37) - (I 0 40)))) → vp_in (I 0 37) 400)
    (e_3 : ((I 0 37) < (I 0 36) ∧ (97 : Int32) ≤ (A 34) (I 0 37).toNatClampNeg ∧ (A 34) (I 0 37).toNatClampNeg ≤ (122 : Int32)) → WA X (mS (up2 I 0 37 ((I 0 37) + 1)) A J) plM 0 0 242 [(0, .ref 0), (1, .int (if 3 ≤ ((I 0 37) - (I 0 40)) then 0 else ((256 * x1) + (A 34 (I 0 37).toNatClampNeg))))] [])
    (e_4 : (¬ ((I 0 37) < (I 0 36) ∧ (97 : Int32) ≤ (A 34) (I 0 37).toNatClampNeg ∧ (A 34) (I 0 37).toNatClampNeg ≤ (122 : Int32))) → Φ none (mS (up2 I 0 39 (if x1 = 6447474 then 1 else (if x1 = 7300710 then 2 else 0))) A J) plM) :
    WA X (mS I A J) plM 0 0 242 [(0, .ref 0), (1, .int x1)] [] := by
  refine a_aload_n F 0 dX12_go_242 rfl rfl ?_
  refine a_bipush (v := 97) F dX12_go_243 (by decide) ?_
  refine a_bipush (v := 122) F dX12_go_245 (by decide) ?_
  refine a_callV (b := 0) (As := [.int 97, .int 122]) (st := []) (ci := 12) F (c_isByte (xl X) I A J 97 122 (o_1)) ml_12_299 im_yX12_isByte se_yX12_isByte (by decide) (by decide) rfl (by decide) rfl rfl dX12_go_247 (by decide) (Nat.le_refl 0) (Nat.le_refl 0) (hl_r (by decide) (hl_i hl_nil)) hs_nil ?_
  rintro _ _ _ ⟨rfl, rfl, rfl⟩ _
  show WA X (mS I A J) plM 0 0 250 [(0, .ref 0), (1, .int x1)] [.int (if (I 0 37) < (I 0 36) ∧ (97 : Int32) ≤ (A 34) (I 0 37).toNatClampNeg ∧ (A 34) (I 0 37).toNatClampNeg ≤ (122 : Int32) then 1 else 0)]
  refine a_ite (fun (c_28 : (I 0 37) < (I 0 36) ∧ (97 : Int32) ≤ (A 34) (I 0 37).toNatClampNeg ∧ (A 34) (I 0 37).toNatClampNeg ≤ (122 : Int32)) => ?_) (fun (c_28 : ¬ ((I 0 37) < (I 0 36) ∧ (97 : Int32) ≤ (A 34) (I 0 37).toNatClampNeg ∧ (A 34) (I 0 37).toNatClampNeg ≤ (122 : Int32))) => ?_)
  · refine a_if_eq (tgt := 299) F dX12_go_250 (by decide) (fun (c_29 : (1 : Int32) = 0) => ?_) (fun (c_29 : ¬ ((1 : Int32) = 0)) => ?_)
    · exact absurd c_29 (by decide)
    · refine a_aload_n F 0 dX12_go_253 rfl rfl ?_
      refine a_geti F fl_12_287 rfl (by decide) rfl dX12_go_254 ?_
      refine a_aload_n F 0 dX12_go_257 rfl rfl ?_
      refine a_geti F fl_12_293 rfl (by decide) rfl dX12_go_258 ?_
      refine a_isub F dX12_go_261 ?_
      refine a_iconst (v := 3) F dX12_go_262 (by decide) ?_
      suffices k : ∀ z9 : Int32, z9 = (if 3 ≤ ((I 0 37) - (I 0 40)) then 0 else ((256 * x1) + (A 34 (I 0 37).toNatClampNeg))) → WA X (mS I A J) plM 0 0 285 [(0, .ref 0), (1, .int x1)] [.int z9] by
        refine a_icmp_ge (tgt := 284) F dX12_go_263 (by decide) (fun (c_30 : 3 ≤ ((I 0 37) - (I 0 40))) => ?_) (fun (c_30 : ¬ (3 ≤ ((I 0 37) - (I 0 40)))) => ?_)
        · refine a_iconst (v := 0) F dX12_go_284 (by decide) ?_
          exact k _ (by rw [if_pos c_30] <;> rfl)
        · refine a_sipush (v := 256) F dX12_go_266 (by decide) ?_
          refine a_iload_n F 1 dX12_go_269 rfl rfl ?_
          refine a_imul F dX12_go_270 ?_
          refine a_aload_n F 0 dX12_go_271 rfl rfl ?_
          refine a_getr (b := 34) F fl_12_57 rfl (by decide) rfl rfl dX12_go_272 ?_
          refine a_aload_n F 0 dX12_go_275 rfl rfl ?_
          refine a_geti F fl_12_287 rfl (by decide) rfl dX12_go_276 ?_
          refine a_iald F (by decide) rfl (o_2 c_28 c_30) dX12_go_279 ?_
          refine a_iadd F dX12_go_280 ?_
          refine a_goto (tgt := 285) F dX12_go_281 (by decide) ?_
          exact k _ (by rw [if_neg c_30] <;> rfl)
      rintro _ rfl
      refine a_istore_n F dX12_go_285 rfl (by decide) rfl ?_
      refine a_aload_n F 1 dX12_go_286 rfl rfl ?_
      refine a_dup F dX12_go_287 rfl ?_
      refine a_geti F fl_12_287 rfl (by decide) rfl dX12_go_288 ?_
      refine a_iconst (v := 1) F dX12_go_291 (by decide) ?_
      refine a_iadd F dX12_go_292 ?_
      refine a_puti F fl_12_287 rfl rfl rfl rfl (by decide) rfl dX12_go_293 ?_
      refine a_goto (tgt := 242) F dX12_go_296 (by decide) ?_
      refine a_sub [1, 0] rfl ?_
      exact e_3 c_28
  · refine a_if_eq (tgt := 299) F dX12_go_250 (by decide) (fun (c_31 : (0 : Int32) = 0) => ?_) (fun (c_31 : ¬ ((0 : Int32) = 0)) => ?_)
    · refine a_aload_n F 0 dX12_go_299 rfl rfl ?_
      refine a_iload_n F 1 dX12_go_300 rfl rfl ?_
      refine a_ldcw F kc_12_305 dX12_go_301 ?_
      suffices k : ∀ z9 : Int32, z9 = (if x1 = 6447474 then 1 else (if x1 = 7300710 then 2 else 0)) → WA X (mS I A J) plM 0 0 323 [(0, .ref 0), (1, .int x1)] [.int z9, .ref 0] by
        refine a_icmp_ne (tgt := 311) F dX12_go_304 (by decide) (fun (c_32 : ¬ x1 = 6447474) => ?_) (fun (c_32 : x1 = 6447474) => ?_)
        · refine a_iload_n F 1 dX12_go_311 rfl rfl ?_
          refine a_ldcw F kc_12_306 dX12_go_312 ?_
          refine a_icmp_ne (tgt := 322) F dX12_go_315 (by decide) (fun (c_33 : ¬ x1 = 7300710) => ?_) (fun (c_33 : x1 = 7300710) => ?_)
          · refine a_iconst (v := 0) F dX12_go_322 (by decide) ?_
            exact k _ (by rw [if_neg c_32, if_neg c_33] <;> rfl)
          · refine a_iconst (v := 2) F dX12_go_318 (by decide) ?_
            refine a_goto (tgt := 323) F dX12_go_319 (by decide) ?_
            exact k _ (by rw [if_neg c_32, if_pos c_33] <;> rfl)
        · refine a_iconst (v := 1) F dX12_go_307 (by decide) ?_
          refine a_goto (tgt := 323) F dX12_go_308 (by decide) ?_
          exact k _ (by rw [if_pos c_32] <;> rfl)
      rintro _ rfl
      refine a_puti F fl_12_296 rfl rfl rfl rfl (by decide) rfl dX12_go_323 ?_
      refine a_goto (tgt := 339) F dX12_go_326 (by decide) ?_
      exact a_vret F E dX12_go_339 (Nat.le_refl 0) (Nat.le_refl 0) (e_4 c_28)
    · exact absurd c_31 (by decide)

set_option maxRecDepth 10000 in
theorem c_go (l : Launch) (I A : Nat → Nat → Int32) (J : Nat → Nat → Int64) (n i : Nat) (hn : n ≤ 400) (hi : i ≤ n) (h36 : I 0 36 = nI n) (h37 : I 0 37 = nI i) : Con l 2 yX12_go cX12_go 2 none [.ref 0] (mS I A J) plM 0 0 (PM none (goI I (A 34) n i) A J) := by
  refine Con.of (by decide) (Nat.le_of_ble_eq_true rfl) (fun X hX9 hn9 F E => ?_)
  have t36 : ∀ a b c d, tokI I a b c d 0 36 = nI n := fun a b c d => h36
  have num : ∀ f j v p, n - j ≤ f → j ≤ n → p ≤ j → Ex X none 0 0 (PM none (tokI I (nI (endT bDg (A 34) n j)) 2 (valT (A 34) p (n - j) j v) (nI p)) A J) → WA X (mS (tokI I (nI j) 2 v (nI p)) A J) plM 0 0 166 [(0, .ref 0)] [] := by
    intro f
    induction f with
    | zero =>
      intro j v p h1 h2 h3 E
      obtain rfl : j = n := by omega
      refine r_12_go_166 F E ⟨nI_pos' (by omega), by rw [t36, nI_len 400 (by omega) (by omega)]; exact hn⟩ (fun h => absurd h.1 ?_) (fun h => absurd h.1 ?_) (fun _ => ?_)
      · rw [t36]; exact nI_nlt (Nat.le_refl _) (by omega)
      · rw [t36]; exact nI_nlt (Nat.le_refl _) (by omega)
      · refine ⟨rfl, ?_, rfl⟩
        rw [endT_n (Nat.le_refl _), Nat.sub_self]; rfl
    | succ f ih =>
      intro j v p h1 h2 h3 E
      have ej : (nI j).toNatClampNeg = j := nI_clamp (by omega)
      refine r_12_go_166 F E ⟨nI_pos' (by omega), by rw [t36, nI_len 400 (by omega) (by omega)]; exact hn⟩ (fun _ _ => vp_in_nI ?_ (by omega)) (fun h => ?_) (fun h => ?_)
      · rcases Nat.lt_or_ge j 400 with h | h
        · exact h
        · exfalso; rename_i hc _; have := hc.1; rw [t36] at this; exact absurd this (nI_nlt (by omega) (by omega))
      · have hj : j < n := by have := h.1; rw [t36] at this; exact (nI_ltI (by omega) (by omega)).mp this
        have hd : bDg (A 34 j) = true := dg_iff.mpr (by have := h.2; rw [show (tokI I (nI j) 2 v (nI p) 0 37).toNatClampNeg = j from ej] at this; exact this)
        rw [endT_t hj hd, show n - j = (n - (j + 1)) + 1 by omega] at E
        have E : Ex X none 0 0 (PM none (tokI I (nI (endT bDg (A 34) n (j + 1))) 2 (valT (A 34) p (n - (j + 1)) (j + 1) (if 2 ≤ j - p then 100 else 10 * v + A 34 j - 48)) (nI p)) A J) := by
          simpa [valT, hd] using E
        have e1 : tokI I (nI j) 2 v (nI p) 0 37 - tokI I (nI j) 2 v (nI p) 0 40 = nI (j - p) := pk_sub h3
        have e2 : (if 2 ≤ nI (j - p) then (100 : Int32) else 10 * v + A 34 j - 48) = (if 2 ≤ j - p then 100 else 10 * v + A 34 j - 48) := by
          simp only [nI_gen 2 (show j - p < 2 ^ 31 by omega) (by omega)]
        rw [e1, tok39, tok37]
        rw [show tokI I (nI j) 2 v (nI p) 0 37 = nI j from rfl, ej, nI_1, show tokI I (nI j) 2 v (nI p) 0 39 = v from rfl, e2]
        exact ih (j + 1) _ p (by omega) (by omega) (by omega) E
      · refine ⟨rfl, ?_, rfl⟩
        rcases Nat.lt_or_ge j n with hj | hj
        · have hd : ¬ bDg (A 34 j) = true := fun hd => h ⟨by rw [t36]; exact nI_lt hj (by omega), by rw [show (tokI I (nI j) 2 v (nI p) 0 37).toNatClampNeg = j from ej]; exact dg_iff.mp hd⟩
          rw [endT_f hj hd, show n - j = (n - (j + 1)) + 1 by omega]
          simp [valT, hd]
        · rw [endT_n hj, show n - j = 0 by omega]; rfl
  have wrd : ∀ f j v w p, n - j ≤ f → j ≤ n → p ≤ j → Ex X none 0 0 (PM none (tokI I (nI (endT bLt (A 34) n j)) 3 (wrdC (wrdT (A 34) p (n - j) j v)) (nI p)) A J) → WA X (mS (tokI I (nI j) 3 w (nI p)) A J) plM 0 0 242 [(0, .ref 0), (1, .int v)] [] := by
    intro f
    induction f with
    | zero =>
      intro j v w p h1 h2 h3 E
      obtain rfl : j = n := by omega
      refine r_12_go_242 F E ⟨nI_pos' (by omega), by rw [t36, nI_len 400 (by omega) (by omega)]; exact hn⟩ (fun h => absurd h.1 ?_) (fun h => absurd h.1 ?_) (fun _ => ?_)
      · rw [t36]; exact nI_nlt (Nat.le_refl _) (by omega)
      · rw [t36]; exact nI_nlt (Nat.le_refl _) (by omega)
      · refine ⟨rfl, ?_, rfl⟩
        rw [endT_n (Nat.le_refl _), Nat.sub_self, tok39]; rfl
    | succ f ih =>
      intro j v w p h1 h2 h3 E
      have ej : (nI j).toNatClampNeg = j := nI_clamp (by omega)
      refine r_12_go_242 F E ⟨nI_pos' (by omega), by rw [t36, nI_len 400 (by omega) (by omega)]; exact hn⟩ (fun _ _ => vp_in_nI ?_ (by omega)) (fun h => ?_) (fun h => ?_)
      · rcases Nat.lt_or_ge j 400 with h | h
        · exact h
        · exfalso; rename_i hc _; have := hc.1; rw [t36] at this; exact absurd this (nI_nlt (by omega) (by omega))
      · have hj : j < n := by have := h.1; rw [t36] at this; exact (nI_ltI (by omega) (by omega)).mp this
        have hd : bLt (A 34 j) = true := lt_iff.mpr (by have := h.2; rw [show (tokI I (nI j) 3 w (nI p) 0 37).toNatClampNeg = j from ej] at this; exact this)
        rw [endT_t hj hd, show n - j = (n - (j + 1)) + 1 by omega] at E
        have E : Ex X none 0 0 (PM none (tokI I (nI (endT bLt (A 34) n (j + 1))) 3 (wrdC (wrdT (A 34) p (n - (j + 1)) (j + 1) (if 3 ≤ j - p then 0 else 256 * v + A 34 j))) (nI p)) A J) := by
          simpa [wrdT, hd] using E
        have e1 : tokI I (nI j) 3 w (nI p) 0 37 - tokI I (nI j) 3 w (nI p) 0 40 = nI (j - p) := pk_sub h3
        have e2 : (if 3 ≤ nI (j - p) then (0 : Int32) else 256 * v + A 34 j) = (if 3 ≤ j - p then 0 else 256 * v + A 34 j) := by
          simp only [nI_gen 3 (show j - p < 2 ^ 31 by omega) (by omega)]
        rw [e1, tok37]
        rw [show tokI I (nI j) 3 w (nI p) 0 37 = nI j from rfl, ej, nI_1, e2]
        exact ih (j + 1) _ w p (by omega) (by omega) (by omega) E
      · refine ⟨rfl, ?_, rfl⟩
        rw [tok39]
        rcases Nat.lt_or_ge j n with hj | hj
        · have hd : ¬ bLt (A 34 j) = true := fun hd => h ⟨by rw [t36]; exact nI_lt hj (by omega), by rw [show (tokI I (nI j) 3 w (nI p) 0 37).toNatClampNeg = j from ej]; exact lt_iff.mp hd⟩
          rw [endT_f hj hd, show n - j = (n - (j + 1)) + 1 by omega]
          simp [wrdT, hd, wrdC]
        · rw [endT_n hj, show n - j = 0 by omega]; rfl
  have tok : ∀ p so va pl, p ≤ n → Ex X none 0 0 (PM none (tokI I (nI (tkE (A 34) n p)) (tkS (A 34) n p) (tkV (A 34) n p) (nI p)) A J) → WA X (mS (tokI I (nI p) so va pl) A J) plM 0 0 52 [(0, .ref 0)] [] := by
    intro p so va pl hp E
    have ep : (nI p).toNatClampNeg = p := nI_clamp (by omega)
    have e37 : tokI I (nI p) so va pl 0 37 = nI p := rfl
    have hlt : (tokI I (nI p) so va pl 0 37 < tokI I (nI p) so va pl 0 36) ↔ p < n := by rw [e37, t36]; exact nI_ltI (by omega) (by omega)
    have hle : (tokI I (nI p) so va pl 0 36 ≤ tokI I (nI p) so va pl 0 37) ↔ n ≤ p := by rw [e37, t36]; exact nI_leI (by omega) (by omega)
    have h400 : 0 ≤ tokI I (nI p) so va pl 0 37 ∧ tokI I (nI p) so va pl 0 36 ≤ 400 := ⟨nI_pos' (by omega), by rw [t36, nI_len 400 (by omega) (by omega)]; exact hn⟩
    refine r_12_go_52 F E ?_ (fun _ => h400) ?_ (fun _ _ => h400) ?_ (fun _ _ _ => h400) ?_ ?_ ?_
    · intro h; rw [hle] at h; rw [e37]; exact vp_in_nI (by omega) (by omega)
    · intro h h2
      rw [hlt] at h
      have hd : bDg (A 34 p) = true := dg_iff.mpr (by have := h2.2; rw [e37, ep] at this; exact this)
      rw [tok40, tok39, tok38, tok39, e37]
      refine num (n - p) p 0 p (Nat.le_refl _) hp (Nat.le_refl _) ?_
      simpa [tkE, tkS, tkV, hd, show ¬ n ≤ p by omega] using E
    · intro h h1 h2
      rw [hlt] at h
      have hd : ¬ bDg (A 34 p) = true := fun hd => h1 ⟨hlt.mpr h, by rw [e37, ep]; exact dg_iff.mp hd⟩
      have hl : bLt (A 34 p) = true := lt_iff.mpr (by have := h2.2; rw [e37, ep] at this; exact this)
      rw [tok40, tok39, tok38, e37]
      refine wrd (n - p) p 0 _ p (Nat.le_refl _) hp (Nat.le_refl _) ?_
      simpa [tkE, tkS, tkV, hd, hl, show ¬ n ≤ p by omega] using E
    · intro h h1 h2 h3
      rw [hlt] at h
      have hd : ¬ bDg (A 34 p) = true := fun hd => h1 ⟨hlt.mpr h, by rw [e37, ep]; exact dg_iff.mp hd⟩
      have hl : ¬ bLt (A 34 p) = true := fun hd => h2 ⟨hlt.mpr h, by rw [e37, ep]; exact lt_iff.mp hd⟩
      have hs : bSg (A 34 p) = true := sg_iff.mpr (by have := h3.2; rw [e37, ep] at this; exact this)
      refine ⟨rfl, ?_, rfl⟩
      rw [tok40, tok39, tok38, tok37, e37, ep, t36, if_neg (show ¬ nI n ≤ nI p from nI_ge h (by omega)), nI_1]
      simp [tkE, tkS, tkV, hd, hl, hs, show ¬ n ≤ p by omega]
    · intro h h1 h2 h3
      rw [hlt] at h
      have hd : ¬ bDg (A 34 p) = true := fun hd => h1 ⟨hlt.mpr h, by rw [e37, ep]; exact dg_iff.mp hd⟩
      have hl : ¬ bLt (A 34 p) = true := fun hd => h2 ⟨hlt.mpr h, by rw [e37, ep]; exact lt_iff.mp hd⟩
      have hs : ¬ bSg (A 34 p) = true := fun hd => h3 ⟨hlt.mpr h, by rw [e37, ep]; exact sg_iff.mp hd⟩
      refine ⟨rfl, ?_, rfl⟩
      rw [tok40, tok39, tok38, tok37, e37, ep, t36, if_neg (show ¬ nI n ≤ nI p from nI_ge h (by omega)), nI_1]
      simp [tkE, tkS, tkV, hd, hl, hs, show ¬ n ≤ p by omega]
    · intro h
      rw [hlt] at h
      refine ⟨rfl, ?_, rfl⟩
      rw [tok40, tok39, tok38, tok37, e37, t36, if_pos (show nI n ≤ nI p from nI_le (by omega) (by omega)), nI_1]
      simp [tkE, tkS, tkV, show n ≤ p by omega]
  have skip : ∀ f j so va pl, n - j ≤ f → j ≤ n → Ex X none 0 0 (PM none (goI I (A 34) n j) A J) → WA X (mS (tokI I (nI j) so va pl) A J) plM 0 0 0 [(0, .ref 0)] [] := by
    intro f
    induction f with
    | zero =>
      intro j so va pl h1 h2 E
      obtain rfl : j = n := by omega
      have hle : tokI I (nI j) so va pl 0 36 ≤ tokI I (nI j) so va pl 0 37 := by rw [t36]; exact nI_le (Nat.le_refl _) (by omega)
      refine r_12_go_0 F (fun _ => ?_) (fun h => absurd hle h) (fun h => absurd hle h) (fun h => absurd hle h) (fun h => absurd hle h) (fun h => absurd hle h)
      unfold goI at E
      rw [endT_n (Nat.le_refl _)] at E
      exact tok j so va pl (Nat.le_refl _) E
    | succ f ih =>
      intro j so va pl h1 h2 E
      have ej : (nI j).toNatClampNeg = j := nI_clamp (by omega)
      have e37 : tokI I (nI j) so va pl 0 37 = nI j := rfl
      have hle : (tokI I (nI j) so va pl 0 36 ≤ tokI I (nI j) so va pl 0 37) ↔ n ≤ j := by rw [e37, t36]; exact nI_leI (by omega) (by omega)
      have hb : j < n → bBl (A 34 j) = true → WA X (mS (up2 (tokI I (nI j) so va pl) 0 37 (tokI I (nI j) so va pl 0 37 + 1)) A J) plM 0 0 0 [(0, .ref 0)] [] := by
        intro hj hb
        rw [tok37, e37, nI_1]
        refine ih (j + 1) so va pl (by omega) (by omega) ?_
        unfold goI at E ⊢
        rw [endT_t hj hb] at E
        exact E
      refine r_12_go_0 F (fun h => ?_) (fun h => ?_) (fun h h3 => ?_) (fun h _ => ?_) (fun h h3 h4 => ?_) (fun h h3 h4 => ?_)
      · rw [hle] at h
        unfold goI at E
        rw [endT_n h] at E
        exact tok j so va pl h2 E
      · rw [hle] at h; rw [e37]; exact vp_in_nI (by omega) (by omega)
      · rw [hle] at h; rw [e37, ej] at h3
        exact hb (by omega) (bl_iff.mpr (Or.inl h3))
      · rw [hle] at h; rw [e37]; exact vp_in_nI (by omega) (by omega)
      · rw [hle] at h; rw [e37, ej] at h3 h4
        unfold goI at E
        rw [endT_f (by omega) (fun z => (bl_iff.mp z).elim h3 h4)] at E
        exact tok j so va pl h2 E
      · rw [hle] at h; rw [e37, ej] at h3 h4
        exact hb (by omega) (bl_iff.mpr (Or.inr h4))
  have k := skip (n - i) i (I 0 38) (I 0 39) (I 0 40) (Nat.le_refl _) hi E
  rw [← h37, tok_self] at k
  exact k
