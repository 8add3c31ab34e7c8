section
variable {X : Ctx} {cc : ByteArray} {own : String} {nL d mc ms : Nat} {σ : HS} {pl : List Nat} {k1 k2 pc : Nat} {ls ls' : List (Nat × Value)} {st : List Value}
theorem a_aload_nN (F : Fx X cc own nL d mc ms) {k9 : Fin 4} {i : Nat} (j : Nat) (hd : decode cc pc = .ok (.aload_n k9, 1)) (hi : (k9 : Nat) = i) (hj : ls[j]? = some (i, .null)) (k : WA X σ pl k1 k2 (pc + 1) ls (.null :: st)) : WA X σ pl k1 k2 pc ls (st) := fun ad H locs la hP hD hS hq hl => lv_aload_nN F.x F.b hd hi (lsT_at hl j hj) (k ad H locs la hP hD hS hq hl)
theorem a_aloadN (F : Fx X cc own nL d mc ms) {i : Nat} (j : Nat) (hd : decode cc pc = .ok (.aload i, 2)) (hj : ls[j]? = some (i, .null)) (k : WA X σ pl k1 k2 (pc + 2) ls (.null :: st)) : WA X σ pl k1 k2 pc ls (st) := fun ad H locs la hP hD hS hq hl => lv_aloadN F.x F.b hd (lsT_at hl j hj) (k ad H locs la hP hD hS hq hl)
theorem a_astore_nN (F : Fx X cc own nL d mc ms) {k9 : Fin 4} {i : Nat} (hd : decode cc pc = .ok (.astore_n k9, 1)) (hi : (k9 : Nat) = i) (hn : i < nL) (hl' : (i, Value.null) :: ls.filter (fun q => !(q.1 == i) && !(q.1 + 1 == i && q.2.category == 2)) = ls') (k : WA X σ pl k1 k2 (pc + 1) ls' st) : WA X σ pl k1 k2 pc ls (.null :: st) := fun ad H locs la hP hD hS hq hl => lv_astore_nN F.x F.b hd hi hl (by rw [F.l]; exact hn) (by rw [← hl', lsT_f ls (fun a b => !(a == i) && !(a + 1 == i && b == 2))]; rfl) (fun la hl => k ad H locs la hP hD hS hq hl)
theorem a_astoreN (F : Fx X cc own nL d mc ms) {i : Nat} (hd : decode cc pc = .ok (.astore i, 2)) (hn : i < nL) (hl' : (i, Value.null) :: ls.filter (fun q => !(q.1 == i) && !(q.1 + 1 == i && q.2.category == 2)) = ls') (k : WA X σ pl k1 k2 (pc + 2) ls' st) : WA X σ pl k1 k2 pc ls (.null :: st) := fun ad H locs la hP hD hS hq hl => lv_astoreN F.x F.b hd hl (by rw [F.l]; exact hn) (by rw [← hl', lsT_f ls (fun a b => !(a == i) && !(a + 1 == i && b == 2))]; rfl) (fun la hl => k ad H locs la hP hD hS hq hl)
end
def vrO (o : Option Nat) : Value := match o with
  | some q => .ref q
  | none => .null
/-- the shelves -/
def shO (O : Nat → Nat → Option Nat) (pl : List Nat) : Prop := ∀ k, k < 848 → (O 117 k = some (1000 + 2 * k) ∧ 1000 + 2 * k ∈ pl ∧ 1001 + 2 * k ∈ pl) ∨ (O 117 k = none ∧ 1000 + 2 * k ∉ pl ∧ 1001 + 2 * k ∉ pl)
theorem kC_sh (k : Nat) : kC (1000 + 2 * k) = 7 := by rw [kC_big (by omega), if_pos (by omega)]
theorem nC_sh (k : Nat) : nC (1000 + 2 * k + 1) = 1152 := nC_big (by omega)
/-- the cells of a stand -/
def clJ (J : Nat → Nat → Int64) (s : Nat) : Nat → Int64 := fun k => J (1000 + 2 * (rkN s / 64) + 1) (18 * (rkN s % 64) + k)
def dnC (O : Nat → Nat → Option Nat) (J : Nat → Nat → Int64) (s : Nat) : Prop := O 117 (rkN s / 64) = some (1000 + 2 * (rkN s / 64)) ∧ digW (clJ J s) 6 ∧ valW (clJ J s) 6 = eF 32 s ∧ ∀ n, 1 ≤ n → n ≤ 12 → clJ J s (5 + n) = lN (wN n s)
def ndC (O : Nat → Nat → Option Nat) (J : Nat → Nat → Int64) (s : Nat) : Prop := O 117 (rkN s / 64) = none ∨ clJ J s 17 = 0
def chV (O : Nat → Nat → Option Nat) (J : Nat → Nat → Int64) (s n : Nat) : Int64 := if n = 0 then (if s = 0 then 1 else 0) else if O 117 (rkN s / 64) = none then 0 else clJ J s (5 + n)

theorem r_8_shelfOf_0 {X : Ctx} (F : Fx X cX8_shelfOf RX8 3 1 0 0) {Φ : Option Value → HS → List Nat → Prop} (E : Ex X (some (.object "BearHouse$Shelf")) 0 0 Φ) {P O : Nat → Nat → Option Nat} (hP : laP P) {I A : Nat → Nat → Int32} {J : Nat → Nat → Int64} {pl : List Nat} (hB : inB pl) {x1 : Int32}
    (e_1 : (848 ≤ (x1 / 64)) → Φ (some (.null)) (mC P O I A J) pl)
    (e_2 : (¬ (848 ≤ (x1 / 64))) → WA X (mC P O I A J) pl 0 0 17 [(2, .int (x1 / 64)), (0, .ref 116), (1, .int x1)] [.int (x1 / 64), .ref 117]) :
    WA X (mC P O I A J) pl 0 0 0 [(0, .ref 116), (1, .int x1)] [] := by
  refine a_iload_n F 1 dX8_shelfOf_0 rfl rfl ?_
  refine a_bipush (v := 64) F dX8_shelfOf_1 (by decide) ?_
  refine a_idiv F dX8_shelfOf_3 (by decide) ?_
  refine a_istore_n F dX8_shelfOf_4 rfl (by decide) rfl ?_
  refine a_iload_n F 0 dX8_shelfOf_5 rfl rfl ?_
  refine a_sipush (v := 848) F dX8_shelfOf_6 (by decide) ?_
  refine a_icmp_ge (tgt := 21) F dX8_shelfOf_9 (by decide) (fun (c_1 : 848 ≤ (x1 / 64)) => ?_) (fun (c_1 : ¬ (848 ≤ (x1 / 64))) => ?_)
  · refine a_null F dX8_shelfOf_21 ?_
    exact a_aretN F E (Or.inl ⟨_, rfl⟩) dX8_shelfOf_22 (Nat.le_refl 0) (Nat.le_refl 0) (e_1 c_1)
  · refine a_aload_n F 1 dX8_shelfOf_12 rfl rfl ?_
    refine a_getr (b := 117) F fl_8_13 rfl (hB _ (by decide)) rfl ((hP 116 0 (by decide)).trans rfl) dX8_shelfOf_13 ?_
    refine a_iload_n F 0 dX8_shelfOf_16 rfl rfl ?_
    exact e_2 c_1

theorem r_8_shelfOf_18 {X : Ctx} (F : Fx X cX8_shelfOf RX8 3 1 0 0) {Φ : Option Value → HS → List Nat → Prop} (E : Ex X (some (.object "BearHouse$Shelf")) 0 0 Φ) {P O : Nat → Nat → Option Nat} (hP : laP P) {I A : Nat → Nat → Int32} {J : Nat → Nat → Int64} {pl : List Nat} (hB : inB pl) {x1 x2 : Int32} {q9 : Nat} (hk_q9 : kC q9 = 7) (hp_q9 : q9 ∈ pl) (hq_q9 : q9 + 1 ∈ pl)
    (e_1 : Φ (some (.ref q9)) (mC P O I A J) pl) :
    WA X (mC P O I A J) pl 0 0 18 [(0, .ref 116), (1, .int x1), (2, .int x2)] [.ref q9] := by
  refine a_goto (tgt := 22) F dX8_shelfOf_18 (by decide) ?_
  exact a_aret F E (Or.inl ⟨_, rfl⟩) dX8_shelfOf_22 (Nat.le_refl 0) (Nat.le_refl 0) (e_1)

theorem r_8_shelfOf_18N {X : Ctx} (F : Fx X cX8_shelfOf RX8 3 1 0 0) {Φ : Option Value → HS → List Nat → Prop} (E : Ex X (some (.object "BearHouse$Shelf")) 0 0 Φ) {P O : Nat → Nat → Option Nat} (hP : laP P) {I A : Nat → Nat → Int32} {J : Nat → Nat → Int64} {pl : List Nat} (hB : inB pl) {x1 x2 : Int32}
    (e_1 : Φ (some (.null)) (mC P O I A J) pl) :
    WA X (mC P O I A J) pl 0 0 18 [(0, .ref 116), (1, .int x1), (2, .int x2)] [.null] := by
  refine a_goto (tgt := 22) F dX8_shelfOf_18 (by decide) ?_
  exact a_aretN F E (Or.inl ⟨_, rfl⟩) dX8_shelfOf_22 (Nat.le_refl 0) (Nat.le_refl 0) (e_1)

set_option maxRecDepth 10000 in
theorem c_8_shelfOf (l : Launch) {P O : Nat → Nat → Option Nat} (hP : laP P) (I A : Nat → Nat → Int32) (J : Nat → Nat → Int64) {pl : List Nat} (hB : inB pl) (r : Nat) (hO : shO O pl) (hr : r < 54264) : Con l 1 yX8_shelfOf cX8_shelfOf 3 (some (.object "BearHouse$Shelf")) [.ref 116, .int (nI r)] (mC P O I A J) pl 0 0 (PC (some (vrO (O 117 (r / 64)))) P O I A J pl) := by
  refine Con.of (by decide) (Nat.le_of_ble_eq_true rfl) (fun X hX9 hn9 F E => ?_)
  have hk : r / 64 < 848 := by omega
  have e0 : nI r / 64 = nI (r / 64) := pk_div (d := 64) (by omega) (by decide) (by decide)
  have h : ¬ (848 : Int32) ≤ nI (r / 64) := fun z => by have := (nI_gen 848 (by omega) (by omega)).mp z; omega
  have vk : vp_in (nI (r / 64)) 848 := vp_in_nI hk (by omega)
  have ck : (nI (r / 64)).toNatClampNeg = r / 64 := nI_clamp (by omega)
  refine r_8_shelfOf_0 F E hP hB (fun z => absurd (by rw [e0] at z; exact z) h) (fun _ => ?_)
  rw [e0]
  refine a_sub [1, 2, 0] rfl ?_
  rcases hO (r / 64) hk with ⟨o1, o2, o3⟩ | ⟨o1, -⟩
  · refine a_aldR (c := 17) F (hB _ (by decide)) rfl (Or.inr rfl) vk (show O 117 (nI (r / 64)).toNatClampNeg = some (1000 + 2 * (r / 64)) by rw [ck]; exact o1) dX8_shelfOf_17 ?_
    refine r_8_shelfOf_18 F E hP hB (kC_sh _) o2 (show 1000 + 2 * (r / 64) + 1 ∈ pl by rw [show 1000 + 2 * (r / 64) + 1 = 1001 + 2 * (r / 64) by omega]; exact o3) ?_
    rw [o1]; exact ⟨rfl, rfl, rfl⟩
  · refine a_aldN (c := 17) F (hB _ (by decide)) rfl (Or.inr rfl) vk (show O 117 (nI (r / 64)).toNatClampNeg = none by rw [ck]; exact o1) dX8_shelfOf_17 ?_
    refine r_8_shelfOf_18N F E hP hB ?_
    rw [o1]; exact ⟨rfl, rfl, rfl⟩

def rkI (x : Int32) : Int32 := nI (rkN x.toNatClampNeg)
def ceI (x : Int32) : Int32 := nI (18 * (x.toNatClampNeg % 64))
theorem c_8_rankOfI (l : Launch) {P O : Nat → Nat → Option Nat} (hP : laP P) (I A : Nat → Nat → Int32) (J : Nat → Nat → Int64) {pl : List Nat} (hB : inB pl) (x : Int32) (hx : stdI x) (ht : rkT (A 118)) : Con l 1 yX8_rankOf cX8_rankOf 5 (some .int) [.ref 116, .int x] (mC P O I A J) pl 0 0 (PC (some (.int (rkI x))) P O I A J pl) := by
  obtain ⟨s, hs, rfl⟩ := std_of hx
  unfold rkI; rw [nI_clamp (by have := hs.1; omega)]
  exact c_8_rankOf l hP I A J hB s hs ht
theorem c_8_cellOfI (l : Launch) {P O : Nat → Nat → Option Nat} (hP : laP P) (I A : Nat → Nat → Int32) (J : Nat → Nat → Int64) {pl : List Nat} (hB : inB pl) (x : Int32) (hx : 0 ≤ x) : Con l 1 yX8_cellOf cX8_cellOf 1 (some .int) [.int x] (mC P O I A J) pl 0 0 (PC (some (.int (ceI x))) P O I A J pl) := by
  obtain ⟨s, hs, rfl⟩ := nI_of2 (x := x) (M := 2147483647) (n := 2147483647) rfl (Int32.not_lt.mpr hx) (Int32.le_maxValue x)
  unfold ceI; rw [nI_clamp (by omega)]
  exact c_8_cellOf l hP I A J hB s (by omega)
theorem rkI_n {s : Nat} (hs : stnd s) : rkI (nI s) = nI (rkN s) := by unfold rkI; rw [nI_clamp (by have := hs.1; omega)]
theorem ceI_n {r : Nat} (h : r < 2 ^ 31) : ceI (nI r) = nI (18 * (r % 64)) := by unfold ceI; rw [nI_clamp h]

theorem r_8_chances_0 {X : Ctx} (F : Fx X cX8_chances RX8 5 2 0 0) {Φ : Option Value → HS → List Nat → Prop} (E : Ex X (some .long) 0 0 Φ) {P O : Nat → Nat → Option Nat} (hP : laP P) {I A : Nat → Nat → Int32} {J : Nat → Nat → Int64} {pl : List Nat} (hB : inB pl) {x1 x2 : Int32}
    (e_1 : (x2 < 1) → (¬ x1 = 0) → Φ (some (.long 0)) (mC P O I A J) pl)
    (e_2 : (x2 < 1) → (x1 = 0) → Φ (some (.long 1)) (mC P O I A J) pl)
    (o_3 : (¬ (x2 < 1)) → (x2 ≤ 12) → stdI x1)
    (o_4 : (¬ (x2 < 1)) → (x2 ≤ 12) → rkT (A 118))
    (e_5 : (¬ (x2 < 1)) → (x2 ≤ 12) → WA X (mC P O I A J) pl 0 0 27 [(0, .ref 116), (1, .int x1), (2, .int x2), (3, .int (rkI x1))] [])
    (e_6 : (¬ (x2 < 1)) → (¬ (x2 ≤ 12)) → (¬ x1 = 0) → Φ (some (.long 0)) (mC P O I A J) pl)
    (e_7 : (¬ (x2 < 1)) → (¬ (x2 ≤ 12)) → (x1 = 0) → Φ (some (.long 1)) (mC P O I A J) pl) :
    WA X (mC P O I A J) pl 0 0 0 [(0, .ref 116), (1, .int x1), (2, .int x2)] [] := by
  refine a_iload_n F 2 dX8_chances_0 rfl rfl ?_
  refine a_iconst (v := 1) F dX8_chances_1 (by decide) ?_
  refine a_icmp_lt (tgt := 11) F dX8_chances_2 (by decide) (fun (c_1 : x2 < 1) => ?_) (fun (c_1 : ¬ (x2 < 1)) => ?_)
  · refine a_iload_n F 1 dX8_chances_11 rfl rfl ?_
    refine a_if_ne (tgt := 19) F dX8_chances_12 (by decide) (fun (c_2 : ¬ x1 = 0) => ?_) (fun (c_2 : x1 = 0) => ?_)
    · refine a_lconst (v := 0) F dX8_chances_19 (by decide) ?_
      exact a_lret F E dX8_chances_20 (Nat.le_refl 0) (Nat.le_refl 0) (e_1 c_1 c_2)
    · refine a_lconst (v := 1) F dX8_chances_15 (by decide) ?_
      refine a_goto (tgt := 20) F dX8_chances_16 (by decide) ?_
      exact a_lret F E dX8_chances_20 (Nat.le_refl 0) (Nat.le_refl 0) (e_2 c_1 c_2)
  · refine a_iload_n F 2 dX8_chances_5 rfl rfl ?_
    refine a_bipush (v := 12) F dX8_chances_6 (by decide) ?_
    refine a_icmp_le (tgt := 21) F dX8_chances_8 (by decide) (fun (c_3 : x2 ≤ 12) => ?_) (fun (c_3 : ¬ (x2 ≤ 12)) => ?_)
    · refine a_aload_n F 0 dX8_chances_21 rfl rfl ?_
      refine a_iload_n F 1 dX8_chances_22 rfl rfl ?_
      refine a_callV (b := 116) (As := [.int x1]) (st := []) (ci := 8) F (c_8_rankOfI (xl X) hP I A J hB x1 (o_3 c_1 c_3) (o_4 c_1 c_3)) ml_8_74 im_yX8_rankOf se_yX8_rankOf (by decide) (by decide) rfl (hB _ (by decide)) rfl rfl dX8_chances_23 (by decide) (Nat.le_refl 0) (Nat.le_refl 0) (hl_r (hB _ (by decide)) (hl_i (hl_i hl_nil))) hs_nil ?_
      rintro _ _ _ ⟨rfl, rfl, rfl⟩ _
      show WA X (mC P O I A J) pl 0 0 26 [(0, .ref 116), (1, .int x1), (2, .int x2)] [.int (rkI x1)]
      refine a_istore_n F dX8_chances_26 rfl (by decide) rfl ?_
      refine a_sub [1, 2, 3, 0] rfl ?_
      exact e_5 c_1 c_3
    · refine a_iload_n F 1 dX8_chances_11 rfl rfl ?_
      refine a_if_ne (tgt := 19) F dX8_chances_12 (by decide) (fun (c_4 : ¬ x1 = 0) => ?_) (fun (c_4 : x1 = 0) => ?_)
      · refine a_lconst (v := 0) F dX8_chances_19 (by decide) ?_
        exact a_lret F E dX8_chances_20 (Nat.le_refl 0) (Nat.le_refl 0) (e_6 c_1 c_3 c_4)
      · refine a_lconst (v := 1) F dX8_chances_15 (by decide) ?_
        refine a_goto (tgt := 20) F dX8_chances_16 (by decide) ?_
        exact a_lret F E dX8_chances_20 (Nat.le_refl 0) (Nat.le_refl 0) (e_7 c_1 c_3 c_4)

theorem r_8_chances_27 {X : Ctx} (F : Fx X cX8_chances RX8 5 2 0 0) {P O : Nat → Nat → Option Nat} (hP : laP P) {I A : Nat → Nat → Int32} {J : Nat → Nat → Int64} {pl : List Nat} (hB : inB pl) {x1 x2 x3 : Int32}
    (e_1 : WA X (mC P O I A J) pl 0 0 29 [(0, .ref 116), (1, .int x1), (2, .int x2), (3, .int x3)] [.int x3, .ref 116]) :
    WA X (mC P O I A J) pl 0 0 27 [(0, .ref 116), (1, .int x1), (2, .int x2), (3, .int x3)] [] := by
  refine a_aload_n F 0 dX8_chances_27 rfl rfl ?_
  refine a_iload_n F 3 dX8_chances_28 rfl rfl ?_
  exact e_1

theorem r_8_chances_32 {X : Ctx} (F : Fx X cX8_chances RX8 5 2 0 0) {Φ : Option Value → HS → List Nat → Prop} (E : Ex X (some .long) 0 0 Φ) {P O : Nat → Nat → Option Nat} (hP : laP P) {I A : Nat → Nat → Int32} {J : Nat → Nat → Int64} {pl : List Nat} (hB : inB pl) {x1 x2 x3 : Int32} {q9 : Nat} (hk_q9 : kC q9 = 7) (hp_q9 : q9 ∈ pl) (hq_q9 : q9 + 1 ∈ pl)
    (o_1 : 0 ≤ x3)
    (o_2 : vp_in ((((ceI x3) + 6) + x2) - 1) 1152)
    (e_3 : Φ (some (.long (J (q9 + 1) ((((ceI x3) + 6) + x2) - 1).toNatClampNeg))) (mC P O I A J) pl) :
    WA X (mC P O I A J) pl 0 0 32 [(0, .ref 116), (1, .int x1), (2, .int x2), (3, .int x3)] [.ref q9] := by
  refine a_astore F dX8_chances_32 (by decide) rfl ?_
  refine a_aload F 0 dX8_chances_34 rfl ?_
  refine a_ifnonnull (tgt := 43) F dX8_chances_36 (by decide) ?_
  refine a_aload F 0 dX8_chances_43 rfl ?_
  refine a_getr (b := (q9 + 1)) F fl_8_82 rfl (hp_q9) hk_q9 (laP_sh hP hk_q9) dX8_chances_45 ?_
  refine a_iload_n F 4 dX8_chances_48 rfl rfl ?_
  refine a_callS (As := [.int x3]) (st := [.ref (q9 + 1)]) F (c_8_cellOfI (xl X) hP I A J hB x3 (o_1)) ml_8_85 sm_yX8_cellOf (by decide) rfl dX8_chances_49 (Nat.le_of_ble_eq_true rfl) (Nat.le_refl 0) (Nat.le_refl 0) (hl_r (hp_q9) (hl_r (hB _ (by decide)) (hl_i (hl_i (hl_i hl_nil))))) (hs_r (hq_q9) hs_nil) ?_
  rintro _ _ _ ⟨rfl, rfl, rfl⟩ _
  show WA X (mC P O I A J) pl 0 0 52 [(4, .ref q9), (0, .ref 116), (1, .int x1), (2, .int x2), (3, .int x3)] [.int (ceI x3), .ref (q9 + 1)]
  refine a_bipush (v := 6) F dX8_chances_52 (by decide) ?_
  refine a_iadd F dX8_chances_54 ?_
  refine a_iload_n F 3 dX8_chances_55 rfl rfl ?_
  refine a_iadd F dX8_chances_56 ?_
  refine a_iconst (v := 1) F dX8_chances_57 (by decide) ?_
  refine a_isub F dX8_chances_58 ?_
  refine a_lald F (hq_q9) (k_sh hk_q9).1 (show vp_in _ (nC (q9 + 1)) from (k_sh hk_q9).2 ▸ o_2) dX8_chances_59 ?_
  exact a_lret F E dX8_chances_60 (Nat.le_refl 0) (Nat.le_refl 0) (e_3)

theorem r_8_chances_32N {X : Ctx} (F : Fx X cX8_chances RX8 5 2 0 0) {Φ : Option Value → HS → List Nat → Prop} (E : Ex X (some .long) 0 0 Φ) {P O : Nat → Nat → Option Nat} (hP : laP P) {I A : Nat → Nat → Int32} {J : Nat → Nat → Int64} {pl : List Nat} (hB : inB pl) {x1 x2 x3 : Int32}
    (e_1 : Φ (some (.long 0)) (mC P O I A J) pl) :
    WA X (mC P O I A J) pl 0 0 32 [(0, .ref 116), (1, .int x1), (2, .int x2), (3, .int x3)] [.null] := by
  refine a_astoreN F dX8_chances_32 (by decide) rfl ?_
  refine a_aloadN F 0 dX8_chances_34 rfl ?_
  refine a_ifnonnullN F dX8_chances_36 ?_
  refine a_lconst (v := 0) F dX8_chances_39 (by decide) ?_
  refine a_goto (tgt := 60) F dX8_chances_40 (by decide) ?_
  exact a_lret F E dX8_chances_60 (Nat.le_refl 0) (Nat.le_refl 0) (e_1)

set_option maxRecDepth 10000 in
theorem c_8_chances (l : Launch) {P O : Nat → Nat → Option Nat} (hP : laP P) (I A : Nat → Nat → Int32) (J : Nat → Nat → Int64) {pl : List Nat} (hB : inB pl) (s n : Nat) (hO : shO O pl) (hs : stnd s) (hn : n ≤ 12) (ht : rkT (A 118)) : Con l 2 yX8_chances cX8_chances 5 (some .long) [.ref 116, .int (nI s), .int (nI n)] (mC P O I A J) pl 0 0 (PC (some (.long (chV O J s n))) P O I A J pl) := by
  refine Con.of (by decide) (Nat.le_of_ble_eq_true rfl) (fun X hX9 hn9 F E => ?_)
  have hs2 : s < 2 ^ 31 := by have := hs.1; omega
  have hb := rk_b hs
  have c1 : nI n < 1 ↔ n = 0 := by rw [show nI n < 1 ↔ n < 1 from nI_ltn 1 (by omega) (by omega)]; omega
  have c12 : nI n ≤ 12 := (nI_len 12 (by omega) (by omega)).mpr hn
  have cs : nI s = 0 ↔ s = 0 := nI_z hs2
  have main : n ≠ 0 → WA X (mC P O I A J) pl 0 0 27 [(0, .ref 116), (1, .int (nI s)), (2, .int (nI n)), (3, .int (nI (rkN s)))] [] := fun n0 => by
    refine r_8_chances_27 F hP hB ?_
    refine a_callV (b := 116) (As := [.int (nI (rkN s))]) (st := []) (ci := 8) F (c_8_shelfOf (xl X) hP I A J hB (rkN s) hO hb) ml_8_78 im_yX8_shelfOf se_yX8_shelfOf (by decide) (by decide) rfl (hB _ (by decide)) rfl rfl dX8_chances_29 (by decide) (Nat.le_refl 0) (Nat.le_refl 0) (hl_r (hB _ (by decide)) (hl_i (hl_i (hl_i hl_nil)))) hs_nil ?_
    rintro _ _ _ ⟨rfl, rfl, rfl⟩ _
    rcases hO (rkN s / 64) (by omega) with ⟨o1, o2, o3⟩ | ⟨o1, -⟩ <;> rw [o1]
    · have o3' : 1000 + 2 * (rkN s / 64) + 1 ∈ pl := by rw [show 1000 + 2 * (rkN s / 64) + 1 = 1001 + 2 * (rkN s / 64) by omega]; exact o3
      have ei : ceI (nI (rkN s)) + 6 + nI n - 1 = nI (18 * (rkN s % 64) + (5 + n)) := by
        rw [ceI_n (by omega), show nI (18 * (rkN s % 64)) + 6 = nI (18 * (rkN s % 64) + 6) from nI_add _ 6, nI_add, show nI (18 * (rkN s % 64) + 6 + n) - 1 = nI (18 * (rkN s % 64) + 6 + n - 1) from pk_sub (b := 1) (by omega)]; congr 1; omega
      refine r_8_chances_32 F E hP hB (kC_sh _) o2 o3' (nI_pos' (by omega)) (by rw [ei]; exact vp_in_nI (by omega) (by omega)) ?_
      rw [ei, nI_clamp (by omega)]
      refine ⟨?_, rfl, rfl⟩
      unfold chV; rw [if_neg n0, o1, if_neg (fun z => nomatch z)]; rfl
    · refine r_8_chances_32N F E hP hB ?_
      refine ⟨?_, rfl, rfl⟩
      unfold chV; rw [if_neg n0, o1, if_pos rfl]
  have n0 : ¬ nI n < 1 → n ≠ 0 := fun z y => z (c1.mpr y)
  refine r_8_chances_0 F E hP hB (fun z y => ?_) (fun z y => ?_) (fun _ _ => (std_n hs2).mpr hs) (fun _ _ => ht) (fun z _ => by rw [rkI_n hs]; exact main (n0 z)) (fun _ z => absurd c12 z) (fun _ z => absurd c12 z)
  · refine ⟨?_, rfl, rfl⟩; unfold chV; rw [if_pos (c1.mp z), if_neg (fun w => y (cs.mpr w))]
  · refine ⟨?_, rfl, rfl⟩; unfold chV; rw [if_pos (c1.mp z), if_pos (cs.mp y)]

theorem wN_z (s : Nat) : wN 0 s = if s = 0 then 1 else 0 := by unfold wN; rfl
theorem dn_ch {O : Nat → Nat → Option Nat} {J : Nat → Nat → Int64} {s n : Nat} (h : dnC O J s) (hn : n ≤ 12) : chV O J s n = lN (wN n s) := by
  unfold chV
  by_cases c : n = 0
  · subst c; rw [if_pos rfl, wN_z]; by_cases c2 : s = 0
    · rw [if_pos c2, if_pos c2]; rfl
    · rw [if_neg c2, if_neg c2]; rfl
  · rw [if_neg c, h.1, if_neg (fun z => nomatch z)]; exact h.2.2.2 n (by omega) hn
theorem nd_ch {O : Nat → Nat → Option Nat} {J : Nat → Nat → Int64} {s : Nat} (h : ndC O J s) : chV O J s 12 = 0 := by
  unfold chV
  rw [if_neg (by decide)]
  by_cases c : O 117 (rkN s / 64) = none
  · rw [if_pos c]
  · rw [if_neg c]; rcases h with h | h
    · exact absurd h c
    · exact h

theorem r_8_isWorkedOut_0 {X : Ctx} (F : Fx X cX8_isWorkedOut RX8 2 3 0 0) {P O : Nat → Nat → Option Nat} (hP : laP P) {I A : Nat → Nat → Int32} {J : Nat → Nat → Int64} {pl : List Nat} (hB : inB pl) {x1 : Int32}
    (e_1 : WA X (mC P O I A J) pl 0 0 4 [(0, .ref 116), (1, .int x1)] [.int 12, .int x1, .ref 116]) :
    WA X (mC P O I A J) pl 0 0 0 [(0, .ref 116), (1, .int x1)] [] := by
  refine a_aload_n F 0 dX8_isWorkedOut_0 rfl rfl ?_
  refine a_iload_n F 1 dX8_isWorkedOut_1 rfl rfl ?_
  refine a_bipush (v := 12) F dX8_isWorkedOut_2 (by decide) ?_
  exact e_1

theorem r_8_isWorkedOut_7 {X : Ctx} (F : Fx X cX8_isWorkedOut RX8 2 3 0 0) {Φ : Option Value → HS → List Nat → Prop} (E : Ex X (some .boolean) 0 0 Φ) {P O : Nat → Nat → Option Nat} (hP : laP P) {I A : Nat → Nat → Int32} {J : Nat → Nat → Int64} {pl : List Nat} (hB : inB pl) {x1 : Int32} {y9 : Int64}
    (e_1 : ((lg_cmp y9 0) ≤ 0) → Φ (some (.int 0)) (mC P O I A J) pl)
    (e_2 : (¬ ((lg_cmp y9 0) ≤ 0)) → Φ (some (.int 1)) (mC P O I A J) pl) :
    WA X (mC P O I A J) pl 0 0 7 [(0, .ref 116), (1, .int x1)] [.long y9] := by
  refine a_lconst (v := 0) F dX8_isWorkedOut_7 (by decide) ?_
  refine a_lcmp F dX8_isWorkedOut_8 ?_
  refine a_if_le (tgt := 16) F dX8_isWorkedOut_9 (by decide) (fun (c_1 : (lg_cmp y9 0) ≤ 0) => ?_) (fun (c_1 : ¬ ((lg_cmp y9 0) ≤ 0)) => ?_)
  · refine a_iconst (v := 0) F dX8_isWorkedOut_16 (by decide) ?_
    exact a_zret F E (by decide) dX8_isWorkedOut_17 (Nat.le_refl 0) (Nat.le_refl 0) (e_1 c_1)
  · refine a_iconst (v := 1) F dX8_isWorkedOut_12 (by decide) ?_
    refine a_goto (tgt := 17) F dX8_isWorkedOut_13 (by decide) ?_
    exact a_zret F E (by decide) dX8_isWorkedOut_17 (Nat.le_refl 0) (Nat.le_refl 0) (e_2 c_1)

set_option maxRecDepth 10000 in
theorem c_8_isWorkedOut (l : Launch) {P O : Nat → Nat → Option Nat} (hP : laP P) (I A : Nat → Nat → Int32) (J : Nat → Nat → Int64) {pl : List Nat} (hB : inB pl) (s : Nat) (hO : shO O pl) (hs : stnd s) (ht : rkT (A 118)) : Con l 3 yX8_isWorkedOut cX8_isWorkedOut 2 (some .boolean) [.ref 116, .int (nI s)] (mC P O I A J) pl 0 0 (PC (some (.int (if 0 < chV O J s 12 then 1 else 0))) P O I A J pl) := by
  refine Con.of (by decide) (Nat.le_of_ble_eq_true rfl) (fun X hX9 hn9 F E => ?_)
  refine r_8_isWorkedOut_0 F hP hB ?_
  refine a_callV (b := 116) (As := [.int (nI s), .int 12]) (st := []) (ci := 8) F (c_8_chances (xl X) hP I A J hB s 12 hO hs (by omega) ht) ml_8_70 im_yX8_chances se_yX8_chances (by decide) (by decide) rfl (hB _ (by decide)) rfl rfl dX8_isWorkedOut_4 (by decide) (Nat.le_refl 0) (Nat.le_refl 0) (hl_r (hB _ (by decide)) (hl_i hl_nil)) hs_nil ?_
  rintro _ _ _ ⟨rfl, rfl, rfl⟩ _
  refine r_8_isWorkedOut_7 F E hP hB (fun z => ?_) (fun z => ?_) <;> rw [lg_cmp_le] at z
  · rw [if_neg (Int64.not_lt.mpr z)]; exact ⟨rfl, rfl, rfl⟩
  · rw [if_pos (Int64.not_le.mp z)]; exact ⟨rfl, rfl, rfl⟩

theorem r_8_isSure_0 {X : Ctx} (F : Fx X cX8_isSure RX8 2 3 0 0) {P O : Nat → Nat → Option Nat} (hP : laP P) {I A : Nat → Nat → Int32} {J : Nat → Nat → Int64} {pl : List Nat} (hB : inB pl) {x1 : Int32}
    (e_1 : WA X (mC P O I A J) pl 0 0 4 [(0, .ref 116), (1, .int x1)] [.int 12, .int x1, .ref 116]) :
    WA X (mC P O I A J) pl 0 0 0 [(0, .ref 116), (1, .int x1)] [] := by
  refine a_aload_n F 0 dX8_isSure_0 rfl rfl ?_
  refine a_iload_n F 1 dX8_isSure_1 rfl rfl ?_
  refine a_bipush (v := 12) F dX8_isSure_2 (by decide) ?_
  exact e_1

theorem r_8_isSure_7 {X : Ctx} (F : Fx X cX8_isSure RX8 2 3 0 0) {Φ : Option Value → HS → List Nat → Prop} (E : Ex X (some .boolean) 0 0 Φ) {P O : Nat → Nat → Option Nat} (hP : laP P) {I A : Nat → Nat → Int32} {J : Nat → Nat → Int64} {pl : List Nat} (hB : inB pl) {x1 : Int32} {y9 : Int64}
    (o_1 : vp_in 12 13)
    (e_2 : (¬ (lg_cmp y9 (J 119 12)) = 0) → Φ (some (.int 0)) (mC P O I A J) pl)
    (e_3 : ((lg_cmp y9 (J 119 12)) = 0) → Φ (some (.int 1)) (mC P O I A J) pl) :
    WA X (mC P O I A J) pl 0 0 7 [(0, .ref 116), (1, .int x1)] [.long y9] := by
  refine a_aload_n F 0 dX8_isSure_7 rfl rfl ?_
  refine a_getr (b := 119) F fl_8_21 rfl (hB _ (by decide)) rfl ((hP 116 2 (by decide)).trans rfl) dX8_isSure_8 ?_
  refine a_bipush (v := 12) F dX8_isSure_11 (by decide) ?_
  refine a_lald F (hB _ (by decide)) rfl (o_1) dX8_isSure_13 ?_
  refine a_lcmp F dX8_isSure_14 ?_
  refine a_if_ne (tgt := 22) F dX8_isSure_15 (by decide) (fun (c_1 : ¬ (lg_cmp y9 (J 119 12)) = 0) => ?_) (fun (c_1 : (lg_cmp y9 (J 119 12)) = 0) => ?_)
  · refine a_iconst (v := 0) F dX8_isSure_22 (by decide) ?_
    exact a_zret F E (by decide) dX8_isSure_23 (Nat.le_refl 0) (Nat.le_refl 0) (e_2 c_1)
  · refine a_iconst (v := 1) F dX8_isSure_18 (by decide) ?_
    refine a_goto (tgt := 23) F dX8_isSure_19 (by decide) ?_
    exact a_zret F E (by decide) dX8_isSure_23 (Nat.le_refl 0) (Nat.le_refl 0) (e_3 c_1)

set_option maxRecDepth 10000 in
theorem c_8_isSure (l : Launch) {P O : Nat → Nat → Option Nat} (hP : laP P) (I A : Nat → Nat → Int32) (J : Nat → Nat → Int64) {pl : List Nat} (hB : inB pl) (s : Nat) (hO : shO O pl) (hs : stnd s) (ht : rkT (A 118)) : Con l 3 yX8_isSure cX8_isSure 2 (some .boolean) [.ref 116, .int (nI s)] (mC P O I A J) pl 0 0 (PC (some (.int (if chV O J s 12 = J 119 12 then 1 else 0))) P O I A J pl) := by
  refine Con.of (by decide) (Nat.le_of_ble_eq_true rfl) (fun X hX9 hn9 F E => ?_)
  refine r_8_isSure_0 F hP hB ?_
  refine a_callV (b := 116) (As := [.int (nI s), .int 12]) (st := []) (ci := 8) F (c_8_chances (xl X) hP I A J hB s 12 hO hs (by omega) ht) ml_8_70 im_yX8_chances se_yX8_chances (by decide) (by decide) rfl (hB _ (by decide)) rfl rfl dX8_isSure_4 (by decide) (Nat.le_refl 0) (Nat.le_refl 0) (hl_r (hB _ (by decide)) (hl_i hl_nil)) hs_nil ?_
  rintro _ _ _ ⟨rfl, rfl, rfl⟩ _
  refine r_8_isSure_7 F E hP hB (vp_in_nI (n := 12) (by omega) (by omega)) (fun z => ?_) (fun z => ?_) <;> rw [lg_cmp_eq] at z
  · rw [if_neg z]; exact ⟨rfl, rfl, rfl⟩
  · rw [if_pos z]; exact ⟨rfl, rfl, rfl⟩
