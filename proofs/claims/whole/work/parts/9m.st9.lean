set_option maxRecDepth 10000 in
theorem c_7_init (l : Launch) {P O : Nat → Nat → Option Nat} (I A : Nat → Nat → Int32) (J : Nat → Nat → Int64) {pl : List Nat} (p : Nat) (hk_p : kC p = 7) (hp_p : p ∈ pl) (hn : p + 1 ∉ pl) (hk1 : kC (p + 1) = 14) (hn1 : nC (p + 1) = 1152) (hC : clC P O pl) : Con l 1 yX7_init cX7_init 1 none [.ref p] (mC P O I A J) pl 1 1152 (fun r σ' pl' => r = none ∧ σ' = mC (up2 P p 0 (some (p + 1))) O I A (up1 J (p + 1) (fun _ => 0)) ∧ pl' = pl ++ [p + 1]) := by
  refine Con.of (by decide) (Nat.le_of_ble_eq_true rfl) (fun X hX9 hn9 F E => ?_)
  have hno : noR (mC P O I A J) pl (p + 1) := hC.no hn
  refine a_aload_n F 0 dX7_init_0 rfl rfl ?_
  refine a_objI F oi_7 oi_i oi_c (by decide) dX7_init_1 (by decide) ?_
  refine a_aload_n F 0 dX7_init_4 rfl rfl ?_
  refine a_sipush (v := 1152) F dX7_init_5 (by decide) ?_
  refine a_newl (p := p + 1) F hk1 hno ac_long (by decide) (by show _ = nC (p + 1); rw [hn1]; rfl) (by show nC (p + 1) * 8 ≤ _; rw [hn1]; decide) dX7_init_8 (Nat.le_refl 1) (by show 0 + nC (p + 1) ≤ 1152; rw [hn1]; decide) (hl_r hp_p hl_nil) (hs_r hp_p hs_nil) ?_
  refine a_putF F hn9 fl_7_13 rfl rfl rfl (fun _ => rfl) (fun _ => rfl) (List.mem_append_left _ hp_p) hk_p dX7_init_10 ?_
  exact a_vret F E dX7_init_13 (Nat.le_refl 1) (by show 0 + nC (p + 1) ≤ 1152; rw [hn1]; decide) ⟨rfl, rfl, rfl⟩

section
variable {X : Ctx} {cc : ByteArray} {own : String} {nL d mc ms : Nat} {P O : Nat → Nat → Option Nat} {I A : Nat → Nat → Int32} {J : Nat → Nat → Int64} {pl : List Nat} {k1 k2 pc : Nat} {ls : List (Nat × Value)} {st : List Value}
theorem a_newSh (F : Fx X cc own nL d mc ms) (S : SX X) {i1 i2 p : Nat} (hk : kC p = 7) (hk1 : kC (p + 1) = 14) (hn1 : nC (p + 1) = 1152) (h0 : p ∉ pl) (h1 : p + 1 ∉ pl) (hC : clC P O pl) (hPp : P p = fun k => if k = 0 then some (p + 1) else none) (hIp : I p = fun _ => 0) (hcl : Cond.classLink own i1 (RR 7) ∈ lwG) (L : MN own i2 yX7_init cX7_init 1 none 0) (hd0 : decode cc pc = .ok (.new i1, 3)) (hd3 : decode cc (pc + 3) = .ok (.dup, 1)) (hd4 : decode cc (pc + 4) = .ok (.invokespecial i2, 3)) (hdd : 1 < d) (hc : k1 + 2 ≤ mc) (hs : k2 + 1153 ≤ ms)
    (hls : ∀ x ∈ ls, ∀ p, x.2 = .ref p → p ∈ pl) (hst : ∀ v ∈ st, ∀ p, v = .ref p → p ∈ pl) (hcat : (st.map fun v => v.category).sum ≤ 7)
    (kk : WA X (mC P O I A (up1 J (p + 1) (fun _ => 0))) (pl ++ [p] ++ [p + 1]) (k1 + 2) (k2 + 1153) (pc + 7) ls (.ref p :: st)) : WA X (mC P O I A J) pl k1 k2 pc ls st := by
  refine a_new (ci := 7) (p := p) F (by decide) hk (hC.no h0) uw7 hcl it_7 ii_7 hd0 (by omega) (by show k2 + 1 ≤ ms; omega) hls hst ?_
  refine a_dup F hd3 rfl ?_
  have hp : p ∈ pl ++ [p] := List.mem_append_right _ (List.mem_singleton.mpr rfl)
  have hn : p + 1 ∉ pl ++ [p] := fun z => by
    rcases List.mem_append.mp z with z | z
    · exact h1 z
    · have := List.mem_singleton.mp z; omega
  have eI : up1 I p (fun _ => 0) = I := by funext q; by_cases c : q = p
                                           · subst c; rw [up1_s, hIp]
                                           · exact up1_p c
  show WA X (mC (up1 P p (fun _ => none)) O (up1 I p (fun _ => 0)) A J) _ _ _ _ _ _
  rw [eI]
  refine a_callN (b := p) (As := []) (st := .ref p :: st) F S (c_7_init (xl X) (P := up1 P p (fun _ => none)) (O := O) I A J p hk hp hn hk1 hn1 (hC.new h0 (by omega))) L rfl im_yX7_init hdd rfl hd4 ?_ (by omega) (by show k2 + 1 + 1152 ≤ ms; omega) (hl_app hls) (hs_r hp (hs_app hst)) ?_
  · show (1 + (st.map fun v => v.category).sum) ≤ 8; omega
  rintro _ _ _ ⟨rfl, rfl, rfl⟩ _
  rw [up_back hPp]
  exact kk
end
def freeK (O : Nat → Nat → Option Nat) (k : Nat) : Nat := if O 117 k = none then 1 else 0
def stoQ (P O : Nat → Nat → Option Nat) (I A : Nat → Nat → Int32) (J : Nat → Nat → Int64) (pl : List Nat) (s : Nat) : Option Value → HS → List Nat → Prop := fun r σ' pl' => r = none ∧ ∃ O' J', σ' = mC P O' I A J' ∧ clC P O' pl' ∧ shO O' pl' ∧ (∀ q, q ∈ pl → q ∈ pl') ∧ (∀ q, q ∈ pl' → q ∈ pl ∨ 1000 ≤ q) ∧ (∀ q, q ≠ 117 → O' q = O q) ∧ (∀ i, i ≠ rkN s / 64 → O' 117 i = O 117 i) ∧ O' 117 (rkN s / 64) = some (1000 + 2 * (rkN s / 64)) ∧ (∀ q, q ≠ 1001 + 2 * (rkN s / 64) → J' q = J q) ∧ (∀ j, j < 6 → clJ J' s j = J 147 j) ∧ (∀ j, j < 12 → clJ J' s (6 + j) = J 124 j) ∧ (∀ i, i < 18 * (rkN s % 64) ∨ 18 * (rkN s % 64) + 18 ≤ i → J' (1001 + 2 * (rkN s / 64)) i = if O 117 (rkN s / 64) = none then 0 else J (1001 + 2 * (rkN s / 64)) i)
/-- places of shelves hold no words -/
def shI (I : Nat → Nat → Int32) : Prop := ∀ k, I (1000 + 2 * k) = fun _ => 0

theorem r_8_store_0 {X : Ctx} {mc ms k1 k2 : Nat} (F : Fx X cX8_store RX8 5 2 mc ms) (hk1 : k1 ≤ mc) (hk2 : k2 ≤ ms) {Φ : Option Value → HS → List Nat → Prop} (E : Ex X none mc ms Φ) {P O : Nat → Nat → Option Nat} (hP : laP P) {I A : Nat → Nat → Int32} {J : Nat → Nat → Int64} {pl : List Nat} (hB : inB pl) {x1 : Int32}
    (o_1 : stdI x1)
    (o_2 : rkT (A 118))
    (e_3 : (((rkI x1) / 64) < 848) → WA X (mC P O I A J) pl k1 k2 24 [(3, .int ((rkI x1) / 64)), (2, .int (rkI x1)), (0, .ref 116), (1, .int x1)] [.int ((rkI x1) / 64), .ref 117])
    (e_4 : (¬ (((rkI x1) / 64) < 848)) → Φ none (mC P O I A J) pl) :
    WA X (mC P O I A J) pl k1 k2 0 [(0, .ref 116), (1, .int x1)] [] := by
  refine a_aload_n F 0 dX8_store_0 rfl rfl ?_
  refine a_iload_n F 1 dX8_store_1 rfl rfl ?_
  refine a_callV (b := 116) (As := [.int x1]) (st := []) (ci := 8) F (c_8_rankOfI (xl X) hP I A J hB x1 (o_1) (o_2)) ml_8_74 im_yX8_rankOf se_yX8_rankOf (by decide) (by decide) rfl (hB _ (by decide)) rfl rfl dX8_store_2 (by decide) hk1 hk2 (hl_r (hB _ (by decide)) (hl_i hl_nil)) hs_nil ?_
  rintro _ _ _ ⟨rfl, rfl, rfl⟩ _
  show WA X (mC P O I A J) pl k1 k2 5 [(0, .ref 116), (1, .int x1)] [.int (rkI x1)]
  refine a_istore_n F dX8_store_5 rfl (by decide) rfl ?_
  refine a_iload_n F 0 dX8_store_6 rfl rfl ?_
  refine a_bipush (v := 64) F dX8_store_7 (by decide) ?_
  refine a_idiv F dX8_store_9 (by decide) ?_
  refine a_istore_n F dX8_store_10 rfl (by decide) rfl ?_
  refine a_iload_n F 0 dX8_store_11 rfl rfl ?_
  refine a_sipush (v := 848) F dX8_store_12 (by decide) ?_
  refine a_icmp_lt (tgt := 19) F dX8_store_15 (by decide) (fun (c_1 : ((rkI x1) / 64) < 848) => ?_) (fun (c_1 : ¬ (((rkI x1) / 64) < 848)) => ?_)
  · refine a_aload_n F 2 dX8_store_19 rfl rfl ?_
    refine a_getr (b := 117) F fl_8_13 rfl (hB _ (by decide)) rfl ((hP 116 0 (by decide)).trans rfl) dX8_store_20 ?_
    refine a_iload_n F 0 dX8_store_23 rfl rfl ?_
    exact e_3 c_1
  · exact a_vret F E dX8_store_18 hk1 hk2 (e_4 c_1)

theorem r_8_store_41 {X : Ctx} {mc ms k1 k2 : Nat} (F : Fx X cX8_store RX8 5 2 mc ms) (hk1 : k1 ≤ mc) (hk2 : k2 ≤ ms) {P O : Nat → Nat → Option Nat} (hP : laP P) {I A : Nat → Nat → Int32} {J : Nat → Nat → Int64} {pl : List Nat} (hB : inB pl) {x1 x2 x3 : Int32}
    (e_1 : WA X (mC P O I A J) pl k1 k2 46 [(0, .ref 116), (1, .int x1), (2, .int x2), (3, .int x3)] [.int x3, .ref 117]) :
    WA X (mC P O I A J) pl k1 k2 41 [(0, .ref 116), (1, .int x1), (2, .int x2), (3, .int x3)] [] := by
  refine a_aload_n F 0 dX8_store_41 rfl rfl ?_
  refine a_getr (b := 117) F fl_8_13 rfl (hB _ (by decide)) rfl ((hP 116 0 (by decide)).trans rfl) dX8_store_42 ?_
  refine a_iload_n F 3 dX8_store_45 rfl rfl ?_
  exact e_1

theorem r_8_store_25 {X : Ctx} {mc ms k1 k2 : Nat} (F : Fx X cX8_store RX8 5 2 mc ms) (hk1 : k1 ≤ mc) (hk2 : k2 ≤ ms) {P O : Nat → Nat → Option Nat} (hP : laP P) {I A : Nat → Nat → Int32} {J : Nat → Nat → Int64} {pl : List Nat} (hB : inB pl) {x1 x2 x3 : Int32} {q9 : Nat} (hk_q9 : kC q9 = 7) (hp_q9 : q9 ∈ pl) (hq_q9 : q9 + 1 ∈ pl)
    (e_1 : WA X (mC P O I A J) pl k1 k2 41 [(0, .ref 116), (1, .int x1), (2, .int x2), (3, .int x3)] []) :
    WA X (mC P O I A J) pl k1 k2 25 [(0, .ref 116), (1, .int x1), (2, .int x2), (3, .int x3)] [.ref q9] := by
  refine a_ifnonnull (tgt := 41) F dX8_store_25 (by decide) ?_
  exact e_1

theorem r_8_store_25N {X : Ctx} {mc ms k1 k2 : Nat} (F : Fx X cX8_store RX8 5 2 mc ms) (hk1 : k1 ≤ mc) (hk2 : k2 ≤ ms) {P O : Nat → Nat → Option Nat} (hP : laP P) {I A : Nat → Nat → Int32} {J : Nat → Nat → Int64} {pl : List Nat} (hB : inB pl) {x1 x2 x3 : Int32}
    (e_1 : WA X (mC P O I A J) pl k1 k2 33 [(0, .ref 116), (1, .int x1), (2, .int x2), (3, .int x3)] [.int x3, .ref 117]) :
    WA X (mC P O I A J) pl k1 k2 25 [(0, .ref 116), (1, .int x1), (2, .int x2), (3, .int x3)] [.null] := by
  refine a_ifnonnullN F dX8_store_25 ?_
  refine a_aload_n F 0 dX8_store_28 rfl rfl ?_
  refine a_getr (b := 117) F fl_8_13 rfl (hB _ (by decide)) rfl ((hP 116 0 (by decide)).trans rfl) dX8_store_29 ?_
  refine a_iload_n F 3 dX8_store_32 rfl rfl ?_
  exact e_1

theorem r_8_store_47 {X : Ctx} {mc ms k1 k2 : Nat} (F : Fx X cX8_store RX8 5 2 mc ms) (hk1 : k1 ≤ mc) (hk2 : k2 ≤ ms) {Φ : Option Value → HS → List Nat → Prop} (E : Ex X none mc ms Φ) {P O : Nat → Nat → Option Nat} (hP : laP P) {I A : Nat → Nat → Int32} {J : Nat → Nat → Int64} {pl : List Nat} (hB : inB pl) {x1 x2 x3 : Int32} {q9 : Nat} (hk_q9 : kC q9 = 7) (hp_q9 : q9 ∈ pl) (hq_q9 : q9 + 1 ∈ pl)
    (o_1 : 0 ≤ x2)
    (o_2 : ¬ (ceI x2) < 0)
    (o_3 : 0 + 6 ≤ 6)
    (o_4 : (ceI x2).toNatClampNeg + 6 ≤ 1152)
    (o_5 : 0 ≤ x2)
    (o_6 : ¬ ((ceI x2) + 6) < 0)
    (o_7 : 0 + 12 ≤ 12)
    (o_8 : ((ceI x2) + 6).toNatClampNeg + 12 ≤ 1152)
    (e_9 : Φ none (mC P O I A (up1 (up1 J (q9 + 1) (va_cpy (J 147) (J (q9 + 1)) 0 (ceI x2).toNatClampNeg 6)) (q9 + 1) (va_cpy ((up1 J (q9 + 1) (va_cpy (J 147) (J (q9 + 1)) 0 (ceI x2).toNatClampNeg 6)) 124) ((up1 J (q9 + 1) (va_cpy (J 147) (J (q9 + 1)) 0 (ceI x2).toNatClampNeg 6)) (q9 + 1)) 0 ((ceI x2) + 6).toNatClampNeg 12))) pl) :
    WA X (mC P O I A J) pl k1 k2 47 [(0, .ref 116), (1, .int x1), (2, .int x2), (3, .int x3)] [.ref q9] := by
  refine a_getr (b := (q9 + 1)) F fl_8_82 rfl (hp_q9) hk_q9 (laP_sh hP hk_q9) dX8_store_47 ?_
  refine a_astore F dX8_store_50 (by decide) rfl ?_
  refine a_aload_n F 1 dX8_store_52 rfl rfl ?_
  refine a_getr (b := 146) F fl_8_35 rfl (hB _ (by decide)) rfl ((hP 116 5 (by decide)).trans rfl) dX8_store_53 ?_
  refine a_getr (b := 147) F fl_8_114 rfl (hB _ (by decide)) rfl ((hP 146 0 (by decide)).trans rfl) dX8_store_56 ?_
  refine a_iconst (v := 0) F dX8_store_59 (by decide) ?_
  refine a_aload F 0 dX8_store_60 rfl ?_
  refine a_iload_n F 3 dX8_store_62 rfl rfl ?_
  refine a_callS (As := [.int x2]) (st := [.ref (q9 + 1), .int 0, .ref 147]) F (c_8_cellOfI (xl X) hP I A J hB x2 (o_1)) ml_8_85 sm_yX8_cellOf (by decide) rfl dX8_store_63 (Nat.le_of_ble_eq_true rfl) hk1 hk2 (hl_r (hq_q9) (hl_r (hB _ (by decide)) (hl_i (hl_i (hl_i hl_nil))))) (hs_r (hq_q9) (hs_i (hs_r (hB _ (by decide)) hs_nil))) ?_
  rintro _ _ _ ⟨rfl, rfl, rfl⟩ _
  show WA X (mC P O I A J) pl k1 k2 66 [(4, .ref (q9 + 1)), (0, .ref 116), (1, .int x1), (2, .int x2), (3, .int x3)] [.int (ceI x2), .ref (q9 + 1), .int 0, .ref 147]
  refine a_bipush (v := 6) F dX8_store_66 (by decide) ?_
  refine a_cpyl F cp_8_92 (hB _ (by decide)) (hq_q9) rfl (k_sh hk_q9).1 (by decide) (o_2) (by decide) (o_3) (show _ ≤ nC (q9 + 1) from (k_sh hk_q9).2 ▸ o_4) (by decide) (by decide) dX8_store_68 ?_
  refine a_aload_n F 1 dX8_store_71 rfl rfl ?_
  refine a_getr (b := 124) F fl_8_25 rfl (hB _ (by decide)) rfl ((hP 116 3 (by decide)).trans rfl) dX8_store_72 ?_
  refine a_iconst (v := 0) F dX8_store_75 (by decide) ?_
  refine a_aload F 0 dX8_store_76 rfl ?_
  refine a_iload_n F 3 dX8_store_78 rfl rfl ?_
  refine a_callS (As := [.int x2]) (st := [.ref (q9 + 1), .int 0, .ref 124]) F (c_8_cellOfI (xl X) hP I A (up1 J (q9 + 1) (va_cpy (J 147) (J (q9 + 1)) 0 (ceI x2).toNatClampNeg 6)) hB x2 (o_5)) ml_8_85 sm_yX8_cellOf (by decide) rfl dX8_store_79 (Nat.le_of_ble_eq_true rfl) hk1 hk2 (hl_r (hq_q9) (hl_r (hB _ (by decide)) (hl_i (hl_i (hl_i hl_nil))))) (hs_r (hq_q9) (hs_i (hs_r (hB _ (by decide)) hs_nil))) ?_
  rintro _ _ _ ⟨rfl, rfl, rfl⟩ _
  show WA X (mC P O I A (up1 J (q9 + 1) (va_cpy (J 147) (J (q9 + 1)) 0 (ceI x2).toNatClampNeg 6))) pl k1 k2 82 [(4, .ref (q9 + 1)), (0, .ref 116), (1, .int x1), (2, .int x2), (3, .int x3)] [.int (ceI x2), .ref (q9 + 1), .int 0, .ref 124]
  refine a_bipush (v := 6) F dX8_store_82 (by decide) ?_
  refine a_iadd F dX8_store_84 ?_
  refine a_bipush (v := 12) F dX8_store_85 (by decide) ?_
  refine a_cpyl F cp_8_92 (hB _ (by decide)) (hq_q9) rfl (k_sh hk_q9).1 (by decide) (o_6) (by decide) (o_7) (show _ ≤ nC (q9 + 1) from (k_sh hk_q9).2 ▸ o_8) (by decide) (by decide) dX8_store_87 ?_
  exact a_vret F E dX8_store_90 hk1 hk2 (e_9)

set_option maxRecDepth 100000 in
theorem c_8_store (l : Launch) {P O : Nat → Nat → Option Nat} (hP : laP P) (I A : Nat → Nat → Int32) (J : Nat → Nat → Int64) {pl : List Nat} (hB : inB pl) (s : Nat) (hF : laF P) (hI : shI I) (hO : shO O pl) (hs : stnd s) (ht : rkT (A 118)) (hC : clC P O pl) : ConS l 2 yX8_store cX8_store 5 none [.ref 116, .int (nI s)] (mC P O I A J) pl (2 * freeK O (rkN s / 64)) (1153 * freeK O (rkN s / 64)) (stoQ P O I A J pl s) := by
  refine ConS.of (by decide) (Nat.le_of_ble_eq_true rfl) (fun X hX9 hn9 F E S => ?_)
  have hs2 : s < 2 ^ 31 := by have := hs.1; omega
  have hb := rk_b hs
  obtain ⟨r, hr⟩ : ∃ r, rkN s = r := ⟨_, rfl⟩
  have eq : rkI (nI s) = nI r := by rw [rkI_n hs, hr]
  have eqJ : ∀ J s, rkN s = r → clJ J s = fun k => J (1001 + 2 * (r / 64)) (18 * (r % 64) + k) := fun J s h => by unfold clJ; rw [h]; funext k; congr 1; omega
  rw [hr] at hb
  have hk : r / 64 < 848 := by omega
  obtain ⟨k, hk9⟩ : ∃ k, r / 64 = k := ⟨_, rfl⟩
  have e64 : nI r / 64 = nI k := by rw [← hk9]; exact pk_div (d := 64) (by omega) (by decide) (by decide)
  rw [hk9] at hk
  have lk : nI k < 848 := (nI_ltn 848 (by omega) (by omega)).mpr hk
  have vk : vp_in (nI k) 848 := vp_in_nI hk (by omega)
  have ck : (nI k).toNatClampNeg = k := nI_clamp (by omega)
  obtain ⟨w, hw⟩ : ∃ w, 18 * (r % 64) = w := ⟨_, rfl⟩
  have w1 : w + 18 ≤ 1152 := by omega
  have ec : ceI (nI r) = nI w := by rw [ceI_n (by omega), hw]
  have ec6 : nI w + 6 = nI (w + 6) := nI_add _ 6
  refine r_8_store_0 F (Nat.zero_le _) (Nat.zero_le _) E hP hB ((std_n hs2).mpr hs) ht (fun _ => ?_) (fun z => absurd (by rw [eq, e64]; exact lk) z)
  rw [eq, e64]
  refine a_sub [2, 3, 1, 0] rfl ?_
  have fin : ∀ (k1 k2 : Nat) (O' : Nat → Nat → Option Nat) (J0 : Nat → Nat → Int64) (pl' : List Nat), k1 ≤ 2 * freeK O (rkN s / 64) → k2 ≤ 1153 * freeK O (rkN s / 64) → inB pl' → clC P O' pl' → shO O' pl' → (∀ q, q ∈ pl → q ∈ pl') → (∀ q, q ∈ pl' → q ∈ pl ∨ 1000 ≤ q) → (∀ q, q ≠ 117 → O' q = O q) → (∀ i, i ≠ k → O' 117 i = O 117 i) → O' 117 k = some (1000 + 2 * k) → 1000 + 2 * k ∈ pl' → 1001 + 2 * k ∈ pl' → (∀ q, q ≠ 1001 + 2 * k → J0 q = J q) → (∀ i, J0 (1001 + 2 * k) i = if O 117 k = none then 0 else J (1001 + 2 * k) i) → WA X (mC P O' I A J0) pl' k1 k2 41 [(0, .ref 116), (1, .int (nI s)), (2, .int (nI r)), (3, .int (nI k))] [] := by
    intro k1 k2 O' J0 pl' h1 h2 hB' c1 c2 c3 c4 c5 c6 c7 m1 m2 j1 j2
    refine r_8_store_41 F h1 h2 hP hB' ?_
    refine a_aldR (c := 17) F (hB' _ (by decide)) rfl (Or.inr rfl) vk (show O' 117 (nI k).toNatClampNeg = some (1000 + 2 * k) by rw [ck]; exact c7) dX8_store_46 ?_
    have e1 : 1000 + 2 * k + 1 = 1001 + 2 * k := by omega
    refine r_8_store_47 F h1 h2 E hP hB' (kC_sh _) m1 (by rw [e1]; exact m2) (nI_pos' (by omega)) (by rw [ec]; exact Int32.not_lt.mpr (nI_pos' (by omega))) (by decide) (by rw [ec, nI_clamp (by omega)]; omega) (nI_pos' (by omega)) (by rw [ec, ec6]; exact Int32.not_lt.mpr (nI_pos' (by omega))) (by decide) (by rw [ec, ec6, nI_clamp (by omega)]; omega) ?_
    rw [ec, ec6, nI_clamp (by omega), nI_clamp (by omega), e1, up1_s, up1_p (show 124 ≠ 1001 + 2 * k by omega), j1 147 (by omega), j1 124 (by omega)]
    refine ⟨rfl, O', _, rfl, ?_⟩
    rw [hr, hk9]
    refine ⟨c1, c2, c3, c4, c5, c6, c7, fun q h => ?_, fun j hj => ?_, fun j hj => ?_, fun i hi => ?_⟩
    · rw [up1_p h, up1_p h, j1 q h]
    · rw [eqJ _ s hr, hk9, hw]
      show up1 _ _ _ _ (w + j) = _
      rw [up1_s]; unfold va_cpy
      rw [if_neg (by omega), if_pos (by omega)]; congr 1; omega
    · rw [eqJ _ s hr, hk9, hw]
      show up1 _ _ _ _ (w + (6 + j)) = _
      rw [up1_s]; unfold va_cpy
      rw [if_pos (by omega)]; congr 1; omega
    · rw [hw] at hi
      rw [up1_s]; unfold va_cpy
      rw [if_neg (by omega), if_neg (by omega), j2]
  have en : ∀ b, O 117 k = none → b ≤ 2 → b ≤ 2 * freeK O (rkN s / 64) := fun b h hb => by unfold freeK; rw [hr, hk9, if_pos h]; omega
  have en2 : O 117 k = none → 1153 ≤ 1153 * freeK O (rkN s / 64) := fun h => by unfold freeK; rw [hr, hk9, if_pos h]; omega
  rcases hO k hk with ⟨o1, o2, o3⟩ | ⟨o1, o2, o3⟩
  · refine a_aldR (c := 17) F (hB _ (by decide)) rfl (Or.inr rfl) vk (show O 117 (nI k).toNatClampNeg = some (1000 + 2 * k) by rw [ck]; exact o1) dX8_store_24 ?_
    refine r_8_store_25 F (Nat.zero_le _) (Nat.zero_le _) hP hB (kC_sh _) o2 (by rw [show 1000 + 2 * k + 1 = 1001 + 2 * k by omega]; exact o3) ?_
    exact fin 0 0 O J pl (Nat.zero_le _) (Nat.zero_le _) hB hC hO (fun _ h => h) (fun _ h => Or.inl h) (fun _ _ => rfl) (fun _ _ => rfl) o1 o2 o3 (fun _ _ => rfl) (fun i => by rw [o1, if_neg (fun z => nomatch z)])
  · refine a_aldN (c := 17) F (hB _ (by decide)) rfl (Or.inr rfl) vk (show O 117 (nI k).toNatClampNeg = none by rw [ck]; exact o1) dX8_store_24 ?_
    refine r_8_store_25N F (Nat.zero_le _) (Nat.zero_le _) hP hB ?_
    have e1 : 1000 + 2 * k + 1 = 1001 + 2 * k := by omega
    have hh : hoC (1000 + 2 * k) = true := by unfold hoC; rw [kC_sh]; rfl
    refine a_newSh (p := 1000 + 2 * k) F S (kC_sh _) (kC_sh1 _) (nC_sh _) o2 (by rw [e1]; exact o3) hC (hF _ hh) (hI k) cl_8_3 mn_8_120 dX8_store_33 dX8_store_36 dX8_store_37 (by decide) (en 2 o1 (Nat.le_refl _)) (en2 o1) (hl_r (hB _ (by decide)) (hl_i (hl_i (hl_i hl_nil)))) (hs_i (hs_r (hB _ (by decide)) hs_nil)) (Nat.le_of_ble_eq_true rfl) ?_
    rw [e1]
    have sub : ∀ q, q ∈ pl → q ∈ pl ++ [1000 + 2 * k] ++ [1001 + 2 * k] := fun q h => List.mem_append_left _ (List.mem_append_left _ h)
    have m1 : 1000 + 2 * k ∈ pl ++ [1000 + 2 * k] ++ [1001 + 2 * k] := List.mem_append_left _ (List.mem_append_right _ (List.mem_singleton.mpr rfl))
    have m2 : 1001 + 2 * k ∈ pl ++ [1000 + 2 * k] ++ [1001 + 2 * k] := List.mem_append_right _ (List.mem_singleton.mpr rfl)
    have hB' : inB (pl ++ [1000 + 2 * k] ++ [1001 + 2 * k]) := fun q h => sub q (hB q h)
    have only : ∀ q, q ∈ pl ++ [1000 + 2 * k] ++ [1001 + 2 * k] → q ∈ pl ∨ q = 1000 + 2 * k ∨ q = 1001 + 2 * k := fun q h => by
      rcases List.mem_append.mp h with h | h
      · rcases List.mem_append.mp h with h | h
        · exact Or.inl h
        · exact Or.inr (Or.inl (List.mem_singleton.mp h))
      · exact Or.inr (Or.inr (List.mem_singleton.mp h))
    have hC2 : clC P O (pl ++ [1000 + 2 * k] ++ [1001 + 2 * k]) := by
      have z1 := ((hC.new o2 (by rw [kC_sh]; omega)).row (p := 1001 + 2 * k) (by rw [← e1, kC_sh1]; omega) (by rw [← e1, kC_sh1]; omega)).put (p := 1000 + 2 * k) (k := 0) m2
      exact z1.cg (by rw [← e1]; exact (up_back (hF _ hh)).symm)
    refine a_astR (c := 17) (ci := 7) F (hB' _ (by decide)) rfl (Or.inr ⟨rfl, rfl⟩) m1 (kC_sh _) vk dX8_store_40 ?_
    have eo : va_up (O 117) (nI k).toNatClampNeg (some (1000 + 2 * k)) = va_up (O 117) k (some (1000 + 2 * k)) := by rw [ck]
    show WA X (mC P (up1 O 117 (va_up (O 117) (nI k).toNatClampNeg (some (1000 + 2 * k)))) I A (up1 J (1001 + 2 * k) (fun _ => 0))) _ _ _ _ _ _
    rw [eo]
    have v1 : va_up (O 117) k (some (1000 + 2 * k)) k = some (1000 + 2 * k) := by simp [va_up]
    have v2 : ∀ i, i ≠ k → va_up (O 117) k (some (1000 + 2 * k)) i = O 117 i := fun i h => by simp [va_up, h]
    refine fin (0 + 2) (0 + 1153) _ _ _ (by rw [Nat.zero_add]; exact en 2 o1 (Nat.le_refl _)) (by rw [Nat.zero_add]; exact en2 o1) hB' (hC2.ast m1) (fun i hi => ?_) sub (fun q h => ?_) (fun q h => up1_p h) (fun i h => by rw [up1_s]; exact v2 i h) (by rw [up1_s]; exact v1) m1 m2 (fun q h => up1_p h) (fun i => by rw [up1_s, if_pos o1])
    · rw [up1_s]
      by_cases c : i = k
      · subst c; exact Or.inl ⟨v1, m1, m2⟩
      · rw [v2 i c]
        rcases hO i hi with ⟨p1, p2, p3⟩ | ⟨p1, p2, p3⟩
        · exact Or.inl ⟨p1, sub _ p2, sub _ p3⟩
        · refine Or.inr ⟨p1, fun z => ?_, fun z => ?_⟩
          · rcases only _ z with z | z | z
            · exact p2 z
            · omega
            · omega
          · rcases only _ z with z | z | z
            · exact p3 z
            · omega
            · omega
    · rcases only q h with z | z | z
      · exact Or.inl z
      · right; omega
      · right; omega
