/-! public methods: feed, ask, learn, begin, next -/
def anB (x : Int32) (k : Nat) : Int32 := (if k = 0 then ((x : Int32).toUInt32 >>> ((24 : Int32).toUInt32 &&& Int32.toUInt32 31)).toInt32 else if k = 1 then ((x : Int32).toUInt32 >>> ((16 : Int32).toUInt32 &&& Int32.toUInt32 31)).toInt32 else if k = 2 then ((x : Int32).toUInt32 >>> ((8 : Int32).toUInt32 &&& Int32.toUInt32 31)).toInt32 else x) &&& 255
theorem r_1_addNumber_0 {X : Ctx} (F : Fx X cX1_addNumber RX1 2 2 0 0) {P O : Nat → Nat → Option Nat} (hP : laP P) {I A : Nat → Nat → Int32} {J : Nat → Nat → Int64} {pl : List Nat} (hB : inB pl) {x1 : Int32} {p : Nat} (hk_p : kC p = 1) (hp_p : p ∈ pl) (hq_p : p + 1 ∈ pl)
    (e_1 : WA X (mC P O I A J) pl 0 0 5 [(0, .ref p), (1, .int x1)] [.int (((x1 : Int32).toUInt32 >>> ((24 : Int32).toUInt32 &&& Int32.toUInt32 31)).toInt32), .ref p]) :
    WA X (mC P O I A J) pl 0 0 0 [(0, .ref p), (1, .int x1)] [] := by
  refine a_aload_n F 0 dX1_addNumber_0 rfl rfl ?_
  refine a_iload_n F 1 dX1_addNumber_1 rfl rfl ?_
  refine a_bipush (v := 24) F dX1_addNumber_2 (by decide) ?_
  refine a_iushr F dX1_addNumber_4 ?_
  exact e_1

theorem r_1_addNumber_8b {X : Ctx} (F : Fx X cX1_addNumber RX1 2 2 0 0) {P O : Nat → Nat → Option Nat} (hP : laP P) {I A : Nat → Nat → Int32} {J : Nat → Nat → Int64} {pl : List Nat} (hB : inB pl) {x1 : Int32} {p : Nat} (hk_p : kC p = 1) (hp_p : p ∈ pl) (hq_p : p + 1 ∈ pl)
    (e_1 : WA X (mC P O I A J) pl 0 0 13 [(0, .ref p), (1, .int x1)] [.int (((x1 : Int32).toUInt32 >>> ((16 : Int32).toUInt32 &&& Int32.toUInt32 31)).toInt32), .ref p]) :
    WA X (mC P O I A J) pl 0 0 8 [(0, .ref p), (1, .int x1)] [] := by
  refine a_aload_n F 0 dX1_addNumber_8 rfl rfl ?_
  refine a_iload_n F 1 dX1_addNumber_9 rfl rfl ?_
  refine a_bipush (v := 16) F dX1_addNumber_10 (by decide) ?_
  refine a_iushr F dX1_addNumber_12 ?_
  exact e_1

theorem r_1_addNumber_16c {X : Ctx} (F : Fx X cX1_addNumber RX1 2 2 0 0) {P O : Nat → Nat → Option Nat} (hP : laP P) {I A : Nat → Nat → Int32} {J : Nat → Nat → Int64} {pl : List Nat} (hB : inB pl) {x1 : Int32} {p : Nat} (hk_p : kC p = 1) (hp_p : p ∈ pl) (hq_p : p + 1 ∈ pl)
    (e_1 : WA X (mC P O I A J) pl 0 0 21 [(0, .ref p), (1, .int x1)] [.int (((x1 : Int32).toUInt32 >>> ((8 : Int32).toUInt32 &&& Int32.toUInt32 31)).toInt32), .ref p]) :
    WA X (mC P O I A J) pl 0 0 16 [(0, .ref p), (1, .int x1)] [] := by
  refine a_aload_n F 0 dX1_addNumber_16 rfl rfl ?_
  refine a_iload_n F 1 dX1_addNumber_17 rfl rfl ?_
  refine a_bipush (v := 8) F dX1_addNumber_18 (by decide) ?_
  refine a_iushr F dX1_addNumber_20 ?_
  exact e_1

theorem r_1_addNumber_24d {X : Ctx} (F : Fx X cX1_addNumber RX1 2 2 0 0) {P O : Nat → Nat → Option Nat} (hP : laP P) {I A : Nat → Nat → Int32} {J : Nat → Nat → Int64} {pl : List Nat} (hB : inB pl) {x1 : Int32} {p : Nat} (hk_p : kC p = 1) (hp_p : p ∈ pl) (hq_p : p + 1 ∈ pl)
    (e_1 : WA X (mC P O I A J) pl 0 0 26 [(0, .ref p), (1, .int x1)] [.int x1, .ref p]) :
    WA X (mC P O I A J) pl 0 0 24 [(0, .ref p), (1, .int x1)] [] := by
  refine a_aload_n F 0 dX1_addNumber_24 rfl rfl ?_
  refine a_iload_n F 1 dX1_addNumber_25 rfl rfl ?_
  exact e_1

set_option maxRecDepth 10000 in
theorem c_1_addNumber (l : Launch) {P O : Nat → Nat → Option Nat} (hP : laP P) (I A : Nat → Nat → Int32) (J : Nat → Nat → Int64) {pl : List Nat} (hB : inB pl) (p : Nat) (hk_p : kC p = 1) (hp_p : p ∈ pl) (hq_p : p + 1 ∈ pl) (x : Int32) (n : Nat) (hn : n + 4 ≤ 400) (hI : I p 1 = nI n) : Con l 2 yX1_addNumber cX1_addNumber 2 none [.ref p, .int x] (mC P O I A J) pl 0 0 (PC none P O (up2 I p 1 (nI (n + 4))) (up1 A (p + 1) (segF (A (p + 1)) n 4 (anB x))) J pl) := by
  refine Con.of (by decide) (Nat.le_of_ble_eq_true rfl) (fun X hX9 hn9 F E => ?_)
  refine r_1_addNumber_0 F hP hB hk_p hp_p hq_p ?_
  refine a_callV (b := p) (As := [.int (((x : Int32).toUInt32 >>> ((24 : Int32).toUInt32 &&& Int32.toUInt32 31)).toInt32)]) (st := []) (ci := 1) F (c_1_add (xl X) hP I A J hB p hk_p hp_p hq_p (((x : Int32).toUInt32 >>> ((24 : Int32).toUInt32 &&& Int32.toUInt32 31)).toInt32) (n + 0) (by omega) hI) ml_1_19 im_yX1_add se_yX1_add (by decide) (by decide) rfl hp_p hk_p rfl dX1_addNumber_5 (by decide) (Nat.le_refl 0) (Nat.le_refl 0) (hl_r hp_p (hl_i hl_nil)) hs_nil ?_
  rintro _ _ _ ⟨rfl, rfl, rfl⟩ _
  have s0 : upd (A (p + 1)) n (anB x 0) = segF (A (p + 1)) n 1 (anB x) := by rw [← seg_s, seg_0]; rfl
  show WA X (mC P O (up2 I p 1 (nI (n + 1))) (up1 A (p + 1) (upd (A (p + 1)) n (anB x 0))) J) pl 0 0 8 [(0, .ref p), (1, .int x)] []
  rw [s0]
  refine r_1_addNumber_8b F hP hB hk_p hp_p hq_p ?_
  refine a_callV (b := p) (As := [.int (((x : Int32).toUInt32 >>> ((16 : Int32).toUInt32 &&& Int32.toUInt32 31)).toInt32)]) (st := []) (ci := 1) F (c_1_add (xl X) hP (up2 I p 1 (nI (n + 1))) (up1 A (p + 1) (segF (A (p + 1)) n 1 (anB x))) J hB p hk_p hp_p hq_p (((x : Int32).toUInt32 >>> ((16 : Int32).toUInt32 &&& Int32.toUInt32 31)).toInt32) (n + 1) (by omega) up2_s) ml_1_19 im_yX1_add se_yX1_add (by decide) (by decide) rfl hp_p hk_p rfl dX1_addNumber_13 (by decide) (Nat.le_refl 0) (Nat.le_refl 0) (hl_r hp_p (hl_i hl_nil)) hs_nil ?_
  rintro _ _ _ ⟨rfl, rfl, rfl⟩ _
  rw [up2_up2, up1_up1, up1_s]
  have s1 : upd (segF (A (p + 1)) n 1 (anB x)) (n + 1) (anB x 1) = segF (A (p + 1)) n 2 (anB x) := seg_s _ _ _ _
  show WA X (mC P O (up2 I p 1 (nI (n + 1 + 1))) (up1 A (p + 1) (upd (segF (A (p + 1)) n 1 (anB x)) (n + 1) (anB x 1))) J) pl 0 0 16 [(0, .ref p), (1, .int x)] []
  rw [s1]
  refine r_1_addNumber_16c F hP hB hk_p hp_p hq_p ?_
  refine a_callV (b := p) (As := [.int (((x : Int32).toUInt32 >>> ((8 : Int32).toUInt32 &&& Int32.toUInt32 31)).toInt32)]) (st := []) (ci := 1) F (c_1_add (xl X) hP (up2 I p 1 (nI (n + 2))) (up1 A (p + 1) (segF (A (p + 1)) n 2 (anB x))) J hB p hk_p hp_p hq_p (((x : Int32).toUInt32 >>> ((8 : Int32).toUInt32 &&& Int32.toUInt32 31)).toInt32) (n + 2) (by omega) up2_s) ml_1_19 im_yX1_add se_yX1_add (by decide) (by decide) rfl hp_p hk_p rfl dX1_addNumber_21 (by decide) (Nat.le_refl 0) (Nat.le_refl 0) (hl_r hp_p (hl_i hl_nil)) hs_nil ?_
  rintro _ _ _ ⟨rfl, rfl, rfl⟩ _
  rw [up2_up2, up1_up1, up1_s]
  have s2 : upd (segF (A (p + 1)) n 2 (anB x)) (n + 2) (anB x 2) = segF (A (p + 1)) n 3 (anB x) := seg_s _ _ _ _
  show WA X (mC P O (up2 I p 1 (nI (n + 2 + 1))) (up1 A (p + 1) (upd (segF (A (p + 1)) n 2 (anB x)) (n + 2) (anB x 2))) J) pl 0 0 24 [(0, .ref p), (1, .int x)] []
  rw [s2]
  refine r_1_addNumber_24d F hP hB hk_p hp_p hq_p ?_
  refine a_callV (b := p) (As := [.int (x)]) (st := []) (ci := 1) F (c_1_add (xl X) hP (up2 I p 1 (nI (n + 3))) (up1 A (p + 1) (segF (A (p + 1)) n 3 (anB x))) J hB p hk_p hp_p hq_p (x) (n + 3) (by omega) up2_s) ml_1_19 im_yX1_add se_yX1_add (by decide) (by decide) rfl hp_p hk_p rfl dX1_addNumber_26 (by decide) (Nat.le_refl 0) (Nat.le_refl 0) (hl_r hp_p (hl_i hl_nil)) hs_nil ?_
  rintro _ _ _ ⟨rfl, rfl, rfl⟩ _
  rw [up2_up2, up1_up1, up1_s]
  have s3 : upd (segF (A (p + 1)) n 3 (anB x)) (n + 3) (anB x 3) = segF (A (p + 1)) n 4 (anB x) := seg_s _ _ _ _
  show WA X (mC P O (up2 I p 1 (nI (n + 3 + 1))) (up1 A (p + 1) (upd (segF (A (p + 1)) n 3 (anB x)) (n + 3) (anB x 3))) J) pl 0 0 29 [(0, .ref p), (1, .int x)] []
  rw [s3]
  exact a_vret F E dX1_addNumber_29 (Nat.le_refl 0) (Nat.le_refl 0) ⟨rfl, rfl, rfl⟩

def feedC (a b c d e : Int32) (k : Nat) : Int32 := anB (if k < 4 then a else if k < 8 then b else if k < 12 then c else if k < 16 then d else e) (k % 4)
theorem feed_row (f : Nat → Int32) (n : Nat) (a b c d e : Int32) : segF (segF (segF (segF (segF f n 4 (anB a)) (n + 4) 4 (anB b)) (n + 4 + 4) 4 (anB c)) (n + 4 + 4 + 4) 4 (anB d)) (n + 4 + 4 + 4 + 4) 4 (anB e) = segF f n 20 (feedC a b c d e) := by
  funext k
  unfold segF feedC
  by_cases h5 : n + 4 + 4 + 4 + 4 ≤ k ∧ k < n + 4 + 4 + 4 + 4 + 4
  · rw [if_pos h5, if_pos (by omega), if_neg (by omega), if_neg (by omega), if_neg (by omega), if_neg (by omega)]; congr 1; omega
  · rw [if_neg h5]
    by_cases h4 : n + 4 + 4 + 4 ≤ k ∧ k < n + 4 + 4 + 4 + 4
    · rw [if_pos h4, if_pos (by omega), if_neg (by omega), if_neg (by omega), if_neg (by omega), if_pos (by omega)]; congr 1; omega
    · rw [if_neg h4]
      by_cases h3 : n + 4 + 4 ≤ k ∧ k < n + 4 + 4 + 4
      · rw [if_pos h3, if_pos (by omega), if_neg (by omega), if_neg (by omega), if_pos (by omega)]; congr 1; omega
      · rw [if_neg h3]
        by_cases h2 : n + 4 ≤ k ∧ k < n + 4 + 4
        · rw [if_pos h2, if_pos (by omega), if_neg (by omega), if_pos (by omega)]; congr 1; omega
        · rw [if_neg h2]
          by_cases h1 : n ≤ k ∧ k < n + 4
          · rw [if_pos h1, if_pos (by omega), if_pos (by omega)]; congr 1; omega
          · rw [if_neg h1, if_neg (by omega)]
theorem r_11_feed_0 {X : Ctx} {mc ms k1 k2 : Nat} (F : Fx X cX11_feed RX11 6 18 mc ms) (S : SXX X) {Ψx : String → HS → List Nat → Prop} (T : Tx X mc ms Ψx) (hk1 : k1 + 6 ≤ mc) (hk2 : k2 + 36 ≤ ms) {Φ : Option Value → HS → List Nat → Prop} (E : Ex X (some .int) mc ms Φ) {P O : Nat → Nat → Option Nat} (hP : laP P) {I A : Nat → Nat → Int32} {J : Nat → Nat → Int64} {pl : List Nat} (hB : inB pl) {x1 x2 x3 x4 x5 : Int32}
    (e_1 : (((I 120 1) + 20) ≤ 400) → WA X (mC P O I A J) pl k1 k2 23 [(0, .ref 100), (1, .int x1), (2, .int x2), (3, .int x3), (4, .int x4), (5, .int x5)] [.int x1, .ref 120])
    (e_2 : (¬ (((I 120 1) + 20) ≤ 400)) → Φ (some (.int (-1))) (mC P O I A J) pl) :
    WA X (mC P O I A J) pl k1 k2 0 [(0, .ref 100), (1, .int x1), (2, .int x2), (3, .int x3), (4, .int x4), (5, .int x5)] [] := by
  refine a_aload_n F 0 dX11_feed_0 rfl rfl ?_
  refine a_getr (b := 120) F fl_11_10 rfl (hB _ (by decide)) rfl ((hP 100 0 (by decide)).trans rfl) dX11_feed_1 ?_
  refine a_geti F fl_11_84 rfl (hB _ (by decide)) rfl dX11_feed_4 ?_
  refine a_bipush (v := 20) F dX11_feed_7 (by decide) ?_
  refine a_iadd F dX11_feed_9 ?_
  refine a_sipush (v := 400) F dX11_feed_10 (by decide) ?_
  refine a_icmp_le (tgt := 18) F dX11_feed_13 (by decide) (fun (c_1 : ((I 120 1) + 20) ≤ 400) => ?_) (fun (c_1 : ¬ (((I 120 1) + 20) ≤ 400)) => ?_)
  · refine a_aload_n F 0 dX11_feed_18 rfl rfl ?_
    refine a_getr (b := 120) F fl_11_10 rfl (hB _ (by decide)) rfl ((hP 100 0 (by decide)).trans rfl) dX11_feed_19 ?_
    refine a_iload_n F 1 dX11_feed_22 rfl rfl ?_
    exact e_1 c_1
  · refine a_iconst (v := (-1)) F dX11_feed_16 (by decide) ?_
    exact a_iret F E dX11_feed_17 (by omega) (by omega) (e_2 c_1)

theorem r_11_feed_26b {X : Ctx} {mc ms k1 k2 : Nat} (F : Fx X cX11_feed RX11 6 18 mc ms) (S : SXX X) {Ψx : String → HS → List Nat → Prop} (T : Tx X mc ms Ψx) (hk1 : k1 + 6 ≤ mc) (hk2 : k2 + 36 ≤ ms) {P O : Nat → Nat → Option Nat} (hP : laP P) {I A : Nat → Nat → Int32} {J : Nat → Nat → Int64} {pl : List Nat} (hB : inB pl) {x1 x2 x3 x4 x5 : Int32}
    (e_1 : WA X (mC P O I A J) pl k1 k2 31 [(0, .ref 100), (1, .int x1), (2, .int x2), (3, .int x3), (4, .int x4), (5, .int x5)] [.int x2, .ref 120]) :
    WA X (mC P O I A J) pl k1 k2 26 [(0, .ref 100), (1, .int x1), (2, .int x2), (3, .int x3), (4, .int x4), (5, .int x5)] [] := by
  refine a_aload_n F 0 dX11_feed_26 rfl rfl ?_
  refine a_getr (b := 120) F fl_11_10 rfl (hB _ (by decide)) rfl ((hP 100 0 (by decide)).trans rfl) dX11_feed_27 ?_
  refine a_iload_n F 2 dX11_feed_30 rfl rfl ?_
  exact e_1

theorem r_11_feed_34c {X : Ctx} {mc ms k1 k2 : Nat} (F : Fx X cX11_feed RX11 6 18 mc ms) (S : SXX X) {Ψx : String → HS → List Nat → Prop} (T : Tx X mc ms Ψx) (hk1 : k1 + 6 ≤ mc) (hk2 : k2 + 36 ≤ ms) {P O : Nat → Nat → Option Nat} (hP : laP P) {I A : Nat → Nat → Int32} {J : Nat → Nat → Int64} {pl : List Nat} (hB : inB pl) {x1 x2 x3 x4 x5 : Int32}
    (e_1 : WA X (mC P O I A J) pl k1 k2 39 [(0, .ref 100), (1, .int x1), (2, .int x2), (3, .int x3), (4, .int x4), (5, .int x5)] [.int x3, .ref 120]) :
    WA X (mC P O I A J) pl k1 k2 34 [(0, .ref 100), (1, .int x1), (2, .int x2), (3, .int x3), (4, .int x4), (5, .int x5)] [] := by
  refine a_aload_n F 0 dX11_feed_34 rfl rfl ?_
  refine a_getr (b := 120) F fl_11_10 rfl (hB _ (by decide)) rfl ((hP 100 0 (by decide)).trans rfl) dX11_feed_35 ?_
  refine a_iload_n F 3 dX11_feed_38 rfl rfl ?_
  exact e_1

theorem r_11_feed_42d {X : Ctx} {mc ms k1 k2 : Nat} (F : Fx X cX11_feed RX11 6 18 mc ms) (S : SXX X) {Ψx : String → HS → List Nat → Prop} (T : Tx X mc ms Ψx) (hk1 : k1 + 6 ≤ mc) (hk2 : k2 + 36 ≤ ms) {P O : Nat → Nat → Option Nat} (hP : laP P) {I A : Nat → Nat → Int32} {J : Nat → Nat → Int64} {pl : List Nat} (hB : inB pl) {x1 x2 x3 x4 x5 : Int32}
    (e_1 : WA X (mC P O I A J) pl k1 k2 48 [(0, .ref 100), (1, .int x1), (2, .int x2), (3, .int x3), (4, .int x4), (5, .int x5)] [.int x4, .ref 120]) :
    WA X (mC P O I A J) pl k1 k2 42 [(0, .ref 100), (1, .int x1), (2, .int x2), (3, .int x3), (4, .int x4), (5, .int x5)] [] := by
  refine a_aload_n F 0 dX11_feed_42 rfl rfl ?_
  refine a_getr (b := 120) F fl_11_10 rfl (hB _ (by decide)) rfl ((hP 100 0 (by decide)).trans rfl) dX11_feed_43 ?_
  refine a_iload F 4 dX11_feed_46 rfl ?_
  exact e_1

theorem r_11_feed_51e {X : Ctx} {mc ms k1 k2 : Nat} (F : Fx X cX11_feed RX11 6 18 mc ms) (S : SXX X) {Ψx : String → HS → List Nat → Prop} (T : Tx X mc ms Ψx) (hk1 : k1 + 6 ≤ mc) (hk2 : k2 + 36 ≤ ms) {P O : Nat → Nat → Option Nat} (hP : laP P) {I A : Nat → Nat → Int32} {J : Nat → Nat → Int64} {pl : List Nat} (hB : inB pl) {x1 x2 x3 x4 x5 : Int32}
    (e_1 : WA X (mC P O I A J) pl k1 k2 57 [(0, .ref 100), (1, .int x1), (2, .int x2), (3, .int x3), (4, .int x4), (5, .int x5)] [.int x5, .ref 120]) :
    WA X (mC P O I A J) pl k1 k2 51 [(0, .ref 100), (1, .int x1), (2, .int x2), (3, .int x3), (4, .int x4), (5, .int x5)] [] := by
  refine a_aload_n F 0 dX11_feed_51 rfl rfl ?_
  refine a_getr (b := 120) F fl_11_10 rfl (hB _ (by decide)) rfl ((hP 100 0 (by decide)).trans rfl) dX11_feed_52 ?_
  refine a_iload F 5 dX11_feed_55 rfl ?_
  exact e_1

theorem r_11_feed_60f {X : Ctx} {mc ms k1 k2 : Nat} (F : Fx X cX11_feed RX11 6 18 mc ms) (S : SXX X) {Ψx : String → HS → List Nat → Prop} (T : Tx X mc ms Ψx) (hk1 : k1 + 6 ≤ mc) (hk2 : k2 + 36 ≤ ms) {Φ : Option Value → HS → List Nat → Prop} (E : Ex X (some .int) mc ms Φ) {P O : Nat → Nat → Option Nat} (hP : laP P) {I A : Nat → Nat → Int32} {J : Nat → Nat → Int64} {pl : List Nat} (hB : inB pl) {x1 x2 x3 x4 x5 : Int32}
    (e_1 : Φ (some (.int (I 120 1))) (mC P O I A J) pl) :
    WA X (mC P O I A J) pl k1 k2 60 [(0, .ref 100), (1, .int x1), (2, .int x2), (3, .int x3), (4, .int x4), (5, .int x5)] [] := by
  refine a_aload_n F 0 dX11_feed_60 rfl rfl ?_
  refine a_getr (b := 120) F fl_11_10 rfl (hB _ (by decide)) rfl ((hP 100 0 (by decide)).trans rfl) dX11_feed_61 ?_
  refine a_geti F fl_11_84 rfl (hB _ (by decide)) rfl dX11_feed_64 ?_
  exact a_iret F E dX11_feed_67 (by omega) (by omega) (e_1)

set_option maxRecDepth 10000 in
theorem c_11_feed (l : Launch) (hst : l.stackTraces = false) {P O : Nat → Nat → Option Nat} (hP : laP P) (I A : Nat → Nat → Int32) (J : Nat → Nat → Int64) {pl : List Nat} (hB : inB pl) (a b c d e : Int32) (n : Nat) (hn : n ≤ 400) (hI : I 120 1 = nI n) : ConX l 18 yX11_feed cX11_feed 6 (some .int) [.ref 100, .int a, .int b, .int c, .int d, .int e] (mC P O I A J) pl 6 36 (fun r σ' pl' => (n + 20 ≤ 400 ∧ r = some (.int (nI (n + 20))) ∧ σ' = mC P O (up2 I 120 1 (nI (n + 20))) (up1 A 121 (segF (A 121) n 20 (feedC a b c d e))) J ∧ pl = pl') ∨ (¬ n + 20 ≤ 400 ∧ r = some (.int (-1)) ∧ σ' = mC P O I A J ∧ pl = pl')) (fun _ _ _ => False) := by
  refine ConX.of hst (by decide) (Nat.le_of_ble_eq_true rfl) (fun X hX9 hn9 F E S T => ?_)
  have e20 : I 120 1 + 20 = nI (n + 20) := by rw [hI]; exact nI_A n 20
  refine r_11_feed_0 F S T (by decide) (by decide) E hP hB (fun h => ?_) (fun h => ?_)
  · rw [e20, nI_len 400 (by omega) (by omega)] at h
    refine a_callV (b := 120) (As := [.int a]) (st := []) (ci := 1) F (c_1_addNumber (xl X) hP I A J hB 120 rfl (hB _ (by decide)) (hB _ (by decide)) a (n) (by omega) hI) ml_11_88 im_yX1_addNumber se_yX1_addNumber (by decide) (by decide) rfl (hB _ (by decide)) rfl rfl dX11_feed_23 (by decide) (by decide) (by decide) (hl_r (hB _ (by decide)) (hl_i (hl_i (hl_i (hl_i (hl_i hl_nil)))))) hs_nil ?_
    rintro _ _ _ ⟨rfl, rfl, rfl⟩ _
    show WA X (mC P O (up2 I 120 1 (nI (n + 4))) (up1 A 121 (segF (A 121) (n) 4 (anB a))) J) pl 0 0 26 _ []
    refine r_11_feed_26b F S T (by decide) (by decide) hP hB ?_
    refine a_callV (b := 120) (As := [.int b]) (st := []) (ci := 1) F (c_1_addNumber (xl X) hP (up2 I 120 1 (nI (n + 4))) (up1 A 121 (segF (A 121) (n) 4 (anB a))) J hB 120 rfl (hB _ (by decide)) (hB _ (by decide)) b (n + 4) (by omega) up2_s) ml_11_88 im_yX1_addNumber se_yX1_addNumber (by decide) (by decide) rfl (hB _ (by decide)) rfl rfl dX11_feed_31 (by decide) (by decide) (by decide) (hl_r (hB _ (by decide)) (hl_i (hl_i (hl_i (hl_i (hl_i hl_nil)))))) hs_nil ?_
    rintro _ _ _ ⟨rfl, rfl, rfl⟩ _
    rw [up2_up2, up1_up1, up1_s]
    show WA X (mC P O (up2 I 120 1 (nI (n + 4 + 4))) (up1 A 121 (segF (segF (A 121) (n) 4 (anB a)) (n + 4) 4 (anB b))) J) pl 0 0 34 _ []
    refine r_11_feed_34c F S T (by decide) (by decide) hP hB ?_
    refine a_callV (b := 120) (As := [.int c]) (st := []) (ci := 1) F (c_1_addNumber (xl X) hP (up2 I 120 1 (nI (n + 4 + 4))) (up1 A 121 (segF (segF (A 121) (n) 4 (anB a)) (n + 4) 4 (anB b))) J hB 120 rfl (hB _ (by decide)) (hB _ (by decide)) c (n + 4 + 4) (by omega) up2_s) ml_11_88 im_yX1_addNumber se_yX1_addNumber (by decide) (by decide) rfl (hB _ (by decide)) rfl rfl dX11_feed_39 (by decide) (by decide) (by decide) (hl_r (hB _ (by decide)) (hl_i (hl_i (hl_i (hl_i (hl_i hl_nil)))))) hs_nil ?_
    rintro _ _ _ ⟨rfl, rfl, rfl⟩ _
    rw [up2_up2, up1_up1, up1_s]
    show WA X (mC P O (up2 I 120 1 (nI (n + 4 + 4 + 4))) (up1 A 121 (segF (segF (segF (A 121) (n) 4 (anB a)) (n + 4) 4 (anB b)) (n + 4 + 4) 4 (anB c))) J) pl 0 0 42 _ []
    refine r_11_feed_42d F S T (by decide) (by decide) hP hB ?_
    refine a_callV (b := 120) (As := [.int d]) (st := []) (ci := 1) F (c_1_addNumber (xl X) hP (up2 I 120 1 (nI (n + 4 + 4 + 4))) (up1 A 121 (segF (segF (segF (A 121) (n) 4 (anB a)) (n + 4) 4 (anB b)) (n + 4 + 4) 4 (anB c))) J hB 120 rfl (hB _ (by decide)) (hB _ (by decide)) d (n + 4 + 4 + 4) (by omega) up2_s) ml_11_88 im_yX1_addNumber se_yX1_addNumber (by decide) (by decide) rfl (hB _ (by decide)) rfl rfl dX11_feed_48 (by decide) (by decide) (by decide) (hl_r (hB _ (by decide)) (hl_i (hl_i (hl_i (hl_i (hl_i hl_nil)))))) hs_nil ?_
    rintro _ _ _ ⟨rfl, rfl, rfl⟩ _
    rw [up2_up2, up1_up1, up1_s]
    show WA X (mC P O (up2 I 120 1 (nI (n + 4 + 4 + 4 + 4))) (up1 A 121 (segF (segF (segF (segF (A 121) (n) 4 (anB a)) (n + 4) 4 (anB b)) (n + 4 + 4) 4 (anB c)) (n + 4 + 4 + 4) 4 (anB d))) J) pl 0 0 51 _ []
    refine r_11_feed_51e F S T (by decide) (by decide) hP hB ?_
    refine a_callV (b := 120) (As := [.int e]) (st := []) (ci := 1) F (c_1_addNumber (xl X) hP (up2 I 120 1 (nI (n + 4 + 4 + 4 + 4))) (up1 A 121 (segF (segF (segF (segF (A 121) (n) 4 (anB a)) (n + 4) 4 (anB b)) (n + 4 + 4) 4 (anB c)) (n + 4 + 4 + 4) 4 (anB d))) J hB 120 rfl (hB _ (by decide)) (hB _ (by decide)) e (n + 4 + 4 + 4 + 4) (by omega) up2_s) ml_11_88 im_yX1_addNumber se_yX1_addNumber (by decide) (by decide) rfl (hB _ (by decide)) rfl rfl dX11_feed_57 (by decide) (by decide) (by decide) (hl_r (hB _ (by decide)) (hl_i (hl_i (hl_i (hl_i (hl_i hl_nil)))))) hs_nil ?_
    rintro _ _ _ ⟨rfl, rfl, rfl⟩ _
    rw [up2_up2, up1_up1, up1_s]
    show WA X (mC P O (up2 I 120 1 (nI (n + 4 + 4 + 4 + 4 + 4))) (up1 A 121 (segF (segF (segF (segF (segF (A 121) (n) 4 (anB a)) (n + 4) 4 (anB b)) (n + 4 + 4) 4 (anB c)) (n + 4 + 4 + 4) 4 (anB d)) (n + 4 + 4 + 4 + 4) 4 (anB e))) J) pl 0 0 60 _ []
    refine r_11_feed_60f F S T (by decide) (by decide) E hP hB ?_
    rw [feed_row]
    exact Or.inl ⟨h, by rw [up2_s], rfl, rfl⟩
  · rw [e20, nI_len 400 (by omega) (by omega)] at h
    exact Or.inr ⟨h, rfl, rfl, rfl⟩

def askC (I A : Nat → Nat → Int32) (w : Int32) : Int32 := if w = 0 then I 130 1 else if w = 1 then pipsF (A 131) 0 25 else if w = 2 then pipsF (A 131) 1 25 else if w = 3 then (if A 131 0 = 15 ∨ A 131 26 = 15 then 1 else 0) else if w = 4 then I 120 1 else if w = 5 then I 122 1 else if w = 6 then I 110 7 else I 100 10
theorem r_11_ask_0 {X : Ctx} {mc ms k1 k2 : Nat} (F : Fx X cX11_ask RX11 2 18 mc ms) (S : SXX X) {Ψx : String → HS → List Nat → Prop} (T : Tx X mc ms Ψx) (hk1 : k1 + 6 ≤ mc) (hk2 : k2 + 36 ≤ ms) {Φ : Option Value → HS → List Nat → Prop} (E : Ex X (some .int) mc ms Φ) {P O : Nat → Nat → Option Nat} (hP : laP P) {I A : Nat → Nat → Int32} {J : Nat → Nat → Int64} {pl : List Nat} (hB : inB pl) {x1 : Int32}
    (e_1 : (x1 = 0) → Φ (some (.int (I 130 1))) (mC P O I A J) pl)
    (e_2 : (¬ x1 = 0) → (x1 = 1) → WA X (mC P O I A J) pl k1 k2 61 [(0, .ref 100), (1, .int x1)] [.int 0, .ref 130])
    (e_3 : (¬ x1 = 0) → (¬ x1 = 1) → (x1 = 2) → WA X (mC P O I A J) pl k1 k2 70 [(0, .ref 100), (1, .int x1)] [.int 1, .ref 130])
    (e_4 : (¬ x1 = 0) → (¬ x1 = 1) → (¬ x1 = 2) → (x1 = 3) → WA X (mC P O I A J) pl k1 k2 78 [(0, .ref 100), (1, .int x1)] [.ref 130])
    (e_5 : (¬ x1 = 0) → (¬ x1 = 1) → (¬ x1 = 2) → (¬ x1 = 3) → (x1 = 4) → Φ (some (.int (I 120 1))) (mC P O I A J) pl)
    (e_6 : (¬ x1 = 0) → (¬ x1 = 1) → (¬ x1 = 2) → (¬ x1 = 3) → (¬ x1 = 4) → (x1 = 5) → Φ (some (.int (I 122 1))) (mC P O I A J) pl)
    (e_7 : (¬ x1 = 0) → (¬ x1 = 1) → (¬ x1 = 2) → (¬ x1 = 3) → (¬ x1 = 4) → (¬ x1 = 5) → (x1 = 6) → Φ (some (.int (I 110 7))) (mC P O I A J) pl)
    (e_8 : (¬ x1 = 0) → (¬ x1 = 1) → (¬ x1 = 2) → (¬ x1 = 3) → (¬ x1 = 4) → (¬ x1 = 5) → (¬ x1 = 6) → (x1 = 7) → Φ (some (.int (I 100 10))) (mC P O I A J) pl)
    (e_9 : (¬ x1 = 0) → (¬ x1 = 1) → (¬ x1 = 2) → (¬ x1 = 3) → (¬ x1 = 4) → (¬ x1 = 5) → (¬ x1 = 6) → (¬ x1 = 7) → Ψx "java/lang/IllegalArgumentException" (mC P O I A J) pl) :
    WA X (mC P O I A J) pl k1 k2 0 [(0, .ref 100), (1, .int x1)] [] := by
  refine a_iload_n F 1 dX11_ask_0 rfl rfl ?_
  by_cases c_1 : x1 = 0
  · refine a_tableIn (off := 47) (tgt := 48) F dX11_ask_1 (by rw [c_1]; decide) (by rw [c_1]; decide) (by rw [c_1]; rfl) (by decide) ?_
    refine a_aload_n F 0 dX11_ask_48 rfl rfl ?_
    refine a_getr (b := 130) F fl_11_22 rfl (hB _ (by decide)) rfl ((hP 100 2 (by decide)).trans rfl) dX11_ask_49 ?_
    refine a_geti F fl_11_134 rfl (hB _ (by decide)) rfl dX11_ask_52 ?_
    exact a_iret F E dX11_ask_55 (by omega) (by omega) (e_1 c_1)
  by_cases c_2 : x1 = 1
  · refine a_tableIn (off := 55) (tgt := 56) F dX11_ask_1 (by rw [c_2]; decide) (by rw [c_2]; decide) (by rw [c_2]; rfl) (by decide) ?_
    refine a_aload_n F 0 dX11_ask_56 rfl rfl ?_
    refine a_getr (b := 130) F fl_11_22 rfl (hB _ (by decide)) rfl ((hP 100 2 (by decide)).trans rfl) dX11_ask_57 ?_
    refine a_iconst (v := 0) F dX11_ask_60 (by decide) ?_
    exact e_2 c_1 c_2
  by_cases c_3 : x1 = 2
  · refine a_tableIn (off := 64) (tgt := 65) F dX11_ask_1 (by rw [c_3]; decide) (by rw [c_3]; decide) (by rw [c_3]; rfl) (by decide) ?_
    refine a_aload_n F 0 dX11_ask_65 rfl rfl ?_
    refine a_getr (b := 130) F fl_11_22 rfl (hB _ (by decide)) rfl ((hP 100 2 (by decide)).trans rfl) dX11_ask_66 ?_
    refine a_iconst (v := 1) F dX11_ask_69 (by decide) ?_
    exact e_3 c_1 c_2 c_3
  by_cases c_4 : x1 = 3
  · refine a_tableIn (off := 73) (tgt := 74) F dX11_ask_1 (by rw [c_4]; decide) (by rw [c_4]; decide) (by rw [c_4]; rfl) (by decide) ?_
    refine a_aload_n F 0 dX11_ask_74 rfl rfl ?_
    refine a_getr (b := 130) F fl_11_22 rfl (hB _ (by decide)) rfl ((hP 100 2 (by decide)).trans rfl) dX11_ask_75 ?_
    exact e_4 c_1 c_2 c_3 c_4
  by_cases c_5 : x1 = 4
  · refine a_tableIn (off := 89) (tgt := 90) F dX11_ask_1 (by rw [c_5]; decide) (by rw [c_5]; decide) (by rw [c_5]; rfl) (by decide) ?_
    refine a_aload_n F 0 dX11_ask_90 rfl rfl ?_
    refine a_getr (b := 120) F fl_11_10 rfl (hB _ (by decide)) rfl ((hP 100 0 (by decide)).trans rfl) dX11_ask_91 ?_
    refine a_geti F fl_11_84 rfl (hB _ (by decide)) rfl dX11_ask_94 ?_
    exact a_iret F E dX11_ask_97 (by omega) (by omega) (e_5 c_1 c_2 c_3 c_4 c_5)
  by_cases c_6 : x1 = 5
  · refine a_tableIn (off := 97) (tgt := 98) F dX11_ask_1 (by rw [c_6]; decide) (by rw [c_6]; decide) (by rw [c_6]; rfl) (by decide) ?_
    refine a_aload_n F 0 dX11_ask_98 rfl rfl ?_
    refine a_getr (b := 122) F fl_11_16 rfl (hB _ (by decide)) rfl ((hP 100 1 (by decide)).trans rfl) dX11_ask_99 ?_
    refine a_geti F fl_11_84 rfl (hB _ (by decide)) rfl dX11_ask_102 ?_
    exact a_iret F E dX11_ask_105 (by omega) (by omega) (e_6 c_1 c_2 c_3 c_4 c_5 c_6)
  by_cases c_7 : x1 = 6
  · refine a_tableIn (off := 105) (tgt := 106) F dX11_ask_1 (by rw [c_7]; decide) (by rw [c_7]; decide) (by rw [c_7]; rfl) (by decide) ?_
    refine a_aload_n F 0 dX11_ask_106 rfl rfl ?_
    refine a_getr (b := 110) F fl_11_56 rfl (hB _ (by decide)) rfl ((hP 100 6 (by decide)).trans rfl) dX11_ask_107 ?_
    refine a_geti F fl_11_144 rfl (hB _ (by decide)) rfl dX11_ask_110 ?_
    exact a_iret F E dX11_ask_113 (by omega) (by omega) (e_7 c_1 c_2 c_3 c_4 c_5 c_6 c_7)
  by_cases c_8 : x1 = 7
  · refine a_tableIn (off := 113) (tgt := 114) F dX11_ask_1 (by rw [c_8]; decide) (by rw [c_8]; decide) (by rw [c_8]; rfl) (by decide) ?_
    refine a_aload_n F 0 dX11_ask_114 rfl rfl ?_
    refine a_geti F fl_11_146 rfl (hB _ (by decide)) rfl dX11_ask_115 ?_
    exact a_iret F E dX11_ask_118 (by omega) (by omega) (e_8 c_1 c_2 c_3 c_4 c_5 c_6 c_7 c_8)
  refine a_tableOut (tgt := 119) F dX11_ask_1 (by have h0 := lv_neT (a := 0) c_1 (by decide); have h1 := lv_neT (a := 1) c_2 (by decide); have h2 := lv_neT (a := 2) c_3 (by decide); have h3 := lv_neT (a := 3) c_4 (by decide); have h4 := lv_neT (a := 4) c_5 (by decide); have h5 := lv_neT (a := 5) c_6 (by decide); have h6 := lv_neT (a := 6) c_7 (by decide); have h7 := lv_neT (a := 7) c_8 (by decide); omega) (by decide) ?_
  exact a_throwS F S T (TW.m153 (List.mem_of_getElem? (i := 3) rfl)) (by decide) dX11_ask_119 dX11_ask_122 dX11_ask_123 dX11_ask_125 dX11_ask_128 (by omega) (by omega) (by decide) (e_9 c_1 c_2 c_3 c_4 c_5 c_6 c_7 c_8)

theorem r_11_ask_81b {X : Ctx} {mc ms k1 k2 : Nat} (F : Fx X cX11_ask RX11 2 18 mc ms) (S : SXX X) {Ψx : String → HS → List Nat → Prop} (T : Tx X mc ms Ψx) (hk1 : k1 + 6 ≤ mc) (hk2 : k2 + 36 ≤ ms) {Φ : Option Value → HS → List Nat → Prop} (E : Ex X (some .int) mc ms Φ) {P O : Nat → Nat → Option Nat} (hP : laP P) {I A : Nat → Nat → Int32} {J : Nat → Nat → Int64} {pl : List Nat} (hB : inB pl) {x1 z9 : Int32}
    (e_1 : (z9 = 0) → Φ (some (.int 0)) (mC P O I A J) pl)
    (e_2 : (¬ (z9 = 0)) → Φ (some (.int 1)) (mC P O I A J) pl) :
    WA X (mC P O I A J) pl k1 k2 81 [(0, .ref 100), (1, .int x1)] [.int z9] := by
  refine a_if_eq (tgt := 88) F dX11_ask_81 (by decide) (fun (c_9 : z9 = 0) => ?_) (fun (c_9 : ¬ (z9 = 0)) => ?_)
  · refine a_iconst (v := 0) F dX11_ask_88 (by decide) ?_
    exact a_iret F E dX11_ask_89 (by omega) (by omega) (e_1 c_9)
  · refine a_iconst (v := 1) F dX11_ask_84 (by decide) ?_
    refine a_goto (tgt := 89) F dX11_ask_85 (by decide) ?_
    exact a_iret F E dX11_ask_89 (by omega) (by omega) (e_2 c_9)

set_option maxRecDepth 10000 in
theorem c_11_ask (l : Launch) (hst : l.stackTraces = false) {P O : Nat → Nat → Option Nat} (hP : laP P) (I A : Nat → Nat → Int32) (J : Nat → Nat → Int64) {pl : List Nat} (hB : inB pl) (w : Int32) : ConX l 18 yX11_ask cX11_ask 2 (some .int) [.ref 100, .int w] (mC P O I A J) pl 6 36 (fun r σ' pl' => (0 ≤ w ∧ w ≤ 7) ∧ r = some (.int (askC I A w)) ∧ σ' = mC P O I A J ∧ pl = pl') (fun E σ' pl' => E = "java/lang/IllegalArgumentException" ∧ σ' = mC P O I A J ∧ pl = pl' ∧ ¬ (0 ≤ w ∧ w ≤ 7)) := by
  refine ConX.of hst (by decide) (Nat.le_of_ble_eq_true rfl) (fun X hX9 hn9 F E S T => ?_)
  have fin : ∀ v, (0 ≤ w ∧ w ≤ 7) → askC I A w = v → (fun (r : Option Value) (σ' : HS) (pl' : List Nat) => (0 ≤ w ∧ w ≤ 7) ∧ r = some (Value.int (askC I A w)) ∧ σ' = mC P O I A J ∧ pl = pl') (some (Value.int v)) (mC P O I A J) pl := fun v h1 h2 => ⟨h1, by rw [h2], rfl, rfl⟩
  refine r_11_ask_0 F S T (by decide) (by decide) E hP hB (fun h => ?_) (fun h0 h => ?_) (fun h0 h1 h => ?_) (fun h0 h1 h2 h => ?_) (fun h0 h1 h2 h3 h => ?_) (fun h0 h1 h2 h3 h4 h => ?_) (fun h0 h1 h2 h3 h4 h5 h => ?_) (fun h0 h1 h2 h3 h4 h5 h6 h => ?_) (fun h0 h1 h2 h3 h4 h5 h6 h => ?_)
  · exact fin _ (by rw [h]; decide) (by unfold askC; rw [if_pos h])
  · refine a_callV (b := 130) (As := [.int 0]) (st := []) (ci := 0) F (c_0_pips (xl X) hP I A J hB 130 rfl (hB _ (by decide)) (hB _ (by decide)) 0 (by decide)) ml_11_137 im_yX0_pips se_yX0_pips (by decide) (by decide) rfl (hB _ (by decide)) rfl rfl dX11_ask_61 (by decide) (by decide) (by decide) (hl_r (hB _ (by decide)) (hl_i hl_nil)) hs_nil ?_
    rintro _ _ _ ⟨rfl, rfl, rfl⟩ _
    exact a_iret F E dX11_ask_64 (by decide) (by decide) (fin _ (by rw [h]; decide) (by unfold askC; rw [if_neg h0, if_pos h]))
  · refine a_callV (b := 130) (As := [.int 1]) (st := []) (ci := 0) F (c_0_pips (xl X) hP I A J hB 130 rfl (hB _ (by decide)) (hB _ (by decide)) 1 (by decide)) ml_11_137 im_yX0_pips se_yX0_pips (by decide) (by decide) rfl (hB _ (by decide)) rfl rfl dX11_ask_70 (by decide) (by decide) (by decide) (hl_r (hB _ (by decide)) (hl_i hl_nil)) hs_nil ?_
    rintro _ _ _ ⟨rfl, rfl, rfl⟩ _
    exact a_iret F E dX11_ask_73 (by decide) (by decide) (fin _ (by rw [h]; decide) (by unfold askC; rw [if_neg h0, if_neg h1, if_pos h]))
  · refine a_callV (b := 130) (As := []) (st := []) (ci := 0) F (c_0_isOver (xl X) hP I A J hB 130 rfl (hB _ (by decide)) (hB _ (by decide))) ml_11_141 im_yX0_isOver se_yX0_isOver (by decide) (by decide) rfl (hB _ (by decide)) rfl rfl dX11_ask_78 (by decide) (by decide) (by decide) (hl_r (hB _ (by decide)) (hl_i hl_nil)) hs_nil ?_
    rintro _ _ _ ⟨rfl, rfl, rfl⟩ _
    refine r_11_ask_81b F S T (by decide) (by decide) E hP hB (fun z => ?_) (fun z => ?_)
    · refine fin _ (by rw [h]; decide) ?_
      unfold askC; rw [if_neg h0, if_neg h1, if_neg h2, if_pos h]; exact z
    · refine fin _ (by rw [h]; decide) ?_
      unfold askC; rw [if_neg h0, if_neg h1, if_neg h2, if_pos h]
      by_cases c : A 131 0 = 15 ∨ A 131 26 = 15
      · rw [if_pos c]
      · exact absurd (if_neg c) z
  · exact fin _ (by rw [h]; decide) (by unfold askC; rw [if_neg h0, if_neg h1, if_neg h2, if_neg h3, if_pos h])
  · exact fin _ (by rw [h]; decide) (by unfold askC; rw [if_neg h0, if_neg h1, if_neg h2, if_neg h3, if_neg h4, if_pos h])
  · exact fin _ (by rw [h]; decide) (by unfold askC; rw [if_neg h0, if_neg h1, if_neg h2, if_neg h3, if_neg h4, if_neg h5, if_pos h])
  · exact fin _ (by rw [h]; decide) (by unfold askC; rw [if_neg h0, if_neg h1, if_neg h2, if_neg h3, if_neg h4, if_neg h5, if_neg h6])
  · refine ⟨rfl, rfl, rfl, fun z => ?_⟩
    grind

theorem r_11_learn_0 {X : Ctx} {mc ms k1 k2 : Nat} (F : Fx X cX11_learn RX11 1 18 mc ms) (S : SXX X) {Ψx : String → HS → List Nat → Prop} (T : Tx X mc ms Ψx) (hk1 : k1 + 6 ≤ mc) (hk2 : k2 + 36 ≤ ms) {P O : Nat → Nat → Option Nat} (hP : laP P) {I A : Nat → Nat → Int32} {J : Nat → Nat → Int64} {pl : List Nat} (hB : inB pl)
    (e_1 : ((I 100 10) < 90) → WA X (mC P O (up2 I 100 10 ((I 100 10) + 1)) A J) pl k1 k2 37 [(0, .ref 100)] [.int ((I 100 10) + 1), .int 15, .int 6])
    (e_2 : (¬ ((I 100 10) < 90)) → Ψx "java/lang/IllegalStateException" (mC P O I A J) pl) :
    WA X (mC P O I A J) pl k1 k2 0 [(0, .ref 100)] [] := by
  refine a_aload_n F 0 dX11_learn_0 rfl rfl ?_
  refine a_geti F fl_11_146 rfl (hB _ (by decide)) rfl dX11_learn_1 ?_
  refine a_bipush (v := 90) F dX11_learn_4 (by decide) ?_
  refine a_icmp_lt (tgt := 19) F dX11_learn_6 (by decide) (fun (c_1 : (I 100 10) < 90) => ?_) (fun (c_1 : ¬ ((I 100 10) < 90)) => ?_)
  · refine a_aload_n F 0 dX11_learn_19 rfl rfl ?_
    refine a_dup F dX11_learn_20 rfl ?_
    refine a_geti F fl_11_146 rfl (hB _ (by decide)) rfl dX11_learn_21 ?_
    refine a_iconst (v := 1) F dX11_learn_24 (by decide) ?_
    refine a_iadd F dX11_learn_25 ?_
    refine a_puti F fl_11_146 rfl rfl rfl rfl (hB _ (by decide)) rfl dX11_learn_26 ?_
    refine a_bipush (v := 6) F dX11_learn_29 (by decide) ?_
    refine a_bipush (v := 15) F dX11_learn_31 (by decide) ?_
    refine a_aload_n F 0 dX11_learn_33 rfl rfl ?_
    refine a_geti F fl_11_146 rfl (hB _ (by decide)) rfl dX11_learn_34 ?_
    exact e_1 c_1
  · exact a_throwS F S T (TW.m103 (List.mem_of_getElem? (i := 12) rfl)) (by decide) dX11_learn_9 dX11_learn_12 dX11_learn_13 dX11_learn_15 dX11_learn_18 (by omega) (by omega) (by decide) (e_2 c_1)

set_option maxRecDepth 10000 in
theorem c_11_learn (l : Launch) (hst : l.stackTraces = false) {P O : Nat → Nat → Option Nat} (hP : laP P) (I A : Nat → Nat → Int32) (J : Nat → Nat → Int64) {pl : List Nat} (hB : inB pl) (L : Nat) (hL : L ≤ 90) (hI : I 100 10 = nI L) : ConX l 18 yX11_learn cX11_learn 1 (some .int) [.ref 100] (mC P O I A J) pl 6 36 (fun r σ' pl' => L < 90 ∧ r = some (.int (nI (cnt 6 15 (L + 1)))) ∧ σ' = mC P O (up2 I 100 10 (nI (L + 1))) A J ∧ pl = pl') (fun E σ' pl' => E = "java/lang/IllegalStateException" ∧ σ' = mC P O I A J ∧ pl = pl' ∧ ¬ L < 90) := by
  refine ConX.of hst (by decide) (Nat.le_of_ble_eq_true rfl) (fun X hX9 hn9 F E S T => ?_)
  refine r_11_learn_0 F S T (by decide) (by decide) hP hB (fun h => ?_) (fun h => ?_)
  · rw [hI, nI_ltn 90 (by omega) (by omega)] at h
    rw [hI, nI_1]
    refine a_callSN (As := [.int (nI 6), .int (nI 15), .int (nI (L + 1))]) (st := []) F S.1 (c_8_howMany (xl X) hP (up2 I 100 10 (nI (L + 1))) A J hB 6 15 (L + 1) (by decide) (by decide) (by omega)) mn_11_241 sm_yX8_howMany (by decide) rfl dX11_learn_37 (by decide) (by decide) (by decide) (hl_r (hB _ (by decide)) hl_nil) hs_nil ?_
    rintro _ _ _ ⟨rfl, rfl, rfl⟩ _
    exact a_iret F E dX11_learn_40 (by decide) (by decide) ⟨h, rfl, rfl, rfl⟩
  · rw [hI, nI_ltn 90 (by omega) (by omega)] at h
    exact ⟨rfl, rfl, rfl, h⟩

theorem r_11_begin_0 {X : Ctx} {mc ms k1 k2 : Nat} (F : Fx X cX11_begin RX11 2 18 mc ms) (S : SXX X) {Ψx : String → HS → List Nat → Prop} (T : Tx X mc ms Ψx) (hk1 : k1 + 6 ≤ mc) (hk2 : k2 + 36 ≤ ms) {P O : Nat → Nat → Option Nat} (hP : laP P) {I A : Nat → Nat → Int32} {J : Nat → Nat → Int64} {pl : List Nat} (hB : inB pl) {x1 : Int32}
    (e_1 : (x1 < 0) → Ψx "java/lang/IllegalArgumentException" (mC P O I A J) pl)
    (e_2 : (¬ (x1 < 0)) → (x1 ≤ 25) → WA X (mC P O (up2 (openI I x1) 102 2 0) (openA A) J) pl k1 k2 36 [(0, .ref 100), (1, .int x1)] [.ref 100])
    (e_3 : (¬ (x1 < 0)) → (¬ (x1 ≤ 25)) → Ψx "java/lang/IllegalArgumentException" (mC P O I A J) pl) :
    WA X (mC P O I A J) pl k1 k2 0 [(0, .ref 100), (1, .int x1)] [] := by
  refine a_iload_n F 1 dX11_begin_0 rfl rfl ?_
  refine a_if_lt (tgt := 10) F dX11_begin_1 (by decide) (fun (c_1 : x1 < 0) => ?_) (fun (c_1 : ¬ (x1 < 0)) => ?_)
  · exact a_throwS F S T (TW.m153 (List.mem_of_getElem? (i := 7) rfl)) (by decide) dX11_begin_10 dX11_begin_13 dX11_begin_14 dX11_begin_16 dX11_begin_19 (by omega) (by omega) (by decide) (e_1 c_1)
  · refine a_iload_n F 1 dX11_begin_4 rfl rfl ?_
    refine a_bipush (v := 25) F dX11_begin_5 (by decide) ?_
    refine a_icmp_le (tgt := 20) F dX11_begin_7 (by decide) (fun (c_2 : x1 ≤ 25) => ?_) (fun (c_2 : ¬ (x1 ≤ 25)) => ?_)
    · refine a_aload_n F 0 dX11_begin_20 rfl rfl ?_
      refine a_getr (b := 114) F fl_11_63 rfl (hB _ (by decide)) rfl ((hP 100 7 (by decide)).trans rfl) dX11_begin_21 ?_
      refine a_iload_n F 1 dX11_begin_24 rfl rfl ?_
      refine a_callV (b := 114) (As := [.int x1]) (st := []) (ci := 2) F (c_2_open (xl X) hP I A J hB x1) ml_11_199 im_yX2_open se_yX2_open (by decide) (by decide) rfl (hB _ (by decide)) rfl rfl dX11_begin_25 (by decide) (by omega) (by omega) (hl_r (hB _ (by decide)) (hl_i hl_nil)) hs_nil ?_
      rintro _ _ _ ⟨rfl, rfl, rfl⟩ _
      show WA X (mC P O (openI I x1) (openA A) J) pl k1 k2 28 [(0, .ref 100), (1, .int x1)] []
      refine a_aload_n F 0 dX11_begin_28 rfl rfl ?_
      refine a_getr (b := 102) F fl_11_29 rfl (hB _ (by decide)) rfl ((hP 100 3 (by decide)).trans rfl) dX11_begin_29 ?_
      refine a_callV (b := 102) (As := []) (st := []) (ci := 3) F (c_3_forget (xl X) hP (openI I x1) (openA A) J hB) ml_11_202 im_yX3_forget se_yX3_forget (by decide) (by decide) rfl (hB _ (by decide)) rfl rfl dX11_begin_32 (by decide) (by omega) (by omega) (hl_r (hB _ (by decide)) (hl_i hl_nil)) hs_nil ?_
      rintro _ _ _ ⟨rfl, rfl, rfl⟩ _
      show WA X (mC P O (up2 (openI I x1) 102 2 0) (openA A) J) pl k1 k2 35 [(0, .ref 100), (1, .int x1)] []
      refine a_aload_n F 0 dX11_begin_35 rfl rfl ?_
      exact e_2 c_1 c_2
    · exact a_throwS F S T (TW.m153 (List.mem_of_getElem? (i := 7) rfl)) (by decide) dX11_begin_10 dX11_begin_13 dX11_begin_14 dX11_begin_16 dX11_begin_19 (by omega) (by omega) (by decide) (e_3 c_1 c_2)

set_option maxRecDepth 10000 in
theorem c_11_begin (l : Launch) (hst : l.stackTraces = false) {P O : Nat → Nat → Option Nat} (hP : laP P) (I A : Nat → Nat → Int32) (J : Nat → Nat → Int64) {pl : List Nat} (hB : inB pl) (n : Int32) {m : Nat} {τ : TB} (ht : tbS P I A J pl m τ) : ConX l 18 yX11_begin cX11_begin 2 none [.ref 100, .int n] (mC P O I A J) pl 6 36 (fun r σ' pl' => (0 ≤ n ∧ n ≤ 25) ∧ r = none ∧ pl = pl' ∧ ∃ R, σ' = mC P O (up2 (up2 (ogI (up2 (openI I n) 102 2 0)) 130 1 0) 110 7 0) (up1 (openA A) 131 R) J ∧ ∀ k, k < 52 → R k = startB k) (fun E σ' pl' => E = "java/lang/IllegalArgumentException" ∧ σ' = mC P O I A J ∧ pl = pl' ∧ ¬ (0 ≤ n ∧ n ≤ 25)) := by
  refine ConX.of hst (by decide) (Nat.le_of_ble_eq_true rfl) (fun X hX9 hn9 F E S T => ?_)
  refine r_11_begin_0 F S T (by decide) (by decide) hP hB (fun h => ⟨rfl, rfl, rfl, fun z => by grind⟩) (fun h1 h2 => ?_) (fun h1 h2 => ⟨rfl, rfl, rfl, fun z => by grind⟩)
  have ht' : tbS P (up2 (openI I n) 102 2 0) (openA A) J pl m τ := ht.cg (fun k h1 h2 => by rw [up2_p (by decide)]; rfl) (up1_p (by omega)) rfl
  refine a_callVS (b := 100) (As := []) (st := []) (ci := 11) F S.1 (c_11_setUpGame (xl X) hP (up2 (openI I n) 102 2 0) (openA A) J hB (Or.inl (by rw [up2_p (by decide)]; rfl)) ht') ml_11_203 im_yX11_setUpGame se_yX11_setUpGame (by decide) (by decide) rfl (hB _ (by decide)) rfl rfl dX11_begin_36 (by decide) (by decide) (by decide) (hl_r (hB _ (by decide)) (hl_i hl_nil)) hs_nil ?_
  rintro _ _ _ ⟨rfl, rfl, R, rfl, hR⟩ _
  exact a_vret F E dX11_begin_39 (by decide) (by decide) ⟨by grind, rfl, rfl, R, rfl, hR⟩

theorem r_11_next_0 {X : Ctx} {mc ms k1 k2 : Nat} (F : Fx X cX11_next RX11 1 18 mc ms) (S : SXX X) {Ψx : String → HS → List Nat → Prop} (T : Tx X mc ms Ψx) (hk1 : k1 + 6 ≤ mc) (hk2 : k2 + 36 ≤ ms) {P O : Nat → Nat → Option Nat} (hP : laP P) {I A : Nat → Nat → Int32} {J : Nat → Nat → Int64} {pl : List Nat} (hB : inB pl)
    (e_1 : ((I 114 12) = 5) → WA X (mC P O I A J) pl k1 k2 22 [(0, .ref 100)] [.ref 100])
    (e_2 : (¬ ((I 114 12) = 5)) → Ψx "java/lang/IllegalStateException" (mC P O I A J) pl) :
    WA X (mC P O I A J) pl k1 k2 0 [(0, .ref 100)] [] := by
  refine a_aload_n F 0 dX11_next_0 rfl rfl ?_
  refine a_getr (b := 114) F fl_11_63 rfl (hB _ (by decide)) rfl ((hP 100 7 (by decide)).trans rfl) dX11_next_1 ?_
  refine a_geti F fl_11_206 rfl (hB _ (by decide)) rfl dX11_next_4 ?_
  refine a_iconst (v := 5) F dX11_next_7 (by decide) ?_
  refine a_icmp_eq (tgt := 21) F dX11_next_8 (by decide) (fun (c_1 : (I 114 12) = 5) => ?_) (fun (c_1 : ¬ ((I 114 12) = 5)) => ?_)
  · refine a_aload_n F 0 dX11_next_21 rfl rfl ?_
    exact e_1 c_1
  · exact a_throwS F S T (TW.m103 (List.mem_of_getElem? (i := 11) rfl)) (by decide) dX11_next_11 dX11_next_14 dX11_next_15 dX11_next_17 dX11_next_20 (by omega) (by omega) (by decide) (e_2 c_1)

set_option maxRecDepth 10000 in
theorem c_11_next (l : Launch) (hst : l.stackTraces = false) {P O : Nat → Nat → Option Nat} (hP : laP P) (I A : Nat → Nat → Int32) (J : Nat → Nat → Int64) {pl : List Nat} (hB : inB pl) (h4 : I 114 4 = 0 ∨ I 114 4 = 1) {m : Nat} {τ : TB} (ht : tbS P I A J pl m τ) : ConX l 18 yX11_next cX11_next 1 none [.ref 100] (mC P O I A J) pl 6 36 (fun r σ' pl' => I 114 12 = 5 ∧ r = none ∧ pl = pl' ∧ ∃ R, σ' = mC P O (up2 (up2 (ogI I) 130 1 0) 110 7 0) (up1 A 131 R) J ∧ ∀ k, k < 52 → R k = startB k) (fun E σ' pl' => E = "java/lang/IllegalStateException" ∧ σ' = mC P O I A J ∧ pl = pl' ∧ ¬ I 114 12 = 5) := by
  refine ConX.of hst (by decide) (Nat.le_of_ble_eq_true rfl) (fun X hX9 hn9 F E S T => ?_)
  refine r_11_next_0 F S T (by decide) (by decide) hP hB (fun h => ?_) (fun h => ⟨rfl, rfl, rfl, h⟩)
  refine a_callVS (b := 100) (As := []) (st := []) (ci := 11) F S.1 (c_11_setUpGame (xl X) hP I A J hB h4 ht) ml_11_203 im_yX11_setUpGame se_yX11_setUpGame (by decide) (by decide) rfl (hB _ (by decide)) rfl rfl dX11_next_22 (by decide) (by decide) (by decide) (hl_r (hB _ (by decide)) hl_nil) hs_nil ?_
  rintro _ _ _ ⟨rfl, rfl, R, rfl, hR⟩ _
  exact a_vret F E dX11_next_25 (by decide) (by decide) ⟨h, rfl, rfl, R, rfl, hR⟩
