/-- a way as a number of four digits: digit j -/
def wdg (w j : Nat) : Nat := w / 1024 ^ (3 - j) % 1024
def wOK (len w : Nat) : Prop := w < 1024 ^ 4 ∧ w % 1024 ^ (4 - len) = 0
theorem wdg_lt {w j : Nat} : wdg w j < 1024 := Nat.mod_lt _ (by decide)
theorem w_eq {len w v : Nat} (hl : len ≤ 4) (hw : wOK len w) (hv : wOK len v) (h : ∀ j, j < len → wdg w j = wdg v j) : w = v := by
  unfold wOK at hw hv; unfold wdg at h
  rcases (show len = 0 ∨ len = 1 ∨ len = 2 ∨ len = 3 ∨ len = 4 by omega) with rfl | rfl | rfl | rfl | rfl
  · simp at hw hv; omega
  · have h0 := h 0 (by omega); simp at hw hv h0; omega
  · have h0 := h 0 (by omega); have h1 := h 1 (by omega); simp at hw hv h0 h1; omega
  · have h0 := h 0 (by omega); have h1 := h 1 (by omega); have h2 := h 2 (by omega); simp at hw hv h0 h1 h2; omega
  · have h0 := h 0 (by omega); have h1 := h 1 (by omega); have h2 := h 2 (by omega); have h3 := h 3 (by omega); simp at hw hv h0 h1 h2 h3; omega
theorem w_gt {w v i : Nat} (hi : i < 4) (hw : w < 1024 ^ 4) (hv : v < 1024 ^ 4) (h : ∀ j, j < i → wdg w j = wdg v j) (h1 : wdg v i < wdg w i) : v < w := by
  unfold wdg at h h1
  rcases (show i = 0 ∨ i = 1 ∨ i = 2 ∨ i = 3 by omega) with rfl | rfl | rfl | rfl
  · simp at hw hv h1; omega
  · have h0 := h 0 (by omega); simp at hw hv h0 h1; omega
  · have h0 := h 0 (by omega); have h2 := h 1 (by omega); simp at hw hv h0 h1 h2; omega
  · have h0 := h 0 (by omega); have h2 := h 1 (by omega); have h3 := h 2 (by omega); simp at hw hv h0 h1 h2 h3; omega
/-- how the reference keeps the results -/
def tabR (R13 R14 R15 : Nat → Int32) (len cnt : Nat) (o : Nat → Nat) (T : Nat → Nat → Nat) (W : Nat → Nat) : Prop :=
  cnt ≤ 3200 ∧ (∀ i, i < cnt → R15 i = nI (o i) ∧ o i < cnt) ∧ (∀ i j, i < cnt → j < cnt → o i = o j → i = j) ∧ (∀ i, i < cnt → bdR R13 (52 * o i) (T i)) ∧ (∀ i, i < cnt → ∀ j, j < len → R14 (4 * o i + j) = nI (wdg (W i) j))
/-- what they are: the boards of S, sorted, each with its greatest way -/
def tabS (m : Nat) (S : (Nat → Nat) → Nat → Prop) (cnt : Nat) (T : Nat → Nat → Nat) (W : Nat → Nat) : Prop :=
  (∀ i, i < cnt → S (T i) (W i)) ∧ (∀ B w, S B w → ∃ i, i < cnt ∧ key m B = key m (T i) ∧ w ≤ W i) ∧ (∀ i j, i < j → j < cnt → key m (T j) < key m (T i))
def tabA (I A : Nat → Nat → Int32) (len m : Nat) (S : (Nat → Nat) → Nat → Prop) : Prop := ∃ cnt o T W, I 0 16 = nI cnt ∧ tabR (A 13) (A 14) (A 15) len cnt o T W ∧ tabS m S cnt T W
def dgS (len : Nat) (S : (Nat → Nat) → Nat → Prop) : Prop := ∀ B w, S B w → dgB B ∧ wOK len w
def addS (S : (Nat → Nat) → Nat → Prop) (B : Nat → Nat) (w : Nat) : (Nat → Nat) → Nat → Prop := fun B' w' => S B' w' ∨ (B' = B ∧ w' = w)
theorem tabS_same {m cnt w : Nat} {S : (Nat → Nat) → Nat → Prop} {T : Nat → Nat → Nat} {W : Nat → Nat} {B : Nat → Nat} (h : tabS m S cnt T W) {k : Nat} (hk : k < cnt) (e : key m B = key m (T k)) (hw : w ≤ W k) : tabS m (addS S B w) cnt T W :=
  ⟨fun i hi => Or.inl (h.1 i hi), fun B' w' hB => by
    rcases hB with hB | ⟨rfl, rfl⟩
    · exact h.2.1 B' w' hB
    · exact ⟨k, hk, e, hw⟩, h.2.2⟩
def upT {α : Type} (T : Nat → α) (k : Nat) (B : α) : Nat → α := fun i => if i = k then B else T i
def inT {α : Type} (T : Nat → α) (k : Nat) (B : α) : Nat → α := fun i => if i < k then T i else if i = k then B else T (i - 1)
theorem tabS_up {m cnt w : Nat} {S : (Nat → Nat) → Nat → Prop} {T : Nat → Nat → Nat} {W : Nat → Nat} {B : Nat → Nat} (h : tabS m S cnt T W) {k : Nat} (hk : k < cnt) (e : key m B = key m (T k)) (hw : W k ≤ w) : tabS m (addS S B w) cnt (upT T k B) (upT W k w) := by
  have ek : ∀ i, key m (upT T k B i) = key m (T i) := fun i => by
    unfold upT; by_cases c : i = k
    · rw [if_pos c, c]; exact e
    · rw [if_neg c]
  refine ⟨fun i hi => ?_, fun B' w' hB => ?_, fun i j h1 h2 => by rw [ek, ek]; exact h.2.2 i j h1 h2⟩
  · unfold upT; by_cases c : i = k
    · rw [if_pos c, if_pos c]; exact Or.inr ⟨rfl, rfl⟩
    · rw [if_neg c, if_neg c]; exact Or.inl (h.1 i hi)
  · rcases hB with hB | ⟨rfl, rfl⟩
    · obtain ⟨i, h1, h2, h3⟩ := h.2.1 B' w' hB
      refine ⟨i, h1, by rw [ek]; exact h2, ?_⟩
      unfold upT; by_cases c : i = k
      · rw [if_pos c]; rw [c] at h3; omega
      · rw [if_neg c]; exact h3
    · exact ⟨k, hk, by rw [ek]; exact e, by unfold upT; rw [if_pos rfl]; exact Nat.le_refl _⟩
theorem tabS_in {m cnt w : Nat} {S : (Nat → Nat) → Nat → Prop} {T : Nat → Nat → Nat} {W : Nat → Nat} {B : Nat → Nat} (h : tabS m S cnt T W) {k : Nat} (hk : k ≤ cnt) (h1 : ∀ i, i < k → key m B < key m (T i)) (h2 : ∀ i, k ≤ i → i < cnt → key m (T i) < key m B) : tabS m (addS S B w) (cnt + 1) (inT T k B) (inT W k w) := by
  refine ⟨fun i hi => ?_, fun B' w' hB => ?_, fun i j h3 h4 => ?_⟩
  · unfold inT; by_cases c : i < k
    · rw [if_pos c, if_pos c]; exact Or.inl (h.1 i (by omega))
    · rw [if_neg c, if_neg c]; by_cases c2 : i = k
      · rw [if_pos c2, if_pos c2]; exact Or.inr ⟨rfl, rfl⟩
      · rw [if_neg c2, if_neg c2]; exact Or.inl (h.1 (i - 1) (by omega))
  · rcases hB with hB | ⟨rfl, rfl⟩
    · obtain ⟨i, g1, g2, g3⟩ := h.2.1 B' w' hB
      by_cases c : i < k
      · exact ⟨i, by omega, by unfold inT; rw [if_pos c]; exact g2, by unfold inT; rw [if_pos c]; exact g3⟩
      · exact ⟨i + 1, by omega, by unfold inT; rw [if_neg (by omega), if_neg (by omega)]; exact g2, by unfold inT; rw [if_neg (by omega), if_neg (by omega)]; exact g3⟩
    · exact ⟨k, by omega, by unfold inT; rw [if_neg (by omega), if_pos rfl], by unfold inT; rw [if_neg (by omega), if_pos rfl]; exact Nat.le_refl _⟩
  · unfold inT
    rcases Nat.lt_or_ge j k with c | c
    · rw [if_pos c, if_pos (by omega)]; exact h.2.2 i j h3 (by omega)
    · rw [if_neg (show ¬ j < k by omega)]
      by_cases c2 : j = k
      · rw [if_pos c2, if_pos (by omega)]; exact h1 i (by omega)
      · rw [if_neg c2]
        rcases Nat.lt_or_ge i k with c3 | c3
        · rw [if_pos c3]; exact h.2.2 i (j - 1) (by omega) (by omega)
        · rw [if_neg (show ¬ i < k by omega)]
          by_cases c4 : i = k
          · rw [if_pos c4]; exact h2 (j - 1) (by omega) (by omega)
          · rw [if_neg c4]; exact h.2.2 (i - 1) (j - 1) (by omega) (by omega)

theorem r_12_find_0 {X : Ctx} (F : Fx X cX12_find RX12 5 2 0 0) {I A : Nat → Nat → Int32} {J : Nat → Nat → Int64} {x1 : Int32}
    (e_1 : WA X (mS I A J) plM 0 0 7 [(0, .ref 0), (1, .int x1), (2, .int 0), (3, .int (I 0 16))] []) :
    WA X (mS I A J) plM 0 0 0 [(0, .ref 0), (1, .int x1)] [] := by
  refine a_iconst (v := 0) F dX12_find_0 (by decide) ?_
  refine a_istore_n F dX12_find_1 rfl (by decide) rfl ?_
  refine a_aload_n F 1 dX12_find_2 rfl rfl ?_
  refine a_geti F fl_12_152 rfl (by decide) rfl dX12_find_3 ?_
  refine a_istore_n F dX12_find_6 rfl (by decide) rfl ?_
  refine a_sub [2, 3, 1, 0] rfl ?_
  exact e_1

theorem r_12_find_7 {X : Ctx} (F : Fx X cX12_find RX12 5 2 0 0) {Φ : Option Value → HS → List Nat → Prop} (E : Ex X (some .int) 0 0 Φ) {I A : Nat → Nat → Int32} {J : Nat → Nat → Int64} {x1 x2 x3 : Int32}
    (e_1 : (x3 ≤ x2) → Φ (some (.int x2)) (mS I A J) plM)
    (o_2 : (¬ (x3 ≤ x2)) → vp_in ((x2 + x3) / 2) 3200)
    (o_3 : (¬ (x3 ≤ x2)) → 0 ≤ x1 ∧ x1 ≤ 8)
    (o_4 : (¬ (x3 ≤ x2)) → 0 ≤ (A 15 ((x2 + x3) / 2).toNatClampNeg) ∧ (A 15 ((x2 + x3) / 2).toNatClampNeg) < 3200)
    (o_5 : (¬ (x3 ≤ x2)) → (I 0 8) = 0 ∨ (I 0 8) = 1)
    (e_6 : (¬ (x3 ≤ x2)) → (0 < (agI (A 13) (A 3) x1 (A 15 ((x2 + x3) / 2).toNatClampNeg) (I 0 8))) → WA X (mS I A J) plM 0 0 7 [(0, .ref 0), (1, .int x1), (2, .int (((x2 + x3) / 2) + 1)), (3, .int x3)] [])
    (e_7 : (¬ (x3 ≤ x2)) → (¬ (0 < (agI (A 13) (A 3) x1 (A 15 ((x2 + x3) / 2).toNatClampNeg) (I 0 8)))) → WA X (mS I A J) plM 0 0 7 [(0, .ref 0), (1, .int x1), (2, .int x2), (3, .int ((x2 + x3) / 2))] []) :
    WA X (mS I A J) plM 0 0 7 [(0, .ref 0), (1, .int x1), (2, .int x2), (3, .int x3)] [] := by
  refine a_iload_n F 2 dX12_find_7 rfl rfl ?_
  refine a_iload_n F 3 dX12_find_8 rfl rfl ?_
  refine a_icmp_ge (tgt := 48) F dX12_find_9 (by decide) (fun (c_1 : x3 ≤ x2) => ?_) (fun (c_1 : ¬ (x3 ≤ x2)) => ?_)
  · refine a_iload_n F 2 dX12_find_48 rfl rfl ?_
    exact a_iret F E dX12_find_49 (Nat.le_refl 0) (Nat.le_refl 0) (e_1 c_1)
  · refine a_iload_n F 2 dX12_find_12 rfl rfl ?_
    refine a_iload_n F 3 dX12_find_13 rfl rfl ?_
    refine a_iadd F dX12_find_14 ?_
    refine a_iconst (v := 2) F dX12_find_15 (by decide) ?_
    refine a_idiv F dX12_find_16 (by decide) ?_
    refine a_istore F dX12_find_17 (by decide) rfl ?_
    refine a_aload_n F 1 dX12_find_19 rfl rfl ?_
    refine a_iload_n F 2 dX12_find_20 rfl rfl ?_
    refine a_aload_n F 1 dX12_find_21 rfl rfl ?_
    refine a_getr (b := 15) F fl_12_39 rfl (by decide) rfl rfl dX12_find_22 ?_
    refine a_iload F 0 dX12_find_25 rfl ?_
    refine a_iald F (by decide) rfl (o_2 c_1) dX12_find_27 ?_
    refine a_callV (b := 0) (As := [.int x1, .int (A 15 ((x2 + x3) / 2).toNatClampNeg)]) (st := []) (ci := 12) F (c_against (xl X) I A J x1 (A 15 ((x2 + x3) / 2).toNatClampNeg) (o_3 c_1) (o_4 c_1) (o_5 c_1)) ml_12_214 im_yX12_against se_yX12_against (by decide) (by decide) rfl (by decide) rfl rfl dX12_find_28 (by decide) (Nat.le_refl 0) (Nat.le_refl 0) (hl_i (hl_r (by decide) (hl_i (hl_i (hl_i hl_nil))))) hs_nil ?_
    rintro _ _ _ ⟨rfl, rfl, rfl⟩ _
    show WA X (mS I A J) plM 0 0 31 [(4, .int ((x2 + x3) / 2)), (0, .ref 0), (1, .int x1), (2, .int x2), (3, .int x3)] [.int (agI (A 13) (A 3) x1 (A 15 ((x2 + x3) / 2).toNatClampNeg) (I 0 8))]
    refine a_if_gt (tgt := 40) F dX12_find_31 (by decide) (fun (c_2 : 0 < (agI (A 13) (A 3) x1 (A 15 ((x2 + x3) / 2).toNatClampNeg) (I 0 8))) => ?_) (fun (c_2 : ¬ (0 < (agI (A 13) (A 3) x1 (A 15 ((x2 + x3) / 2).toNatClampNeg) (I 0 8)))) => ?_)
    · refine a_iload F 0 dX12_find_40 rfl ?_
      refine a_iconst (v := 1) F dX12_find_42 (by decide) ?_
      refine a_iadd F dX12_find_43 ?_
      refine a_istore_n F dX12_find_44 rfl (by decide) rfl ?_
      refine a_goto (tgt := 7) F dX12_find_45 (by decide) ?_
      refine a_sub [2, 3, 0, 4] rfl ?_
      exact e_6 c_1 c_2
    · refine a_iload F 0 dX12_find_34 rfl ?_
      refine a_istore_n F dX12_find_36 rfl (by decide) rfl ?_
      refine a_goto (tgt := 45) F dX12_find_37 (by decide) ?_
      refine a_goto (tgt := 7) F dX12_find_45 (by decide) ?_
      refine a_sub [2, 3, 4, 0] rfl ?_
      exact e_7 c_1 c_2

set_option maxRecDepth 10000 in
theorem c_find (l : Launch) (I A : Nat → Nat → Int32) (J : Nat → Nat → Int64) (a m cnt : Nat) (o : Nat → Nat) (T : Nat → Nat → Nat) (B : Nat → Nat) (ha : a ≤ 8) (hm : m ≤ 1) (h8 : I 0 8 = nI m) (h16 : I 0 16 = nI cnt) (hc : cnt ≤ 3200) (ho : ∀ i, i < cnt → A 15 i = nI (o i) ∧ o i < cnt) (hT : ∀ i, i < cnt → dgB (T i) ∧ bdR (A 13) (52 * o i) (T i)) (hs : ∀ i j, i < j → j < cnt → key m (T j) < key m (T i)) (hd : dgB B) (hB : bdR (A 3) (52 * a) B) : Con l 2 yX12_find cX12_find 5 (some .int) [.ref 0, .int (nI a)] (mS I A J) plM 0 0 (fun r σ' pl' => ∃ k, PM (some (.int (nI k))) I A J r σ' pl' ∧ k ≤ cnt ∧ (∀ i, i < k → key m B < key m (T i)) ∧ (∀ i, k ≤ i → i < cnt → key m (T i) ≤ key m B)) := by
  refine Con.of (by decide) (Nat.le_of_ble_eq_true rfl) (fun X hX9 hn9 F E => ?_)
  have h8' : I 0 8 = 0 ∨ I 0 8 = 1 := by rw [h8]; rcases (show m = 0 ∨ m = 1 by omega) with rfl | rfl <;> decide
  have ha' : 0 ≤ nI a ∧ nI a ≤ 8 := ⟨nI_pos' (by omega), (nI_len 8 (by omega) (by omega)).mpr ha⟩
  have loop : ∀ f lo hi, hi - lo ≤ f → lo ≤ hi → hi ≤ cnt → (∀ i, i < lo → key m B < key m (T i)) → (∀ i, hi ≤ i → i < cnt → key m (T i) ≤ key m B) → WA X (mS I A J) plM 0 0 7 [(0, .ref 0), (1, .int (nI a)), (2, .int (nI lo)), (3, .int (nI hi))] [] := by
    intro f
    induction f with
    | zero =>
      intro lo hi h1 h2 h3 h4 h5
      obtain rfl : lo = hi := by omega
      have hle : nI lo ≤ nI lo := (nI_leI (by omega) (by omega)).mpr (Nat.le_refl _)
      exact r_12_find_7 F E (fun _ => ⟨lo, ⟨rfl, rfl, rfl⟩, h3, h4, h5⟩) (fun h => absurd hle h) (fun h => absurd hle h) (fun h => absurd hle h) (fun h => absurd hle h) (fun h => absurd hle h) (fun h => absurd hle h)
    | succ f ih =>
      intro lo hi h1 h2 h3 h4 h5
      have em : (nI lo + nI hi) / 2 = nI ((lo + hi) / 2) := by rw [nI_add]; exact pk_div (d := 2) (by omega) (by omega) (by omega)
      by_cases c : hi ≤ lo
      · obtain rfl : lo = hi := by omega
        have hle : nI lo ≤ nI lo := (nI_leI (by omega) (by omega)).mpr (Nat.le_refl _)
        exact r_12_find_7 F E (fun _ => ⟨lo, ⟨rfl, rfl, rfl⟩, h3, h4, h5⟩) (fun h => absurd hle h) (fun h => absurd hle h) (fun h => absurd hle h) (fun h => absurd hle h) (fun h => absurd hle h) (fun h => absurd hle h)
      · have hnl : ¬ nI hi ≤ nI lo := fun z => c ((nI_leI (by omega) (by omega)).mp z)
        have hmid : (lo + hi) / 2 < cnt := by omega
        have o1 := ho _ hmid
        have t1 := hT _ hmid
        have ag := ag_key (R := A 13) (L := A 3) (a := a) (r := o ((lo + hi) / 2)) (m := m) (by omega) ha hm t1.1 hd t1.2 hB
        refine r_12_find_7 F E (fun h => absurd h hnl) (fun _ => by rw [em]; exact vp_in_nI (by omega) (by omega)) (fun _ => ha') (fun _ => ?_) (fun _ => h8') (fun _ => ?_) (fun _ => ?_)
        · rw [em, nI_clamp (by omega), o1.1]; exact ⟨nI_pos' (by omega), (nI_ltn 3200 (by omega) (by omega)).mpr (by omega)⟩
        · rw [em, nI_clamp (by omega), o1.1, h8, nI_1]; intro hpos
          have hk : key m B < key m (T ((lo + hi) / 2)) := Nat.lt_of_not_le (fun z => absurd (ag.2.mpr z) (Int32.not_le.mpr hpos))
          refine ih _ hi (by omega) (by omega) h3 (fun i hi2 => ?_) h5
          rcases Nat.lt_or_ge i ((lo + hi) / 2) with c2 | c2
          · exact Nat.lt_trans hk (hs i _ c2 hmid)
          · obtain rfl : i = (lo + hi) / 2 := by omega
            exact hk
        · rw [em, nI_clamp (by omega), o1.1, h8]; intro hnp
          have hk := ag.2.mp (Int32.not_lt.mp hnp)
          refine ih lo _ (by omega) (by omega) (by omega) h4 (fun i hi2 hi3 => ?_)
          rcases Nat.lt_or_ge ((lo + hi) / 2) i with c2 | c2
          · exact Nat.le_of_lt (Nat.lt_of_lt_of_le (hs _ i c2 hi3) hk)
          · obtain rfl : i = (lo + hi) / 2 := by omega
            exact hk
  refine r_12_find_0 F ?_
  rw [h16]
  exact loop cnt 0 cnt (by omega) (by omega) (Nat.le_refl _) (fun i h => by omega) (fun i h1 h2 => by omega)
