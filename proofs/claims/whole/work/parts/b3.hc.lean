/-! the helpers' contracts -/
def ecA (E : String) : Int32 := if E = "java/lang/IllegalArgumentException" then 1 else if E = "java/lang/IllegalStateException" then 2 else 3
def ec1 (_ : String) : Int32 := 1
def ecN (E : String) : Int32 := if E = "java/util/NoSuchElementException" then 1 else 2
theorem h_position {l : Launch} {σ : HS} {pl : List Nat} {mc ms : Nat} {Φ : Option Value → HS → List Nat → Prop} {Ψ : String → HS → List Nat → Prop} {p0 : Int32} (C : ConX l 18 yX11_position cX11_position 2 (some .int) [.ref 100, .int p0] σ pl mc ms Φ Ψ) (hb : 100 ∈ pl) (hk : sK σ 100 = 11) (hr : ∀ r σ' pl', Φ r σ' pl' → ∃ v, r = some (.int v)) (hE : ∀ E σ' pl', Ψ E σ' pl' → E = "java/lang/IllegalArgumentException" ∨ E = "java/lang/IllegalStateException") : HCon l 19 yL_position cL_position 4 [(0, 9, 12, 13), (0, 9, 15, 15)] (fun a o => [.ref a, .int p0, .ref o]) σ pl mc ms (hTh Φ Ψ ecA) := by
  refine HCon.of (by decide) rfl (fun a b => Nat.le_of_ble_eq_true rfl) (fun X ao U la hX F hR E hcw htab hP hPo hD hap hao hpl hl => ?_)
  have tb := htab _ _ _ _ hcw
  subst hX
  refine lv_aload_n F.1 F.2.1 dL_position_0 rfl (lv_at hl 2 rfl) ?_
  refine lv_iconst F.1 F.2.1 dL_position_1 (v := 0) (by decide) ?_
  refine lv_aload_n F.1 F.2.1 dL_position_2 rfl (lv_at hl 0 rfl) ?_
  refine lv_iload_n F.1 F.2.1 dL_position_3 rfl (lv_at hl 1 rfl) ?_
  refine f_callVX (b := 100) (As := [.int p0]) (rest := [.int 0, .ref ao]) (ci := 11) F C ml_L_7 im_yX11_position se_yX11_position (by rw [hR]; exact Nat.le_of_ble_eq_true rfl) (by rw [hR]; exact Nat.le_of_ble_eq_true rfl) (by decide) rfl hb hk rfl dL_position_4 (Nat.le_of_ble_eq_true rfl) (by rw [hR]; exact Nat.le_of_eq (Nat.zero_add _)) (by rw [hR]; exact Nat.le_of_eq (Nat.zero_add _)) hl.1 hP hD va_S.rf (fun Ec ce q σ' pl' ad' H' locs' hΨ hag hP1 hD1 hS1 hfr hce hcv hcl => ?_) (fun r σ' pl' ad' H' locs' hΦ hag hP1 hD1 hS1 hfr => ?_)
  · obtain ⟨hPo1, hap1⟩ := hfr [oC (xcy X) ao U] hPo hap
    have hs := hE _ _ _ hΨ
    rcases hs with rfl | rfl
    · refine vx_catch F.2.2.2.1 [] ⟨0, 9, 12, 13⟩ [⟨0, 9, 15, 15⟩] tb (fun z hz => by cases hz) (by decide) (by decide) (F.2.2.2.2.1 _ cl_L_13) (exU (List.mem_append_left _ (List.mem_map_of_mem (List.mem_of_getElem? (i := 0) rfl))) (F.2.2.2.2.2.2.2.2.2 _ (List.mem_append_left _ (List.mem_map_of_mem (List.mem_of_getElem? (i := 0) rfl))))) hce hcv hcl ?_
      refine lv_astore_n F.1 F.2.1 dL_position_12 rfl hl (Nat.le_of_ble_eq_true rfl) rfl (fun la' _ => ?_)
      refine lv_iconst F.1 F.2.1 dL_position_13 (v := 1) (by decide) ?_
      exact h_ret F E (Or.inr ⟨_, hΨ, by decide, rfl⟩) (by rw [hpl]; exact hag) hP1 hPo1 hD1 hap1 hS1 (Nat.le_of_eq (Nat.zero_add _)) (Nat.le_of_eq (Nat.zero_add _)) dL_position_14
    · refine vx_catch F.2.2.2.1 [⟨0, 9, 12, 13⟩] ⟨0, 9, 15, 15⟩ [] tb (fun z hz => by rcases List.mem_singleton.mp hz with rfl; exact Or.inr ⟨by decide, "java/lang/IllegalArgumentException", F.2.2.2.2.1 _ cl_L_13, F.2.2.2.2.2.2.2.2.1.2.2.2.2.2.2 _ (List.mem_of_getElem? (i := 0) rfl)⟩) (by decide) (by decide) (F.2.2.2.2.1 _ cl_L_15) (exU (List.mem_append_left _ (List.mem_map_of_mem (List.mem_of_getElem? (i := 1) rfl))) (F.2.2.2.2.2.2.2.2.2 _ (List.mem_append_left _ (List.mem_map_of_mem (List.mem_of_getElem? (i := 1) rfl))))) hce hcv hcl ?_
      refine lv_astore_n F.1 F.2.1 dL_position_15 rfl hl (Nat.le_of_ble_eq_true rfl) rfl (fun la' _ => ?_)
      refine lv_iconst F.1 F.2.1 dL_position_16 (v := 2) (by decide) ?_
      exact h_ret F E (Or.inr ⟨_, hΨ, by decide, rfl⟩) (by rw [hpl]; exact hag) hP1 hPo1 hD1 hap1 hS1 (Nat.le_of_eq (Nat.zero_add _)) (Nat.le_of_eq (Nat.zero_add _)) dL_position_17
  · obtain ⟨hPo1, hap1⟩ := hfr [oC (xcy X) ao U] hPo hap
    obtain ⟨v, rfl⟩ := hr _ _ _ hΦ
    refine lv_i2l (rest := [.int 0, .ref ao]) F.1 F.2.1 dL_position_7 rfl ?_
    refine h_store (rest := []) F hP1 hPo1 hD1 hao hap1 hS1 dL_position_8 (fun H2 locs2 hP2 hPo2 hS2 => ?_)
    refine lv_goto F.1 F.2.1 dL_position_9 (tgt := 18) (by decide) ?_
    refine lv_iconst F.1 F.2.1 dL_position_18 (v := 0) (by decide) ?_
    exact h_ret F E (Or.inl ⟨rfl, v, hΦ, rfl⟩) (by rw [hpl]; exact hag) hP2 hPo2 hD1 (apt_ao hap1) hS2 (Nat.le_of_eq (Nat.zero_add _)) (Nat.le_of_eq (Nat.zero_add _)) dL_position_19
theorem h_men {l : Launch} {σ : HS} {pl : List Nat} {mc ms : Nat} {Φ : Option Value → HS → List Nat → Prop} {Ψ : String → HS → List Nat → Prop} {p0 p1 : Int32} (C : ConX l 18 yX11_men cX11_men 3 (some .int) [.ref 100, .int p0, .int p1] σ pl mc ms Φ Ψ) (hb : 100 ∈ pl) (hk : sK σ 100 = 11) (hr : ∀ r σ' pl', Φ r σ' pl' → ∃ v, r = some (.int v)) (hE : ∀ E σ' pl', Ψ E σ' pl' → E = "java/lang/IndexOutOfBoundsException") : HCon l 19 yL_men cL_men 5 [(0, 10, 13, 21)] (fun a o => [.ref a, .int p0, .int p1, .ref o]) σ pl mc ms (hTh Φ Ψ ec1) := by
  refine HCon.of (by decide) rfl (fun a b => Nat.le_of_ble_eq_true rfl) (fun X ao U la hX F hR E hcw htab hP hPo hD hap hao hpl hl => ?_)
  have tb := htab _ _ _ _ hcw
  subst hX
  refine lv_aload_n F.1 F.2.1 dL_men_0 rfl (lv_at hl 3 rfl) ?_
  refine lv_iconst F.1 F.2.1 dL_men_1 (v := 0) (by decide) ?_
  refine lv_aload_n F.1 F.2.1 dL_men_2 rfl (lv_at hl 0 rfl) ?_
  refine lv_iload_n F.1 F.2.1 dL_men_3 rfl (lv_at hl 1 rfl) ?_
  refine lv_iload_n F.1 F.2.1 dL_men_4 rfl (lv_at hl 2 rfl) ?_
  refine f_callVX (b := 100) (As := [.int p0, .int p1]) (rest := [.int 0, .ref ao]) (ci := 11) F C ml_L_17 im_yX11_men se_yX11_men (by rw [hR]; exact Nat.le_of_ble_eq_true rfl) (by rw [hR]; exact Nat.le_of_ble_eq_true rfl) (by decide) rfl hb hk rfl dL_men_5 (Nat.le_of_ble_eq_true rfl) (by rw [hR]; exact Nat.le_of_eq (Nat.zero_add _)) (by rw [hR]; exact Nat.le_of_eq (Nat.zero_add _)) hl.1 hP hD va_S.rf (fun Ec ce q σ' pl' ad' H' locs' hΨ hag hP1 hD1 hS1 hfr hce hcv hcl => ?_) (fun r σ' pl' ad' H' locs' hΦ hag hP1 hD1 hS1 hfr => ?_)
  · obtain ⟨hPo1, hap1⟩ := hfr [oC (xcy X) ao U] hPo hap
    have hs := hE _ _ _ hΨ
    subst hs
    refine vx_catch F.2.2.2.1 [] ⟨0, 10, 13, 21⟩ [] tb (fun z hz => by cases hz) (by decide) (by decide) (F.2.2.2.2.1 _ cl_L_21) (exU (List.mem_append_left _ (List.mem_map_of_mem (List.mem_of_getElem? (i := 2) rfl))) (F.2.2.2.2.2.2.2.2.2 _ (List.mem_append_left _ (List.mem_map_of_mem (List.mem_of_getElem? (i := 2) rfl))))) hce hcv hcl ?_
    refine lv_astore F.1 F.2.1 dL_men_13 hl (Nat.le_of_ble_eq_true rfl) rfl (fun la' _ => ?_)
    refine lv_iconst F.1 F.2.1 dL_men_15 (v := 1) (by decide) ?_
    exact h_ret F E (Or.inr ⟨_, hΨ, by decide, rfl⟩) (by rw [hpl]; exact hag) hP1 hPo1 hD1 hap1 hS1 (Nat.le_of_eq (Nat.zero_add _)) (Nat.le_of_eq (Nat.zero_add _)) dL_men_16
  · obtain ⟨hPo1, hap1⟩ := hfr [oC (xcy X) ao U] hPo hap
    obtain ⟨v, rfl⟩ := hr _ _ _ hΦ
    refine lv_i2l (rest := [.int 0, .ref ao]) F.1 F.2.1 dL_men_8 rfl ?_
    refine h_store (rest := []) F hP1 hPo1 hD1 hao hap1 hS1 dL_men_9 (fun H2 locs2 hP2 hPo2 hS2 => ?_)
    refine lv_goto F.1 F.2.1 dL_men_10 (tgt := 17) (by decide) ?_
    refine lv_iconst F.1 F.2.1 dL_men_17 (v := 0) (by decide) ?_
    exact h_ret F E (Or.inl ⟨rfl, v, hΦ, rfl⟩) (by rw [hpl]; exact hag) hP2 hPo2 hD1 (apt_ao hap1) hS2 (Nat.le_of_eq (Nat.zero_add _)) (Nat.le_of_eq (Nat.zero_add _)) dL_men_18
theorem h_ask {l : Launch} {σ : HS} {pl : List Nat} {mc ms : Nat} {Φ : Option Value → HS → List Nat → Prop} {Ψ : String → HS → List Nat → Prop} {p0 : Int32} (C : ConX l 18 yX11_ask cX11_ask 2 (some .int) [.ref 100, .int p0] σ pl mc ms Φ Ψ) (hb : 100 ∈ pl) (hk : sK σ 100 = 11) (hr : ∀ r σ' pl', Φ r σ' pl' → ∃ v, r = some (.int v)) (hE : ∀ E σ' pl', Ψ E σ' pl' → E = "java/lang/IllegalArgumentException") : HCon l 19 yL_ask cL_ask 4 [(0, 9, 12, 13)] (fun a o => [.ref a, .int p0, .ref o]) σ pl mc ms (hTh Φ Ψ ec1) := by
  refine HCon.of (by decide) rfl (fun a b => Nat.le_of_ble_eq_true rfl) (fun X ao U la hX F hR E hcw htab hP hPo hD hap hao hpl hl => ?_)
  have tb := htab _ _ _ _ hcw
  subst hX
  refine lv_aload_n F.1 F.2.1 dL_ask_0 rfl (lv_at hl 2 rfl) ?_
  refine lv_iconst F.1 F.2.1 dL_ask_1 (v := 0) (by decide) ?_
  refine lv_aload_n F.1 F.2.1 dL_ask_2 rfl (lv_at hl 0 rfl) ?_
  refine lv_iload_n F.1 F.2.1 dL_ask_3 rfl (lv_at hl 1 rfl) ?_
  refine f_callVX (b := 100) (As := [.int p0]) (rest := [.int 0, .ref ao]) (ci := 11) F C ml_L_23 im_yX11_ask se_yX11_ask (by rw [hR]; exact Nat.le_of_ble_eq_true rfl) (by rw [hR]; exact Nat.le_of_ble_eq_true rfl) (by decide) rfl hb hk rfl dL_ask_4 (Nat.le_of_ble_eq_true rfl) (by rw [hR]; exact Nat.le_of_eq (Nat.zero_add _)) (by rw [hR]; exact Nat.le_of_eq (Nat.zero_add _)) hl.1 hP hD va_S.rf (fun Ec ce q σ' pl' ad' H' locs' hΨ hag hP1 hD1 hS1 hfr hce hcv hcl => ?_) (fun r σ' pl' ad' H' locs' hΦ hag hP1 hD1 hS1 hfr => ?_)
  · obtain ⟨hPo1, hap1⟩ := hfr [oC (xcy X) ao U] hPo hap
    have hs := hE _ _ _ hΨ
    subst hs
    refine vx_catch F.2.2.2.1 [] ⟨0, 9, 12, 13⟩ [] tb (fun z hz => by cases hz) (by decide) (by decide) (F.2.2.2.2.1 _ cl_L_13) (exU (List.mem_append_left _ (List.mem_map_of_mem (List.mem_of_getElem? (i := 0) rfl))) (F.2.2.2.2.2.2.2.2.2 _ (List.mem_append_left _ (List.mem_map_of_mem (List.mem_of_getElem? (i := 0) rfl))))) hce hcv hcl ?_
    refine lv_astore_n F.1 F.2.1 dL_ask_12 rfl hl (Nat.le_of_ble_eq_true rfl) rfl (fun la' _ => ?_)
    refine lv_iconst F.1 F.2.1 dL_ask_13 (v := 1) (by decide) ?_
    exact h_ret F E (Or.inr ⟨_, hΨ, by decide, rfl⟩) (by rw [hpl]; exact hag) hP1 hPo1 hD1 hap1 hS1 (Nat.le_of_eq (Nat.zero_add _)) (Nat.le_of_eq (Nat.zero_add _)) dL_ask_14
  · obtain ⟨hPo1, hap1⟩ := hfr [oC (xcy X) ao U] hPo hap
    obtain ⟨v, rfl⟩ := hr _ _ _ hΦ
    refine lv_i2l (rest := [.int 0, .ref ao]) F.1 F.2.1 dL_ask_7 rfl ?_
    refine h_store (rest := []) F hP1 hPo1 hD1 hao hap1 hS1 dL_ask_8 (fun H2 locs2 hP2 hPo2 hS2 => ?_)
    refine lv_goto F.1 F.2.1 dL_ask_9 (tgt := 15) (by decide) ?_
    refine lv_iconst F.1 F.2.1 dL_ask_15 (v := 0) (by decide) ?_
    exact h_ret F E (Or.inl ⟨rfl, v, hΦ, rfl⟩) (by rw [hpl]; exact hag) hP2 hPo2 hD1 (apt_ao hap1) hS2 (Nat.le_of_eq (Nat.zero_add _)) (Nat.le_of_eq (Nat.zero_add _)) dL_ask_16
theorem h_plays {l : Launch} {σ : HS} {pl : List Nat} {mc ms : Nat} {Φ : Option Value → HS → List Nat → Prop} {Ψ : String → HS → List Nat → Prop} {p0 p1 : Int32} (C : ConX l 18 yX11_plays cX11_plays 3 (some .int) [.ref 100, .int p0, .int p1] σ pl mc ms Φ Ψ) (hb : 100 ∈ pl) (hk : sK σ 100 = 11) (hr : ∀ r σ' pl', Φ r σ' pl' → ∃ v, r = some (.int v)) (hE : ∀ E σ' pl', Ψ E σ' pl' → E = "java/lang/IllegalArgumentException" ∨ E = "java/lang/IllegalStateException") : HCon l 19 yL_plays cL_plays 5 [(0, 10, 13, 13), (0, 10, 17, 15)] (fun a o => [.ref a, .int p0, .int p1, .ref o]) σ pl mc ms (hTh Φ Ψ ecA) := by
  refine HCon.of (by decide) rfl (fun a b => Nat.le_of_ble_eq_true rfl) (fun X ao U la hX F hR E hcw htab hP hPo hD hap hao hpl hl => ?_)
  have tb := htab _ _ _ _ hcw
  subst hX
  refine lv_aload_n F.1 F.2.1 dL_plays_0 rfl (lv_at hl 3 rfl) ?_
  refine lv_iconst F.1 F.2.1 dL_plays_1 (v := 0) (by decide) ?_
  refine lv_aload_n F.1 F.2.1 dL_plays_2 rfl (lv_at hl 0 rfl) ?_
  refine lv_iload_n F.1 F.2.1 dL_plays_3 rfl (lv_at hl 1 rfl) ?_
  refine lv_iload_n F.1 F.2.1 dL_plays_4 rfl (lv_at hl 2 rfl) ?_
  refine f_callVX (b := 100) (As := [.int p0, .int p1]) (rest := [.int 0, .ref ao]) (ci := 11) F C ml_L_26 im_yX11_plays se_yX11_plays (by rw [hR]; exact Nat.le_of_ble_eq_true rfl) (by rw [hR]; exact Nat.le_of_ble_eq_true rfl) (by decide) rfl hb hk rfl dL_plays_5 (Nat.le_of_ble_eq_true rfl) (by rw [hR]; exact Nat.le_of_eq (Nat.zero_add _)) (by rw [hR]; exact Nat.le_of_eq (Nat.zero_add _)) hl.1 hP hD va_S.rf (fun Ec ce q σ' pl' ad' H' locs' hΨ hag hP1 hD1 hS1 hfr hce hcv hcl => ?_) (fun r σ' pl' ad' H' locs' hΦ hag hP1 hD1 hS1 hfr => ?_)
  · obtain ⟨hPo1, hap1⟩ := hfr [oC (xcy X) ao U] hPo hap
    have hs := hE _ _ _ hΨ
    rcases hs with rfl | rfl
    · refine vx_catch F.2.2.2.1 [] ⟨0, 10, 13, 13⟩ [⟨0, 10, 17, 15⟩] tb (fun z hz => by cases hz) (by decide) (by decide) (F.2.2.2.2.1 _ cl_L_13) (exU (List.mem_append_left _ (List.mem_map_of_mem (List.mem_of_getElem? (i := 0) rfl))) (F.2.2.2.2.2.2.2.2.2 _ (List.mem_append_left _ (List.mem_map_of_mem (List.mem_of_getElem? (i := 0) rfl))))) hce hcv hcl ?_
      refine lv_astore F.1 F.2.1 dL_plays_13 hl (Nat.le_of_ble_eq_true rfl) rfl (fun la' _ => ?_)
      refine lv_iconst F.1 F.2.1 dL_plays_15 (v := 1) (by decide) ?_
      exact h_ret F E (Or.inr ⟨_, hΨ, by decide, rfl⟩) (by rw [hpl]; exact hag) hP1 hPo1 hD1 hap1 hS1 (Nat.le_of_eq (Nat.zero_add _)) (Nat.le_of_eq (Nat.zero_add _)) dL_plays_16
    · refine vx_catch F.2.2.2.1 [⟨0, 10, 13, 13⟩] ⟨0, 10, 17, 15⟩ [] tb (fun z hz => by rcases List.mem_singleton.mp hz with rfl; exact Or.inr ⟨by decide, "java/lang/IllegalArgumentException", F.2.2.2.2.1 _ cl_L_13, F.2.2.2.2.2.2.2.2.1.2.2.2.2.2.2 _ (List.mem_of_getElem? (i := 0) rfl)⟩) (by decide) (by decide) (F.2.2.2.2.1 _ cl_L_15) (exU (List.mem_append_left _ (List.mem_map_of_mem (List.mem_of_getElem? (i := 1) rfl))) (F.2.2.2.2.2.2.2.2.2 _ (List.mem_append_left _ (List.mem_map_of_mem (List.mem_of_getElem? (i := 1) rfl))))) hce hcv hcl ?_
      refine lv_astore F.1 F.2.1 dL_plays_17 hl (Nat.le_of_ble_eq_true rfl) rfl (fun la' _ => ?_)
      refine lv_iconst F.1 F.2.1 dL_plays_19 (v := 2) (by decide) ?_
      exact h_ret F E (Or.inr ⟨_, hΨ, by decide, rfl⟩) (by rw [hpl]; exact hag) hP1 hPo1 hD1 hap1 hS1 (Nat.le_of_eq (Nat.zero_add _)) (Nat.le_of_eq (Nat.zero_add _)) dL_plays_20
  · obtain ⟨hPo1, hap1⟩ := hfr [oC (xcy X) ao U] hPo hap
    obtain ⟨v, rfl⟩ := hr _ _ _ hΦ
    refine lv_i2l (rest := [.int 0, .ref ao]) F.1 F.2.1 dL_plays_8 rfl ?_
    refine h_store (rest := []) F hP1 hPo1 hD1 hao hap1 hS1 dL_plays_9 (fun H2 locs2 hP2 hPo2 hS2 => ?_)
    refine lv_goto F.1 F.2.1 dL_plays_10 (tgt := 21) (by decide) ?_
    refine lv_iconst F.1 F.2.1 dL_plays_21 (v := 0) (by decide) ?_
    exact h_ret F E (Or.inl ⟨rfl, v, hΦ, rfl⟩) (by rw [hpl]; exact hag) hP2 hPo2 hD1 (apt_ao hap1) hS2 (Nat.le_of_eq (Nat.zero_add _)) (Nat.le_of_eq (Nat.zero_add _)) dL_plays_22
theorem h_result {l : Launch} {σ : HS} {pl : List Nat} {mc ms : Nat} {Φ : Option Value → HS → List Nat → Prop} {Ψ : String → HS → List Nat → Prop} {p0 p1 p2 : Int32} (C : ConX l 18 yX11_result cX11_result 4 (some .int) [.ref 100, .int p0, .int p1, .int p2] σ pl mc ms Φ Ψ) (hb : 100 ∈ pl) (hk : sK σ 100 = 11) (hr : ∀ r σ' pl', Φ r σ' pl' → ∃ v, r = some (.int v)) (hE : ∀ E σ' pl', Ψ E σ' pl' → E = "java/util/NoSuchElementException" ∨ E = "java/lang/IndexOutOfBoundsException") : HCon l 19 yL_result cL_result 6 [(0, 12, 15, 33), (0, 12, 19, 21)] (fun a o => [.ref a, .int p0, .int p1, .int p2, .ref o]) σ pl mc ms (hTh Φ Ψ ecN) := by
  refine HCon.of (by decide) rfl (fun a b => Nat.le_of_ble_eq_true rfl) (fun X ao U la hX F hR E hcw htab hP hPo hD hap hao hpl hl => ?_)
  have tb := htab _ _ _ _ hcw
  subst hX
  refine lv_aload F.1 F.2.1 dL_result_0 (lv_at hl 4 rfl) ?_
  refine lv_iconst F.1 F.2.1 dL_result_2 (v := 0) (by decide) ?_
  refine lv_aload_n F.1 F.2.1 dL_result_3 rfl (lv_at hl 0 rfl) ?_
  refine lv_iload_n F.1 F.2.1 dL_result_4 rfl (lv_at hl 1 rfl) ?_
  refine lv_iload_n F.1 F.2.1 dL_result_5 rfl (lv_at hl 2 rfl) ?_
  refine lv_iload_n F.1 F.2.1 dL_result_6 rfl (lv_at hl 3 rfl) ?_
  refine f_callVX (b := 100) (As := [.int p0, .int p1, .int p2]) (rest := [.int 0, .ref ao]) (ci := 11) F C ml_L_29 im_yX11_result se_yX11_result (by rw [hR]; exact Nat.le_of_ble_eq_true rfl) (by rw [hR]; exact Nat.le_of_ble_eq_true rfl) (by decide) rfl hb hk rfl dL_result_7 (Nat.le_of_ble_eq_true rfl) (by rw [hR]; exact Nat.le_of_eq (Nat.zero_add _)) (by rw [hR]; exact Nat.le_of_eq (Nat.zero_add _)) hl.1 hP hD va_S.rf (fun Ec ce q σ' pl' ad' H' locs' hΨ hag hP1 hD1 hS1 hfr hce hcv hcl => ?_) (fun r σ' pl' ad' H' locs' hΦ hag hP1 hD1 hS1 hfr => ?_)
  · obtain ⟨hPo1, hap1⟩ := hfr [oC (xcy X) ao U] hPo hap
    have hs := hE _ _ _ hΨ
    rcases hs with rfl | rfl
    · refine vx_catch F.2.2.2.1 [] ⟨0, 12, 15, 33⟩ [⟨0, 12, 19, 21⟩] tb (fun z hz => by cases hz) (by decide) (by decide) (F.2.2.2.2.1 _ cl_L_33) (exU (List.mem_append_left _ (List.mem_map_of_mem (List.mem_of_getElem? (i := 3) rfl))) (F.2.2.2.2.2.2.2.2.2 _ (List.mem_append_left _ (List.mem_map_of_mem (List.mem_of_getElem? (i := 3) rfl))))) hce hcv hcl ?_
      refine lv_astore F.1 F.2.1 dL_result_15 hl (Nat.le_of_ble_eq_true rfl) rfl (fun la' _ => ?_)
      refine lv_iconst F.1 F.2.1 dL_result_17 (v := 1) (by decide) ?_
      exact h_ret F E (Or.inr ⟨_, hΨ, by decide, rfl⟩) (by rw [hpl]; exact hag) hP1 hPo1 hD1 hap1 hS1 (Nat.le_of_eq (Nat.zero_add _)) (Nat.le_of_eq (Nat.zero_add _)) dL_result_18
    · refine vx_catch F.2.2.2.1 [⟨0, 12, 15, 33⟩] ⟨0, 12, 19, 21⟩ [] tb (fun z hz => by rcases List.mem_singleton.mp hz with rfl; exact Or.inr ⟨by decide, "java/util/NoSuchElementException", F.2.2.2.2.1 _ cl_L_33, F.2.2.2.2.2.2.2.2.1.2.2.2.2.2.2 _ (List.mem_of_getElem? (i := 1) rfl)⟩) (by decide) (by decide) (F.2.2.2.2.1 _ cl_L_21) (exU (List.mem_append_left _ (List.mem_map_of_mem (List.mem_of_getElem? (i := 2) rfl))) (F.2.2.2.2.2.2.2.2.2 _ (List.mem_append_left _ (List.mem_map_of_mem (List.mem_of_getElem? (i := 2) rfl))))) hce hcv hcl ?_
      refine lv_astore F.1 F.2.1 dL_result_19 hl (Nat.le_of_ble_eq_true rfl) rfl (fun la' _ => ?_)
      refine lv_iconst F.1 F.2.1 dL_result_21 (v := 2) (by decide) ?_
      exact h_ret F E (Or.inr ⟨_, hΨ, by decide, rfl⟩) (by rw [hpl]; exact hag) hP1 hPo1 hD1 hap1 hS1 (Nat.le_of_eq (Nat.zero_add _)) (Nat.le_of_eq (Nat.zero_add _)) dL_result_22
  · obtain ⟨hPo1, hap1⟩ := hfr [oC (xcy X) ao U] hPo hap
    obtain ⟨v, rfl⟩ := hr _ _ _ hΦ
    refine lv_i2l (rest := [.int 0, .ref ao]) F.1 F.2.1 dL_result_10 rfl ?_
    refine h_store (rest := []) F hP1 hPo1 hD1 hao hap1 hS1 dL_result_11 (fun H2 locs2 hP2 hPo2 hS2 => ?_)
    refine lv_goto F.1 F.2.1 dL_result_12 (tgt := 23) (by decide) ?_
    refine lv_iconst F.1 F.2.1 dL_result_23 (v := 0) (by decide) ?_
    exact h_ret F E (Or.inl ⟨rfl, v, hΦ, rfl⟩) (by rw [hpl]; exact hag) hP2 hPo2 hD1 (apt_ao hap1) hS2 (Nat.le_of_eq (Nat.zero_add _)) (Nat.le_of_eq (Nat.zero_add _)) dL_result_24
theorem h_way {l : Launch} {σ : HS} {pl : List Nat} {mc ms : Nat} {Φ : Option Value → HS → List Nat → Prop} {Ψ : String → HS → List Nat → Prop} {p0 p1 : Int32} (C : ConX l 18 yX11_way cX11_way 3 (some .int) [.ref 100, .int p0, .int p1] σ pl mc ms Φ Ψ) (hb : 100 ∈ pl) (hk : sK σ 100 = 11) (hr : ∀ r σ' pl', Φ r σ' pl' → ∃ v, r = some (.int v)) (hE : ∀ E σ' pl', Ψ E σ' pl' → E = "java/util/NoSuchElementException") : HCon l 19 yL_way cL_way 5 [(0, 10, 13, 33)] (fun a o => [.ref a, .int p0, .int p1, .ref o]) σ pl mc ms (hTh Φ Ψ ec1) := by
  refine HCon.of (by decide) rfl (fun a b => Nat.le_of_ble_eq_true rfl) (fun X ao U la hX F hR E hcw htab hP hPo hD hap hao hpl hl => ?_)
  have tb := htab _ _ _ _ hcw
  subst hX
  refine lv_aload_n F.1 F.2.1 dL_way_0 rfl (lv_at hl 3 rfl) ?_
  refine lv_iconst F.1 F.2.1 dL_way_1 (v := 0) (by decide) ?_
  refine lv_aload_n F.1 F.2.1 dL_way_2 rfl (lv_at hl 0 rfl) ?_
  refine lv_iload_n F.1 F.2.1 dL_way_3 rfl (lv_at hl 1 rfl) ?_
  refine lv_iload_n F.1 F.2.1 dL_way_4 rfl (lv_at hl 2 rfl) ?_
  refine f_callVX (b := 100) (As := [.int p0, .int p1]) (rest := [.int 0, .ref ao]) (ci := 11) F C ml_L_35 im_yX11_way se_yX11_way (by rw [hR]; exact Nat.le_of_ble_eq_true rfl) (by rw [hR]; exact Nat.le_of_ble_eq_true rfl) (by decide) rfl hb hk rfl dL_way_5 (Nat.le_of_ble_eq_true rfl) (by rw [hR]; exact Nat.le_of_eq (Nat.zero_add _)) (by rw [hR]; exact Nat.le_of_eq (Nat.zero_add _)) hl.1 hP hD va_S.rf (fun Ec ce q σ' pl' ad' H' locs' hΨ hag hP1 hD1 hS1 hfr hce hcv hcl => ?_) (fun r σ' pl' ad' H' locs' hΦ hag hP1 hD1 hS1 hfr => ?_)
  · obtain ⟨hPo1, hap1⟩ := hfr [oC (xcy X) ao U] hPo hap
    have hs := hE _ _ _ hΨ
    subst hs
    refine vx_catch F.2.2.2.1 [] ⟨0, 10, 13, 33⟩ [] tb (fun z hz => by cases hz) (by decide) (by decide) (F.2.2.2.2.1 _ cl_L_33) (exU (List.mem_append_left _ (List.mem_map_of_mem (List.mem_of_getElem? (i := 3) rfl))) (F.2.2.2.2.2.2.2.2.2 _ (List.mem_append_left _ (List.mem_map_of_mem (List.mem_of_getElem? (i := 3) rfl))))) hce hcv hcl ?_
    refine lv_astore F.1 F.2.1 dL_way_13 hl (Nat.le_of_ble_eq_true rfl) rfl (fun la' _ => ?_)
    refine lv_iconst F.1 F.2.1 dL_way_15 (v := 1) (by decide) ?_
    exact h_ret F E (Or.inr ⟨_, hΨ, by decide, rfl⟩) (by rw [hpl]; exact hag) hP1 hPo1 hD1 hap1 hS1 (Nat.le_of_eq (Nat.zero_add _)) (Nat.le_of_eq (Nat.zero_add _)) dL_way_16
  · obtain ⟨hPo1, hap1⟩ := hfr [oC (xcy X) ao U] hPo hap
    obtain ⟨v, rfl⟩ := hr _ _ _ hΦ
    refine lv_i2l (rest := [.int 0, .ref ao]) F.1 F.2.1 dL_way_8 rfl ?_
    refine h_store (rest := []) F hP1 hPo1 hD1 hao hap1 hS1 dL_way_9 (fun H2 locs2 hP2 hPo2 hS2 => ?_)
    refine lv_goto F.1 F.2.1 dL_way_10 (tgt := 17) (by decide) ?_
    refine lv_iconst F.1 F.2.1 dL_way_17 (v := 0) (by decide) ?_
    exact h_ret F E (Or.inl ⟨rfl, v, hΦ, rfl⟩) (by rw [hpl]; exact hag) hP2 hPo2 hD1 (apt_ao hap1) hS2 (Nat.le_of_eq (Nat.zero_add _)) (Nat.le_of_eq (Nat.zero_add _)) dL_way_18
theorem h_choose {l : Launch} {σ : HS} {pl : List Nat} {mc ms : Nat} {Φ : Option Value → HS → List Nat → Prop} {Ψ : String → HS → List Nat → Prop} {p0 : Int32} (C : ConX l 18 yX11_choose cX11_choose 3 (some .int) [.ref 100, .int p0] σ pl mc ms Φ Ψ) (hb : 100 ∈ pl) (hk : sK σ 100 = 11) (hr : ∀ r σ' pl', Φ r σ' pl' → ∃ v, r = some (.int v)) (hE : ∀ E σ' pl', Ψ E σ' pl' → E = "java/util/NoSuchElementException") : HCon l 19 yL_choose cL_choose 4 [(0, 9, 12, 33)] (fun a o => [.ref a, .int p0, .ref o]) σ pl mc ms (hTh Φ Ψ ec1) := by
  refine HCon.of (by decide) rfl (fun a b => Nat.le_of_ble_eq_true rfl) (fun X ao U la hX F hR E hcw htab hP hPo hD hap hao hpl hl => ?_)
  have tb := htab _ _ _ _ hcw
  subst hX
  refine lv_aload_n F.1 F.2.1 dL_choose_0 rfl (lv_at hl 2 rfl) ?_
  refine lv_iconst F.1 F.2.1 dL_choose_1 (v := 0) (by decide) ?_
  refine lv_aload_n F.1 F.2.1 dL_choose_2 rfl (lv_at hl 0 rfl) ?_
  refine lv_iload_n F.1 F.2.1 dL_choose_3 rfl (lv_at hl 1 rfl) ?_
  refine f_callVX (b := 100) (As := [.int p0]) (rest := [.int 0, .ref ao]) (ci := 11) F C ml_L_38 im_yX11_choose se_yX11_choose (by rw [hR]; exact Nat.le_of_ble_eq_true rfl) (by rw [hR]; exact Nat.le_of_ble_eq_true rfl) (by decide) rfl hb hk rfl dL_choose_4 (Nat.le_of_ble_eq_true rfl) (by rw [hR]; exact Nat.le_of_eq (Nat.zero_add _)) (by rw [hR]; exact Nat.le_of_eq (Nat.zero_add _)) hl.1 hP hD va_S.rf (fun Ec ce q σ' pl' ad' H' locs' hΨ hag hP1 hD1 hS1 hfr hce hcv hcl => ?_) (fun r σ' pl' ad' H' locs' hΦ hag hP1 hD1 hS1 hfr => ?_)
  · obtain ⟨hPo1, hap1⟩ := hfr [oC (xcy X) ao U] hPo hap
    have hs := hE _ _ _ hΨ
    subst hs
    refine vx_catch F.2.2.2.1 [] ⟨0, 9, 12, 33⟩ [] tb (fun z hz => by cases hz) (by decide) (by decide) (F.2.2.2.2.1 _ cl_L_33) (exU (List.mem_append_left _ (List.mem_map_of_mem (List.mem_of_getElem? (i := 3) rfl))) (F.2.2.2.2.2.2.2.2.2 _ (List.mem_append_left _ (List.mem_map_of_mem (List.mem_of_getElem? (i := 3) rfl))))) hce hcv hcl ?_
    refine lv_astore_n F.1 F.2.1 dL_choose_12 rfl hl (Nat.le_of_ble_eq_true rfl) rfl (fun la' _ => ?_)
    refine lv_iconst F.1 F.2.1 dL_choose_13 (v := 1) (by decide) ?_
    exact h_ret F E (Or.inr ⟨_, hΨ, by decide, rfl⟩) (by rw [hpl]; exact hag) hP1 hPo1 hD1 hap1 hS1 (Nat.le_of_eq (Nat.zero_add _)) (Nat.le_of_eq (Nat.zero_add _)) dL_choose_14
  · obtain ⟨hPo1, hap1⟩ := hfr [oC (xcy X) ao U] hPo hap
    obtain ⟨v, rfl⟩ := hr _ _ _ hΦ
    refine lv_i2l (rest := [.int 0, .ref ao]) F.1 F.2.1 dL_choose_7 rfl ?_
    refine h_store (rest := []) F hP1 hPo1 hD1 hao hap1 hS1 dL_choose_8 (fun H2 locs2 hP2 hPo2 hS2 => ?_)
    refine lv_goto F.1 F.2.1 dL_choose_9 (tgt := 15) (by decide) ?_
    refine lv_iconst F.1 F.2.1 dL_choose_15 (v := 0) (by decide) ?_
    exact h_ret F E (Or.inl ⟨rfl, v, hΦ, rfl⟩) (by rw [hpl]; exact hag) hP2 hPo2 hD1 (apt_ao hap1) hS2 (Nat.le_of_eq (Nat.zero_add _)) (Nat.le_of_eq (Nat.zero_add _)) dL_choose_16
theorem h_say {l : Launch} {σ : HS} {pl : List Nat} {mc ms : Nat} {Φ : Option Value → HS → List Nat → Prop} {Ψ : String → HS → List Nat → Prop} {p0 p1 p2 : Int32} (C : ConX l 18 yX11_say cX11_say 5 (some .int) [.ref 100, .int p0, .int p1, .int p2] σ pl mc ms Φ Ψ) (hb : 100 ∈ pl) (hk : sK σ 100 = 11) (hr : ∀ r σ' pl', Φ r σ' pl' → ∃ v, r = some (.int v)) (hE : ∀ E σ' pl', Ψ E σ' pl' → E = "java/lang/IllegalArgumentException" ∨ E = "java/lang/IllegalStateException") : HCon l 19 yL_say cL_say 6 [(0, 12, 15, 13), (0, 12, 19, 15)] (fun a o => [.ref a, .int p0, .int p1, .int p2, .ref o]) σ pl mc ms (hTh Φ Ψ ecA) := by
  refine HCon.of (by decide) rfl (fun a b => Nat.le_of_ble_eq_true rfl) (fun X ao U la hX F hR E hcw htab hP hPo hD hap hao hpl hl => ?_)
  have tb := htab _ _ _ _ hcw
  subst hX
  refine lv_aload F.1 F.2.1 dL_say_0 (lv_at hl 4 rfl) ?_
  refine lv_iconst F.1 F.2.1 dL_say_2 (v := 0) (by decide) ?_
  refine lv_aload_n F.1 F.2.1 dL_say_3 rfl (lv_at hl 0 rfl) ?_
  refine lv_iload_n F.1 F.2.1 dL_say_4 rfl (lv_at hl 1 rfl) ?_
  refine lv_iload_n F.1 F.2.1 dL_say_5 rfl (lv_at hl 2 rfl) ?_
  refine lv_iload_n F.1 F.2.1 dL_say_6 rfl (lv_at hl 3 rfl) ?_
  refine f_callVX (b := 100) (As := [.int p0, .int p1, .int p2]) (rest := [.int 0, .ref ao]) (ci := 11) F C ml_L_41 im_yX11_say se_yX11_say (by rw [hR]; exact Nat.le_of_ble_eq_true rfl) (by rw [hR]; exact Nat.le_of_ble_eq_true rfl) (by decide) rfl hb hk rfl dL_say_7 (Nat.le_of_ble_eq_true rfl) (by rw [hR]; exact Nat.le_of_eq (Nat.zero_add _)) (by rw [hR]; exact Nat.le_of_eq (Nat.zero_add _)) hl.1 hP hD va_S.rf (fun Ec ce q σ' pl' ad' H' locs' hΨ hag hP1 hD1 hS1 hfr hce hcv hcl => ?_) (fun r σ' pl' ad' H' locs' hΦ hag hP1 hD1 hS1 hfr => ?_)
  · obtain ⟨hPo1, hap1⟩ := hfr [oC (xcy X) ao U] hPo hap
    have hs := hE _ _ _ hΨ
    rcases hs with rfl | rfl
    · refine vx_catch F.2.2.2.1 [] ⟨0, 12, 15, 13⟩ [⟨0, 12, 19, 15⟩] tb (fun z hz => by cases hz) (by decide) (by decide) (F.2.2.2.2.1 _ cl_L_13) (exU (List.mem_append_left _ (List.mem_map_of_mem (List.mem_of_getElem? (i := 0) rfl))) (F.2.2.2.2.2.2.2.2.2 _ (List.mem_append_left _ (List.mem_map_of_mem (List.mem_of_getElem? (i := 0) rfl))))) hce hcv hcl ?_
      refine lv_astore F.1 F.2.1 dL_say_15 hl (Nat.le_of_ble_eq_true rfl) rfl (fun la' _ => ?_)
      refine lv_iconst F.1 F.2.1 dL_say_17 (v := 1) (by decide) ?_
      exact h_ret F E (Or.inr ⟨_, hΨ, by decide, rfl⟩) (by rw [hpl]; exact hag) hP1 hPo1 hD1 hap1 hS1 (Nat.le_of_eq (Nat.zero_add _)) (Nat.le_of_eq (Nat.zero_add _)) dL_say_18
    · refine vx_catch F.2.2.2.1 [⟨0, 12, 15, 13⟩] ⟨0, 12, 19, 15⟩ [] tb (fun z hz => by rcases List.mem_singleton.mp hz with rfl; exact Or.inr ⟨by decide, "java/lang/IllegalArgumentException", F.2.2.2.2.1 _ cl_L_13, F.2.2.2.2.2.2.2.2.1.2.2.2.2.2.2 _ (List.mem_of_getElem? (i := 0) rfl)⟩) (by decide) (by decide) (F.2.2.2.2.1 _ cl_L_15) (exU (List.mem_append_left _ (List.mem_map_of_mem (List.mem_of_getElem? (i := 1) rfl))) (F.2.2.2.2.2.2.2.2.2 _ (List.mem_append_left _ (List.mem_map_of_mem (List.mem_of_getElem? (i := 1) rfl))))) hce hcv hcl ?_
      refine lv_astore F.1 F.2.1 dL_say_19 hl (Nat.le_of_ble_eq_true rfl) rfl (fun la' _ => ?_)
      refine lv_iconst F.1 F.2.1 dL_say_21 (v := 2) (by decide) ?_
      exact h_ret F E (Or.inr ⟨_, hΨ, by decide, rfl⟩) (by rw [hpl]; exact hag) hP1 hPo1 hD1 hap1 hS1 (Nat.le_of_eq (Nat.zero_add _)) (Nat.le_of_eq (Nat.zero_add _)) dL_say_22
  · obtain ⟨hPo1, hap1⟩ := hfr [oC (xcy X) ao U] hPo hap
    obtain ⟨v, rfl⟩ := hr _ _ _ hΦ
    refine lv_i2l (rest := [.int 0, .ref ao]) F.1 F.2.1 dL_say_10 rfl ?_
    refine h_store (rest := []) F hP1 hPo1 hD1 hao hap1 hS1 dL_say_11 (fun H2 locs2 hP2 hPo2 hS2 => ?_)
    refine lv_goto F.1 F.2.1 dL_say_12 (tgt := 23) (by decide) ?_
    refine lv_iconst F.1 F.2.1 dL_say_23 (v := 0) (by decide) ?_
    exact h_ret F E (Or.inl ⟨rfl, v, hΦ, rfl⟩) (by rw [hpl]; exact hag) hP2 hPo2 hD1 (apt_ao hap1) hS2 (Nat.le_of_eq (Nat.zero_add _)) (Nat.le_of_eq (Nat.zero_add _)) dL_say_24
theorem h_begin {l : Launch} {σ : HS} {pl : List Nat} {mc ms : Nat} {Φ : Option Value → HS → List Nat → Prop} {Ψ : String → HS → List Nat → Prop} {p0 : Int32} (C : ConX l 18 yX11_begin cX11_begin 2 none [.ref 100, .int p0] σ pl mc ms Φ Ψ) (hb : 100 ∈ pl) (hk : sK σ 100 = 11) (hr : ∀ r σ' pl', Φ r σ' pl' → r = none) (hE : ∀ E σ' pl', Ψ E σ' pl' → E = "java/lang/IllegalArgumentException") : HCon l 19 yL_begin cL_begin 3 [(0, 5, 8, 13)] (fun a _ => [.ref a, .int p0]) σ pl mc ms (hTv Φ Ψ ec1) := by
  refine HCon.of (by decide) rfl (fun a b => Nat.le_of_ble_eq_true rfl) (fun X ao U la hX F hR E hcw htab hP hPo hD hap hao hpl hl => ?_)
  have tb := htab _ _ _ _ hcw
  subst hX
  refine lv_aload_n F.1 F.2.1 dL_begin_0 rfl (lv_at hl 0 rfl) ?_
  refine lv_iload_n F.1 F.2.1 dL_begin_1 rfl (lv_at hl 1 rfl) ?_
  refine f_callVX (b := 100) (As := [.int p0]) (rest := []) (ci := 11) F C ml_L_44 im_yX11_begin se_yX11_begin (by rw [hR]; exact Nat.le_of_ble_eq_true rfl) (by rw [hR]; exact Nat.le_of_ble_eq_true rfl) (by decide) rfl hb hk rfl dL_begin_2 (Nat.le_of_ble_eq_true rfl) (by rw [hR]; exact Nat.le_of_eq (Nat.zero_add _)) (by rw [hR]; exact Nat.le_of_eq (Nat.zero_add _)) hl.1 hP hD va_S.rf (fun Ec ce q σ' pl' ad' H' locs' hΨ hag hP1 hD1 hS1 hfr hce hcv hcl => ?_) (fun r σ' pl' ad' H' locs' hΦ hag hP1 hD1 hS1 hfr => ?_)
  · obtain ⟨hPo1, hap1⟩ := hfr [oC (xcy X) ao U] hPo hap
    have hs := hE _ _ _ hΨ
    subst hs
    refine vx_catch F.2.2.2.1 [] ⟨0, 5, 8, 13⟩ [] tb (fun z hz => by cases hz) (by decide) (by decide) (F.2.2.2.2.1 _ cl_L_13) (exU (List.mem_append_left _ (List.mem_map_of_mem (List.mem_of_getElem? (i := 0) rfl))) (F.2.2.2.2.2.2.2.2.2 _ (List.mem_append_left _ (List.mem_map_of_mem (List.mem_of_getElem? (i := 0) rfl))))) hce hcv hcl ?_
    refine lv_astore_n F.1 F.2.1 dL_begin_8 rfl hl (Nat.le_of_ble_eq_true rfl) rfl (fun la' _ => ?_)
    refine lv_iconst F.1 F.2.1 dL_begin_9 (v := 1) (by decide) ?_
    exact h_ret F E (Or.inr ⟨_, hΨ, by decide, rfl⟩) (by rw [hpl]; exact hag) hP1 hPo1 hD1 hap1 hS1 (Nat.le_of_eq (Nat.zero_add _)) (Nat.le_of_eq (Nat.zero_add _)) dL_begin_10
  · obtain ⟨hPo1, hap1⟩ := hfr [oC (xcy X) ao U] hPo hap
    have hs := hr _ _ _ hΦ
    subst hs
    refine lv_goto F.1 F.2.1 dL_begin_5 (tgt := 11) (by decide) ?_
    refine lv_iconst F.1 F.2.1 dL_begin_11 (v := 0) (by decide) ?_
    exact h_ret F E (Or.inl ⟨rfl, hΦ, rfl⟩) (by rw [hpl]; exact hag) hP1 hPo1 hD1 hap1 hS1 (Nat.le_of_eq (Nat.zero_add _)) (Nat.le_of_eq (Nat.zero_add _)) dL_begin_12
theorem h_roll {l : Launch} {σ : HS} {pl : List Nat} {mc ms : Nat} {Φ : Option Value → HS → List Nat → Prop} {Ψ : String → HS → List Nat → Prop} {p0 p1 : Int32} (C : ConX l 18 yX11_roll cX11_roll 3 (some .int) [.ref 100, .int p0, .int p1] σ pl mc ms Φ Ψ) (hb : 100 ∈ pl) (hk : sK σ 100 = 11) (hr : ∀ r σ' pl', Φ r σ' pl' → ∃ v, r = some (.int v)) (hE : ∀ E σ' pl', Ψ E σ' pl' → E = "java/lang/IllegalArgumentException" ∨ E = "java/lang/IllegalStateException") : HCon l 19 yL_roll cL_roll 5 [(0, 10, 13, 13), (0, 10, 17, 15)] (fun a o => [.ref a, .int p0, .int p1, .ref o]) σ pl mc ms (hTh Φ Ψ ecA) := by
  refine HCon.of (by decide) rfl (fun a b => Nat.le_of_ble_eq_true rfl) (fun X ao U la hX F hR E hcw htab hP hPo hD hap hao hpl hl => ?_)
  have tb := htab _ _ _ _ hcw
  subst hX
  refine lv_aload_n F.1 F.2.1 dL_roll_0 rfl (lv_at hl 3 rfl) ?_
  refine lv_iconst F.1 F.2.1 dL_roll_1 (v := 0) (by decide) ?_
  refine lv_aload_n F.1 F.2.1 dL_roll_2 rfl (lv_at hl 0 rfl) ?_
  refine lv_iload_n F.1 F.2.1 dL_roll_3 rfl (lv_at hl 1 rfl) ?_
  refine lv_iload_n F.1 F.2.1 dL_roll_4 rfl (lv_at hl 2 rfl) ?_
  refine f_callVX (b := 100) (As := [.int p0, .int p1]) (rest := [.int 0, .ref ao]) (ci := 11) F C ml_L_48 im_yX11_roll se_yX11_roll (by rw [hR]; exact Nat.le_of_ble_eq_true rfl) (by rw [hR]; exact Nat.le_of_ble_eq_true rfl) (by decide) rfl hb hk rfl dL_roll_5 (Nat.le_of_ble_eq_true rfl) (by rw [hR]; exact Nat.le_of_eq (Nat.zero_add _)) (by rw [hR]; exact Nat.le_of_eq (Nat.zero_add _)) hl.1 hP hD va_S.rf (fun Ec ce q σ' pl' ad' H' locs' hΨ hag hP1 hD1 hS1 hfr hce hcv hcl => ?_) (fun r σ' pl' ad' H' locs' hΦ hag hP1 hD1 hS1 hfr => ?_)
  · obtain ⟨hPo1, hap1⟩ := hfr [oC (xcy X) ao U] hPo hap
    have hs := hE _ _ _ hΨ
    rcases hs with rfl | rfl
    · refine vx_catch F.2.2.2.1 [] ⟨0, 10, 13, 13⟩ [⟨0, 10, 17, 15⟩] tb (fun z hz => by cases hz) (by decide) (by decide) (F.2.2.2.2.1 _ cl_L_13) (exU (List.mem_append_left _ (List.mem_map_of_mem (List.mem_of_getElem? (i := 0) rfl))) (F.2.2.2.2.2.2.2.2.2 _ (List.mem_append_left _ (List.mem_map_of_mem (List.mem_of_getElem? (i := 0) rfl))))) hce hcv hcl ?_
      refine lv_astore F.1 F.2.1 dL_roll_13 hl (Nat.le_of_ble_eq_true rfl) rfl (fun la' _ => ?_)
      refine lv_iconst F.1 F.2.1 dL_roll_15 (v := 1) (by decide) ?_
      exact h_ret F E (Or.inr ⟨_, hΨ, by decide, rfl⟩) (by rw [hpl]; exact hag) hP1 hPo1 hD1 hap1 hS1 (Nat.le_of_eq (Nat.zero_add _)) (Nat.le_of_eq (Nat.zero_add _)) dL_roll_16
    · refine vx_catch F.2.2.2.1 [⟨0, 10, 13, 13⟩] ⟨0, 10, 17, 15⟩ [] tb (fun z hz => by rcases List.mem_singleton.mp hz with rfl; exact Or.inr ⟨by decide, "java/lang/IllegalArgumentException", F.2.2.2.2.1 _ cl_L_13, F.2.2.2.2.2.2.2.2.1.2.2.2.2.2.2 _ (List.mem_of_getElem? (i := 0) rfl)⟩) (by decide) (by decide) (F.2.2.2.2.1 _ cl_L_15) (exU (List.mem_append_left _ (List.mem_map_of_mem (List.mem_of_getElem? (i := 1) rfl))) (F.2.2.2.2.2.2.2.2.2 _ (List.mem_append_left _ (List.mem_map_of_mem (List.mem_of_getElem? (i := 1) rfl))))) hce hcv hcl ?_
      refine lv_astore F.1 F.2.1 dL_roll_17 hl (Nat.le_of_ble_eq_true rfl) rfl (fun la' _ => ?_)
      refine lv_iconst F.1 F.2.1 dL_roll_19 (v := 2) (by decide) ?_
      exact h_ret F E (Or.inr ⟨_, hΨ, by decide, rfl⟩) (by rw [hpl]; exact hag) hP1 hPo1 hD1 hap1 hS1 (Nat.le_of_eq (Nat.zero_add _)) (Nat.le_of_eq (Nat.zero_add _)) dL_roll_20
  · obtain ⟨hPo1, hap1⟩ := hfr [oC (xcy X) ao U] hPo hap
    obtain ⟨v, rfl⟩ := hr _ _ _ hΦ
    refine lv_i2l (rest := [.int 0, .ref ao]) F.1 F.2.1 dL_roll_8 rfl ?_
    refine h_store (rest := []) F hP1 hPo1 hD1 hao hap1 hS1 dL_roll_9 (fun H2 locs2 hP2 hPo2 hS2 => ?_)
    refine lv_goto F.1 F.2.1 dL_roll_10 (tgt := 21) (by decide) ?_
    refine lv_iconst F.1 F.2.1 dL_roll_21 (v := 0) (by decide) ?_
    exact h_ret F E (Or.inl ⟨rfl, v, hΦ, rfl⟩) (by rw [hpl]; exact hag) hP2 hPo2 hD1 (apt_ao hap1) hS2 (Nat.le_of_eq (Nat.zero_add _)) (Nat.le_of_eq (Nat.zero_add _)) dL_roll_22
theorem h_offer {l : Launch} {σ : HS} {pl : List Nat} {mc ms : Nat} {Φ : Option Value → HS → List Nat → Prop} {Ψ : String → HS → List Nat → Prop} (C : ConX l 18 yX11_offer cX11_offer 1 (some .int) [.ref 100] σ pl mc ms Φ Ψ) (hb : 100 ∈ pl) (hk : sK σ 100 = 11) (hr : ∀ r σ' pl', Φ r σ' pl' → ∃ v, r = some (.int v)) (hE : ∀ E σ' pl', Ψ E σ' pl' → E = "java/lang/IllegalStateException") : HCon l 19 yL_offer cL_offer 3 [(0, 8, 11, 15)] (fun a o => [.ref a, .ref o]) σ pl mc ms (hTh Φ Ψ ec1) := by
  refine HCon.of (by decide) rfl (fun a b => Nat.le_of_ble_eq_true rfl) (fun X ao U la hX F hR E hcw htab hP hPo hD hap hao hpl hl => ?_)
  have tb := htab _ _ _ _ hcw
  subst hX
  refine lv_aload_n F.1 F.2.1 dL_offer_0 rfl (lv_at hl 1 rfl) ?_
  refine lv_iconst F.1 F.2.1 dL_offer_1 (v := 0) (by decide) ?_
  refine lv_aload_n F.1 F.2.1 dL_offer_2 rfl (lv_at hl 0 rfl) ?_
  refine f_callVX (b := 100) (As := []) (rest := [.int 0, .ref ao]) (ci := 11) F C ml_L_51 im_yX11_offer se_yX11_offer (by rw [hR]; exact Nat.le_of_ble_eq_true rfl) (by rw [hR]; exact Nat.le_of_ble_eq_true rfl) (by decide) rfl hb hk rfl dL_offer_3 (Nat.le_of_ble_eq_true rfl) (by rw [hR]; exact Nat.le_of_eq (Nat.zero_add _)) (by rw [hR]; exact Nat.le_of_eq (Nat.zero_add _)) hl.1 hP hD va_S.rf (fun Ec ce q σ' pl' ad' H' locs' hΨ hag hP1 hD1 hS1 hfr hce hcv hcl => ?_) (fun r σ' pl' ad' H' locs' hΦ hag hP1 hD1 hS1 hfr => ?_)
  · obtain ⟨hPo1, hap1⟩ := hfr [oC (xcy X) ao U] hPo hap
    have hs := hE _ _ _ hΨ
    subst hs
    refine vx_catch F.2.2.2.1 [] ⟨0, 8, 11, 15⟩ [] tb (fun z hz => by cases hz) (by decide) (by decide) (F.2.2.2.2.1 _ cl_L_15) (exU (List.mem_append_left _ (List.mem_map_of_mem (List.mem_of_getElem? (i := 1) rfl))) (F.2.2.2.2.2.2.2.2.2 _ (List.mem_append_left _ (List.mem_map_of_mem (List.mem_of_getElem? (i := 1) rfl))))) hce hcv hcl ?_
    refine lv_astore_n F.1 F.2.1 dL_offer_11 rfl hl (Nat.le_of_ble_eq_true rfl) rfl (fun la' _ => ?_)
    refine lv_iconst F.1 F.2.1 dL_offer_12 (v := 1) (by decide) ?_
    exact h_ret F E (Or.inr ⟨_, hΨ, by decide, rfl⟩) (by rw [hpl]; exact hag) hP1 hPo1 hD1 hap1 hS1 (Nat.le_of_eq (Nat.zero_add _)) (Nat.le_of_eq (Nat.zero_add _)) dL_offer_13
  · obtain ⟨hPo1, hap1⟩ := hfr [oC (xcy X) ao U] hPo hap
    obtain ⟨v, rfl⟩ := hr _ _ _ hΦ
    refine lv_i2l (rest := [.int 0, .ref ao]) F.1 F.2.1 dL_offer_6 rfl ?_
    refine h_store (rest := []) F hP1 hPo1 hD1 hao hap1 hS1 dL_offer_7 (fun H2 locs2 hP2 hPo2 hS2 => ?_)
    refine lv_goto F.1 F.2.1 dL_offer_8 (tgt := 14) (by decide) ?_
    refine lv_iconst F.1 F.2.1 dL_offer_14 (v := 0) (by decide) ?_
    exact h_ret F E (Or.inl ⟨rfl, v, hΦ, rfl⟩) (by rw [hpl]; exact hag) hP2 hPo2 hD1 (apt_ao hap1) hS2 (Nat.le_of_eq (Nat.zero_add _)) (Nat.le_of_eq (Nat.zero_add _)) dL_offer_15
theorem h_answer {l : Launch} {σ : HS} {pl : List Nat} {mc ms : Nat} {Φ : Option Value → HS → List Nat → Prop} {Ψ : String → HS → List Nat → Prop} {p0 : Int32} (C : ConX l 18 yX11_answer cX11_answer 2 (some .int) [.ref 100, .int p0] σ pl mc ms Φ Ψ) (hb : 100 ∈ pl) (hk : sK σ 100 = 11) (hr : ∀ r σ' pl', Φ r σ' pl' → ∃ v, r = some (.int v)) (hE : ∀ E σ' pl', Ψ E σ' pl' → E = "java/lang/IllegalStateException") : HCon l 19 yL_answer cL_answer 4 [(0, 9, 12, 15)] (fun a o => [.ref a, .int p0, .ref o]) σ pl mc ms (hTh Φ Ψ ec1) := by
  refine HCon.of (by decide) rfl (fun a b => Nat.le_of_ble_eq_true rfl) (fun X ao U la hX F hR E hcw htab hP hPo hD hap hao hpl hl => ?_)
  have tb := htab _ _ _ _ hcw
  subst hX
  refine lv_aload_n F.1 F.2.1 dL_answer_0 rfl (lv_at hl 2 rfl) ?_
  refine lv_iconst F.1 F.2.1 dL_answer_1 (v := 0) (by decide) ?_
  refine lv_aload_n F.1 F.2.1 dL_answer_2 rfl (lv_at hl 0 rfl) ?_
  refine lv_iload_n F.1 F.2.1 dL_answer_3 rfl (lv_at hl 1 rfl) ?_
  refine f_callVX (b := 100) (As := [.int p0]) (rest := [.int 0, .ref ao]) (ci := 11) F C ml_L_55 im_yX11_answer se_yX11_answer (by rw [hR]; exact Nat.le_of_ble_eq_true rfl) (by rw [hR]; exact Nat.le_of_ble_eq_true rfl) (by decide) rfl hb hk rfl dL_answer_4 (Nat.le_of_ble_eq_true rfl) (by rw [hR]; exact Nat.le_of_eq (Nat.zero_add _)) (by rw [hR]; exact Nat.le_of_eq (Nat.zero_add _)) hl.1 hP hD va_S.rf (fun Ec ce q σ' pl' ad' H' locs' hΨ hag hP1 hD1 hS1 hfr hce hcv hcl => ?_) (fun r σ' pl' ad' H' locs' hΦ hag hP1 hD1 hS1 hfr => ?_)
  · obtain ⟨hPo1, hap1⟩ := hfr [oC (xcy X) ao U] hPo hap
    have hs := hE _ _ _ hΨ
    subst hs
    refine vx_catch F.2.2.2.1 [] ⟨0, 9, 12, 15⟩ [] tb (fun z hz => by cases hz) (by decide) (by decide) (F.2.2.2.2.1 _ cl_L_15) (exU (List.mem_append_left _ (List.mem_map_of_mem (List.mem_of_getElem? (i := 1) rfl))) (F.2.2.2.2.2.2.2.2.2 _ (List.mem_append_left _ (List.mem_map_of_mem (List.mem_of_getElem? (i := 1) rfl))))) hce hcv hcl ?_
    refine lv_astore_n F.1 F.2.1 dL_answer_12 rfl hl (Nat.le_of_ble_eq_true rfl) rfl (fun la' _ => ?_)
    refine lv_iconst F.1 F.2.1 dL_answer_13 (v := 1) (by decide) ?_
    exact h_ret F E (Or.inr ⟨_, hΨ, by decide, rfl⟩) (by rw [hpl]; exact hag) hP1 hPo1 hD1 hap1 hS1 (Nat.le_of_eq (Nat.zero_add _)) (Nat.le_of_eq (Nat.zero_add _)) dL_answer_14
  · obtain ⟨hPo1, hap1⟩ := hfr [oC (xcy X) ao U] hPo hap
    obtain ⟨v, rfl⟩ := hr _ _ _ hΦ
    refine lv_i2l (rest := [.int 0, .ref ao]) F.1 F.2.1 dL_answer_7 rfl ?_
    refine h_store (rest := []) F hP1 hPo1 hD1 hao hap1 hS1 dL_answer_8 (fun H2 locs2 hP2 hPo2 hS2 => ?_)
    refine lv_goto F.1 F.2.1 dL_answer_9 (tgt := 15) (by decide) ?_
    refine lv_iconst F.1 F.2.1 dL_answer_15 (v := 0) (by decide) ?_
    exact h_ret F E (Or.inl ⟨rfl, v, hΦ, rfl⟩) (by rw [hpl]; exact hag) hP2 hPo2 hD1 (apt_ao hap1) hS2 (Nat.le_of_eq (Nat.zero_add _)) (Nat.le_of_eq (Nat.zero_add _)) dL_answer_16
theorem h_next {l : Launch} {σ : HS} {pl : List Nat} {mc ms : Nat} {Φ : Option Value → HS → List Nat → Prop} {Ψ : String → HS → List Nat → Prop} (C : ConX l 18 yX11_next cX11_next 1 none [.ref 100] σ pl mc ms Φ Ψ) (hb : 100 ∈ pl) (hk : sK σ 100 = 11) (hr : ∀ r σ' pl', Φ r σ' pl' → r = none) (hE : ∀ E σ' pl', Ψ E σ' pl' → E = "java/lang/IllegalStateException") : HCon l 19 yL_next cL_next 2 [(0, 4, 7, 15)] (fun a _ => [.ref a]) σ pl mc ms (hTv Φ Ψ ec1) := by
  refine HCon.of (by decide) rfl (fun a b => Nat.le_of_ble_eq_true rfl) (fun X ao U la hX F hR E hcw htab hP hPo hD hap hao hpl hl => ?_)
  have tb := htab _ _ _ _ hcw
  subst hX
  refine lv_aload_n F.1 F.2.1 dL_next_0 rfl (lv_at hl 0 rfl) ?_
  refine f_callVX (b := 100) (As := []) (rest := []) (ci := 11) F C ml_L_59 im_yX11_next se_yX11_next (by rw [hR]; exact Nat.le_of_ble_eq_true rfl) (by rw [hR]; exact Nat.le_of_ble_eq_true rfl) (by decide) rfl hb hk rfl dL_next_1 (Nat.le_of_ble_eq_true rfl) (by rw [hR]; exact Nat.le_of_eq (Nat.zero_add _)) (by rw [hR]; exact Nat.le_of_eq (Nat.zero_add _)) hl.1 hP hD va_S.rf (fun Ec ce q σ' pl' ad' H' locs' hΨ hag hP1 hD1 hS1 hfr hce hcv hcl => ?_) (fun r σ' pl' ad' H' locs' hΦ hag hP1 hD1 hS1 hfr => ?_)
  · obtain ⟨hPo1, hap1⟩ := hfr [oC (xcy X) ao U] hPo hap
    have hs := hE _ _ _ hΨ
    subst hs
    refine vx_catch F.2.2.2.1 [] ⟨0, 4, 7, 15⟩ [] tb (fun z hz => by cases hz) (by decide) (by decide) (F.2.2.2.2.1 _ cl_L_15) (exU (List.mem_append_left _ (List.mem_map_of_mem (List.mem_of_getElem? (i := 1) rfl))) (F.2.2.2.2.2.2.2.2.2 _ (List.mem_append_left _ (List.mem_map_of_mem (List.mem_of_getElem? (i := 1) rfl))))) hce hcv hcl ?_
    refine lv_astore_n F.1 F.2.1 dL_next_7 rfl hl (Nat.le_of_ble_eq_true rfl) rfl (fun la' _ => ?_)
    refine lv_iconst F.1 F.2.1 dL_next_8 (v := 1) (by decide) ?_
    exact h_ret F E (Or.inr ⟨_, hΨ, by decide, rfl⟩) (by rw [hpl]; exact hag) hP1 hPo1 hD1 hap1 hS1 (Nat.le_of_eq (Nat.zero_add _)) (Nat.le_of_eq (Nat.zero_add _)) dL_next_9
  · obtain ⟨hPo1, hap1⟩ := hfr [oC (xcy X) ao U] hPo hap
    have hs := hr _ _ _ hΦ
    subst hs
    refine lv_goto F.1 F.2.1 dL_next_4 (tgt := 10) (by decide) ?_
    refine lv_iconst F.1 F.2.1 dL_next_10 (v := 0) (by decide) ?_
    exact h_ret F E (Or.inl ⟨rfl, hΦ, rfl⟩) (by rw [hpl]; exact hag) hP1 hPo1 hD1 hap1 hS1 (Nat.le_of_eq (Nat.zero_add _)) (Nat.le_of_eq (Nat.zero_add _)) dL_next_11
theorem h_match {l : Launch} {σ : HS} {pl : List Nat} {mc ms : Nat} {Φ : Option Value → HS → List Nat → Prop} {Ψ : String → HS → List Nat → Prop} {p0 : Int32} (C : ConX l 18 yX11_match cX11_match 2 (some .int) [.ref 100, .int p0] σ pl mc ms Φ Ψ) (hb : 100 ∈ pl) (hk : sK σ 100 = 11) (hr : ∀ r σ' pl', Φ r σ' pl' → ∃ v, r = some (.int v)) (hE : ∀ E σ' pl', Ψ E σ' pl' → E = "java/lang/IllegalArgumentException") : HCon l 19 yL_match cL_match 4 [(0, 9, 12, 13)] (fun a o => [.ref a, .int p0, .ref o]) σ pl mc ms (hTh Φ Ψ ec1) := by
  refine HCon.of (by decide) rfl (fun a b => Nat.le_of_ble_eq_true rfl) (fun X ao U la hX F hR E hcw htab hP hPo hD hap hao hpl hl => ?_)
  have tb := htab _ _ _ _ hcw
  subst hX
  refine lv_aload_n F.1 F.2.1 dL_match_0 rfl (lv_at hl 2 rfl) ?_
  refine lv_iconst F.1 F.2.1 dL_match_1 (v := 0) (by decide) ?_
  refine lv_aload_n F.1 F.2.1 dL_match_2 rfl (lv_at hl 0 rfl) ?_
  refine lv_iload_n F.1 F.2.1 dL_match_3 rfl (lv_at hl 1 rfl) ?_
  refine f_callVX (b := 100) (As := [.int p0]) (rest := [.int 0, .ref ao]) (ci := 11) F C ml_L_62 im_yX11_match se_yX11_match (by rw [hR]; exact Nat.le_of_ble_eq_true rfl) (by rw [hR]; exact Nat.le_of_ble_eq_true rfl) (by decide) rfl hb hk rfl dL_match_4 (Nat.le_of_ble_eq_true rfl) (by rw [hR]; exact Nat.le_of_eq (Nat.zero_add _)) (by rw [hR]; exact Nat.le_of_eq (Nat.zero_add _)) hl.1 hP hD va_S.rf (fun Ec ce q σ' pl' ad' H' locs' hΨ hag hP1 hD1 hS1 hfr hce hcv hcl => ?_) (fun r σ' pl' ad' H' locs' hΦ hag hP1 hD1 hS1 hfr => ?_)
  · obtain ⟨hPo1, hap1⟩ := hfr [oC (xcy X) ao U] hPo hap
    have hs := hE _ _ _ hΨ
    subst hs
    refine vx_catch F.2.2.2.1 [] ⟨0, 9, 12, 13⟩ [] tb (fun z hz => by cases hz) (by decide) (by decide) (F.2.2.2.2.1 _ cl_L_13) (exU (List.mem_append_left _ (List.mem_map_of_mem (List.mem_of_getElem? (i := 0) rfl))) (F.2.2.2.2.2.2.2.2.2 _ (List.mem_append_left _ (List.mem_map_of_mem (List.mem_of_getElem? (i := 0) rfl))))) hce hcv hcl ?_
    refine lv_astore_n F.1 F.2.1 dL_match_12 rfl hl (Nat.le_of_ble_eq_true rfl) rfl (fun la' _ => ?_)
    refine lv_iconst F.1 F.2.1 dL_match_13 (v := 1) (by decide) ?_
    exact h_ret F E (Or.inr ⟨_, hΨ, by decide, rfl⟩) (by rw [hpl]; exact hag) hP1 hPo1 hD1 hap1 hS1 (Nat.le_of_eq (Nat.zero_add _)) (Nat.le_of_eq (Nat.zero_add _)) dL_match_14
  · obtain ⟨hPo1, hap1⟩ := hfr [oC (xcy X) ao U] hPo hap
    obtain ⟨v, rfl⟩ := hr _ _ _ hΦ
    refine lv_i2l (rest := [.int 0, .ref ao]) F.1 F.2.1 dL_match_7 rfl ?_
    refine h_store (rest := []) F hP1 hPo1 hD1 hao hap1 hS1 dL_match_8 (fun H2 locs2 hP2 hPo2 hS2 => ?_)
    refine lv_goto F.1 F.2.1 dL_match_9 (tgt := 15) (by decide) ?_
    refine lv_iconst F.1 F.2.1 dL_match_15 (v := 0) (by decide) ?_
    exact h_ret F E (Or.inl ⟨rfl, v, hΦ, rfl⟩) (by rw [hpl]; exact hag) hP2 hPo2 hD1 (apt_ao hap1) hS2 (Nat.le_of_eq (Nat.zero_add _)) (Nat.le_of_eq (Nat.zero_add _)) dL_match_16
theorem h_learn {l : Launch} {σ : HS} {pl : List Nat} {mc ms : Nat} {Φ : Option Value → HS → List Nat → Prop} {Ψ : String → HS → List Nat → Prop} (C : ConX l 18 yX11_learn cX11_learn 1 (some .int) [.ref 100] σ pl mc ms Φ Ψ) (hb : 100 ∈ pl) (hk : sK σ 100 = 11) (hr : ∀ r σ' pl', Φ r σ' pl' → ∃ v, r = some (.int v)) (hE : ∀ E σ' pl', Ψ E σ' pl' → E = "java/lang/IllegalStateException") : HCon l 19 yL_learn cL_learn 3 [(0, 8, 11, 15)] (fun a o => [.ref a, .ref o]) σ pl mc ms (hTh Φ Ψ ec1) := by
  refine HCon.of (by decide) rfl (fun a b => Nat.le_of_ble_eq_true rfl) (fun X ao U la hX F hR E hcw htab hP hPo hD hap hao hpl hl => ?_)
  have tb := htab _ _ _ _ hcw
  subst hX
  refine lv_aload_n F.1 F.2.1 dL_learn_0 rfl (lv_at hl 1 rfl) ?_
  refine lv_iconst F.1 F.2.1 dL_learn_1 (v := 0) (by decide) ?_
  refine lv_aload_n F.1 F.2.1 dL_learn_2 rfl (lv_at hl 0 rfl) ?_
  refine f_callVX (b := 100) (As := []) (rest := [.int 0, .ref ao]) (ci := 11) F C ml_L_65 im_yX11_learn se_yX11_learn (by rw [hR]; exact Nat.le_of_ble_eq_true rfl) (by rw [hR]; exact Nat.le_of_ble_eq_true rfl) (by decide) rfl hb hk rfl dL_learn_3 (Nat.le_of_ble_eq_true rfl) (by rw [hR]; exact Nat.le_of_eq (Nat.zero_add _)) (by rw [hR]; exact Nat.le_of_eq (Nat.zero_add _)) hl.1 hP hD va_S.rf (fun Ec ce q σ' pl' ad' H' locs' hΨ hag hP1 hD1 hS1 hfr hce hcv hcl => ?_) (fun r σ' pl' ad' H' locs' hΦ hag hP1 hD1 hS1 hfr => ?_)
  · obtain ⟨hPo1, hap1⟩ := hfr [oC (xcy X) ao U] hPo hap
    have hs := hE _ _ _ hΨ
    subst hs
    refine vx_catch F.2.2.2.1 [] ⟨0, 8, 11, 15⟩ [] tb (fun z hz => by cases hz) (by decide) (by decide) (F.2.2.2.2.1 _ cl_L_15) (exU (List.mem_append_left _ (List.mem_map_of_mem (List.mem_of_getElem? (i := 1) rfl))) (F.2.2.2.2.2.2.2.2.2 _ (List.mem_append_left _ (List.mem_map_of_mem (List.mem_of_getElem? (i := 1) rfl))))) hce hcv hcl ?_
    refine lv_astore_n F.1 F.2.1 dL_learn_11 rfl hl (Nat.le_of_ble_eq_true rfl) rfl (fun la' _ => ?_)
    refine lv_iconst F.1 F.2.1 dL_learn_12 (v := 1) (by decide) ?_
    exact h_ret F E (Or.inr ⟨_, hΨ, by decide, rfl⟩) (by rw [hpl]; exact hag) hP1 hPo1 hD1 hap1 hS1 (Nat.le_of_eq (Nat.zero_add _)) (Nat.le_of_eq (Nat.zero_add _)) dL_learn_13
  · obtain ⟨hPo1, hap1⟩ := hfr [oC (xcy X) ao U] hPo hap
    obtain ⟨v, rfl⟩ := hr _ _ _ hΦ
    refine lv_i2l (rest := [.int 0, .ref ao]) F.1 F.2.1 dL_learn_6 rfl ?_
    refine h_store (rest := []) F hP1 hPo1 hD1 hao hap1 hS1 dL_learn_7 (fun H2 locs2 hP2 hPo2 hS2 => ?_)
    refine lv_goto F.1 F.2.1 dL_learn_8 (tgt := 14) (by decide) ?_
    refine lv_iconst F.1 F.2.1 dL_learn_14 (v := 0) (by decide) ?_
    exact h_ret F E (Or.inl ⟨rfl, v, hΦ, rfl⟩) (by rw [hpl]; exact hag) hP2 hPo2 hD1 (apt_ao hap1) hS2 (Nat.le_of_eq (Nat.zero_add _)) (Nat.le_of_eq (Nat.zero_add _)) dL_learn_15
theorem h_rolls {l : Launch} {σ : HS} {pl : List Nat} {mc ms : Nat} {Φ : Option Value → HS → List Nat → Prop} {Ψ : String → HS → List Nat → Prop} {p0 : Int32} (C : ConX l 18 yX11_rolls cX11_rolls 2 (some .int) [.ref 100, .int p0] σ pl mc ms Φ Ψ) (hb : 100 ∈ pl) (hk : sK σ 100 = 11) (hr : ∀ r σ' pl', Φ r σ' pl' → ∃ v, r = some (.int v)) (hE : ∀ E σ' pl', Ψ E σ' pl' → E = "java/lang/IllegalArgumentException" ∨ E = "java/lang/IllegalStateException") : HCon l 19 yL_rolls cL_rolls 4 [(0, 9, 12, 13), (0, 9, 15, 15)] (fun a o => [.ref a, .int p0, .ref o]) σ pl mc ms (hTh Φ Ψ ecA) := by
  refine HCon.of (by decide) rfl (fun a b => Nat.le_of_ble_eq_true rfl) (fun X ao U la hX F hR E hcw htab hP hPo hD hap hao hpl hl => ?_)
  have tb := htab _ _ _ _ hcw
  subst hX
  refine lv_aload_n F.1 F.2.1 dL_rolls_0 rfl (lv_at hl 2 rfl) ?_
  refine lv_iconst F.1 F.2.1 dL_rolls_1 (v := 0) (by decide) ?_
  refine lv_aload_n F.1 F.2.1 dL_rolls_2 rfl (lv_at hl 0 rfl) ?_
  refine lv_iload_n F.1 F.2.1 dL_rolls_3 rfl (lv_at hl 1 rfl) ?_
  refine f_callVX (b := 100) (As := [.int p0]) (rest := [.int 0, .ref ao]) (ci := 11) F C ml_L_68 im_yX11_rolls se_yX11_rolls (by rw [hR]; exact Nat.le_of_ble_eq_true rfl) (by rw [hR]; exact Nat.le_of_ble_eq_true rfl) (by decide) rfl hb hk rfl dL_rolls_4 (Nat.le_of_ble_eq_true rfl) (by rw [hR]; exact Nat.le_of_eq (Nat.zero_add _)) (by rw [hR]; exact Nat.le_of_eq (Nat.zero_add _)) hl.1 hP hD va_S.rf (fun Ec ce q σ' pl' ad' H' locs' hΨ hag hP1 hD1 hS1 hfr hce hcv hcl => ?_) (fun r σ' pl' ad' H' locs' hΦ hag hP1 hD1 hS1 hfr => ?_)
  · obtain ⟨hPo1, hap1⟩ := hfr [oC (xcy X) ao U] hPo hap
    have hs := hE _ _ _ hΨ
    rcases hs with rfl | rfl
    · refine vx_catch F.2.2.2.1 [] ⟨0, 9, 12, 13⟩ [⟨0, 9, 15, 15⟩] tb (fun z hz => by cases hz) (by decide) (by decide) (F.2.2.2.2.1 _ cl_L_13) (exU (List.mem_append_left _ (List.mem_map_of_mem (List.mem_of_getElem? (i := 0) rfl))) (F.2.2.2.2.2.2.2.2.2 _ (List.mem_append_left _ (List.mem_map_of_mem (List.mem_of_getElem? (i := 0) rfl))))) hce hcv hcl ?_
      refine lv_astore_n F.1 F.2.1 dL_rolls_12 rfl hl (Nat.le_of_ble_eq_true rfl) rfl (fun la' _ => ?_)
      refine lv_iconst F.1 F.2.1 dL_rolls_13 (v := 1) (by decide) ?_
      exact h_ret F E (Or.inr ⟨_, hΨ, by decide, rfl⟩) (by rw [hpl]; exact hag) hP1 hPo1 hD1 hap1 hS1 (Nat.le_of_eq (Nat.zero_add _)) (Nat.le_of_eq (Nat.zero_add _)) dL_rolls_14
    · refine vx_catch F.2.2.2.1 [⟨0, 9, 12, 13⟩] ⟨0, 9, 15, 15⟩ [] tb (fun z hz => by rcases List.mem_singleton.mp hz with rfl; exact Or.inr ⟨by decide, "java/lang/IllegalArgumentException", F.2.2.2.2.1 _ cl_L_13, F.2.2.2.2.2.2.2.2.1.2.2.2.2.2.2 _ (List.mem_of_getElem? (i := 0) rfl)⟩) (by decide) (by decide) (F.2.2.2.2.1 _ cl_L_15) (exU (List.mem_append_left _ (List.mem_map_of_mem (List.mem_of_getElem? (i := 1) rfl))) (F.2.2.2.2.2.2.2.2.2 _ (List.mem_append_left _ (List.mem_map_of_mem (List.mem_of_getElem? (i := 1) rfl))))) hce hcv hcl ?_
      refine lv_astore_n F.1 F.2.1 dL_rolls_15 rfl hl (Nat.le_of_ble_eq_true rfl) rfl (fun la' _ => ?_)
      refine lv_iconst F.1 F.2.1 dL_rolls_16 (v := 2) (by decide) ?_
      exact h_ret F E (Or.inr ⟨_, hΨ, by decide, rfl⟩) (by rw [hpl]; exact hag) hP1 hPo1 hD1 hap1 hS1 (Nat.le_of_eq (Nat.zero_add _)) (Nat.le_of_eq (Nat.zero_add _)) dL_rolls_17
  · obtain ⟨hPo1, hap1⟩ := hfr [oC (xcy X) ao U] hPo hap
    obtain ⟨v, rfl⟩ := hr _ _ _ hΦ
    refine lv_i2l (rest := [.int 0, .ref ao]) F.1 F.2.1 dL_rolls_7 rfl ?_
    refine h_store (rest := []) F hP1 hPo1 hD1 hao hap1 hS1 dL_rolls_8 (fun H2 locs2 hP2 hPo2 hS2 => ?_)
    refine lv_goto F.1 F.2.1 dL_rolls_9 (tgt := 18) (by decide) ?_
    refine lv_iconst F.1 F.2.1 dL_rolls_18 (v := 0) (by decide) ?_
    exact h_ret F E (Or.inl ⟨rfl, v, hΦ, rfl⟩) (by rw [hpl]; exact hag) hP2 hPo2 hD1 (apt_ao hap1) hS2 (Nat.le_of_eq (Nat.zero_add _)) (Nat.le_of_eq (Nat.zero_add _)) dL_rolls_19
theorem h_best {l : Launch} {σ : HS} {pl : List Nat} {mc ms : Nat} {Φ : Option Value → HS → List Nat → Prop} {Ψ : String → HS → List Nat → Prop} {p0 p1 p2 : Int32} (C : ConX l 18 yX11_best cX11_best 4 (some .int) [.ref 100, .int p0, .int p1, .int p2] σ pl mc ms Φ Ψ) (hb : 100 ∈ pl) (hk : sK σ 100 = 11) (hr : ∀ r σ' pl', Φ r σ' pl' → ∃ v, r = some (.int v)) (hE : ∀ E σ' pl', Ψ E σ' pl' → E = "java/lang/IllegalArgumentException" ∨ E = "java/lang/IllegalStateException") : HCon l 19 yL_best cL_best 6 [(0, 12, 15, 13), (0, 12, 19, 15)] (fun a o => [.ref a, .int p0, .int p1, .int p2, .ref o]) σ pl mc ms (hTh Φ Ψ ecA) := by
  refine HCon.of (by decide) rfl (fun a b => Nat.le_of_ble_eq_true rfl) (fun X ao U la hX F hR E hcw htab hP hPo hD hap hao hpl hl => ?_)
  have tb := htab _ _ _ _ hcw
  subst hX
  refine lv_aload F.1 F.2.1 dL_best_0 (lv_at hl 4 rfl) ?_
  refine lv_iconst F.1 F.2.1 dL_best_2 (v := 0) (by decide) ?_
  refine lv_aload_n F.1 F.2.1 dL_best_3 rfl (lv_at hl 0 rfl) ?_
  refine lv_iload_n F.1 F.2.1 dL_best_4 rfl (lv_at hl 1 rfl) ?_
  refine lv_iload_n F.1 F.2.1 dL_best_5 rfl (lv_at hl 2 rfl) ?_
  refine lv_iload_n F.1 F.2.1 dL_best_6 rfl (lv_at hl 3 rfl) ?_
  refine f_callVX (b := 100) (As := [.int p0, .int p1, .int p2]) (rest := [.int 0, .ref ao]) (ci := 11) F C ml_L_71 im_yX11_best se_yX11_best (by rw [hR]; exact Nat.le_of_ble_eq_true rfl) (by rw [hR]; exact Nat.le_of_ble_eq_true rfl) (by decide) rfl hb hk rfl dL_best_7 (Nat.le_of_ble_eq_true rfl) (by rw [hR]; exact Nat.le_of_eq (Nat.zero_add _)) (by rw [hR]; exact Nat.le_of_eq (Nat.zero_add _)) hl.1 hP hD va_S.rf (fun Ec ce q σ' pl' ad' H' locs' hΨ hag hP1 hD1 hS1 hfr hce hcv hcl => ?_) (fun r σ' pl' ad' H' locs' hΦ hag hP1 hD1 hS1 hfr => ?_)
  · obtain ⟨hPo1, hap1⟩ := hfr [oC (xcy X) ao U] hPo hap
    have hs := hE _ _ _ hΨ
    rcases hs with rfl | rfl
    · refine vx_catch F.2.2.2.1 [] ⟨0, 12, 15, 13⟩ [⟨0, 12, 19, 15⟩] tb (fun z hz => by cases hz) (by decide) (by decide) (F.2.2.2.2.1 _ cl_L_13) (exU (List.mem_append_left _ (List.mem_map_of_mem (List.mem_of_getElem? (i := 0) rfl))) (F.2.2.2.2.2.2.2.2.2 _ (List.mem_append_left _ (List.mem_map_of_mem (List.mem_of_getElem? (i := 0) rfl))))) hce hcv hcl ?_
      refine lv_astore F.1 F.2.1 dL_best_15 hl (Nat.le_of_ble_eq_true rfl) rfl (fun la' _ => ?_)
      refine lv_iconst F.1 F.2.1 dL_best_17 (v := 1) (by decide) ?_
      exact h_ret F E (Or.inr ⟨_, hΨ, by decide, rfl⟩) (by rw [hpl]; exact hag) hP1 hPo1 hD1 hap1 hS1 (Nat.le_of_eq (Nat.zero_add _)) (Nat.le_of_eq (Nat.zero_add _)) dL_best_18
    · refine vx_catch F.2.2.2.1 [⟨0, 12, 15, 13⟩] ⟨0, 12, 19, 15⟩ [] tb (fun z hz => by rcases List.mem_singleton.mp hz with rfl; exact Or.inr ⟨by decide, "java/lang/IllegalArgumentException", F.2.2.2.2.1 _ cl_L_13, F.2.2.2.2.2.2.2.2.1.2.2.2.2.2.2 _ (List.mem_of_getElem? (i := 0) rfl)⟩) (by decide) (by decide) (F.2.2.2.2.1 _ cl_L_15) (exU (List.mem_append_left _ (List.mem_map_of_mem (List.mem_of_getElem? (i := 1) rfl))) (F.2.2.2.2.2.2.2.2.2 _ (List.mem_append_left _ (List.mem_map_of_mem (List.mem_of_getElem? (i := 1) rfl))))) hce hcv hcl ?_
      refine lv_astore F.1 F.2.1 dL_best_19 hl (Nat.le_of_ble_eq_true rfl) rfl (fun la' _ => ?_)
      refine lv_iconst F.1 F.2.1 dL_best_21 (v := 2) (by decide) ?_
      exact h_ret F E (Or.inr ⟨_, hΨ, by decide, rfl⟩) (by rw [hpl]; exact hag) hP1 hPo1 hD1 hap1 hS1 (Nat.le_of_eq (Nat.zero_add _)) (Nat.le_of_eq (Nat.zero_add _)) dL_best_22
  · obtain ⟨hPo1, hap1⟩ := hfr [oC (xcy X) ao U] hPo hap
    obtain ⟨v, rfl⟩ := hr _ _ _ hΦ
    refine lv_i2l (rest := [.int 0, .ref ao]) F.1 F.2.1 dL_best_10 rfl ?_
    refine h_store (rest := []) F hP1 hPo1 hD1 hao hap1 hS1 dL_best_11 (fun H2 locs2 hP2 hPo2 hS2 => ?_)
    refine lv_goto F.1 F.2.1 dL_best_12 (tgt := 23) (by decide) ?_
    refine lv_iconst F.1 F.2.1 dL_best_23 (v := 0) (by decide) ?_
    exact h_ret F E (Or.inl ⟨rfl, v, hΦ, rfl⟩) (by rw [hpl]; exact hag) hP2 hPo2 hD1 (apt_ao hap1) hS2 (Nat.le_of_eq (Nat.zero_add _)) (Nat.le_of_eq (Nat.zero_add _)) dL_best_24
theorem h_within {l : Launch} {σ : HS} {pl : List Nat} {mc ms : Nat} {Φ : Option Value → HS → List Nat → Prop} {Ψ : String → HS → List Nat → Prop} {p0 p1 : Int32} (C : ConX l 18 yX11_within cX11_within 3 (some .int) [.ref 100, .int p0, .int p1] σ pl mc ms Φ Ψ) (hb : 100 ∈ pl) (hk : sK σ 100 = 11) (hr : ∀ r σ' pl', Φ r σ' pl' → ∃ v, r = some (.int v)) (hE : ∀ E σ' pl', Ψ E σ' pl' → E = "java/lang/IllegalArgumentException" ∨ E = "java/lang/IllegalStateException") : HCon l 19 yL_within cL_within 5 [(0, 10, 13, 13), (0, 10, 17, 15)] (fun a o => [.ref a, .int p0, .int p1, .ref o]) σ pl mc ms (hTh Φ Ψ ecA) := by
  refine HCon.of (by decide) rfl (fun a b => Nat.le_of_ble_eq_true rfl) (fun X ao U la hX F hR E hcw htab hP hPo hD hap hao hpl hl => ?_)
  have tb := htab _ _ _ _ hcw
  subst hX
  refine lv_aload_n F.1 F.2.1 dL_within_0 rfl (lv_at hl 3 rfl) ?_
  refine lv_iconst F.1 F.2.1 dL_within_1 (v := 0) (by decide) ?_
  refine lv_aload_n F.1 F.2.1 dL_within_2 rfl (lv_at hl 0 rfl) ?_
  refine lv_iload_n F.1 F.2.1 dL_within_3 rfl (lv_at hl 1 rfl) ?_
  refine lv_iload_n F.1 F.2.1 dL_within_4 rfl (lv_at hl 2 rfl) ?_
  refine f_callVX (b := 100) (As := [.int p0, .int p1]) (rest := [.int 0, .ref ao]) (ci := 11) F C ml_L_74 im_yX11_within se_yX11_within (by rw [hR]; exact Nat.le_of_ble_eq_true rfl) (by rw [hR]; exact Nat.le_of_ble_eq_true rfl) (by decide) rfl hb hk rfl dL_within_5 (Nat.le_of_ble_eq_true rfl) (by rw [hR]; exact Nat.le_of_eq (Nat.zero_add _)) (by rw [hR]; exact Nat.le_of_eq (Nat.zero_add _)) hl.1 hP hD va_S.rf (fun Ec ce q σ' pl' ad' H' locs' hΨ hag hP1 hD1 hS1 hfr hce hcv hcl => ?_) (fun r σ' pl' ad' H' locs' hΦ hag hP1 hD1 hS1 hfr => ?_)
  · obtain ⟨hPo1, hap1⟩ := hfr [oC (xcy X) ao U] hPo hap
    have hs := hE _ _ _ hΨ
    rcases hs with rfl | rfl
    · refine vx_catch F.2.2.2.1 [] ⟨0, 10, 13, 13⟩ [⟨0, 10, 17, 15⟩] tb (fun z hz => by cases hz) (by decide) (by decide) (F.2.2.2.2.1 _ cl_L_13) (exU (List.mem_append_left _ (List.mem_map_of_mem (List.mem_of_getElem? (i := 0) rfl))) (F.2.2.2.2.2.2.2.2.2 _ (List.mem_append_left _ (List.mem_map_of_mem (List.mem_of_getElem? (i := 0) rfl))))) hce hcv hcl ?_
      refine lv_astore F.1 F.2.1 dL_within_13 hl (Nat.le_of_ble_eq_true rfl) rfl (fun la' _ => ?_)
      refine lv_iconst F.1 F.2.1 dL_within_15 (v := 1) (by decide) ?_
      exact h_ret F E (Or.inr ⟨_, hΨ, by decide, rfl⟩) (by rw [hpl]; exact hag) hP1 hPo1 hD1 hap1 hS1 (Nat.le_of_eq (Nat.zero_add _)) (Nat.le_of_eq (Nat.zero_add _)) dL_within_16
    · refine vx_catch F.2.2.2.1 [⟨0, 10, 13, 13⟩] ⟨0, 10, 17, 15⟩ [] tb (fun z hz => by rcases List.mem_singleton.mp hz with rfl; exact Or.inr ⟨by decide, "java/lang/IllegalArgumentException", F.2.2.2.2.1 _ cl_L_13, F.2.2.2.2.2.2.2.2.1.2.2.2.2.2.2 _ (List.mem_of_getElem? (i := 0) rfl)⟩) (by decide) (by decide) (F.2.2.2.2.1 _ cl_L_15) (exU (List.mem_append_left _ (List.mem_map_of_mem (List.mem_of_getElem? (i := 1) rfl))) (F.2.2.2.2.2.2.2.2.2 _ (List.mem_append_left _ (List.mem_map_of_mem (List.mem_of_getElem? (i := 1) rfl))))) hce hcv hcl ?_
      refine lv_astore F.1 F.2.1 dL_within_17 hl (Nat.le_of_ble_eq_true rfl) rfl (fun la' _ => ?_)
      refine lv_iconst F.1 F.2.1 dL_within_19 (v := 2) (by decide) ?_
      exact h_ret F E (Or.inr ⟨_, hΨ, by decide, rfl⟩) (by rw [hpl]; exact hag) hP1 hPo1 hD1 hap1 hS1 (Nat.le_of_eq (Nat.zero_add _)) (Nat.le_of_eq (Nat.zero_add _)) dL_within_20
  · obtain ⟨hPo1, hap1⟩ := hfr [oC (xcy X) ao U] hPo hap
    obtain ⟨v, rfl⟩ := hr _ _ _ hΦ
    refine lv_i2l (rest := [.int 0, .ref ao]) F.1 F.2.1 dL_within_8 rfl ?_
    refine h_store (rest := []) F hP1 hPo1 hD1 hao hap1 hS1 dL_within_9 (fun H2 locs2 hP2 hPo2 hS2 => ?_)
    refine lv_goto F.1 F.2.1 dL_within_10 (tgt := 21) (by decide) ?_
    refine lv_iconst F.1 F.2.1 dL_within_21 (v := 0) (by decide) ?_
    exact h_ret F E (Or.inl ⟨rfl, v, hΦ, rfl⟩) (by rw [hpl]; exact hag) hP2 hPo2 hD1 (apt_ao hap1) hS2 (Nat.le_of_eq (Nat.zero_add _)) (Nat.le_of_eq (Nat.zero_add _)) dL_within_22
theorem h_race {l : Launch} {σ : HS} {pl : List Nat} {mc ms : Nat} {Φ : Option Value → HS → List Nat → Prop} {Ψ : String → HS → List Nat → Prop} {p0 p1 : Int32} (C : ConX l 18 yX11_race cX11_race 3 (some .int) [.ref 100, .int p0, .int p1] σ pl mc ms Φ Ψ) (hb : 100 ∈ pl) (hk : sK σ 100 = 11) (hr : ∀ r σ' pl', Φ r σ' pl' → ∃ v, r = some (.int v)) (hE : ∀ E σ' pl', Ψ E σ' pl' → E = "java/lang/IllegalArgumentException" ∨ E = "java/lang/IllegalStateException" ∨ E = "java/lang/UnsupportedOperationException") : HCon l 19 yL_race cL_race 5 [(0, 10, 13, 13), (0, 10, 17, 15), (0, 10, 21, 80)] (fun a o => [.ref a, .int p0, .int p1, .ref o]) σ pl mc ms (hTh Φ Ψ ecA) := by
  refine HCon.of (by decide) rfl (fun a b => Nat.le_of_ble_eq_true rfl) (fun X ao U la hX F hR E hcw htab hP hPo hD hap hao hpl hl => ?_)
  have tb := htab _ _ _ _ hcw
  subst hX
  refine lv_aload_n F.1 F.2.1 dL_race_0 rfl (lv_at hl 3 rfl) ?_
  refine lv_iconst F.1 F.2.1 dL_race_1 (v := 0) (by decide) ?_
  refine lv_aload_n F.1 F.2.1 dL_race_2 rfl (lv_at hl 0 rfl) ?_
  refine lv_iload_n F.1 F.2.1 dL_race_3 rfl (lv_at hl 1 rfl) ?_
  refine lv_iload_n F.1 F.2.1 dL_race_4 rfl (lv_at hl 2 rfl) ?_
  refine f_callVX (b := 100) (As := [.int p0, .int p1]) (rest := [.int 0, .ref ao]) (ci := 11) F C ml_L_77 im_yX11_race se_yX11_race (by rw [hR]; exact Nat.le_of_ble_eq_true rfl) (by rw [hR]; exact Nat.le_of_ble_eq_true rfl) (by decide) rfl hb hk rfl dL_race_5 (Nat.le_of_ble_eq_true rfl) (by rw [hR]; exact Nat.le_of_eq (Nat.zero_add _)) (by rw [hR]; exact Nat.le_of_eq (Nat.zero_add _)) hl.1 hP hD va_S.rf (fun Ec ce q σ' pl' ad' H' locs' hΨ hag hP1 hD1 hS1 hfr hce hcv hcl => ?_) (fun r σ' pl' ad' H' locs' hΦ hag hP1 hD1 hS1 hfr => ?_)
  · obtain ⟨hPo1, hap1⟩ := hfr [oC (xcy X) ao U] hPo hap
    have hs := hE _ _ _ hΨ
    rcases hs with rfl | rfl | rfl
    · refine vx_catch F.2.2.2.1 [] ⟨0, 10, 13, 13⟩ [⟨0, 10, 17, 15⟩, ⟨0, 10, 21, 80⟩] tb (fun z hz => by cases hz) (by decide) (by decide) (F.2.2.2.2.1 _ cl_L_13) (exU (List.mem_append_left _ (List.mem_map_of_mem (List.mem_of_getElem? (i := 0) rfl))) (F.2.2.2.2.2.2.2.2.2 _ (List.mem_append_left _ (List.mem_map_of_mem (List.mem_of_getElem? (i := 0) rfl))))) hce hcv hcl ?_
      refine lv_astore F.1 F.2.1 dL_race_13 hl (Nat.le_of_ble_eq_true rfl) rfl (fun la' _ => ?_)
      refine lv_iconst F.1 F.2.1 dL_race_15 (v := 1) (by decide) ?_
      exact h_ret F E (Or.inr ⟨_, hΨ, by decide, rfl⟩) (by rw [hpl]; exact hag) hP1 hPo1 hD1 hap1 hS1 (Nat.le_of_eq (Nat.zero_add _)) (Nat.le_of_eq (Nat.zero_add _)) dL_race_16
    · refine vx_catch F.2.2.2.1 [⟨0, 10, 13, 13⟩] ⟨0, 10, 17, 15⟩ [⟨0, 10, 21, 80⟩] tb (fun z hz => by rcases List.mem_singleton.mp hz with rfl; exact Or.inr ⟨by decide, "java/lang/IllegalArgumentException", F.2.2.2.2.1 _ cl_L_13, F.2.2.2.2.2.2.2.2.1.2.2.2.2.2.2 _ (List.mem_of_getElem? (i := 0) rfl)⟩) (by decide) (by decide) (F.2.2.2.2.1 _ cl_L_15) (exU (List.mem_append_left _ (List.mem_map_of_mem (List.mem_of_getElem? (i := 1) rfl))) (F.2.2.2.2.2.2.2.2.2 _ (List.mem_append_left _ (List.mem_map_of_mem (List.mem_of_getElem? (i := 1) rfl))))) hce hcv hcl ?_
      refine lv_astore F.1 F.2.1 dL_race_17 hl (Nat.le_of_ble_eq_true rfl) rfl (fun la' _ => ?_)
      refine lv_iconst F.1 F.2.1 dL_race_19 (v := 2) (by decide) ?_
      exact h_ret F E (Or.inr ⟨_, hΨ, by decide, rfl⟩) (by rw [hpl]; exact hag) hP1 hPo1 hD1 hap1 hS1 (Nat.le_of_eq (Nat.zero_add _)) (Nat.le_of_eq (Nat.zero_add _)) dL_race_20
    · refine vx_catch F.2.2.2.1 [⟨0, 10, 13, 13⟩, ⟨0, 10, 17, 15⟩] ⟨0, 10, 21, 80⟩ [] tb (fun z hz => by (rcases List.mem_cons.mp hz with rfl | hz); exact Or.inr ⟨by decide, "java/lang/IllegalArgumentException", F.2.2.2.2.1 _ cl_L_13, F.2.2.2.2.2.2.2.2.1.2.2.2.2.2.2 _ (List.mem_of_getElem? (i := 2) rfl)⟩; (rcases List.mem_singleton.mp hz with rfl); exact Or.inr ⟨by decide, "java/lang/IllegalStateException", F.2.2.2.2.1 _ cl_L_15, F.2.2.2.2.2.2.2.2.1.2.2.2.2.2.2 _ (List.mem_of_getElem? (i := 3) rfl)⟩) (by decide) (by decide) (F.2.2.2.2.1 _ cl_L_80) (exU (List.mem_append_left _ (List.mem_map_of_mem (List.mem_of_getElem? (i := 4) rfl))) (F.2.2.2.2.2.2.2.2.2 _ (List.mem_append_left _ (List.mem_map_of_mem (List.mem_of_getElem? (i := 4) rfl))))) hce hcv hcl ?_
      refine lv_astore F.1 F.2.1 dL_race_21 hl (Nat.le_of_ble_eq_true rfl) rfl (fun la' _ => ?_)
      refine lv_iconst F.1 F.2.1 dL_race_23 (v := 3) (by decide) ?_
      exact h_ret F E (Or.inr ⟨_, hΨ, by decide, rfl⟩) (by rw [hpl]; exact hag) hP1 hPo1 hD1 hap1 hS1 (Nat.le_of_eq (Nat.zero_add _)) (Nat.le_of_eq (Nat.zero_add _)) dL_race_24
  · obtain ⟨hPo1, hap1⟩ := hfr [oC (xcy X) ao U] hPo hap
    obtain ⟨v, rfl⟩ := hr _ _ _ hΦ
    refine lv_i2l (rest := [.int 0, .ref ao]) F.1 F.2.1 dL_race_8 rfl ?_
    refine h_store (rest := []) F hP1 hPo1 hD1 hao hap1 hS1 dL_race_9 (fun H2 locs2 hP2 hPo2 hS2 => ?_)
    refine lv_goto F.1 F.2.1 dL_race_10 (tgt := 25) (by decide) ?_
    refine lv_iconst F.1 F.2.1 dL_race_25 (v := 0) (by decide) ?_
    exact h_ret F E (Or.inl ⟨rfl, v, hΦ, rfl⟩) (by rw [hpl]; exact hag) hP2 hPo2 hD1 (apt_ao hap1) hS2 (Nat.le_of_eq (Nat.zero_add _)) (Nat.le_of_eq (Nat.zero_add _)) dL_race_26