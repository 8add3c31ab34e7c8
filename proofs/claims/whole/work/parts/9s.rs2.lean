theorem c_J7_copyOf_59c91 (l : Launch) {P O : Nat → Nat → Option Nat} (I A : Nat → Nat → Int32) (J : Nat → Nat → Int64) {pl : List Nat} (p q : Nat) (hk : kC p = 13) (hp : p ∈ pl) (hkq : kC q = 13) (hq : q ∉ pl) (hn : nC q = 2 * nC p) (h0 : 0 < nC p) (hb : nC p ≤ 20000) (hC : clC P O pl) : Con l 1 yJ7_copyOf_59c91 cJ7_copyOf_59c91 3 (some (.array .int)) [.ref p, .int (nI (nC q))] (mC P O I A J) pl 1 (nC q) (fun r σ' pl' => r = some (.ref q) ∧ σ' = mC P O I (up1 A q (va_cpy (A p) (fun _ => 0) 0 0 (nC p))) J ∧ pl' = pl ++ [q]) := by
  refine Con.of (by decide) (Nat.le_of_ble_eq_true rfl) (fun X hX9 hn9 F E => ?_)
  have hno : noR (mC P O I A J) pl q := hC.no hq
  have ne : q ≠ p := fun z => hq (z ▸ hp)
  have e1 : ¬ nI (nC q) = nI (nC p) := fun z => by have := (nI_eq (by omega) (by omega)).mp z; omega
  refine a_iload_n F 1 dJ7_copyOf_59c91_0 rfl rfl ?_
  refine a_aload_n F 0 dJ7_copyOf_59c91_1 rfl rfl ?_
  refine a_alen (v := nI (nC p)) F hp hk (by decide) (by decide) rfl dJ7_copyOf_59c91_2 ?_
  refine a_icmp_ne (tgt := 14) F dJ7_copyOf_59c91_3 (by decide) (fun _ => ?_) (fun z => absurd z e1)
  refine a_iload_n F 1 dJ7_copyOf_59c91_14 rfl rfl ?_
  refine a_newi (p := q) F hkq hno ac_int (Int32.not_lt.mpr (nI_pos' (by omega))) (nI_clamp (by omega)) (by show nC q * 4 ≤ _; omega) dJ7_copyOf_59c91_15 (Nat.le_refl 1) (by show 0 + nC q ≤ nC q; omega) (hl_r hp (hl_i hl_nil)) hs_nil ?_
  show WA X (mC P O I (up1 A q (fun _ => 0)) J) (pl ++ [q]) (0 + 1) (0 + nC q) _ _ _
  have hp1 : p ∈ pl ++ [q] := List.mem_append_left _ hp
  have hq1 : q ∈ pl ++ [q] := List.mem_append_right _ (List.mem_singleton.mpr rfl)
  refine a_astore_n F dJ7_copyOf_59c91_17 rfl (by decide) rfl ?_
  refine a_aload_n F 1 dJ7_copyOf_59c91_18 rfl rfl ?_
  refine a_iconst (v := 0) F dJ7_copyOf_59c91_19 (by decide) ?_
  refine a_aload_n F 0 dJ7_copyOf_59c91_20 rfl rfl ?_
  refine a_iconst (v := 0) F dJ7_copyOf_59c91_21 (by decide) ?_
  refine a_aload_n F 1 dJ7_copyOf_59c91_22 rfl rfl ?_
  refine a_alen (v := nI (nC p)) F hp1 hk (by decide) (by decide) rfl dJ7_copyOf_59c91_23 ?_
  refine a_iload_n F 2 dJ7_copyOf_59c91_24 rfl rfl ?_
  refine a_mmin F mnl_J7_304 (by decide) (Nat.le_refl 1) (by show 0 + nC q ≤ nC q; omega) (Nat.le_of_ble_eq_true rfl) dJ7_copyOf_59c91_25 ?_
  rw [if_neg (fun z => by have := (nI_ltI (by omega) (by omega)).mp z; omega)]
  refine a_cpyi F cp_J7_150 hp1 hq1 hk hkq (by decide) (by decide) (Int32.not_lt.mpr (nI_pos' (by omega))) (by rw [nI_clamp (by omega)]; show 0 + nC p ≤ nC p; omega) (by rw [nI_clamp (by omega)]; show 0 + nC p ≤ nC q; omega) (by decide) (by decide) dJ7_copyOf_59c91_28 ?_
  rw [nI_clamp (by omega)]
  refine a_aload_n F 0 dJ7_copyOf_59c91_31 rfl rfl ?_
  refine a_aret F E (Or.inr ⟨_, rfl⟩) dJ7_copyOf_59c91_32 (Nat.le_refl 1) (by show 0 + nC q ≤ nC q; omega) ⟨rfl, ?_, rfl⟩
  show mC P O I (up1 (up1 A q (fun _ => 0)) q (va_cpy (up1 A q (fun _ => 0) p) (up1 A q (fun _ => 0) q) 0 0 (nC p))) J = _
  rw [up1_up1, up1_s, up1_p ne.symm]

theorem c_J7_copyOf_c38d5 (l : Launch) {P O : Nat → Nat → Option Nat} (I A : Nat → Nat → Int32) (J : Nat → Nat → Int64) {pl : List Nat} (p q : Nat) (hk : kC p = 14) (hp : p ∈ pl) (hkq : kC q = 14) (hq : q ∉ pl) (hn : nC q = 2 * nC p) (h0 : 0 < nC p) (hb : nC p ≤ 20000) (hC : clC P O pl) : Con l 1 yJ7_copyOf_c38d5 cJ7_copyOf_c38d5 3 (some (.array .long)) [.ref p, .int (nI (nC q))] (mC P O I A J) pl 1 (nC q) (fun r σ' pl' => r = some (.ref q) ∧ σ' = mC P O I A (up1 J q (va_cpy (J p) (fun _ => 0) 0 0 (nC p))) ∧ pl' = pl ++ [q]) := by
  refine Con.of (by decide) (Nat.le_of_ble_eq_true rfl) (fun X hX9 hn9 F E => ?_)
  have hno : noR (mC P O I A J) pl q := hC.no hq
  have ne : q ≠ p := fun z => hq (z ▸ hp)
  have e1 : ¬ nI (nC q) = nI (nC p) := fun z => by have := (nI_eq (by omega) (by omega)).mp z; omega
  refine a_iload_n F 1 dJ7_copyOf_c38d5_0 rfl rfl ?_
  refine a_aload_n F 0 dJ7_copyOf_c38d5_1 rfl rfl ?_
  refine a_alen (v := nI (nC p)) F hp hk (by decide) (by decide) rfl dJ7_copyOf_c38d5_2 ?_
  refine a_icmp_ne (tgt := 14) F dJ7_copyOf_c38d5_3 (by decide) (fun _ => ?_) (fun z => absurd z e1)
  refine a_iload_n F 1 dJ7_copyOf_c38d5_14 rfl rfl ?_
  refine a_newl (p := q) F hkq hno ac_long (Int32.not_lt.mpr (nI_pos' (by omega))) (nI_clamp (by omega)) (by show nC q * 8 ≤ _; omega) dJ7_copyOf_c38d5_15 (Nat.le_refl 1) (by show 0 + nC q ≤ nC q; omega) (hl_r hp (hl_i hl_nil)) hs_nil ?_
  show WA X (mC P O I A (up1 J q (fun _ => 0))) (pl ++ [q]) (0 + 1) (0 + nC q) _ _ _
  have hp1 : p ∈ pl ++ [q] := List.mem_append_left _ hp
  have hq1 : q ∈ pl ++ [q] := List.mem_append_right _ (List.mem_singleton.mpr rfl)
  refine a_astore_n F dJ7_copyOf_c38d5_17 rfl (by decide) rfl ?_
  refine a_aload_n F 1 dJ7_copyOf_c38d5_18 rfl rfl ?_
  refine a_iconst (v := 0) F dJ7_copyOf_c38d5_19 (by decide) ?_
  refine a_aload_n F 0 dJ7_copyOf_c38d5_20 rfl rfl ?_
  refine a_iconst (v := 0) F dJ7_copyOf_c38d5_21 (by decide) ?_
  refine a_aload_n F 1 dJ7_copyOf_c38d5_22 rfl rfl ?_
  refine a_alen (v := nI (nC p)) F hp1 hk (by decide) (by decide) rfl dJ7_copyOf_c38d5_23 ?_
  refine a_iload_n F 2 dJ7_copyOf_c38d5_24 rfl rfl ?_
  refine a_mmin F mnl_J7_304 (by decide) (Nat.le_refl 1) (by show 0 + nC q ≤ nC q; omega) (Nat.le_of_ble_eq_true rfl) dJ7_copyOf_c38d5_25 ?_
  rw [if_neg (fun z => by have := (nI_ltI (by omega) (by omega)).mp z; omega)]
  refine a_cpyl F cp_J7_150 hp1 hq1 hk hkq (by decide) (by decide) (Int32.not_lt.mpr (nI_pos' (by omega))) (by rw [nI_clamp (by omega)]; show 0 + nC p ≤ nC p; omega) (by rw [nI_clamp (by omega)]; show 0 + nC p ≤ nC q; omega) (by decide) (by decide) dJ7_copyOf_c38d5_28 ?_
  rw [nI_clamp (by omega)]
  refine a_aload_n F 0 dJ7_copyOf_c38d5_31 rfl rfl ?_
  refine a_aret F E (Or.inr ⟨_, rfl⟩) dJ7_copyOf_c38d5_32 (Nat.le_refl 1) (by show 0 + nC q ≤ nC q; omega) ⟨rfl, ?_, rfl⟩
  show mC P O I A (up1 (up1 J q (fun _ => 0)) q (va_cpy (up1 J q (fun _ => 0) p) (up1 J q (fun _ => 0) q) 0 0 (nC p))) = _
  rw [up1_up1, up1_s, up1_p ne.symm]
