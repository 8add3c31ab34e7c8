theorem c_overI (l : Launch) (I A : Nat → Nat → Int32) (J : Nat → Nat → Int64) (q : Nat) (x : Int32) (hq : q ∈ plM) (hk : kM q = 13) (hn : nM q ≤ 400) (hd : digV (A q) (nM q)) (hx : 1 ≤ x ∧ x ≤ 64) : Con l 1 yX12_over cX12_over 5 (some .int) [.ref q, .int x] (mS I A J) plM 0 0 (PM (some (.int (nI (valR (A q) (nM q) % x.toNatClampNeg)))) I (up1 A q (putR (A q) (nM q) (valR (A q) (nM q) / x.toNatClampNeg))) J) := by
  obtain ⟨c, hc, rfl⟩ := nI_of2 (x := x) (M := 64) (n := 64) rfl (by grind) hx.2
  have h1 := (nI_gen 1 (by omega) (by omega)).mp hx.1
  rw [nI_clamp (by omega)]
  exact c_over l I A J q c hq hk hn hd h1 hc
theorem c_timesI (l : Launch) (I A : Nat → Nat → Int32) (J : Nat → Nat → Int64) (q : Nat) (x : Int32) (hq : q ∈ plM) (hk : kM q = 13) (hn : nM q ≤ 400) (hd : digV (A q) (nM q)) (hx : 1 ≤ x ∧ x ≤ 64) : Con l 1 yX12_times cX12_times 5 none [.ref q, .int x] (mS I A J) plM 0 0 (PM none I (up1 A q (putR (A q) (nM q) (valR (A q) (nM q) * x.toNatClampNeg))) J) := by
  obtain ⟨c, hc, rfl⟩ := nI_of2 (x := x) (M := 64) (n := 64) rfl (by grind) hx.2
  have h1 := (nI_gen 1 (by omega) (by omega)).mp hx.1
  rw [nI_clamp (by omega)]
  exact c_times l I A J q c hq hk hn hd h1 hc
