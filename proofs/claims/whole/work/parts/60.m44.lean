def nmI (x : Int32) : Int32 := nI (num x.toNatClampNeg)
theorem c_numberOfI (l : Launch) (I A : Nat → Nat → Int32) (J : Nat → Nat → Int64) (x : Int32) (hx : stdI x) (ht : chT (A 52)) : Con l 2 yX12_numberOf cX12_numberOf 7 (some .int) [.ref 0, .int x] (mS I A J) plM 0 0 (PM (some (.int (nmI x))) I A J) := by
  obtain ⟨s, hs, rfl⟩ := std_of hx
  have h6 := hs.1
  unfold nmI; rw [nI_clamp (by omega)]
  exact c_numberOf l I A J s hs ht
def adR (A : Nat → Nat → Int32) (n c : Int32) : Nat → Int32 := putR (A 54) 8 (valR (A 54) 8 + valR (rowAt (A 49) (8 * n.toNatClampNeg)) 8 * c.toNatClampNeg)
theorem c_addRollsI (l : Launch) (I A : Nat → Nat → Int32) (J : Nat → Nat → Int64) (n c : Int32) (hn : 0 ≤ n ∧ n < 54264) (hc : 0 ≤ c ∧ c ≤ 2) (h1 : digV (A 54) 8) (h2 : digV (rowAt (A 49) (8 * n.toNatClampNeg)) 8) : Con l 1 yX12_addRolls cX12_addRolls 6 none [.ref 0, .int n, .int c] (mS I A J) plM 0 0 (PM none I (up1 A 54 (adR A n c)) J) := by
  obtain ⟨x, hx, rfl⟩ := nI_of2 (x := n) (M := 54263) (n := 54263) rfl (Int32.not_lt.mpr hn.1) (by grind)
  obtain ⟨y, hy, rfl⟩ := nI_of2 (x := c) (M := 2) (n := 2) rfl (Int32.not_lt.mpr hc.1) hc.2
  rw [nI_clamp (by omega)] at h2
  unfold adR; rw [nI_clamp (by omega), nI_clamp (by omega)]
  exact c_addRolls l I A J x y (by omega) hy h1 h2
