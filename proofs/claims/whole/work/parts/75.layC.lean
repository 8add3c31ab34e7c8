/-! THE CLASS'S WORLD: where its objects and arrays lie, by places from 100 on; a Board, Bytes, Whole or Shelf at p has its row at p + 1 -/
def kC (p : Nat) : Nat := match p with
  | 100 => 11 | 102 => 3 | 103 => 16 | 104 => 5 | 106 => 9 | 107 => 13 | 108 => 13 | 109 => 15 | 110 => 6 | 111 => 14 | 112 => 15 | 114 => 2 | 115 => 13 | 116 => 8 | 117 => 17 | 118 => 13 | 119 => 14 | 124 => 14 | 126 => 4 | 127 => 13
  | 120 => 1 | 121 => 13 | 122 => 1 | 123 => 13 | 130 => 0 | 131 => 13 | 132 => 0 | 133 => 13 | 140 => 10 | 141 => 14 | 142 => 10 | 143 => 14 | 144 => 10 | 145 => 14 | 146 => 10 | 147 => 14 | 148 => 10 | 149 => 14
  | n => if 1000 ≤ n then (if n % 2 = 0 then 7 else 14) else if 300 ≤ n then (if n % 2 = 0 then 14 else 13) else if 200 ≤ n ∧ n < 216 then (if n % 2 = 0 then 0 else 13) else 15
def nC (p : Nat) : Nat := match p with
  | 103 => 8 | 107 => 8 | 108 => 8 | 109 => 8 | 111 => 4 | 112 => 4 | 115 => 2 | 117 => 848 | 118 => 112 | 119 => 13 | 124 => 12 | 127 => 60
  | 121 => 400 | 123 => 400 | 131 => 52 | 133 => 52 | 141 => 6 | 143 => 6 | 145 => 6 | 147 => 6 | 149 => 6
  | n => if 1000 ≤ n then 1152 else if 300 ≤ n then (if n % 2 = 0 then 240 * 2 ^ ((n - 300) / 2) else 48 * 2 ^ ((n - 300) / 2)) else 52
def hoC (p : Nat) : Bool := kC p == 0 || kC p == 1 || kC p == 7 || kC p == 10
def pS (p k : Nat) : Option Nat := if hoC p = true then (if k = 0 then some (p + 1) else none) else match p, k with
  | 100, 0 => some 120 | 100, 1 => some 122 | 100, 2 => some 130 | 100, 3 => some 102 | 100, 4 => some 104 | 100, 5 => some 106 | 100, 6 => some 110 | 100, 7 => some 114 | 100, 8 => some 116 | 100, 9 => some 126
  | 102, 0 => some 103 | 104, 0 => some 120 | 106, 0 => some 104 | 106, 1 => some 132 | 106, 2 => some 107 | 106, 3 => some 108 | 106, 4 => some 109
  | 110, 0 => some 130 | 110, 1 => some 111 | 110, 2 => some 112 | 114, 0 => some 115
  | 116, 0 => some 117 | 116, 1 => some 118 | 116, 2 => some 119 | 116, 3 => some 124 | 116, 4 => some 144 | 116, 5 => some 146 | 116, 6 => some 148
  | 126, 0 => some 122 | 126, 1 => some 140 | 126, 2 => some 127 | 126, 3 => some 142
  | _, _ => none
def laP (P : Nat → Nat → Option Nat) : Prop := ∀ p k, pS p k ≠ none → P p k = pS p k
abbrev mC (P O : Nat → Nat → Option Nat) (I A : Nat → Nat → Int32) (J : Nat → Nat → Int64) : HS := (kC, nC, I, P, A, J, O)
/-- what is always there -/
def plB : List Nat := [100, 102, 103, 104, 106, 107, 108, 109, 110, 111, 112, 114, 115, 116, 117, 118, 119, 124, 126, 127, 120, 121, 122, 123, 130, 131, 132, 133, 140, 141, 142, 143, 144, 145, 146, 147, 148, 149]
def inB (pl : List Nat) : Prop := ∀ q, q ∈ plB → q ∈ pl
theorem kC_big {p : Nat} (h : 1000 ≤ p) : kC p = if p % 2 = 0 then 7 else 14 := by
  unfold kC; split <;> first | omega | rw [if_pos h]
theorem nC_big {p : Nat} (h : 1000 ≤ p) : nC p = 1152 := by
  unfold nC; split <;> first | omega | rw [if_pos h]
theorem kC_s : ∀ p, p < 1000 → (kC p = 0 → kC (p + 1) = 13 ∧ nC (p + 1) = 52) ∧ (kC p = 1 → kC (p + 1) = 13 ∧ nC (p + 1) = 400) ∧ (kC p = 10 → kC (p + 1) = 14 ∧ nC (p + 1) = 6) ∧ kC p ≠ 7 := by decide +kernel
theorem k_bd {p : Nat} (h : kC p = 0) : kC (p + 1) = 13 ∧ nC (p + 1) = 52 := by
  rcases Nat.lt_or_ge p 1000 with c | c
  · exact (kC_s p c).1 h
  · rw [kC_big c] at h; split at h <;> omega
theorem k_by {p : Nat} (h : kC p = 1) : kC (p + 1) = 13 ∧ nC (p + 1) = 400 := by
  rcases Nat.lt_or_ge p 1000 with c | c
  · exact (kC_s p c).2.1 h
  · rw [kC_big c] at h; split at h <;> omega
theorem k_wh {p : Nat} (h : kC p = 10) : kC (p + 1) = 14 ∧ nC (p + 1) = 6 := by
  rcases Nat.lt_or_ge p 1000 with c | c
  · exact (kC_s p c).2.2.1 h
  · rw [kC_big c] at h; split at h <;> omega
theorem k_sh {p : Nat} (h : kC p = 7) : kC (p + 1) = 14 ∧ nC (p + 1) = 1152 := by
  rcases Nat.lt_or_ge p 1000 with c | c
  · exact absurd h (kC_s p c).2.2.2
  · rw [kC_big c] at h
    have : p % 2 = 0 := by split at h <;> omega
    exact ⟨by rw [kC_big (by omega), if_neg (by omega)], nC_big (by omega)⟩
theorem laP_o {P : Nat → Nat → Option Nat} {p : Nat} (hP : laP P) (h : hoC p = true) : P p 0 = some (p + 1) := by
  have e : pS p 0 = some (p + 1) := by unfold pS; rw [if_pos h, if_pos rfl]
  rw [hP p 0 (by rw [e]; exact fun z => nomatch z), e]
theorem laP_bd {P : Nat → Nat → Option Nat} {p : Nat} (hP : laP P) (h : kC p = 0) : P p 0 = some (p + 1) := laP_o hP (by unfold hoC; rw [h]; rfl)
theorem laP_by {P : Nat → Nat → Option Nat} {p : Nat} (hP : laP P) (h : kC p = 1) : P p 0 = some (p + 1) := laP_o hP (by unfold hoC; rw [h]; rfl)
theorem laP_wh {P : Nat → Nat → Option Nat} {p : Nat} (hP : laP P) (h : kC p = 10) : P p 0 = some (p + 1) := laP_o hP (by unfold hoC; rw [h]; rfl)
theorem laP_sh {P : Nat → Nat → Option Nat} {p : Nat} (hP : laP P) (h : kC p = 7) : P p 0 = some (p + 1) := laP_o hP (by unfold hoC; rw [h]; rfl)
/-- a contract of the class's: the answer, and the new rows -/
abbrev PC (r0 : Option Value) (P O : Nat → Nat → Option Nat) (I A : Nat → Nat → Int32) (J : Nat → Nat → Int64) (pl : List Nat) : Option Value → HS → List Nat → Prop := fun r σ' pl' => r = r0 ∧ σ' = mC P O I A J ∧ pl = pl'
