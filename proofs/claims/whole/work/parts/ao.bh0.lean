/-! the constructor of BearHouse -/
def P0 : Nat → Nat → Option Nat := fun p k => if p = 110 then (if k = 3 then some 300 else if k = 4 then some 301 else pS 110 k) else pS p k
abbrev zO : Nat → Nat → Option Nat := fun _ _ => none
abbrev zI : Nat → Nat → Int32 := fun _ _ => 0
abbrev zJ : Nat → Nat → Int64 := fun _ _ => 0
theorem P0_la : laP P0 := fun p k h => by
  unfold P0
  by_cases c : p = 110
  · subst c
    rw [if_pos rfl]
    by_cases c3 : k = 3
    · subst c3; exact absurd rfl h
    · by_cases c4 : k = 4
      · subst c4; exact absurd rfl h
      · rw [if_neg c3, if_neg c4]
  · rw [if_neg c]
theorem P0_ho {p : Nat} (h : hoC p = true) (h2 : p ≠ 110) : P0 p = fun k => if k = 0 then some (p + 1) else none := by
  funext k
  unfold P0 pS
  rw [if_neg h2, if_pos h]
theorem nwO_C {P O : Nat → Nat → Option Nat} {I A : Nat → Nat → Int32} {J : Nat → Nat → Int64} {p : Nat} (h : I p = fun _ => 0) : nwO (mC P O I A J) p = mC (up1 P p (fun _ => none)) O I A J := by
  show mC (up1 P p (fun _ => none)) O (up1 I p (fun _ => 0)) A J = _
  rw [up1_i0 h]
theorem P0_102 : P0 102 = lkL [(0, 103)] (fun _ => none) := by
  funext k
  by_cases h : k < 1
  · revert k; decide
  · obtain ⟨j, rfl⟩ : ∃ j, k = j + 1 := ⟨k - 1, by omega⟩
    rfl
theorem P0_104 : P0 104 = lkL [(0, 120)] (fun _ => none) := by
  funext k
  by_cases h : k < 1
  · revert k; decide
  · obtain ⟨j, rfl⟩ : ∃ j, k = j + 1 := ⟨k - 1, by omega⟩
    rfl
theorem P0_106 : P0 106 = lkL [(1, 132), (2, 107), (3, 108), (4, 109), (0, 104)] (fun _ => none) := by
  funext k
  by_cases h : k < 5
  · revert k; decide
  · obtain ⟨j, rfl⟩ : ∃ j, k = j + 5 := ⟨k - 5, by omega⟩
    rfl
theorem P0_110 : P0 110 = lkL [(1, 111), (2, 112), (3, 300), (4, 301), (0, 130)] (fun _ => none) := by
  funext k
  by_cases h : k < 5
  · revert k; decide
  · obtain ⟨j, rfl⟩ : ∃ j, k = j + 5 := ⟨k - 5, by omega⟩
    rfl
theorem P0_114 : P0 114 = lkL [(0, 115)] (fun _ => none) := by
  funext k
  by_cases h : k < 1
  · revert k; decide
  · obtain ⟨j, rfl⟩ : ∃ j, k = j + 1 := ⟨k - 1, by omega⟩
    rfl
theorem P0_116 : P0 116 = lkL [(0, 117), (1, 118), (2, 119), (3, 124), (4, 144), (5, 146), (6, 148)] (fun _ => none) := by
  funext k
  by_cases h : k < 7
  · revert k; decide
  · obtain ⟨j, rfl⟩ : ∃ j, k = j + 7 := ⟨k - 7, by omega⟩
    rfl
theorem P0_126 : P0 126 = lkL [(1, 140), (2, 127), (3, 142), (0, 122)] (fun _ => none) := by
  funext k
  by_cases h : k < 4
  · revert k; decide
  · obtain ⟨j, rfl⟩ : ∃ j, k = j + 4 := ⟨k - 4, by omega⟩
    rfl
theorem P0_100 : P0 100 = lkL [(0, 120), (1, 122), (2, 130), (3, 102), (4, 104), (5, 106), (6, 110), (7, 114), (8, 116), (9, 126)] (fun _ => none) := by
  funext k
  by_cases h : k < 10
  · revert k; decide
  · obtain ⟨j, rfl⟩ : ∃ j, k = j + 10 := ⟨k - 10, by omega⟩
    rfl