theorem hl_nil {pl : List Nat} : ∀ x ∈ ([] : List (Nat × Value)), ∀ p, x.2 = .ref p → p ∈ pl := fun _ h => by cases h
theorem hl_i {pl : List Nat} {i : Nat} {v : Int32} {t : List (Nat × Value)} (h : ∀ x ∈ t, ∀ p, x.2 = .ref p → p ∈ pl) : ∀ x ∈ (i, Value.int v) :: t, ∀ p, x.2 = .ref p → p ∈ pl := fun x hx p e => by
  rcases List.mem_cons.mp hx with rfl | h2
  · cases e
  · exact h x h2 p e
theorem hl_l {pl : List Nat} {i : Nat} {v : Int64} {t : List (Nat × Value)} (h : ∀ x ∈ t, ∀ p, x.2 = .ref p → p ∈ pl) : ∀ x ∈ (i, Value.long v) :: t, ∀ p, x.2 = .ref p → p ∈ pl := fun x hx p e => by
  rcases List.mem_cons.mp hx with rfl | h2
  · cases e
  · exact h x h2 p e
theorem hl_n {pl : List Nat} {i : Nat} {t : List (Nat × Value)} (h : ∀ x ∈ t, ∀ p, x.2 = .ref p → p ∈ pl) : ∀ x ∈ (i, Value.null) :: t, ∀ p, x.2 = .ref p → p ∈ pl := fun x hx p e => by
  rcases List.mem_cons.mp hx with rfl | h2
  · cases e
  · exact h x h2 p e
theorem hl_r {pl : List Nat} {i q : Nat} {t : List (Nat × Value)} (hq : q ∈ pl) (h : ∀ x ∈ t, ∀ p, x.2 = .ref p → p ∈ pl) : ∀ x ∈ (i, Value.ref q) :: t, ∀ p, x.2 = .ref p → p ∈ pl := fun x hx p e => by
  rcases List.mem_cons.mp hx with rfl | h2
  · cases e; exact hq
  · exact h x h2 p e
theorem hs_nil {pl : List Nat} : ∀ x ∈ ([] : List Value), ∀ p, x = .ref p → p ∈ pl := fun _ h => by cases h
theorem hs_i {pl : List Nat} {v : Int32} {t : List Value} (h : ∀ x ∈ t, ∀ p, x = .ref p → p ∈ pl) : ∀ x ∈ Value.int v :: t, ∀ p, x = .ref p → p ∈ pl := fun x hx p e => by
  rcases List.mem_cons.mp hx with rfl | h2
  · cases e
  · exact h x h2 p e
theorem hs_l {pl : List Nat} {v : Int64} {t : List Value} (h : ∀ x ∈ t, ∀ p, x = .ref p → p ∈ pl) : ∀ x ∈ Value.long v :: t, ∀ p, x = .ref p → p ∈ pl := fun x hx p e => by
  rcases List.mem_cons.mp hx with rfl | h2
  · cases e
  · exact h x h2 p e
theorem hs_n {pl : List Nat} {t : List Value} (h : ∀ x ∈ t, ∀ p, x = .ref p → p ∈ pl) : ∀ x ∈ Value.null :: t, ∀ p, x = .ref p → p ∈ pl := fun x hx p e => by
  rcases List.mem_cons.mp hx with rfl | h2
  · cases e
  · exact h x h2 p e
theorem hs_r {pl : List Nat} {q : Nat} {t : List Value} (hq : q ∈ pl) (h : ∀ x ∈ t, ∀ p, x = .ref p → p ∈ pl) : ∀ x ∈ Value.ref q :: t, ∀ p, x = .ref p → p ∈ pl := fun x hx p e => by
  rcases List.mem_cons.mp hx with rfl | h2
  · cases e; exact hq
  · exact h x h2 p e
theorem a_ite {X : Ctx} {σ : HS} {pl : List Nat} {k1 k2 pc : Nat} {ls : List (Nat × Value)} {st : List Value} {P : Prop} {inst : Decidable P} {a b : Int32} (h1 : P → WA X σ pl k1 k2 pc ls (.int a :: st)) (h2 : ¬ P → WA X σ pl k1 k2 pc ls (.int b :: st)) : WA X σ pl k1 k2 pc ls (.int (@ite Int32 P inst a b) :: st) := by
  by_cases h : P
  · rw [if_pos h]; exact h1 h
  · rw [if_neg h]; exact h2 h
