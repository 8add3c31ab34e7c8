/-! PLACES: a state of the system by places, apart from addresses; components: kind, length, int fields, ref fields, int rows, long rows, ref rows -/
def pv (ad : Nat → Nat) (v : Value) : Value := match v with
  | .ref p => .ref (ad p)
  | w => w
theorem pv_cat (ad : Nat → Nat) (v : Value) : (pv ad v).category = v.category := by cases v <;> rfl
abbrev HS : Type := (Nat → Nat) × (Nat → Nat) × (Nat → Nat → Int32) × (Nat → Nat → Option Nat) × (Nat → Nat → Int32) × (Nat → Nat → Int64) × (Nat → Nat → Option Nat)
abbrev sK (σ : HS) : Nat → Nat := σ.1
abbrev sN (σ : HS) : Nat → Nat := σ.2.1
abbrev sI (σ : HS) : Nat → Nat → Int32 := σ.2.2.1
abbrev sP (σ : HS) : Nat → Nat → Option Nat := σ.2.2.2.1
abbrev sA (σ : HS) : Nat → Nat → Int32 := σ.2.2.2.2.1
abbrev sJ (σ : HS) : Nat → Nat → Int64 := σ.2.2.2.2.2.1
abbrev sO (σ : HS) : Nat → Nat → Option Nat := σ.2.2.2.2.2.2
/-- two steps into a function of two places -/
def up2 {α : Type} (f : Nat → Nat → α) (p k : Nat) (v : α) : Nat → Nat → α := fun q => if q = p then va_up (f p) k v else f q
/-- a whole row set -/
def up1 {α : Type} (f : Nat → Nat → α) (p : Nat) (r : Nat → α) : Nat → Nat → α := fun q => if q = p then r else f q
abbrev stI (σ : HS) (p k : Nat) (v : Int32) : HS := (σ.1, σ.2.1, up2 σ.2.2.1 p k v, σ.2.2.2)
abbrev stP (σ : HS) (p k : Nat) (v : Option Nat) : HS := (σ.1, σ.2.1, σ.2.2.1, up2 σ.2.2.2.1 p k v, σ.2.2.2.2)
abbrev stA (σ : HS) (p : Nat) (r : Nat → Int32) : HS := (σ.1, σ.2.1, σ.2.2.1, σ.2.2.2.1, up1 σ.2.2.2.2.1 p r, σ.2.2.2.2.2)
abbrev stJ (σ : HS) (p : Nat) (r : Nat → Int64) : HS := (σ.1, σ.2.1, σ.2.2.1, σ.2.2.2.1, σ.2.2.2.2.1, up1 σ.2.2.2.2.2.1 p r, σ.2.2.2.2.2.2)
abbrev stO (σ : HS) (p : Nat) (r : Nat → Option Nat) : HS := (σ.1, σ.2.1, σ.2.2.1, σ.2.2.2.1, σ.2.2.2.2.1, σ.2.2.2.2.2.1, up1 σ.2.2.2.2.2.2 p r)
def rfL : List (List Nat) := [[0], [0], [0], [0], [0, 1, 2, 3], [0], [0, 1, 2, 3, 4], [0], [0, 1, 2, 3, 4, 5, 6, 9], [0, 1, 2, 3, 4], [0], [0, 1, 2, 3, 4, 5, 6, 7, 8, 9], [1, 3, 4, 5, 6, 7, 13, 14, 15, 18, 30, 34, 43, 44, 45, 46, 48, 49, 50, 51, 52, 53, 54, 57, 59, 60, 62, 63, 64, 65, 66, 67, 68, 69, 70, 71, 72, 73]]
def rF (c k : Nat) : Bool := (rfL.getD c []).contains k
def RR (c : Nat) : String := match c with
  | 0 => RX0 | 1 => RX1 | 2 => RX2 | 3 => RX3 | 4 => RX4 | 5 => RX5 | 6 => RX6 | 7 => RX7 | 8 => RX8 | 9 => RX9 | 10 => RX10 | 11 => RX11 | _ => RX12
def TT (c : Nat) : u_T := match c with
  | 0 => TX0 | 1 => TX1 | 2 => TX2 | 3 => TX3 | 4 => TX4 | 5 => TX5 | 6 => TX6 | 7 => TX7 | 8 => TX8 | 9 => TX9 | 10 => TX10 | 11 => TX11 | _ => TX12
def NN (c : Nat) : Nat := match c with
  | 0 => 2 | 1 => 2 | 2 => 14 | 3 => 3 | 4 => 4 | 5 => 9 | 6 => 9 | 7 => 1 | 8 => 10 | 9 => 6 | 10 => 1 | 11 => 11 | _ => 74
def tyT (c : Nat) : Nat → FieldType := match c with
  | 0 => tyX0 | 1 => tyX1 | 2 => tyX2 | 3 => tyX3 | 4 => tyX4 | 5 => tyX5 | 6 => tyX6 | 7 => tyX7 | 8 => tyX8 | 9 => tyX9 | 10 => tyX10 | 11 => tyX11 | _ => tyX12
theorem vw_at {c : Nat} (h : c < 13) : vwCl[c]? = some (RR c, TT c, NN c) := by
  match c, h with
  | 0, _ => rfl | 1, _ => rfl | 2, _ => rfl | 3, _ => rfl | 4, _ => rfl | 5, _ => rfl | 6, _ => rfl | 7, _ => rfl | 8, _ => rfl | 9, _ => rfl | 10, _ => rfl | 11, _ => rfl | 12, _ => rfl
theorem ty_at {c : Nat} (h : c < 13) : ∀ k, k < NN c → parseFieldDescriptor (TT c k).2.2.1 = some (tyT c k) := by
  match c, h with
  | 0, _ => exact tyX0_ok | 1, _ => exact tyX1_ok | 2, _ => exact tyX2_ok | 3, _ => exact tyX3_ok | 4, _ => exact tyX4_ok | 5, _ => exact tyX5_ok | 6, _ => exact tyX6_ok | 7, _ => exact tyX7_ok | 8, _ => exact tyX8_ok | 9, _ => exact tyX9_ok | 10, _ => exact tyX10_ok | 11, _ => exact tyX11_ok | 12, _ => exact tyX12_ok
theorem nm_at {c : Nat} (h : c < 13) : ∀ a, a < NN c → ∀ b, b < NN c → a ≠ b → (TT c a).2.1 ≠ (TT c b).2.1 := by
  match c, h with
  | 0, _ => exact nmX0 | 1, _ => exact nmX1 | 2, _ => exact nmX2 | 3, _ => exact nmX3 | 4, _ => exact nmX4 | 5, _ => exact nmX5 | 6, _ => exact nmX6 | 7, _ => exact nmX7 | 8, _ => exact nmX8 | 9, _ => exact nmX9 | 10, _ => exact nmX10 | 11, _ => exact nmX11 | 12, _ => exact nmX12
/-- a field of the object at a place -/
def fv (ad : Nat → Nat) (σ : HS) (p c k : Nat) : Value := if rF c k = true then va_rf ((sP σ p k).map ad) else .int (sI σ p k)
/-- the cell of a place -/
def ce (cy : Nat → ClassId) (ad : Nat → Nat) (σ : HS) (p : Nat) : va_E :=
  if sK σ p < 13 then .inr (sK σ p, (List.range (NN (sK σ p))).map (fv ad σ p (sK σ p)))
  else if sK σ p = 14 then .inl (cy 14, sN σ p, .inr (.inl (sJ σ p)))
  else if sK σ p ≤ 15 then .inl (cy (sK σ p), sN σ p, .inl (sA σ p))
  else .inl (cy (sK σ p), sN σ p, .inr (.inr (.inr (.inr (fun i => (sO σ p i).map ad)))))
def wl (cy : Nat → ClassId) (ad : Nat → Nat) (σ : HS) (pl : List Nat) : va_W := pl.map (fun p => (ad p, ce cy ad σ p))
abbrev tyL (cy : Nat → ClassId) : List (ClassId × FieldType) := [(cy 13, .int), (cy 14, .long), (cy 15, .boolean), (cy 16, .object RX0), (cy 17, .object RX7)]
theorem wl_at {cy : Nat → ClassId} {ad : Nat → Nat} {σ : HS} {pl : List Nat} (i : Nat) : (wl cy ad σ pl)[i]? = (pl[i]?).map (fun p => (ad p, ce cy ad σ p)) := by
  rw [wl, List.getElem?_map]
theorem wl_get {cy : Nat → ClassId} {ad : Nat → Nat} {σ : HS} {pl : List Nat} {p : Nat} (h : p ∈ pl) : ∃ i : Nat, pl[i]? = some p ∧ (wl cy ad σ pl)[i]? = some (ad p, ce cy ad σ p) := by
  obtain ⟨i, hi⟩ := List.getElem?_of_mem h
  exact ⟨i, hi, by rw [wl_at, hi]; rfl⟩
/-- a cell set: the world of the new state -/
theorem wl_set {cy : Nat → ClassId} {ad : Nat → Nat} {σ σ' : HS} {pl : List Nat} {A : Nat → Prop} {p i : Nat} {e : va_E} (hD : va_D A (wl cy ad σ pl)) (hi : pl[i]? = some p) (he : ce cy ad σ' p = e) (ho : ∀ q, q ≠ p → ce cy ad σ' q = ce cy ad σ q) :
    (wl cy ad σ pl).set i (ad p, e) = wl cy ad σ' pl := by
  apply List.ext_getElem?
  intro j
  rw [List.getElem?_set, wl_at, wl_at]
  by_cases hij : i = j
  · subst hij
    rw [if_pos rfl, hi]
    have hl : i < (wl cy ad σ pl).length := by
      rw [wl, List.length_map]; exact (List.getElem?_eq_some_iff.mp hi).1
    rw [if_pos hl]
    simp [he]
  · rw [if_neg hij]
    cases hj : pl[j]? with
    | none => rfl
    | some q =>
      have hq : q ≠ p := by
        intro h
        subst h
        exact hij (hD.1 i j _ _ (by rw [wl_at, hi]; rfl) (by rw [wl_at, hj]; rfl) rfl)
      simp [ho q hq]
theorem rg_get {α : Type} (f : Nat → α) {n k : Nat} (h : k < n) : ((List.range n).map f)[k]? = some (f k) := by
  rw [List.getElem?_map, List.getElem?_range h]; rfl
theorem rg_set {α : Type} (f g : Nat → α) {n k : Nat} {v : α} (hk : k < n) (hv : g k = v) (ho : ∀ j, j ≠ k → g j = f j) : ((List.range n).map f).set k v = (List.range n).map g := by
  apply List.ext_getElem?
  intro j
  rw [List.getElem?_set]
  by_cases hj : k = j
  · subst hj
    rw [if_pos rfl, if_pos (by simpa using hk), rg_get g hk, hv]
  · rw [if_neg hj]
    by_cases hn : j < n
    · rw [rg_get f hn, rg_get g hn, ho j (fun h => hj h.symm)]
    · rw [List.getElem?_eq_none (by simpa using hn), List.getElem?_eq_none (by simpa using hn)]
theorem up2_s {α : Type} {f : Nat → Nat → α} {p k : Nat} {v : α} : up2 f p k v p k = v := by simp [up2, va_up]
theorem up2_k {α : Type} {f : Nat → Nat → α} {p k j : Nat} {v : α} (h : j ≠ k) : up2 f p k v p j = f p j := by simp [up2, va_up, h]
theorem up2_p {α : Type} {f : Nat → Nat → α} {p k q j : Nat} {v : α} (h : q ≠ p) : up2 f p k v q j = f q j := by simp [up2, h]
theorem up2_r {α : Type} {f : Nat → Nat → α} {p k q : Nat} {v : α} (h : q ≠ p) : up2 f p k v q = f q := by simp [up2, h]
theorem up1_s {α : Type} {f : Nat → Nat → α} {p : Nat} {r : Nat → α} : up1 f p r p = r := by simp [up1]
theorem up1_p {α : Type} {f : Nat → Nat → α} {p q : Nat} {r : Nat → α} (h : q ≠ p) : up1 f p r q = f q := by simp [up1, h]
theorem ce_o {cy : Nat → ClassId} {ad : Nat → Nat} {σ : HS} {p c : Nat} (h : sK σ p = c) (hc : c < 13) : ce cy ad σ p = .inr (c, (List.range (NN c)).map (fv ad σ p c)) := by
  subst h; unfold ce; rw [if_pos hc]
theorem ce_i {cy : Nat → ClassId} {ad : Nat → Nat} {σ : HS} {p : Nat} (h : sK σ p = 13) : ce cy ad σ p = .inl (cy 13, sN σ p, .inl (sA σ p)) := by
  unfold ce; rw [h]; simp
theorem ce_j {cy : Nat → ClassId} {ad : Nat → Nat} {σ : HS} {p : Nat} (h : sK σ p = 14) : ce cy ad σ p = .inl (cy 14, sN σ p, .inr (.inl (sJ σ p))) := by
  unfold ce; rw [h]; simp
theorem ce_z {cy : Nat → ClassId} {ad : Nat → Nat} {σ : HS} {p : Nat} (h : sK σ p = 15) : ce cy ad σ p = .inl (cy 15, sN σ p, .inl (sA σ p)) := by
  unfold ce; rw [h]; simp
theorem ce_q {cy : Nat → ClassId} {ad : Nat → Nat} {σ : HS} {p c : Nat} (h : sK σ p = c) (h1 : 16 ≤ c) : ce cy ad σ p = .inl (cy c, sN σ p, .inr (.inr (.inr (.inr (fun i => (sO σ p i).map ad))))) := by
  subst h; unfold ce
  rw [if_neg (show ¬ sK σ p < 13 by omega), if_neg (show ¬ sK σ p = 14 by omega), if_neg (show ¬ sK σ p ≤ 15 by omega)]
/-- a cell looks at its own place alone -/
theorem ce_same {cy : Nat → ClassId} {ad : Nat → Nat} {σ σ' : HS} {p : Nat} (hK : sK σ' p = sK σ p) (hN : sN σ' p = sN σ p) (hI : sI σ' p = sI σ p) (hP : sP σ' p = sP σ p) (hA : sA σ' p = sA σ p) (hJ : sJ σ' p = sJ σ p) (hO : sO σ' p = sO σ p) : ce cy ad σ' p = ce cy ad σ p := by
  unfold ce fv; rw [hK, hN, hI, hP, hA, hJ, hO]
