/-! THE LAW'S HELPERS: a class's call, its answer into a row of one long, what it throws as a number -/
def oC (cy : Nat → ClassId) (ao : Nat) (U : Nat → Int64) : Nat × va_E := (ao, .inl (cy 14, 1, .inr (.inl U)))
def hPre (D : va_G) (cy : Nat → ClassId) (sz : Nat) (ad : Nat → Nat) (σ : HS) (pl : List Nat) (ao : Nat) (U : Nat → Int64) (avs : List Value) : Array Value → State → Prop := fun a S => a = avs.toArray ∧ S.heap.size = sz ∧ va_P D vwCl (wl cy ad σ pl) S.heap ∧ va_P D vwCl [oC cy ao U] S.heap ∧ va_K D vwCl (tyL cy) S ∧ va_D (fun _ => True) (wl cy ad σ pl) ∧ apt (wl cy ad σ pl) [oC cy ao U] ∧ SW (va_A (wl cy ad σ pl ++ [oC cy ao U]) sz) S S.heap ∧ exW S
def hPost (D : va_G) (cy : Nat → ClassId) (sz : Nat) (ad : Nat → Nat) (σ : HS) (pl : List Nat) (ao : Nat) (U : Nat → Int64) (Θ : Int32 → HS → List Nat → (Nat → Int64) → Prop) : Array Value → State → Outcome → State → Prop := fun _ st oc t =>
  (∃ (k : Int32) (σ' : HS) (pl' : List Nat) (ad' : Nat → Nat) (U' : Nat → Int64), oc = .returned (some (.int k)) ∧ Θ k σ' pl' U' ∧ (∀ q, q ∈ pl → q ∈ pl' ∧ ad' q = ad q) ∧ va_P D vwCl (wl cy ad' σ' pl') t.heap ∧ va_P D vwCl [oC cy ao U'] t.heap ∧ va_K D vwCl (tyL cy) t ∧ va_D (va_A (wl cy ad σ pl ++ [oC cy ao U]) sz) (wl cy ad' σ' pl') ∧ apt (wl cy ad' σ' pl') [oC cy ao U']) ∧ va_F (va_A (wl cy ad σ pl ++ [oC cy ao U]) sz) st t
/-- a helper of the law's -/
def HCon (l : Launch) (d : Nat) (y : MethodName) (cc : ByteArray) (nL : Nat) (hh : List (Nat × Nat × Nat × Nat)) (avs : Nat → Nat → List Value) (σ : HS) (pl : List Nat) (mc ms : Nat) (Θ : (Nat → Int64) → Int32 → HS → List Nat → (Nat → Int64) → Prop) : Prop :=
  ∀ (D : va_G) (cy : Nat → ClassId) (sz : Nat) (ad : Nat → Nat) (ao : Nat) (U : Nat → Int64), vx_Met l y (Cond.codeWith y cc nL (some .int) hh :: lwG) (rmD d mc ms) (hPre D cy sz ad σ pl ao U (avs (ad 100) ao)) (hPost D cy sz ad σ pl ao U (Θ U)) (fun _ _ _ => False) mc ms (va_A (wl cy ad σ pl ++ [oC cy ao U]) sz)
theorem vD_1 {A : Nat → Prop} {x : Nat × va_E} (h : A x.1) : va_D A [x] := ⟨fun i j p q hi hj _ => by
  have h1 : i < 1 := (List.getElem?_eq_some_iff.mp hi).1
  have h2 : j < 1 := (List.getElem?_eq_some_iff.mp hj).1
  omega, fun k q hk => by
  have h1 : k < 1 := (List.getElem?_eq_some_iff.mp hk).1
  have e : k = 0 := by omega
  subst e
  cases Option.some.inj hk; exact h⟩
theorem vP_l {D : va_G} {w1 w2 : va_W} {H : Heap} (h : va_P D vwCl (w1 ++ w2) H) : va_P D vwCl w1 H := fun k q hk => h k q (by rw [List.getElem?_append_left (List.getElem?_eq_some_iff.mp hk).1]; exact hk)
theorem vP_r {D : va_G} {w1 w2 : va_W} {H : Heap} (h : va_P D vwCl (w1 ++ w2) H) : va_P D vwCl w2 H := fun k q hk => h (w1.length + k) q (by rw [List.getElem?_append_right (Nat.le_add_right _ _), Nat.add_sub_cancel_left]; exact hk)
theorem vD_l {A : Nat → Prop} {w1 w2 : va_W} (h : va_D A (w1 ++ w2)) : va_D A w1 := by
  have g : ∀ (k : Nat) (q : Nat × va_E), w1[k]? = some q → (w1 ++ w2)[k]? = some q := fun k q hk => by rw [List.getElem?_append_left (List.getElem?_eq_some_iff.mp hk).1]; exact hk
  exact ⟨fun i j p q hi hj e => h.1 i j p q (g i p hi) (g j q hj) e, fun k q hk => h.2 k q (g k q hk)⟩
theorem set_end {w : va_W} {x y : Nat × va_E} : (w ++ [x]).set w.length y = w ++ [y] := by
  rw [List.set_append_right _ _ (Nat.le_refl _), Nat.sub_self]; rfl
theorem apt_ao {w : va_W} {cy : Nat → ClassId} {ao : Nat} {U U' : Nat → Int64} (h : apt w [oC cy ao U]) : apt w [oC cy ao U'] := fun i j p q hp hq e => by
  have h1 : j < 1 := (List.getElem?_eq_some_iff.mp hq).1
  have ej : j = 0 := by omega
  subst ej
  cases Option.some.inj hq
  exact h i 0 p (oC cy ao U) hp rfl e
section
variable {X : Ctx} {cc : ByteArray} {nL : Nat} {σ : HS} {pl : List Nat} {k1 k2 pc : Nat} {ad : Nat → Nat} {H : Heap} {locs : List Loc} {la : Array Slot} {ao : Nat} {U : Nat → Int64} {Θ : Int32 → HS → List Nat → (Nat → Int64) → Prop}
/-- how a helper's walk ends -/
def HE (X : Ctx) (mc ms : Nat) (ao : Nat) (U : Nat → Int64) (Θ : Int32 → HS → List Nat → (Nat → Int64) → Prop) : Prop := (xmeth X).sig.returnType = some .int ∧ xA X = va_A (wl (xcy X) (xad X) (xσ X) (xpl X) ++ [oC (xcy X) ao U]) (xs X).heap.size ∧ xQ X = vx_MQ (xbelow X) (hPost (xD X) (xcy X) (xs X).heap.size (xad X) (xσ X) (xpl X) ao U Θ) (fun _ _ _ => False) (xargs X) (xs X) mc ms (xA X)
theorem h_ret {mc ms : Nat} (F : FLx X cc RL nL) (E : HE X mc ms ao U Θ) {σ' : HS} {pl' : List Nat} {ad' : Nat → Nat} {U' : Nat → Int64} {k : Int32} (hΘ : Θ k σ' pl' U') (hag : ∀ q, q ∈ xpl X → q ∈ pl' ∧ ad' q = xad X q) (hP : va_P (xD X) vwCl (wl (xcy X) ad' σ' pl') H) (hPo : va_P (xD X) vwCl [oC (xcy X) ao U'] H) (hD : va_D (xA X) (wl (xcy X) ad' σ' pl')) (hap : apt (wl (xcy X) ad' σ' pl') [oC (xcy X) ao U']) (hS : va_S (xA X) (xs X).heap H locs) (h1 : k1 ≤ mc) (h2 : k2 ≤ ms) (hd : decode cc pc = .ok (.ireturn, 1)) : WX X H locs k1 k2 (xQ X) (F0 (xm X) pc la [.int k]) := by
  rw [E.2.2]
  refine vx_ret (W.widen h1 h2 (W.iret F.1 F.2.1 E.1 (fun t ht hW => ?_) hS.2.2 hd F.2.2.2.2.2.2.2.1))
  refine ⟨⟨k, σ', pl', ad', U', rfl, hΘ, hag, by rw [ht]; exact hP, by rw [ht]; exact hPo, va_K.moved hW.alike F.2.2.2.2.2.1, ?_, hap⟩, ?_⟩
  · rw [← E.2.1]; exact hD
  · rw [← E.2.1]; exact hS.F ht
/-- the answer into the row -/
theorem h_store (F : FLx X cc RL nL) {σ' : HS} {pl' : List Nat} {ad' : Nat → Nat} {x : Int64} {rest : List Value} (hP : va_P (xD X) vwCl (wl (xcy X) ad' σ' pl') H) (hPo : va_P (xD X) vwCl [oC (xcy X) ao U] H) (hD : va_D (xA X) (wl (xcy X) ad' σ' pl')) (hao : xA X ao) (hap : apt (wl (xcy X) ad' σ' pl') [oC (xcy X) ao U]) (hS : va_S (xA X) (xs X).heap H locs) (hd : decode cc pc = .ok (.lastore, 1))
    (kk : ∀ (H1 : Heap) (locs1 : List Loc), va_P (xD X) vwCl (wl (xcy X) ad' σ' pl') H1 → va_P (xD X) vwCl [oC (xcy X) ao (vp_updL U 0 x)] H1 → va_S (xA X) (xs X).heap H1 locs1 → WX X H1 locs1 k1 k2 (xQ X) (F0 (xm X) (pc + 1) la rest)) : WX X H locs k1 k2 (xQ X) (F0 (xm X) pc la (.long x :: .int 0 :: .ref ao :: rest)) := by
  have hw : (wl (xcy X) ad' σ' pl' ++ [oC (xcy X) ao U])[(wl (xcy X) ad' σ' pl').length]? = some (ao, .inl (xcy X 14, 1, .inr (.inl U))) := by
    rw [List.getElem?_append_right (Nat.le_refl _), Nat.sub_self]; rfl
  refine va_last F.1 F.2.1 F.2.2.2.2.2.1 (hP.app hPo) (hD.app (vD_1 (x := oC (xcy X) ao U) hao) hap) hS (wl (xcy X) ad' σ' pl').length 1 hw rfl (vp_in_nI (n := 0) (by decide) (by decide)) hd (fun H1 locs1 hP1 hD1 hS1 => ?_)
  rw [set_end] at hP1
  exact kk H1 locs1 (vP_l hP1) (vP_r hP1) hS1
end
/-- what a helper answers -/
def hTh (Φ : Option Value → HS → List Nat → Prop) (Ψ : String → HS → List Nat → Prop) (cd : String → Int32) : (Nat → Int64) → Int32 → HS → List Nat → (Nat → Int64) → Prop := fun U k σ' pl' U' => (k = 0 ∧ ∃ v : Int32, Φ (some (.int v)) σ' pl' ∧ U' = vp_updL U 0 v.toInt64) ∨ (∃ E, Ψ E σ' pl' ∧ k = cd E ∧ U' = U)
def hTv (Φ : Option Value → HS → List Nat → Prop) (Ψ : String → HS → List Nat → Prop) (cd : String → Int32) : (Nat → Int64) → Int32 → HS → List Nat → (Nat → Int64) → Prop := fun U k σ' pl' U' => (k = 0 ∧ Φ none σ' pl' ∧ U' = U) ∨ (∃ E, Ψ E σ' pl' ∧ k = cd E ∧ U' = U)
