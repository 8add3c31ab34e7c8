/-! the law's constructors -/
section
variable {X : Ctx} {cc : ByteArray} {own : String} {nL : Nat} {σ : HS} {pl : List Nat} {k1 k2 pc : Nat} {ad : Nat → Nat} {H : Heap} {locs : List Loc} {la : Array Slot}
theorem f_callI (F : FLx X cc own nL) {y : MethodName} {cy : ByteArray} {nLy index n d' mc' ms' b : Nat} {As rest : List Value} {Ψ : Option Value → HS → List Nat → Prop} (C : Con (xl X) d' y cy nLy none (.ref b :: As) σ pl mc' ms' Ψ) (L : ML own index y cy nLy none n) (hnm : y.name = "<init>") (hi : Cond.instanceMethod y ∈ lwG) (hfr : 16 * d' + 1 ≤ (xR X).frames) (hlo : 8 + (nLy + 11) + 128 * d' ≤ (xR X).locals)
    (hA : As.length = n) (hd : decode cc pc = .ok (.invokespecial index, 3)) (hcat : (rest.map fun v => v.category).sum ≤ 8) (hc : k1 + mc' ≤ (xR X).cells) (hs : k2 + ms' ≤ (xR X).slots) (hla : la.size = nL)
    (hP : va_P (xD X) vwCl (wl (xcy X) ad σ pl) H) (hD : va_D (xA X) (wl (xcy X) ad σ pl)) (hS : va_S (xA X) (xs X).heap H locs)
    (kk : ∀ r σ' pl' ad' H' locs', Ψ r σ' pl' → (∀ q, q ∈ pl → q ∈ pl' ∧ ad' q = ad q) → va_P (xD X) vwCl (wl (xcy X) ad' σ' pl') H' → va_D (xA X) (wl (xcy X) ad' σ' pl') → va_S (xA X) (xs X).heap H' locs' → (∀ wr, va_P (xD X) vwCl wr H → apt (wl (xcy X) ad σ pl) wr → va_P (xD X) vwCl wr H' ∧ apt (wl (xcy X) ad' σ' pl') wr) → WX X H' locs' (k1 + mc') (k2 + ms') (xQ X) (F0 (xm X) (pc + 3) la ((r.map (pv ad')).toList ++ rest))) : WX X H locs k1 k2 (xQ X) (F0 (xm X) pc la ((As.map (pv ad)).reverse ++ .ref (ad b) :: rest)) :=
  fBack F (va_runI (As := As.map (pv ad)) (rest := rest) (b := ad b) ⟨F.1, F.2.1, F.2.2.1, F.2.2.2.1, F.2.2.2.2.1⟩ (C (xD X) (xcy X) H.size ad) ⟨fCallB F L hfr hlo, hnm, F.2.2.2.2.1 _ hi⟩ ⟨cBlind, fun U hU hW => ⟨rfl, by rw [hU], by rw [hU]; exact hP, va_K.moved hW.alike F.2.2.2.2.2.1, hD.weaken (fun _ _ _ _ => trivial)⟩⟩ rfl (by rw [List.length_map]; exact hA) hla rfl (lv_room hcat) hd ⟨hc, hs⟩) hD hS kk
theorem f_callIS (F : FLx X cc own nL) {y : MethodName} {cy : ByteArray} {nLy index n d' mc' ms' b : Nat} {As rest : List Value} {Ψ : Option Value → HS → List Nat → Prop} (C : ConS (xl X) d' y cy nLy none (.ref b :: As) σ pl mc' ms' Ψ) (L : ML own index y cy nLy none n) (hnm : y.name = "<init>") (hi : Cond.instanceMethod y ∈ lwG) (hfr : 16 * d' + 1 ≤ (xR X).frames) (hlo : 8 + (nLy + 11) + 128 * d' ≤ (xR X).locals)
    (hA : As.length = n) (hd : decode cc pc = .ok (.invokespecial index, 3)) (hcat : (rest.map fun v => v.category).sum ≤ 8) (hc : k1 + mc' ≤ (xR X).cells) (hs : k2 + ms' ≤ (xR X).slots) (hla : la.size = nL)
    (hP : va_P (xD X) vwCl (wl (xcy X) ad σ pl) H) (hD : va_D (xA X) (wl (xcy X) ad σ pl)) (hS : va_S (xA X) (xs X).heap H locs)
    (kk : ∀ r σ' pl' ad' H' locs', Ψ r σ' pl' → (∀ q, q ∈ pl → q ∈ pl' ∧ ad' q = ad q) → va_P (xD X) vwCl (wl (xcy X) ad' σ' pl') H' → va_D (xA X) (wl (xcy X) ad' σ' pl') → va_S (xA X) (xs X).heap H' locs' → (∀ wr, va_P (xD X) vwCl wr H → apt (wl (xcy X) ad σ pl) wr → va_P (xD X) vwCl wr H' ∧ apt (wl (xcy X) ad' σ' pl') wr) → WX X H' locs' (k1 + mc') (k2 + ms') (xQ X) (F0 (xm X) (pc + 3) la ((r.map (pv ad')).toList ++ rest))) : WX X H locs k1 k2 (xQ X) (F0 (xm X) pc la ((As.map (pv ad)).reverse ++ .ref (ad b) :: rest)) :=
  fBack F (va_runI (As := As.map (pv ad)) (rest := rest) (b := ad b) ⟨F.1, F.2.1, F.2.2.1, F.2.2.2.1, F.2.2.2.2.1⟩ (C (xD X) (xcy X) H.size ad) ⟨fCallB F L hfr hlo, hnm, F.2.2.2.2.1 _ hi⟩ ⟨cBlindS, fun U hU hW => ⟨rfl, by rw [hU], by rw [hU]; exact hP, va_K.moved hW.alike F.2.2.2.2.2.1, hD.weaken (fun _ _ _ _ => trivial), fSW F hD hS hU hW⟩⟩ rfl (by rw [List.length_map]; exact hA) hla rfl (lv_room hcat) hd ⟨hc, hs⟩) hD hS kk
/-- an object just made, in the words of places -/
theorem wl_1 {cy : Nat → ClassId} {ci p q : Nat} (hci : ci < 13) (hk : sK σ p = ci) (hP : sP σ p = fun _ => none) (hI : sI σ p = fun _ => 0) : wl cy (fun _ => q) σ [p] = [(q, .inr (ci, dfL ci))] := by
  show [(q, ce cy (fun _ => q) σ p)] = _
  rw [ce_o hk hci]
  have e4 : (List.range (NN ci)).map (fv (fun _ => q) σ p ci) = dfL ci := by
    unfold dfL
    refine List.map_congr_left (fun k _ => ?_)
    unfold fv
    by_cases c : rF ci k = true
    · rw [if_pos c, if_pos c, congrFun hP k]; rfl
    · rw [if_neg c, if_neg c, congrFun hI k]
  rw [e4]
/-- a new object beside a world -/
theorem f_new (F : FLx X cc own nL) {ws : va_W} {index ci p : Nat} {rest : List Value} (hci : ci < 13) (hk : sK σ p = ci) (hPn : sP σ p = fun _ => none) (hIn : sI σ p = fun _ => 0) (hws : ∀ w ∈ u_ws (RR ci) (TT ci) (NN ci), w ∈ lwG) (h1 : Cond.classLink own index (RR ci) ∈ lwG) (h2 : Cond.instantiable (RR ci) (NN ci) ∈ lwG) (h3 : Cond.initialized (RR ci) ∈ lwG) (hd : decode cc pc = .ok (.new index, 3)) (hc : k1 + 1 ≤ (xR X).cells) (hs : k2 + NN ci ≤ (xR X).slots)
    (hP : va_P (xD X) vwCl ws H) (hD : va_D (xA X) ws) (hS : va_S (xA X) (xs X).heap H locs)
    (kk : ∀ (q : Nat) (H1 : Heap), va_P (xD X) vwCl ws H1 → va_P (xD X) vwCl (wl (xcy X) (fun _ => q) σ [p]) H1 → va_D (xA X) (wl (xcy X) (fun _ => q) σ [p]) → apt (wl (xcy X) (fun _ => q) σ [p]) ws → va_S (xA X) (xs X).heap H1 locs → WX X H1 locs (k1 + 1) (k2 + NN ci) (xQ X) (F0 (xm X) (pc + 3) la (.ref q :: rest))) : WX X H locs k1 k2 (xQ X) (F0 (xm X) pc la rest) := by
  refine va_new (fs := dfL ci) F.1 F.2.1 F.2.2.2.2.1 hws (tyT ci) (ty_at hci) F.2.2.2.1 (F.2.2.2.2.1 _ h1) (F.2.2.2.2.1 _ h2) (F.2.2.2.2.1 _ h3) F.2.2.2.2.2.1 hP hD hS F.2.2.2.2.2.2.1 (vw_at hci) (df_ok hci) hc hs hd (fun q H1 hP1 hD1 hS1 => ?_)
  have e := wl_1 (cy := xcy X) (q := q) hci hk hPn hIn
  have hlt : (ws ++ [(q, (.inr (ci, dfL ci) : va_E))])[ws.length]? = some (q, .inr (ci, dfL ci)) := by rw [List.getElem?_append_right (Nat.le_refl _), Nat.sub_self]; rfl
  refine kk q H1 (vP_l hP1) (by rw [e]; exact vP_r hP1) (by rw [e]; exact vD_1 (hD1.2 _ _ hlt)) ?_ hS1
  rw [e]
  intro i j a c ha hc' z
  have hi : i < 1 := (List.getElem?_eq_some_iff.mp ha).1
  have hi0 : i = 0 := by omega
  subst hi0
  cases Option.some.inj ha
  have hj : j < ws.length := (List.getElem?_eq_some_iff.mp hc').1
  have := hD1.1 ws.length j _ c hlt (by rw [List.getElem?_append_left hj]; exact hc') z
  omega
end
