section
variable {X : Ctx} {cc : ByteArray} {own : String} {nL d mc ms : Nat} {σ : HS} {pl : List Nat} {k1 k2 pc : Nat} {ls : List (Nat × Value)} {st : List Value}
theorem cat_pv {ad : Nat → Nat} (h : (st.map fun v => v.category).sum ≤ 8) : ((st.map (pv ad)).map fun v => v.category).sum ≤ 8 := by
  rw [List.map_map]
  exact Nat.le_trans (Nat.le_of_eq (congrArg List.sum (List.map_congr_left (fun v _ => pv_cat ad v)))) h
theorem a_cpyi (F : Fx X cc own nL d mc ms) {index p q : Nat} {sp dp n : Int32} (hlink : Cond.methodLink own index arraycopyName ∈ lwG) (hp : p ∈ pl) (hq' : q ∈ pl) (hk : sK σ p = 13) (hk2 : sK σ q = 13) (h1 : ¬ sp < 0) (h2 : ¬ dp < 0) (h3 : ¬ n < 0) (h4 : sp.toNatClampNeg + n.toNatClampNeg ≤ sN σ p) (h5 : dp.toNatClampNeg + n.toNatClampNeg ≤ sN σ q) (hd1 : 1 ≤ d) (hcat : (st.map fun v => v.category).sum ≤ 8) (hd : decode cc pc = .ok (.invokestatic index, 3))
    (kk : WA X (stA σ q (va_cpy (sA σ p) (sA σ q) sp.toNatClampNeg dp.toNatClampNeg n.toNatClampNeg)) pl k1 k2 (pc + 3) ls st) : WA X σ pl k1 k2 pc ls (.int n :: .int dp :: .ref q :: .int sp :: .ref p :: st) := by
  intro ad H locs la hP hD hS hq hl
  obtain ⟨i, hi, hw⟩ := wl_get (cy := xcy X) (ad := ad) (σ := σ) hp
  obtain ⟨j, hj, hw2⟩ := wl_get (cy := xcy X) (ad := ad) (σ := σ) hq'
  rw [ce_i hk] at hw
  rw [ce_i hk2] at hw2
  have hcat' := cat_pv (ad := ad) hcat
  refine va_copyi F.x F.b hl.1.symm F.o (F.t _ hlink) (F.t _ cp_nat) (F.t _ cp_sta) (F.t _ in_J10) F.k hP hD hS i j 0 0 hw hw2 rfl rfl rfl h1 h2 h3 h4 h5 (fun _ _ => rfl) (by rw [F.r]; show 1 ≤ 16 * d; omega) (by rw [F.r, show nativeFrameWords "java/lang/System" "arraycopy" 5 = 7 by decide]; show _ ≤ 128 * d; omega) hd (fun H1 locs1 hP1 hD1 hS1 => ?_)
  have e := wl_set (cy := xcy X) (ad := ad) (σ' := stA σ q (va_cpy (sA σ p) (sA σ q) sp.toNatClampNeg dp.toNatClampNeg n.toNatClampNeg)) hD hj (by rw [ce_i (show sK (stA σ q _) q = 13 from hk2), show sA (stA σ q (va_cpy (sA σ p) (sA σ q) sp.toNatClampNeg dp.toNatClampNeg n.toNatClampNeg)) q = _ from up1_s]) (fun q h => ce_stA h)
  rw [show sN (stA σ q (va_cpy (sA σ p) (sA σ q) sp.toNatClampNeg dp.toNatClampNeg n.toNatClampNeg)) q = sN σ q from rfl] at e
  rw [e] at hP1 hD1
  exact kk ad H1 locs1 la hP1 hD1 hS1 hq hl
theorem a_cpyl (F : Fx X cc own nL d mc ms) {index p q : Nat} {sp dp n : Int32} (hlink : Cond.methodLink own index arraycopyName ∈ lwG) (hp : p ∈ pl) (hq' : q ∈ pl) (hk : sK σ p = 14) (hk2 : sK σ q = 14) (h1 : ¬ sp < 0) (h2 : ¬ dp < 0) (h3 : ¬ n < 0) (h4 : sp.toNatClampNeg + n.toNatClampNeg ≤ sN σ p) (h5 : dp.toNatClampNeg + n.toNatClampNeg ≤ sN σ q) (hd1 : 1 ≤ d) (hcat : (st.map fun v => v.category).sum ≤ 8) (hd : decode cc pc = .ok (.invokestatic index, 3))
    (kk : WA X (stJ σ q (va_cpy (sJ σ p) (sJ σ q) sp.toNatClampNeg dp.toNatClampNeg n.toNatClampNeg)) pl k1 k2 (pc + 3) ls st) : WA X σ pl k1 k2 pc ls (.int n :: .int dp :: .ref q :: .int sp :: .ref p :: st) := by
  intro ad H locs la hP hD hS hq hl
  obtain ⟨i, hi, hw⟩ := wl_get (cy := xcy X) (ad := ad) (σ := σ) hp
  obtain ⟨j, hj, hw2⟩ := wl_get (cy := xcy X) (ad := ad) (σ := σ) hq'
  rw [ce_j hk] at hw
  rw [ce_j hk2] at hw2
  have hcat' := cat_pv (ad := ad) hcat
  refine va_copyl F.x F.b hl.1.symm F.o (F.t _ hlink) (F.t _ cp_nat) (F.t _ cp_sta) (F.t _ in_J10) F.k hP hD hS i j 1 1 hw hw2 rfl rfl rfl h1 h2 h3 h4 h5 (fun _ _ => rfl) (by rw [F.r]; show 1 ≤ 16 * d; omega) (by rw [F.r, show nativeFrameWords "java/lang/System" "arraycopy" 5 = 7 by decide]; show _ ≤ 128 * d; omega) hd (fun H1 locs1 hP1 hD1 hS1 => ?_)
  have e := wl_set (cy := xcy X) (ad := ad) (σ' := stJ σ q (va_cpy (sJ σ p) (sJ σ q) sp.toNatClampNeg dp.toNatClampNeg n.toNatClampNeg)) hD hj (by rw [ce_j (show sK (stJ σ q _) q = 14 from hk2), show sJ (stJ σ q (va_cpy (sJ σ p) (sJ σ q) sp.toNatClampNeg dp.toNatClampNeg n.toNatClampNeg)) q = _ from up1_s]) (fun q h => ce_stJ h)
  rw [show sN (stJ σ q (va_cpy (sJ σ p) (sJ σ q) sp.toNatClampNeg dp.toNatClampNeg n.toNatClampNeg)) q = sN σ q from rfl] at e
  rw [e] at hP1 hD1
  exact kk ad H1 locs1 la hP1 hD1 hS1 hq hl
end
theorem cpy_in {α : Type} {f g : Nat → α} {s d n i : Nat} (h : i < n) : va_cpy f g s d n (d + i) = f (s + i) := by unfold va_cpy; rw [if_pos (by omega)]; congr 1; omega
theorem cpy_out {α : Type} {f g : Nat → α} {s d n j : Nat} (h : j < d ∨ d + n ≤ j) : va_cpy f g s d n j = g j := by unfold va_cpy; rw [if_neg (by omega)]
section
variable {X : Ctx} {cc : ByteArray} {own : String} {nL d mc ms : Nat} {σ : HS} {pl : List Nat} {k1 k2 pc : Nat} {ls : List (Nat × Value)} {st : List Value}
theorem a_mmax (F : Fx X cc own nL d mc ms) {index : Nat} {x y : Int32} (hlink : Cond.methodLink own index Lib.Math.max.name ∈ lwG) (hd1 : 1 ≤ d) (h1 : k1 ≤ mc) (h2 : k2 ≤ ms) (hcat : (st.map fun v => v.category).sum ≤ 8) (hd : decode cc pc = .ok (.invokestatic index, 3))
    (kk : WA X σ pl k1 k2 (pc + 3) ls (.int (if x < y then y else x) :: st)) : WA X σ pl k1 k2 pc ls (.int y :: .int x :: st) := by
  intro ad H locs la hP hD hS hq hl
  have hcat' := cat_pv (ad := ad) hcat
  exact va_mmax F.x F.b hl.1.symm F.o (F.t _ hlink) (F.t _ mx_s) (F.t _ in_J9) (F.t _ mx_c) (by rw [F.r]; show 1 ≤ 16 * d; omega) (by rw [F.r]; show _ ≤ 128 * d; omega) (by rw [F.r]; exact h1) (by rw [F.r]; exact h2) hd (kk ad H locs la hP hD hS hq hl)
theorem a_mmin (F : Fx X cc own nL d mc ms) {index : Nat} {x y : Int32} (hlink : Cond.methodLink own index Lib.Math.min.name ∈ lwG) (hd1 : 1 ≤ d) (h1 : k1 ≤ mc) (h2 : k2 ≤ ms) (hcat : (st.map fun v => v.category).sum ≤ 8) (hd : decode cc pc = .ok (.invokestatic index, 3))
    (kk : WA X σ pl k1 k2 (pc + 3) ls (.int (if y < x then y else x) :: st)) : WA X σ pl k1 k2 pc ls (.int y :: .int x :: st) := by
  intro ad H locs la hP hD hS hq hl
  have hcat' := cat_pv (ad := ad) hcat
  exact va_mmin F.x F.b hl.1.symm F.o (F.t _ hlink) (F.t _ mn_s) (F.t _ in_J9) (F.t _ mn_c) (by rw [F.r]; show 1 ≤ 16 * d; omega) (by rw [F.r]; show _ ≤ 128 * d; omega) (by rw [F.r]; exact h1) (by rw [F.r]; exact h2) hd (kk ad H locs la hP hD hS hq hl)
theorem a_mmaxl (F : Fx X cc own nL d mc ms) {index : Nat} {x y : Int64} (hlink : Cond.methodLink own index Lib.MathLoose.max_long.x ∈ lwG) (hd1 : 1 ≤ d) (h1 : k1 ≤ mc) (h2 : k2 ≤ ms) (hcat : (st.map fun v => v.category).sum ≤ 8) (hd : decode cc pc = .ok (.invokestatic index, 3))
    (kk : WA X σ pl k1 k2 (pc + 3) ls (.long (if y < x then x else y) :: st)) : WA X σ pl k1 k2 pc ls (.long y :: .long x :: st) := by
  intro ad H locs la hP hD hS hq hl
  have hcat' := cat_pv (ad := ad) hcat
  exact va_mmax_long F.x F.b hl.1.symm F.o (F.t _ hlink) (F.t _ ml_s) (F.t _ in_J9) (F.t _ ml_c) (by rw [F.r]; show 1 ≤ 16 * d; omega) (by rw [F.r]; show _ ≤ 128 * d; omega) (by rw [F.r]; exact h1) (by rw [F.r]; exact h2) hd (kk ad H locs la hP hD hS hq hl)
end
