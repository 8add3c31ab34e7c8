/-! ROWS OF THE HEAP, BY PLACES -/
def FL (own : String) (index ci k : Nat) : Prop := ci < 13 ∧ k < NN ci ∧ (∀ w ∈ u_ws (RR ci) (TT ci) (NN ci), w ∈ lwG) ∧ Cond.fieldLink own index (TT ci k).1 (TT ci k).2.1 (TT ci k).2.2.1 ∈ lwG
theorem fv_rg {ad : Nat → Nat} {σ : HS} {p c k : Nat} (h : k < NN c) : ((List.range (NN c)).map (fv ad σ p c))[k]? = some (fv ad σ p c k) := rg_get _ h
theorem fv_i {ad : Nat → Nat} {σ : HS} {p c k : Nat} (h : rF c k = false) : fv ad σ p c k = .int (sI σ p k) := by unfold fv; rw [h]; rfl
theorem fv_r {ad : Nat → Nat} {σ : HS} {p c k : Nat} (h : rF c k = true) : fv ad σ p c k = va_rf ((sP σ p k).map ad) := by unfold fv; rw [h]; rfl
section
variable {X : Ctx} {cc : ByteArray} {own : String} {nL d mc ms : Nat} {σ : HS} {pl : List Nat} {k1 k2 pc : Nat} {ls ls' : List (Nat × Value)} {st : List Value}
theorem a_geti (F : Fx X cc own nL d mc ms) {index ci k p : Nat} (L : FL own index ci k) (hr : rF ci k = false) (hp : p ∈ pl) (hk : sK σ p = ci) (hd : decode cc pc = .ok (.getfield index, 3))
    (kk : WA X σ pl k1 k2 (pc + 3) ls (.int (sI σ p k) :: st)) : WA X σ pl k1 k2 pc ls (.ref p :: st) := by
  intro ad H locs la hP hD hS hq hl
  obtain ⟨i, hi, hw⟩ := wl_get (cy := xcy X) (ad := ad) (σ := σ) hp
  rw [ce_o hk L.1] at hw
  exact va_get F.x F.b F.t L.2.2.1 F.o F.k hP i hw (vw_at L.1) k L.2.1 (F.t _ L.2.2.2) (fun _ h => h) ((fv_rg L.2.1).trans (congrArg some (fv_i hr))) hd (kk ad H locs la hP hD hS hq hl)
theorem a_getr (F : Fx X cc own nL d mc ms) {index ci k p b : Nat} (L : FL own index ci k) (hr : rF ci k = true) (hp : p ∈ pl) (hk : sK σ p = ci) (hv : sP σ p k = some b) (hd : decode cc pc = .ok (.getfield index, 3))
    (kk : WA X σ pl k1 k2 (pc + 3) ls (.ref b :: st)) : WA X σ pl k1 k2 pc ls (.ref p :: st) := by
  intro ad H locs la hP hD hS hq hl
  obtain ⟨i, hi, hw⟩ := wl_get (cy := xcy X) (ad := ad) (σ := σ) hp
  rw [ce_o hk L.1] at hw
  exact va_get (v := .ref (ad b)) F.x F.b F.t L.2.2.1 F.o F.k hP i hw (vw_at L.1) k L.2.1 (F.t _ L.2.2.2) (fun _ h => h) ((fv_rg L.2.1).trans (congrArg some (by rw [fv_r hr, hv]; rfl))) hd (kk ad H locs la hP hD hS hq hl)
theorem a_getn (F : Fx X cc own nL d mc ms) {index ci k p : Nat} (L : FL own index ci k) (hr : rF ci k = true) (hp : p ∈ pl) (hk : sK σ p = ci) (hv : sP σ p k = none) (hd : decode cc pc = .ok (.getfield index, 3))
    (kk : WA X σ pl k1 k2 (pc + 3) ls (.null :: st)) : WA X σ pl k1 k2 pc ls (.ref p :: st) := by
  intro ad H locs la hP hD hS hq hl
  obtain ⟨i, hi, hw⟩ := wl_get (cy := xcy X) (ad := ad) (σ := σ) hp
  rw [ce_o hk L.1] at hw
  exact va_get (v := .null) F.x F.b F.t L.2.2.1 F.o F.k hP i hw (vw_at L.1) k L.2.1 (F.t _ L.2.2.2) (fun _ h => h) ((fv_rg L.2.1).trans (congrArg some (by rw [fv_r hr, hv]; rfl))) hd (kk ad H locs la hP hD hS hq hl)
theorem ce_stI {cy : Nat → ClassId} {ad : Nat → Nat} {σ : HS} {p q k : Nat} {x : Int32} (h : q ≠ p) : ce cy ad (stI σ p k x) q = ce cy ad σ q := ce_same rfl rfl (up2_r h) rfl rfl rfl rfl
theorem ce_stP {cy : Nat → ClassId} {ad : Nat → Nat} {σ : HS} {p q k : Nat} {x : Option Nat} (h : q ≠ p) : ce cy ad (stP σ p k x) q = ce cy ad σ q := ce_same rfl rfl rfl (up2_r h) rfl rfl rfl
theorem ce_stA {cy : Nat → ClassId} {ad : Nat → Nat} {σ : HS} {p q : Nat} {r : Nat → Int32} (h : q ≠ p) : ce cy ad (stA σ p r) q = ce cy ad σ q := ce_same rfl rfl rfl rfl (up1_p h) rfl rfl
theorem ce_stJ {cy : Nat → ClassId} {ad : Nat → Nat} {σ : HS} {p q : Nat} {r : Nat → Int64} (h : q ≠ p) : ce cy ad (stJ σ p r) q = ce cy ad σ q := ce_same rfl rfl rfl rfl rfl (up1_p h) rfl
theorem ce_stO {cy : Nat → ClassId} {ad : Nat → Nat} {σ : HS} {p q : Nat} {r : Nat → Option Nat} (h : q ≠ p) : ce cy ad (stO σ p r) q = ce cy ad σ q := ce_same rfl rfl rfl rfl rfl rfl (up1_p h)
theorem fs_stI {ad : Nat → Nat} {σ : HS} {p c k : Nat} {x : Int32} (hk : k < NN c) (hr : rF c k = false) : ((List.range (NN c)).map (fv ad σ p c)).set k (.int x) = (List.range (NN c)).map (fv ad (stI σ p k x) p c) := by
  refine rg_set _ _ hk ?_ ?_
  · rw [fv_i hr]; exact congrArg Value.int up2_s
  · intro j hj
    unfold fv
    show (if rF c j = true then va_rf ((sP σ p j).map ad) else .int (up2 (sI σ) p k x p j)) = _
    rw [up2_k hj]
theorem fs_stP {ad : Nat → Nat} {σ : HS} {p c k : Nat} {x : Option Nat} (hk : k < NN c) (hr : rF c k = true) : ((List.range (NN c)).map (fv ad σ p c)).set k (va_rf (x.map ad)) = (List.range (NN c)).map (fv ad (stP σ p k x) p c) := by
  refine rg_set _ _ hk ?_ ?_
  · rw [fv_r hr]; exact congrArg (fun z => va_rf (Option.map ad z)) up2_s
  · intro j hj
    unfold fv
    show (if rF c j = true then va_rf ((up2 (sP σ) p k x p j).map ad) else .int (sI σ p j)) = _
    rw [up2_k hj]
theorem a_puti (F : Fx X cc own nL d mc ms) {index ci k p : Nat} {x : Int32} (L : FL own index ci k) (hr : rF ci k = false) (hfin : (TT ci k).2.2.2 = false) (hn : narrow (tyT ci k) (.int x) = .int x) (hf : fits (tyT ci k) (.int x) = true) (hp : p ∈ pl) (hk : sK σ p = ci) (hd : decode cc pc = .ok (.putfield index, 3))
    (kk : WA X (stI σ p k x) pl k1 k2 (pc + 3) ls st) : WA X σ pl k1 k2 pc ls (.int x :: .ref p :: st) := by
  intro ad H locs la hP hD hS hq hl
  obtain ⟨i, hi, hw⟩ := wl_get (cy := xcy X) (ad := ad) (σ := σ) hp
  rw [ce_o hk L.1] at hw
  refine va_put (v := .int x) F.x F.b F.t L.2.2.1 (tyT ci) (ty_at L.1) (nm_at L.1) F.o F.k hP hD hS i hw (vw_at L.1) k L.2.1 (F.t _ L.2.2.2) (fun _ h => h) hfin (ty_at L.1 k L.2.1) hn hf (by rw [List.length_map, List.length_range]; exact L.2.1) hd (fun H1 locs1 hP1 hD1 hS1 => ?_)
  have e : (wl (xcy X) ad σ pl).set i (ad p, .inr (ci, ((List.range (NN ci)).map (fv ad σ p ci)).set k (.int x))) = wl (xcy X) ad (stI σ p k x) pl :=
    wl_set hD hi (by rw [ce_o (show sK (stI σ p k x) p = ci from hk) L.1, fs_stI L.2.1 hr]) (fun q h => ce_stI h)
  rw [e] at hP1 hD1
  exact kk ad H1 locs1 la hP1 hD1 hS1 hq hl
theorem a_putr (F : Fx X cc own nL d mc ms) {index ci k p b : Nat} (L : FL own index ci k) (hr : rF ci k = true) (hfin : (TT ci k).2.2.2 = false) (hn : ∀ q, narrow (tyT ci k) (.ref q) = .ref q) (hf : ∀ q, fits (tyT ci k) (.ref q) = true) (hp : p ∈ pl) (hk : sK σ p = ci) (hd : decode cc pc = .ok (.putfield index, 3))
    (kk : WA X (stP σ p k (some b)) pl k1 k2 (pc + 3) ls st) : WA X σ pl k1 k2 pc ls (.ref b :: .ref p :: st) := by
  intro ad H locs la hP hD hS hq hl
  obtain ⟨i, hi, hw⟩ := wl_get (cy := xcy X) (ad := ad) (σ := σ) hp
  rw [ce_o hk L.1] at hw
  refine va_put (v := .ref (ad b)) F.x F.b F.t L.2.2.1 (tyT ci) (ty_at L.1) (nm_at L.1) F.o F.k hP hD hS i hw (vw_at L.1) k L.2.1 (F.t _ L.2.2.2) (fun _ h => h) hfin (ty_at L.1 k L.2.1) (hn _) (hf _) (by rw [List.length_map, List.length_range]; exact L.2.1) hd (fun H1 locs1 hP1 hD1 hS1 => ?_)
  have e : (wl (xcy X) ad σ pl).set i (ad p, .inr (ci, ((List.range (NN ci)).map (fv ad σ p ci)).set k (.ref (ad b)))) = wl (xcy X) ad (stP σ p k (some b)) pl :=
    wl_set hD hi (by rw [ce_o (show sK (stP σ p k (some b)) p = ci from hk) L.1, ← fs_stP L.2.1 hr]; rfl) (fun q h => ce_stP h)
  rw [e] at hP1 hD1
  exact kk ad H1 locs1 la hP1 hD1 hS1 hq hl
theorem a_putF (F : Fx X cc own nL d mc ms) (hin : (xmeth X).name = "<init>") {index ci k p b : Nat} (L : FL own index ci k) (hr : rF ci k = true) (hfin : (TT ci k).2.2.2 = true) (hdecl : (TT ci k).1 = own) (hn : ∀ q, narrow (tyT ci k) (.ref q) = .ref q) (hf : ∀ q, fits (tyT ci k) (.ref q) = true) (hp : p ∈ pl) (hk : sK σ p = ci) (hd : decode cc pc = .ok (.putfield index, 3))
    (kk : WA X (stP σ p k (some b)) pl k1 k2 (pc + 3) ls st) : WA X σ pl k1 k2 pc ls (.ref b :: .ref p :: st) := by
  intro ad H locs la hP hD hS hq hl
  obtain ⟨i, hi, hw⟩ := wl_get (cy := xcy X) (ad := ad) (σ := σ) hp
  rw [ce_o hk L.1] at hw
  refine va_putF (v := .ref (ad b)) F.x F.b F.t L.2.2.1 (tyT ci) (ty_at L.1) (nm_at L.1) F.o F.k hP hD hS i hw (vw_at L.1) k L.2.1 (F.t _ L.2.2.2) (fun _ h => h) hfin hin hdecl (ty_at L.1 k L.2.1) (hn _) (hf _) (by rw [List.length_map, List.length_range]; exact L.2.1) hd (fun H1 locs1 hP1 hD1 hS1 => ?_)
  have e : (wl (xcy X) ad σ pl).set i (ad p, .inr (ci, ((List.range (NN ci)).map (fv ad σ p ci)).set k (.ref (ad b)))) = wl (xcy X) ad (stP σ p k (some b)) pl :=
    wl_set hD hi (by rw [ce_o (show sK (stP σ p k (some b)) p = ci from hk) L.1, ← fs_stP L.2.1 hr]; rfl) (fun q h => ce_stP h)
  rw [e] at hP1 hD1
  exact kk ad H1 locs1 la hP1 hD1 hS1 hq hl
theorem a_iald (F : Fx X cc own nL d mc ms) {p : Nat} {i : Int32} (hp : p ∈ pl) (hk : sK σ p = 13) (hin : vp_in i (sN σ p)) (hd : decode cc pc = .ok (.iaload, 1))
    (kk : WA X σ pl k1 k2 (pc + 1) ls (.int (sA σ p i.toNatClampNeg) :: st)) : WA X σ pl k1 k2 pc ls (.int i :: .ref p :: st) := by
  intro ad H locs la hP hD hS hq hl
  obtain ⟨j, hj, hw⟩ := wl_get (cy := xcy X) (ad := ad) (σ := σ) hp
  rw [ce_i hk] at hw
  exact va_iald F.x F.b F.k hP j 0 hw rfl hin hd (kk ad H locs la hP hD hS hq hl)
theorem a_zald (F : Fx X cc own nL d mc ms) {p : Nat} {i : Int32} (hp : p ∈ pl) (hk : sK σ p = 15) (hin : vp_in i (sN σ p)) (hd : decode cc pc = .ok (.baload, 1))
    (kk : WA X σ pl k1 k2 (pc + 1) ls (.int (sA σ p i.toNatClampNeg) :: st)) : WA X σ pl k1 k2 pc ls (.int i :: .ref p :: st) := by
  intro ad H locs la hP hD hS hq hl
  obtain ⟨j, hj, hw⟩ := wl_get (cy := xcy X) (ad := ad) (σ := σ) hp
  rw [ce_z hk] at hw
  exact va_zald F.x F.b F.k hP j 2 hw rfl hin hd (kk ad H locs la hP hD hS hq hl)
theorem a_lald (F : Fx X cc own nL d mc ms) {p : Nat} {i : Int32} (hp : p ∈ pl) (hk : sK σ p = 14) (hin : vp_in i (sN σ p)) (hd : decode cc pc = .ok (.laload, 1))
    (kk : WA X σ pl k1 k2 (pc + 1) ls (.long (sJ σ p i.toNatClampNeg) :: st)) : WA X σ pl k1 k2 pc ls (.int i :: .ref p :: st) := by
  intro ad H locs la hP hD hS hq hl
  obtain ⟨j, hj, hw⟩ := wl_get (cy := xcy X) (ad := ad) (σ := σ) hp
  rw [ce_j hk] at hw
  exact va_lald F.x F.b F.k hP j 1 hw rfl hin hd (kk ad H locs la hP hD hS hq hl)
theorem a_iast (F : Fx X cc own nL d mc ms) {p : Nat} {i x : Int32} (hp : p ∈ pl) (hk : sK σ p = 13) (hin : vp_in i (sN σ p)) (hd : decode cc pc = .ok (.iastore, 1))
    (kk : WA X (stA σ p (upd (sA σ p) i.toNatClampNeg x)) pl k1 k2 (pc + 1) ls st) : WA X σ pl k1 k2 pc ls (.int x :: .int i :: .ref p :: st) := by
  intro ad H locs la hP hD hS hq hl
  obtain ⟨j, hj, hw⟩ := wl_get (cy := xcy X) (ad := ad) (σ := σ) hp
  rw [ce_i hk] at hw
  refine va_iast F.x F.b F.k hP hD hS j 0 hw rfl hin hd (fun H1 locs1 hP1 hD1 hS1 => ?_)
  have e := wl_set (cy := xcy X) (ad := ad) (σ' := stA σ p (upd (sA σ p) i.toNatClampNeg x)) hD hj (by rw [ce_i (show sK (stA σ p _) p = 13 from hk), show sA (stA σ p (upd (sA σ p) i.toNatClampNeg x)) p = _ from up1_s]) (fun q h => ce_stA h)
  rw [show sN (stA σ p (upd (sA σ p) i.toNatClampNeg x)) p = sN σ p from rfl] at e
  rw [e] at hP1 hD1
  exact kk ad H1 locs1 la hP1 hD1 hS1 hq hl
theorem a_zast (F : Fx X cc own nL d mc ms) {p : Nat} {i x : Int32} (hp : p ∈ pl) (hk : sK σ p = 15) (hin : vp_in i (sN σ p)) (hd : decode cc pc = .ok (.bastore, 1))
    (kk : WA X (stA σ p (upd (sA σ p) i.toNatClampNeg (vp_nar .boolean x))) pl k1 k2 (pc + 1) ls st) : WA X σ pl k1 k2 pc ls (.int x :: .int i :: .ref p :: st) := by
  intro ad H locs la hP hD hS hq hl
  obtain ⟨j, hj, hw⟩ := wl_get (cy := xcy X) (ad := ad) (σ := σ) hp
  rw [ce_z hk] at hw
  refine va_zast F.x F.b F.k hP hD hS j 2 hw rfl hin hd (fun H1 locs1 hP1 hD1 hS1 => ?_)
  have e := wl_set (cy := xcy X) (ad := ad) (σ' := stA σ p (upd (sA σ p) i.toNatClampNeg (vp_nar .boolean x))) hD hj (by rw [ce_z (show sK (stA σ p _) p = 15 from hk), show sA (stA σ p (upd (sA σ p) i.toNatClampNeg (vp_nar .boolean x))) p = _ from up1_s]) (fun q h => ce_stA h)
  rw [show sN (stA σ p (upd (sA σ p) i.toNatClampNeg (vp_nar .boolean x))) p = sN σ p from rfl] at e
  rw [e] at hP1 hD1
  exact kk ad H1 locs1 la hP1 hD1 hS1 hq hl
theorem a_last (F : Fx X cc own nL d mc ms) {p : Nat} {i : Int32} {x : Int64} (hp : p ∈ pl) (hk : sK σ p = 14) (hin : vp_in i (sN σ p)) (hd : decode cc pc = .ok (.lastore, 1))
    (kk : WA X (stJ σ p (vp_updL (sJ σ p) i.toNatClampNeg x)) pl k1 k2 (pc + 1) ls st) : WA X σ pl k1 k2 pc ls (.long x :: .int i :: .ref p :: st) := by
  intro ad H locs la hP hD hS hq hl
  obtain ⟨j, hj, hw⟩ := wl_get (cy := xcy X) (ad := ad) (σ := σ) hp
  rw [ce_j hk] at hw
  refine va_last F.x F.b F.k hP hD hS j 1 hw rfl hin hd (fun H1 locs1 hP1 hD1 hS1 => ?_)
  have e := wl_set (cy := xcy X) (ad := ad) (σ' := stJ σ p (vp_updL (sJ σ p) i.toNatClampNeg x)) hD hj (by rw [ce_j (show sK (stJ σ p _) p = 14 from hk), show sJ (stJ σ p (vp_updL (sJ σ p) i.toNatClampNeg x)) p = _ from up1_s]) (fun q h => ce_stJ h)
  rw [show sN (stJ σ p (vp_updL (sJ σ p) i.toNatClampNeg x)) p = sN σ p from rfl] at e
  rw [e] at hP1 hD1
  exact kk ad H1 locs1 la hP1 hD1 hS1 hq hl
theorem a_alen (F : Fx X cc own nL d mc ms) {p c : Nat} {v : Int32} (hp : p ∈ pl) (hk : sK σ p = c) (h13 : 13 ≤ c) (h17 : c ≤ 17) (hv : Int32.ofNat (sN σ p) = v) (hd : decode cc pc = .ok (.arraylength, 1))
    (kk : WA X σ pl k1 k2 (pc + 1) ls (.int v :: st)) : WA X σ pl k1 k2 pc ls (.ref p :: st) := by
  intro ad H locs la hP hD hS hq hl
  obtain ⟨j, hj, hw⟩ := wl_get (cy := xcy X) (ad := ad) (σ := σ) hp
  rcases (show c = 13 ∨ c = 14 ∨ c = 15 ∨ c = 16 ∨ c = 17 by omega) with rfl | rfl | rfl | rfl | rfl
  · rw [ce_i hk] at hw; exact va_alen F.x F.b F.k hP j 0 hw rfl hv hd (kk ad H locs la hP hD hS hq hl)
  · rw [ce_j hk] at hw; exact va_alen F.x F.b F.k hP j 1 hw rfl hv hd (kk ad H locs la hP hD hS hq hl)
  · rw [ce_z hk] at hw; exact va_alen F.x F.b F.k hP j 2 hw rfl hv hd (kk ad H locs la hP hD hS hq hl)
  · rw [ce_q hk (by omega)] at hw; exact va_alen F.x F.b F.k hP j 3 hw rfl hv hd (kk ad H locs la hP hD hS hq hl)
  · rw [ce_q hk (by omega)] at hw; exact va_alen F.x F.b F.k hP j 4 hw rfl hv hd (kk ad H locs la hP hD hS hq hl)
end
