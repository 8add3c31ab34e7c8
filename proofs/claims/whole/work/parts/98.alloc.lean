/-! NEW OBJECTS AND ROWS, BY PLACES -/
/-- nothing that is there points to the place p -/
def noR (σ : HS) (pl : List Nat) (p : Nat) : Prop := p ∉ pl ∧ ∀ q, q ∈ pl → (∀ k, rF (sK σ q) k = true → sP σ q k ≠ some p) ∧ (16 ≤ sK σ q → ∀ i, sO σ q i ≠ some p)
def ad1 (ad : Nat → Nat) (p a : Nat) : Nat → Nat := fun q => if q = p then a else ad q
theorem ad1_s {ad : Nat → Nat} {p a : Nat} : ad1 ad p a p = a := by simp [ad1]
theorem ad1_n {ad : Nat → Nat} {p a q : Nat} (h : q ≠ p) : ad1 ad p a q = ad q := by simp [ad1, h]
theorem om_ad {ad : Nat → Nat} {p a : Nat} {o : Option Nat} (h : o ≠ some p) : o.map (ad1 ad p a) = o.map ad := by
  cases o with
  | none => rfl
  | some b => show some (ad1 ad p a b) = some (ad b); rw [ad1_n (fun z => h (by rw [z]))]
theorem ce_ad {cy : Nat → ClassId} {ad : Nat → Nat} {σ : HS} {p a q : Nat} (h1 : ∀ k, rF (sK σ q) k = true → sP σ q k ≠ some p) (h2 : 16 ≤ sK σ q → ∀ i, sO σ q i ≠ some p) : ce cy (ad1 ad p a) σ q = ce cy ad σ q := by
  unfold ce
  by_cases c : sK σ q < 13
  · rw [if_pos c, if_pos c]
    congr 2
    refine List.map_congr_left (fun k _ => ?_)
    unfold fv
    by_cases c2 : rF (sK σ q) k = true
    · rw [if_pos c2, if_pos c2, om_ad (h1 k c2)]
    · rw [if_neg c2, if_neg c2]
  · rw [if_neg c, if_neg c]
    by_cases c3 : sK σ q = 14
    · rw [if_pos c3, if_pos c3]
    · rw [if_neg c3, if_neg c3]
      by_cases c4 : sK σ q ≤ 15
      · rw [if_pos c4, if_pos c4]
      · rw [if_neg c4, if_neg c4]
        rw [show (fun i => (sO σ q i).map (ad1 ad p a)) = (fun i => (sO σ q i).map ad) from funext (fun i => om_ad (h2 (by omega) i))]
theorem wl_ad {cy : Nat → ClassId} {ad : Nat → Nat} {σ σ' : HS} {pl : List Nat} {p a : Nat} (h : noR σ pl p) (hs : ∀ q, q ≠ p → ∀ ad', ce cy ad' σ' q = ce cy ad' σ q) : wl cy (ad1 ad p a) σ' pl = wl cy ad σ pl := by
  refine List.map_congr_left (fun q hq => ?_)
  have hne : q ≠ p := fun z => h.1 (z ▸ hq)
  rw [ad1_n hne, hs q hne, ce_ad (h.2 q hq).1 (h.2 q hq).2]
theorem lsT_ad {ad : Nat → Nat} {pl : List Nat} {p a : Nat} {ls : List (Nat × Value)} (hp : p ∉ pl) (hls : ∀ x ∈ ls, ∀ p, x.2 = .ref p → p ∈ pl) : lsT (ad1 ad p a) ls = lsT ad ls := List.map_congr_left (fun x hx => by
  have hx2 := hls x hx
  obtain ⟨i, v⟩ := x
  cases v with
  | ref q => show (i, Value.ref (ad1 ad p a q)) = (i, Value.ref (ad q)); rw [ad1_n (fun (z : q = p) => hp (z ▸ hx2 q rfl))]
  | _ => rfl)
theorem stT_ad {ad : Nat → Nat} {pl : List Nat} {p a : Nat} {st : List Value} (hp : p ∉ pl) (hst : ∀ v ∈ st, ∀ p, v = .ref p → p ∈ pl) : st.map (pv (ad1 ad p a)) = st.map (pv ad) := List.map_congr_left (fun x hx => by
  have hx2 := hst x hx
  cases x with
  | ref q => show Value.ref (ad1 ad p a q) = Value.ref (ad q); rw [ad1_n (fun (z : q = p) => hp (z ▸ hx2 q rfl))]
  | _ => rfl)
def nwO (σ : HS) (p : Nat) : HS := (σ.1, σ.2.1, up1 σ.2.2.1 p (fun _ => 0), up1 σ.2.2.2.1 p (fun _ => none), σ.2.2.2.2)
theorem df_at : ∀ c, c < 13 → ∀ k, k < NN c → (match defaultValue (tyT c k) with | .null => rF c k | .int v => v == 0 && !(rF c k) | _ => false) = true := by decide +kernel
def dfL (c : Nat) : List Value := (List.range (NN c)).map (fun k => if rF c k = true then .null else .int 0)
theorem df_ok {c : Nat} (hc : c < 13) (k : Nat) (hk : k < NN c) : defaultValue (tyT c k) = vp_V (dfL c) k := by
  have h := df_at c hc k hk
  have e : vp_V (dfL c) k = if rF c k = true then .null else .int 0 := by
    unfold vp_V dfL; rw [List.getD_eq_getElem?_getD, rg_get _ hk]; rfl
  rw [e]
  cases hd : defaultValue (tyT c k) with
  | null => rw [hd] at h; rw [if_pos h]
  | int v =>
    rw [hd] at h
    have h : (v == 0 && !(rF c k)) = true := h
    rw [Bool.and_eq_true] at h
    rw [if_neg (by have := h.2; simp at this; simp [this])]
    rw [eq_of_beq h.1]
  | _ => rw [hd] at h; exact absurd (show false = true from h) (by decide)
section
variable {X : Ctx} {cc : ByteArray} {own : String} {nL d mc ms : Nat} {σ : HS} {pl : List Nat} {k1 k2 pc : Nat} {ls ls' : List (Nat × Value)} {st : List Value} {Φ : Option Value → HS → List Nat → Prop}
theorem wl_app {cy : Nat → ClassId} {ad : Nat → Nat} {σ : HS} {pl : List Nat} {p : Nat} : wl cy ad σ (pl ++ [p]) = wl cy ad σ pl ++ [(ad p, ce cy ad σ p)] := by unfold wl; rw [List.map_append]; rfl
theorem a_new (F : Fx X cc own nL d mc ms) {index ci p : Nat} (hci : ci < 13) (hk : sK σ p = ci) (hn : noR σ pl p) (hws : ∀ w ∈ u_ws (RR ci) (TT ci) (NN ci), w ∈ lwG) (h1 : Cond.classLink own index (RR ci) ∈ lwG) (h2 : Cond.instantiable (RR ci) (NN ci) ∈ lwG) (h3 : Cond.initialized (RR ci) ∈ lwG) (hd : decode cc pc = .ok (.new index, 3)) (hc : k1 + 1 ≤ mc) (hs : k2 + NN ci ≤ ms)
    (hls : ∀ x ∈ ls, ∀ p, x.2 = .ref p → p ∈ pl) (hst : ∀ v ∈ st, ∀ p, v = .ref p → p ∈ pl)
    (kk : WA X (nwO σ p) (pl ++ [p]) (k1 + 1) (k2 + NN ci) (pc + 3) ls (.ref p :: st)) : WA X σ pl k1 k2 pc ls st := by
  intro ad H locs la hP hD hS hq hl
  refine va_new (fs := dfL ci) F.x F.b F.t hws (tyT ci) (ty_at hci) F.o (F.t _ h1) (F.t _ h2) (F.t _ h3) F.k hP hD hS F.a (vw_at hci) (df_ok hci) (by rw [F.r]; exact hc) (by rw [F.r]; exact hs) hd (fun q H1 hP1 hD1 hS1 => ?_)
  have e1 : wl (xcy X) (ad1 ad p q) (nwO σ p) pl = wl (xcy X) ad σ pl := wl_ad hn (fun q hq ad' => ce_same rfl rfl (up1_p hq) (up1_p hq) rfl rfl rfl)
  have e2 : wl (xcy X) (ad1 ad p q) (nwO σ p) (pl ++ [p]) = wl (xcy X) ad σ pl ++ [(q, .inr (ci, dfL ci))] := by
    rw [wl_app, e1, ad1_s, ce_o (show sK (nwO σ p) p = ci from hk) hci]
    have e4 : (List.range (NN ci)).map (fv (ad1 ad p q) (nwO σ p) p ci) = dfL ci := by
      unfold dfL
      refine List.map_congr_left (fun k _ => ?_)
      unfold fv
      by_cases c : rF ci k = true
      · rw [if_pos c, if_pos c, show sP (nwO σ p) p k = none from congrFun up1_s k]; rfl
      · rw [if_neg c, if_neg c, show sI (nwO σ p) p k = 0 from congrFun up1_s k]
    rw [e4]
  have k := kk (ad1 ad p q) H1 locs la (by rw [e2]; exact hP1) (by rw [e2]; exact hD1) hS1 (fun r hr => ⟨List.mem_append_left _ (hq r hr).1, by rw [ad1_n (fun (z : r = p) => hn.1 (z ▸ (hq r hr).1))]; exact (hq r hr).2⟩) (by rw [lsT_ad hn.1 hls]; exact hl)
  have e3 : (Value.ref p :: st).map (pv (ad1 ad p q)) = .ref q :: st.map (pv ad) := by
    rw [List.map_cons, stT_ad hn.1 hst]; show Value.ref (ad1 ad p q p) :: _ = _; rw [ad1_s]
  rw [e3] at k
  exact k
theorem cA_eq {cA : ClassId} {ty : FieldType} {t0 : Nat} (hK : va_K (xD X) vwCl (tyL (xcy X)) (xs X)) (hK2 : va_K (xD X) vwCl (tyL (xcy X) ++ [(cA, ty)]) (xs X)) (ht : (tyL (xcy X))[t0]? = some (xcy X (13 + t0), ty)) : cA = xcy X (13 + t0) := by
  have h1 := (hK.2 t0 _ ht).2
  have h2 := (hK2.2 5 (cA, ty) rfl).2
  cases ty with
  | object C =>
    obtain ⟨_, _, _, _, _, g1⟩ := h1
    obtain ⟨_, _, _, _, _, g2⟩ := h2
    exact Option.some.inj (g2.symm.trans g1)
  | _ => exact Option.some.inj (Eq.trans (Eq.symm h2) h1)
theorem a_newi (F : Fx X cc own nL d mc ms) {p : Nat} {n : Int32} (hk : sK σ p = 13) (hn : noR σ pl p) (h1 : Cond.arrayClass .int ∈ lwG) (hp : ¬ n < 0) (hN : n.toNatClampNeg = sN σ p) (hb : sN σ p * 4 ≤ 536870912) (hd : decode cc pc = .ok (.newarray .int, 2)) (hc : k1 + 1 ≤ mc) (hs : k2 + sN σ p ≤ ms)
    (hls : ∀ x ∈ ls, ∀ p, x.2 = .ref p → p ∈ pl) (hst : ∀ v ∈ st, ∀ p, v = .ref p → p ∈ pl)
    (kk : WA X (stA σ p (fun _ => 0)) (pl ++ [p]) (k1 + 1) (k2 + sN σ p) (pc + 2) ls (.ref p :: st)) : WA X σ pl k1 k2 pc ls (.int n :: st) := by
  intro ad H locs la hP hD hS hq hl
  refine va_newa (atype := .int) (ty := .int) (a0 := (sN σ p, .inl (fun _ => 0))) F.x F.b (F.t _ h1) rfl F.k hP hD hS F.a (fun cA => rfl) hp hN hb (by rw [F.r]; exact hc) (by rw [F.r]; exact hs) hd (fun q cA H1 hK1 hP1 hD1 hS1 => ?_)
  have hcA := cA_eq (t0 := 0) F.k hK1 rfl
  subst hcA
  have e1 : wl (xcy X) (ad1 ad p q) (stA σ p (fun _ => 0)) pl = wl (xcy X) ad σ pl := wl_ad hn (fun q hq ad' => ce_stA hq)
  have e2 : wl (xcy X) (ad1 ad p q) (stA σ p (fun _ => 0)) (pl ++ [p]) = wl (xcy X) ad σ pl ++ [(q, .inl (xcy X 13, sN σ p, .inl (fun _ => 0)))] := by
    rw [wl_app, e1, ad1_s, ce_i (show sK (stA σ p _) p = 13 from hk), show sA (stA σ p (fun _ => 0)) p = (fun _ => 0) from up1_s]
  have k := kk (ad1 ad p q) H1 locs la (by rw [e2]; exact hP1) (by rw [e2]; exact hD1) hS1 (fun r hr => ⟨List.mem_append_left _ (hq r hr).1, by rw [ad1_n (fun (z : r = p) => hn.1 (z ▸ (hq r hr).1))]; exact (hq r hr).2⟩) (by rw [lsT_ad hn.1 hls]; exact hl)
  have e3 : (Value.ref p :: st).map (pv (ad1 ad p q)) = .ref q :: st.map (pv ad) := by
    rw [List.map_cons, stT_ad hn.1 hst]; show Value.ref (ad1 ad p q p) :: _ = _; rw [ad1_s]
  rw [e3] at k
  exact k
theorem a_newz (F : Fx X cc own nL d mc ms) {p : Nat} {n : Int32} (hk : sK σ p = 15) (hn : noR σ pl p) (h1 : Cond.arrayClass .boolean ∈ lwG) (hp : ¬ n < 0) (hN : n.toNatClampNeg = sN σ p) (hb : sN σ p * 4 ≤ 536870912) (hd : decode cc pc = .ok (.newarray .boolean, 2)) (hc : k1 + 1 ≤ mc) (hs : k2 + sN σ p ≤ ms)
    (hls : ∀ x ∈ ls, ∀ p, x.2 = .ref p → p ∈ pl) (hst : ∀ v ∈ st, ∀ p, v = .ref p → p ∈ pl)
    (kk : WA X (stA σ p (fun _ => 0)) (pl ++ [p]) (k1 + 1) (k2 + sN σ p) (pc + 2) ls (.ref p :: st)) : WA X σ pl k1 k2 pc ls (.int n :: st) := by
  intro ad H locs la hP hD hS hq hl
  refine va_newa (atype := .boolean) (ty := .boolean) (a0 := (sN σ p, .inl (fun _ => 0))) F.x F.b (F.t _ h1) rfl F.k hP hD hS F.a (fun cA => rfl) hp hN (by show sN σ p * 1 ≤ _; omega) (by rw [F.r]; exact hc) (by rw [F.r]; exact hs) hd (fun q cA H1 hK1 hP1 hD1 hS1 => ?_)
  have hcA := cA_eq (t0 := 2) F.k hK1 rfl
  subst hcA
  have e1 : wl (xcy X) (ad1 ad p q) (stA σ p (fun _ => 0)) pl = wl (xcy X) ad σ pl := wl_ad hn (fun q hq ad' => ce_stA hq)
  have e2 : wl (xcy X) (ad1 ad p q) (stA σ p (fun _ => 0)) (pl ++ [p]) = wl (xcy X) ad σ pl ++ [(q, .inl (xcy X 15, sN σ p, .inl (fun _ => 0)))] := by
    rw [wl_app, e1, ad1_s, ce_z (show sK (stA σ p _) p = 15 from hk), show sA (stA σ p (fun _ => 0)) p = (fun _ => 0) from up1_s]
  have k := kk (ad1 ad p q) H1 locs la (by rw [e2]; exact hP1) (by rw [e2]; exact hD1) hS1 (fun r hr => ⟨List.mem_append_left _ (hq r hr).1, by rw [ad1_n (fun (z : r = p) => hn.1 (z ▸ (hq r hr).1))]; exact (hq r hr).2⟩) (by rw [lsT_ad hn.1 hls]; exact hl)
  have e3 : (Value.ref p :: st).map (pv (ad1 ad p q)) = .ref q :: st.map (pv ad) := by
    rw [List.map_cons, stT_ad hn.1 hst]; show Value.ref (ad1 ad p q p) :: _ = _; rw [ad1_s]
  rw [e3] at k
  exact k
theorem a_newl (F : Fx X cc own nL d mc ms) {p : Nat} {n : Int32} (hk : sK σ p = 14) (hn : noR σ pl p) (h1 : Cond.arrayClass .long ∈ lwG) (hp : ¬ n < 0) (hN : n.toNatClampNeg = sN σ p) (hb : sN σ p * 8 ≤ 536870912) (hd : decode cc pc = .ok (.newarray .long, 2)) (hc : k1 + 1 ≤ mc) (hs : k2 + sN σ p ≤ ms)
    (hls : ∀ x ∈ ls, ∀ p, x.2 = .ref p → p ∈ pl) (hst : ∀ v ∈ st, ∀ p, v = .ref p → p ∈ pl)
    (kk : WA X (stJ σ p (fun _ => 0)) (pl ++ [p]) (k1 + 1) (k2 + sN σ p) (pc + 2) ls (.ref p :: st)) : WA X σ pl k1 k2 pc ls (.int n :: st) := by
  intro ad H locs la hP hD hS hq hl
  refine va_newa (atype := .long) (ty := .long) (a0 := (sN σ p, .inr (.inl (fun _ => 0)))) F.x F.b (F.t _ h1) rfl F.k hP hD hS F.a (fun cA => rfl) hp hN hb (by rw [F.r]; exact hc) (by rw [F.r]; exact hs) hd (fun q cA H1 hK1 hP1 hD1 hS1 => ?_)
  have hcA := cA_eq (t0 := 1) F.k hK1 rfl
  subst hcA
  have e1 : wl (xcy X) (ad1 ad p q) (stJ σ p (fun _ => 0)) pl = wl (xcy X) ad σ pl := wl_ad hn (fun q hq ad' => ce_stJ hq)
  have e2 : wl (xcy X) (ad1 ad p q) (stJ σ p (fun _ => 0)) (pl ++ [p]) = wl (xcy X) ad σ pl ++ [(q, .inl (xcy X 14, sN σ p, .inr (.inl (fun _ => 0))))] := by
    rw [wl_app, e1, ad1_s, ce_j (show sK (stJ σ p _) p = 14 from hk), show sJ (stJ σ p (fun _ => 0)) p = (fun _ => 0) from up1_s]
  have k := kk (ad1 ad p q) H1 locs la (by rw [e2]; exact hP1) (by rw [e2]; exact hD1) hS1 (fun r hr => ⟨List.mem_append_left _ (hq r hr).1, by rw [ad1_n (fun (z : r = p) => hn.1 (z ▸ (hq r hr).1))]; exact (hq r hr).2⟩) (by rw [lsT_ad hn.1 hls]; exact hl)
  have e3 : (Value.ref p :: st).map (pv (ad1 ad p q)) = .ref q :: st.map (pv ad) := by
    rw [List.map_cons, stT_ad hn.1 hst]; show Value.ref (ad1 ad p q p) :: _ = _; rw [ad1_s]
  rw [e3] at k
  exact k
theorem a_newq (F : Fx X cc own nL d mc ms) {index ci p : Nat} {n : Int32} (hci : ci = 0 ∨ ci = 7) (hk : sK σ p = if ci = 0 then 16 else 17) (hn : noR σ pl p) (h1 : Cond.classLink own index (RR ci) ∈ lwG) (h2 : va_AO (RR ci) (xs X)) (hp : ¬ n < 0) (hN : n.toNatClampNeg = sN σ p) (hb : sN σ p * 4 ≤ 536870912) (hd : decode cc pc = .ok (.anewarray index, 3)) (hc : k1 + 1 ≤ mc) (hs : k2 + sN σ p ≤ ms)
    (hls : ∀ x ∈ ls, ∀ p, x.2 = .ref p → p ∈ pl) (hst : ∀ v ∈ st, ∀ p, v = .ref p → p ∈ pl)
    (kk : WA X (stO σ p (fun _ => none)) (pl ++ [p]) (k1 + 1) (k2 + sN σ p) (pc + 3) ls (.ref p :: st)) : WA X σ pl k1 k2 pc ls (.int n :: st) := by
  intro ad H locs la hP hD hS hq hl
  refine va_newq F.x F.b F.o (F.t _ h1) h2 F.k hP hD hS F.a hp hN hb (by rw [F.r]; exact hc) (by rw [F.r]; exact hs) hd (fun q cA H1 hK1 hP1 hD1 hS1 => ?_)
  have hcA : cA = xcy X (if ci = 0 then 16 else 17) := by
    rcases hci with rfl | rfl
    · exact cA_eq (t0 := 3) F.k hK1 rfl
    · exact cA_eq (t0 := 4) F.k hK1 rfl
  subst hcA
  have e1 : wl (xcy X) (ad1 ad p q) (stO σ p (fun _ => none)) pl = wl (xcy X) ad σ pl := wl_ad hn (fun q hq ad' => ce_stO hq)
  have e2 : wl (xcy X) (ad1 ad p q) (stO σ p (fun _ => none)) (pl ++ [p]) = wl (xcy X) ad σ pl ++ [(q, .inl (xcy X (if ci = 0 then 16 else 17), sN σ p, .inr (.inr (.inr (.inr (fun _ => none))))))] := by
    rw [wl_app, e1, ad1_s, ce_q (show sK (stO σ p _) p = _ from hk) (by rcases hci with rfl | rfl <;> decide), show sO (stO σ p (fun _ => none)) p = (fun _ => none) from up1_s]; rfl
  have k := kk (ad1 ad p q) H1 locs la (by rw [e2]; exact hP1) (by rw [e2]; exact hD1) hS1 (fun r hr => ⟨List.mem_append_left _ (hq r hr).1, by rw [ad1_n (fun (z : r = p) => hn.1 (z ▸ (hq r hr).1))]; exact (hq r hr).2⟩) (by rw [lsT_ad hn.1 hls]; exact hl)
  have e3 : (Value.ref p :: st).map (pv (ad1 ad p q)) = .ref q :: st.map (pv ad) := by
    rw [List.map_cons, stT_ad hn.1 hst]; show Value.ref (ad1 ad p q p) :: _ = _; rw [ad1_s]
  rw [e3] at k
  exact k
theorem a_objI (F : Fx X cc own nL d mc ms) {idx b : Nat} (h1 : Cond.methodLink own idx Lib.objectInit ∈ lwG) (h2 : Cond.instanceMethod Lib.objectInit ∈ lwG) (h3 : Cond.code Lib.objectInit ⟨#[0xb1]⟩ 1 none ∈ lwG) (hd0 : 1 ≤ d) (hd : decode cc pc = .ok (.invokespecial idx, 3)) (hcat : (st.map fun v => v.category).sum ≤ 8)
    (kk : WA X σ pl k1 k2 (pc + 3) ls st) : WA X σ pl k1 k2 pc ls (.ref b :: st) := by
  intro ad H locs la hP hD hS hq hl
  refine W.objInit F.x F.b F.o (F.t _ h1) (F.t _ h2) (F.t _ h3) rfl hl.1 (a := ad b) (rest := st.map (pv ad)) rfl hd (by rw [F.r]; show 1 ≤ 16 * d; omega) ?_ (kk ad H locs la hP hD hS hq hl)
  have e : ((st.map (pv ad)).map fun v => v.category).sum = (st.map fun v => v.category).sum := by
    rw [List.map_map]; exact congrArg List.sum (List.map_congr_left (fun v _ => pv_cat ad v))
  rw [F.r]
  show 2 * 0 + ((st.map (pv ad)).map fun v => v.category).sum + 12 ≤ 128 * d
  omega
theorem a_aldR (F : Fx X cc own nL d mc ms) {p c b : Nat} {i : Int32} (hp : p ∈ pl) (hk : sK σ p = c) (hc : c = 16 ∨ c = 17) (hin : vp_in i (sN σ p)) (hv : sO σ p i.toNatClampNeg = some b) (hd : decode cc pc = .ok (.aaload, 1))
    (kk : WA X σ pl k1 k2 (pc + 1) ls (.ref b :: st)) : WA X σ pl k1 k2 pc ls (.int i :: .ref p :: st) := by
  intro ad H locs la hP hD hS hq hl
  obtain ⟨j, hj, hw⟩ := wl_get (cy := xcy X) (ad := ad) (σ := σ) hp
  rw [ce_q hk (by omega)] at hw
  have k := kk ad H locs la hP hD hS hq hl
  rcases hc with rfl | rfl
  · refine va_aldq F.x F.b F.k hP j 3 hw rfl hin hd ?_
    rw [hv]; exact k
  · refine va_aldq F.x F.b F.k hP j 4 hw rfl hin hd ?_
    rw [hv]; exact k
theorem a_aldN (F : Fx X cc own nL d mc ms) {p c : Nat} {i : Int32} (hp : p ∈ pl) (hk : sK σ p = c) (hc : c = 16 ∨ c = 17) (hin : vp_in i (sN σ p)) (hv : sO σ p i.toNatClampNeg = none) (hd : decode cc pc = .ok (.aaload, 1))
    (kk : WA X σ pl k1 k2 (pc + 1) ls (.null :: st)) : WA X σ pl k1 k2 pc ls (.int i :: .ref p :: st) := by
  intro ad H locs la hP hD hS hq hl
  obtain ⟨j, hj, hw⟩ := wl_get (cy := xcy X) (ad := ad) (σ := σ) hp
  rw [ce_q hk (by omega)] at hw
  have k := kk ad H locs la hP hD hS hq hl
  rcases hc with rfl | rfl
  · refine va_aldq F.x F.b F.k hP j 3 hw rfl hin hd ?_
    rw [hv]; exact k
  · refine va_aldq F.x F.b F.k hP j 4 hw rfl hin hd ?_
    rw [hv]; exact k
theorem a_astR (F : Fx X cc own nL d mc ms) {p c b ci : Nat} {i : Int32} (hp : p ∈ pl) (hk : sK σ p = c) (hc : (c = 16 ∧ ci = 0) ∨ (c = 17 ∧ ci = 7)) (hb : b ∈ pl) (hkb : sK σ b = ci) (hin : vp_in i (sN σ p)) (hd : decode cc pc = .ok (.aastore, 1))
    (kk : WA X (stO σ p (va_up (sO σ p) i.toNatClampNeg (some b))) pl k1 k2 (pc + 1) ls st) : WA X σ pl k1 k2 pc ls (.ref b :: .int i :: .ref p :: st) := by
  intro ad H locs la hP hD hS hq hl
  obtain ⟨j, hj, hw⟩ := wl_get (cy := xcy X) (ad := ad) (σ := σ) hp
  obtain ⟨jb, hjb, hwb⟩ := wl_get (cy := xcy X) (ad := ad) (σ := σ) hb
  rw [ce_q hk (by omega)] at hw
  have hci : ci < 13 := by omega
  rw [ce_o hkb hci] at hwb
  have fin : ∀ (H1 : Heap) (locs1 : List Loc), va_P (xD X) vwCl ((wl (xcy X) ad σ pl).set j (ad p, .inl (xcy X c, sN σ p, .inr (.inr (.inr (.inr (va_up (fun i => (sO σ p i).map ad) i.toNatClampNeg (some (ad b))))))))) H1 → va_D (xA X) ((wl (xcy X) ad σ pl).set j (ad p, .inl (xcy X c, sN σ p, .inr (.inr (.inr (.inr (va_up (fun i => (sO σ p i).map ad) i.toNatClampNeg (some (ad b))))))))) → va_S (xA X) (xs X).heap H1 locs1 → WX X H1 locs1 k1 k2 (xQ X) (F0 (xm X) (pc + 1) la (st.map (pv ad))) := fun H1 locs1 hP1 hD1 hS1 => by
    have e9 : (fun k => (va_up (sO σ p) i.toNatClampNeg (some b) k).map ad) = va_up (fun i => (sO σ p i).map ad) i.toNatClampNeg (some (ad b)) := by
      funext k; unfold va_up; by_cases c9 : k = i.toNatClampNeg
      · rw [if_pos c9, if_pos c9]; rfl
      · rw [if_neg c9, if_neg c9]
    have e := wl_set (cy := xcy X) (ad := ad) (σ' := stO σ p (va_up (sO σ p) i.toNatClampNeg (some b))) hD hj (by rw [ce_q (show sK (stO σ p _) p = c from hk) (by omega), show sO (stO σ p (va_up (sO σ p) i.toNatClampNeg (some b))) p = _ from up1_s]) (fun q h => ce_stO h)
    rw [show sN (stO σ p (va_up (sO σ p) i.toNatClampNeg (some b))) p = sN σ p from rfl, e9] at e
    rw [e] at hP1 hD1
    exact kk ad H1 locs1 la hP1 hD1 hS1 hq hl
  rcases hc with ⟨rfl, rfl⟩ | ⟨rfl, rfl⟩
  · exact va_astq F.x F.b F.k hP hD hS j 3 jb 0 hw rfl hwb (vw_at hci) hin hd fin
  · exact va_astq F.x F.b F.k hP hD hS j 4 jb 7 hw rfl hwb (vw_at hci) hin hd fin
end
