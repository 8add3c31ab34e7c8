/-! CONTRACTS BY PLACES -/
def cPre (D : va_G) (cy : Nat → ClassId) (sz : Nat) (ad : Nat → Nat) (σ : HS) (pl : List Nat) (avs : List Value) : Array Value → State → Prop := va_Pc (avs.map (pv ad)) (fun U => U.heap.size = sz ∧ va_P D vwCl (wl cy ad σ pl) U.heap ∧ va_K D vwCl (tyL cy) U ∧ va_D (fun _ => True) (wl cy ad σ pl))
def cPost (D : va_G) (cy : Nat → ClassId) (sz : Nat) (ad : Nat → Nat) (σ : HS) (pl : List Nat) (Φ : Option Value → HS → List Nat → Prop) : Array Value → State → Outcome → State → Prop := fun _ st oc t =>
  (∃ (r : Option Value) (σ' : HS) (pl' : List Nat) (ad' : Nat → Nat), oc = .returned (r.map (pv ad')) ∧ Φ r σ' pl' ∧ (∀ q, q ∈ pl → q ∈ pl' ∧ ad' q = ad q) ∧ va_P D vwCl (wl cy ad' σ' pl') t.heap ∧ va_K D vwCl (tyL cy) t ∧ va_D (va_A (wl cy ad σ pl) sz) (wl cy ad' σ' pl')) ∧ va_F (va_A (wl cy ad σ pl) sz) st t
/-- method y, at depth d, on these values in this state: it returns, and Φ holds of the answer and the state then -/
def Con (l : Launch) (d : Nat) (y : MethodName) (cc : ByteArray) (nL : Nat) (ret : Option FieldType) (avs : List Value) (σ : HS) (pl : List Nat) (mc ms : Nat) (Φ : Option Value → HS → List Nat → Prop) : Prop :=
  ∀ (D : va_G) (cy : Nat → ClassId) (sz : Nat) (ad : Nat → Nat), Met l y (Cond.code y cc nL ret :: lwG) (rmD d mc ms) (cPre D cy sz ad σ pl avs) (cPost D cy sz ad σ pl Φ) mc ms (va_A (wl cy ad σ pl) sz)
/-- how a walk may end -/
def Ex (X : Ctx) (ret : Option FieldType) (mc ms : Nat) (Φ : Option Value → HS → List Nat → Prop) : Prop :=
  (xmeth X).sig.returnType = ret ∧ xA X = va_A (wl (xcy X) (xad X) (xσ X) (xpl X)) (xs X).heap.size ∧
  ∀ (H : Heap) (locs : List Loc) (k1 k2 : Nat) (g : JFrame), WX X H locs k1 k2 (MQ (xbelow X) (cPost (xD X) (xcy X) (xs X).heap.size (xad X) (xσ X) (xpl X) Φ) (xargs X) (xs X) mc ms (xA X)) g → WX X H locs k1 k2 (xQ X) g
theorem lv_argsT (ad : Nat → Nat) : ∀ (avs : List Value) (i : Nat), lv_args i (avs.map (pv ad)) = lsT ad (lv_args i avs)
  | [], i => rfl
  | v :: t, i => by
    show (i, pv ad v) :: lv_args (if (pv ad v).category = 2 then i + 2 else i + 1) (t.map (pv ad)) = lsT ad ((i, v) :: lv_args (if v.category = 2 then i + 2 else i + 1) t)
    rw [pv_cat, lv_argsT ad t]
    rfl
theorem lg_slT (ad : Nat → Nat) : ∀ (avs : List Value), (lg_sl (avs.map (pv ad))).length = (lg_sl avs).length
  | [] => rfl
  | v :: t => by
    have ih := lg_slT ad t
    simp only [lg_sl, List.map_cons, List.flatMap_cons, List.length_append, pv_cat] at ih ⊢
    rw [ih]
    split <;> rfl
theorem Con.of {l : Launch} {d : Nat} {y : MethodName} {cc : ByteArray} {nL : Nat} {ret : Option FieldType} {avs : List Value} {σ : HS} {pl : List Nat} {mc ms : Nat} {Φ : Option Value → HS → List Nat → Prop}
    (hy : plainName y.cls = true) (hn : (lg_sl avs).length ≤ nL)
    (h : ∀ X : Ctx, xl X = l → (xmeth X).name = y.name → Fx X cc y.cls nL d mc ms → Ex X ret mc ms Φ → WA X σ pl 0 0 0 (lv_args 0 avs) []) : Con l d y cc nL ret avs σ pl mc ms Φ := by
  intro D cy sz ad
  refine Met.ofW (cc := cc) (maxL := nL) (ret := ret) hy rfl ?_
  intro p e s m args below meth c s₁ B hml hv
  obtain ⟨rfl, hsz, hP, hK, hD0⟩ := hv
  subst hsz
  have hts := atoms_spec (ws := Cond.code y cc nL ret :: lwG) B.pre
  have hD := hD0.self (sz := s.heap.size)
  have k := h (p, l, e, rmD d mc ms, s, m, (avs.map (pv ad)).toArray, below, meth, c, D, cy, va_A (wl cy ad σ pl) s.heap.size, σ, pl, ad, MQ below (cPost D cy s.heap.size ad σ pl Φ) (avs.map (pv ad)).toArray s mc ms (va_A (wl cy ad σ pl) s.heap.size)) rfl (name_of_methodNamed B.named B.method).1
    ⟨B.exec, B.bytes, hml, findClass_of_methodNamed B.named, fun w hw => hts w (List.mem_cons_of_mem _ hw), hK, fun q hq => Or.inr hq, B.notSynchronized, rfl⟩
    ⟨B.returns, rfl, fun _ _ _ _ _ z => z⟩
  rw [lg_entry_eq]
  refine k ad s.heap [] _ hP hD va_S.rf (fun q hq => ⟨hq, rfl⟩) ?_
  show lv_has _ c.maxLocals _
  rw [hml, ← lv_argsT]
  exact lv_entry _ (by rw [lg_slT]; exact hn)
section
variable {X : Ctx} {cc : ByteArray} {own : String} {nL d mc ms : Nat} {σ : HS} {pl : List Nat} {k1 k2 pc : Nat} {ls ls' : List (Nat × Value)} {st : List Value} {Φ : Option Value → HS → List Nat → Prop}
theorem cEnd {ret : Option FieldType} (E : Ex X ret mc ms Φ) (F : Fx X cc own nL d mc ms) {ad : Nat → Nat} {H : Heap} {locs : List Loc} {r : Option Value} (hΦ : Φ r σ pl) (hP : va_P (xD X) vwCl (wl (xcy X) ad σ pl) H) (hD : va_D (xA X) (wl (xcy X) ad σ pl)) (hS : va_S (xA X) (xs X).heap H locs) (hq : ∀ q, q ∈ xpl X → q ∈ pl ∧ ad q = xad X q) (t : State) (ht : t.heap = H) (hW : (xs X).WarmedH t.vm) :
    cPost (xD X) (xcy X) (xs X).heap.size (xad X) (xσ X) (xpl X) Φ (xargs X) (xs X) (.returned (r.map (pv ad))) t := by
  refine ⟨⟨r, σ, pl, ad, rfl, hΦ, hq, by rw [ht]; exact hP, va_K.moved hW.alike F.k, ?_⟩, ?_⟩
  · rw [← E.2.1]; exact hD
  · rw [← E.2.1]; exact hS.F ht
theorem a_iret (F : Fx X cc own nL d mc ms) (E : Ex X (some .int) mc ms Φ) {v : Int32} (hd : decode cc pc = .ok (.ireturn, 1)) (h1 : k1 ≤ mc) (h2 : k2 ≤ ms) (hΦ : Φ (some (.int v)) σ pl) : WA X σ pl k1 k2 pc ls [.int v] := by
  intro ad H locs la hP hD hS hq hl
  refine E.2.2 _ _ _ _ _ (W.widen h1 h2 ?_)
  exact W.iret F.x F.b E.1 (fun t ht hW => cEnd E F hΦ hP hD hS hq t ht hW) hS.2.2 hd F.lk
theorem a_zret (F : Fx X cc own nL d mc ms) (E : Ex X (some .boolean) mc ms Φ) {v : Int32} (hv : v = 0 ∨ v = 1) (hd : decode cc pc = .ok (.ireturn, 1)) (h1 : k1 ≤ mc) (h2 : k2 ≤ ms) (hΦ : Φ (some (.int v)) σ pl) : WA X σ pl k1 k2 pc ls [.int v] := by
  intro ad H locs la hP hD hS hq hl
  refine E.2.2 _ _ _ _ _ (W.widen h1 h2 ?_)
  exact W.zret F.x F.b E.1 (by rcases hv with rfl | rfl <;> decide +kernel) (fun t ht hW => cEnd E F hΦ hP hD hS hq t ht hW) hS.2.2 hd F.lk
theorem a_lret (F : Fx X cc own nL d mc ms) (E : Ex X (some .long) mc ms Φ) {v : Int64} (hd : decode cc pc = .ok (.lreturn, 1)) (h1 : k1 ≤ mc) (h2 : k2 ≤ ms) (hΦ : Φ (some (.long v)) σ pl) : WA X σ pl k1 k2 pc ls [.long v] := by
  intro ad H locs la hP hD hS hq hl
  refine E.2.2 _ _ _ _ _ (W.widen h1 h2 ?_)
  exact W.lret F.x F.b E.1 (fun t ht hW => cEnd E F hΦ hP hD hS hq t ht hW) hS.2.2 hd F.lk
theorem a_vret (F : Fx X cc own nL d mc ms) (E : Ex X none mc ms Φ) (hd : decode cc pc = .ok (.return_, 1)) (h1 : k1 ≤ mc) (h2 : k2 ≤ ms) (hΦ : Φ none σ pl) : WA X σ pl k1 k2 pc ls [] := by
  intro ad H locs la hP hD hS hq hl
  refine E.2.2 _ _ _ _ _ (W.widen h1 h2 ?_)
  exact W.vret F.x F.b E.1 (fun t ht hW => cEnd E F hΦ hP hD hS hq t ht hW) hS.2.2 hd F.lk
theorem a_aret (F : Fx X cc own nL d mc ms) {rt : FieldType} (E : Ex X (some rt) mc ms Φ) (hrt : (∃ n, rt = .object n) ∨ ∃ t, rt = .array t) {b : Nat} (hd : decode cc pc = .ok (.areturn, 1)) (h1 : k1 ≤ mc) (h2 : k2 ≤ ms) (hΦ : Φ (some (.ref b)) σ pl) : WA X σ pl k1 k2 pc ls [.ref b] := by
  intro ad H locs la hP hD hS hq hl
  refine E.2.2 _ _ _ _ _ (W.widen h1 h2 ?_)
  exact W.aret F.x F.b E.1 hrt (Or.inr ⟨_, rfl⟩) (fun t ht hW => cEnd (r := some (.ref b)) E F hΦ hP hD hS hq t ht hW) hS.2.2 hd F.lk
theorem a_aretN (F : Fx X cc own nL d mc ms) {rt : FieldType} (E : Ex X (some rt) mc ms Φ) (hrt : (∃ n, rt = .object n) ∨ ∃ t, rt = .array t) (hd : decode cc pc = .ok (.areturn, 1)) (h1 : k1 ≤ mc) (h2 : k2 ≤ ms) (hΦ : Φ (some .null) σ pl) : WA X σ pl k1 k2 pc ls [.null] := by
  intro ad H locs la hP hD hS hq hl
  refine E.2.2 _ _ _ _ _ (W.widen h1 h2 ?_)
  exact W.aret F.x F.b E.1 hrt (Or.inl rfl) (fun t ht hW => cEnd (r := some .null) E F hΦ hP hD hS hq t ht hW) hS.2.2 hd F.lk
/-- the words of a call: its link, the callee's code, its class made ready -/
def ML (own : String) (index : Nat) (y : MethodName) (cy : ByteArray) (nLy : Nat) (ret : Option FieldType) (n : Nat) : Prop :=
  Cond.methodLink own index y ∈ lwG ∧ Cond.code y cy nLy ret ∈ lwG ∧ Cond.initialized y.cls ∈ lwG ∧ nLy ≤ 40 ∧ (y.cls ≠ "java/lang/invoke/MethodHandle" ∧ y.cls ≠ "java/lang/invoke/VarHandle") ∧ (parseMethodDescriptor y.desc).map (fun d => d.parameters.length) = some n
theorem cBlind {D : va_G} {cy : Nat → ClassId} {sz : Nat} {ad : Nat → Nat} {avs : List Value} : FrameBlind (cPre D cy sz ad σ pl avs) := by
  intro a U g mk q
  obtain ⟨q0, q1, qP, qK, qD⟩ := q
  exact ⟨q0, q1, qP, va_K.moved (u := U) (U := U.calling g mk a) (Vm.Alike.refl U.vm) qK, qD⟩
theorem cFree {ad : Nat → Nat} {H : Heap} {locs : List Loc} (F : Fx X cc own nL d mc ms) (hD : va_D (xA X) (wl (xcy X) ad σ pl)) (hS : va_S (xA X) (xs X).heap H locs) : ∀ q, va_A (wl (xcy X) ad σ pl) H.size q → xA X q := by
  intro q h
  rcases h with ⟨k, e, h⟩ | h
  · exact hD.2 k _ h
  · exact F.a q (Nat.le_trans hS.1 h)
theorem cCallB (F : Fx X cc own nL d mc ms) {y : MethodName} {cy : ByteArray} {nLy index n d' mc' ms' : Nat} {rt : Option FieldType} (L : ML own index y cy nLy rt n) (hdd : d' < d) : CallB (xR X) (xs X) (xargs X) own index y cy nLy rt (Cond.code y cy nLy rt :: lwG) (rmD d' mc' ms') mc' ms' n := by
  refine ⟨rfl, rfl, ?_, ?_, ?_, List.mem_cons_self, F.t _ L.2.1, F.t _ L.2.2.1, L.2.2.2.2.1, ?_, F.t _ L.1⟩
  · rw [F.r]; show 16 * d' + 1 ≤ 16 * d; omega
  · rw [F.r]; show 8 + (nLy + 11) + 128 * d' ≤ 128 * d; have := L.2.2.2.1; omega
  · refine pay_in F.t (fun w hw => ?_)
    rcases List.mem_cons.mp hw with rfl | h
    · exact lwG_good _ L.2.1
    · exact lwG_good _ h
  · intro sig h
    have h2 := L.2.2.2.2.2
    rw [h] at h2
    exact (Option.some.inj h2).symm
/-- behind a call: what the callee's contract says -/
theorem cBack (F : Fx X cc own nL d mc ms) {ad : Nat → Nat} {H : Heap} {locs : List Loc} {la : Array Slot} {mc' ms' : Nat} {st0 : List Value} {a : Array Value} {Ψ : Option Value → HS → List Nat → Prop}
    (hr : va_Run (xp X) (xl X) (xe X) (xR X) (xs X) (xm X) (xargs X) (xbelow X) (xmeth X) (xc X) H locs k1 k2 mc' ms' (F0 (xm X) pc la st0) (st.map (pv ad)) (cPost (xD X) (xcy X) H.size ad σ pl Ψ a) (va_A (wl (xcy X) ad σ pl) H.size))
    (hD : va_D (xA X) (wl (xcy X) ad σ pl)) (hS : va_S (xA X) (xs X).heap H locs) (hq : ∀ q, q ∈ xpl X → q ∈ pl ∧ ad q = xad X q) (hl : lv_has la (xc X).maxLocals (lsT ad ls))
    (hls : ∀ x ∈ ls, ∀ p, x.2 = .ref p → p ∈ pl) (hst : ∀ v ∈ st, ∀ p, v = .ref p → p ∈ pl)
    (kk : ∀ r σ' pl', Ψ r σ' pl' → (∀ q, q ∈ pl → q ∈ pl') → WA X σ' pl' (k1 + mc') (k2 + ms') (pc + 3) ls (r.toList ++ st)) : WX X H locs k1 k2 (xQ X) (F0 (xm X) pc la st0) := by
  intro T hT Y
  obtain ⟨v, st₀, t, T', L, h0, Y', hL, e1, e2, ⟨⟨r, σ', pl', ad', hv, hΨ, hag, hP1, hK1, hD1⟩, hz, hk⟩, go⟩ := hr T hT Y
  have hv : v = r.map (pv ad') := by injection hv
  subst hv
  rw [h0] at hz hk
  have hF := cFree F hD hS
  have hls' : lsT ad' ls = lsT ad ls := List.map_congr_left (fun x hx => by
    have hx2 := hls x hx
    obtain ⟨i, v⟩ := x
    cases v with
    | ref p => show (i, Value.ref (ad' p)) = (i, Value.ref (ad p)); rw [(hag p (hx2 p rfl)).2]
    | _ => rfl)
  have hst' : st.map (pv ad') = st.map (pv ad) := List.map_congr_left (fun x hx => by
    have hx2 := hst x hx
    cases x with
    | ref p => show Value.ref (ad' p) = Value.ref (ad p); rw [(hag p (hx2 p rfl)).2]
    | _ => rfl)
  obtain ⟨t2, a1, b1⟩ := kk r σ' pl' hΨ (fun q h => (hag q h).1) ad' T'.heap (locs ++ L) la (by rw [e1]; exact hP1) (hD1.weaken (fun _ _ _ h => hF _ h))
    ⟨Nat.le_trans hS.1 (by rw [e1]; exact hz), fun q h1 h2 => by rw [e1, hk q (Nat.lt_of_lt_of_le h1 hS.1) (fun z => h2 (hF q z))]; exact hS.2.1 q h1 h2, fun q hq => by
      rcases List.mem_append.mp hq with h | h
      · exact hS.2.2 q h
      · exact hF _ (hL q h)⟩
    (fun q h => ⟨(hag q (hq q h).1).1, (hag q (hq q h).1).2.trans (hq q h).2⟩) (by rw [hls']; exact hl) T' rfl Y'
  refine ⟨t2, go t2 ?_, b1⟩
  have e3 : (r.toList ++ st).map (pv ad') = (r.map (pv ad')).toList ++ st.map (pv ad) := by
    rw [List.map_append, hst']; cases r <;> rfl
  rw [e3] at a1
  exact a1
theorem a_callV (F : Fx X cc own nL d mc ms) {y : MethodName} {cy : ByteArray} {nLy index n d' mc' ms' ci b : Nat} {rt : Option FieldType} {As : List Value} {Ψ : Option Value → HS → List Nat → Prop} (C : Con (xl X) d' y cy nLy rt (.ref b :: As) σ pl mc' ms' Ψ) (L : ML own index y cy nLy rt n) (hi : Cond.instanceMethod y ∈ lwG) (hse : Cond.selects y.cls y y ∈ lwG) (hdd : d' < d)
    (hci : ci < 13) (hcl : RR ci = y.cls) (hb : b ∈ pl) (hk : sK σ b = ci) (hA : As.length = n) (hd : decode cc pc = .ok (.invokevirtual index, 3)) (hcat : (st.map fun v => v.category).sum ≤ 8) (hc : k1 + mc' ≤ mc) (hs : k2 + ms' ≤ ms)
    (hls : ∀ x ∈ ls, ∀ p, x.2 = .ref p → p ∈ pl) (hst : ∀ v ∈ st, ∀ p, v = .ref p → p ∈ pl)
    (kk : ∀ r σ' pl', Ψ r σ' pl' → (∀ q, q ∈ pl → q ∈ pl') → WA X σ' pl' (k1 + mc') (k2 + ms') (pc + 3) ls (r.toList ++ st)) : WA X σ pl k1 k2 pc ls (As.reverse ++ .ref b :: st) := by
  intro ad H locs la hP hD hS hq hl
  obtain ⟨i, hi2, hw⟩ := wl_get (cy := xcy X) (ad := ad) (σ := σ) hb
  rw [ce_o hk hci] at hw
  refine cBack F (va_runV (As := As.map (pv ad)) (rest := st.map (pv ad)) (b := ad b) (C := y.cls) ⟨F.x, F.b, F.l, F.o, F.t⟩ (C (xD X) (xcy X) H.size ad) ⟨cCallB F L hdd, F.t _ hi, F.t _ hse⟩ ⟨cBlind, ?_, fun U hU hW => ⟨rfl, by rw [hU], by rw [hU]; exact hP, va_K.moved hW.alike F.k, hD.weaken (fun _ _ _ _ => trivial)⟩⟩ rfl (by rw [List.length_map]; exact hA) (by rw [← F.l]; exact hl.1) (by simp [List.map_reverse, pv]) ?_ hd (by rw [F.r]; exact ⟨hc, hs⟩)) hD hS hq hl hls hst kk
  · have := va_recv F.k hP (vw_at hci) hw
    rw [hcl] at this
    exact this
  · refine lv_room ?_
    rw [List.map_map]
    exact Nat.le_trans (Nat.le_of_eq (congrArg List.sum (List.map_congr_left (fun v _ => pv_cat ad v)))) hcat
theorem a_callS (F : Fx X cc own nL d mc ms) {y : MethodName} {cy : ByteArray} {nLy index n d' mc' ms' : Nat} {rt : Option FieldType} {As : List Value} {Ψ : Option Value → HS → List Nat → Prop} (C : Con (xl X) d' y cy nLy rt As σ pl mc' ms' Ψ) (L : ML own index y cy nLy rt n) (hsta : Cond.static y ∈ lwG) (hdd : d' < d)
    (hA : As.length = n) (hd : decode cc pc = .ok (.invokestatic index, 3)) (hcat : (st.map fun v => v.category).sum ≤ 8) (hc : k1 + mc' ≤ mc) (hs : k2 + ms' ≤ ms)
    (hls : ∀ x ∈ ls, ∀ p, x.2 = .ref p → p ∈ pl) (hst : ∀ v ∈ st, ∀ p, v = .ref p → p ∈ pl)
    (kk : ∀ r σ' pl', Ψ r σ' pl' → (∀ q, q ∈ pl → q ∈ pl') → WA X σ' pl' (k1 + mc') (k2 + ms') (pc + 3) ls (r.toList ++ st)) : WA X σ pl k1 k2 pc ls (As.reverse ++ st) := by
  intro ad H locs la hP hD hS hq hl
  refine cBack F (va_runS (As := As.map (pv ad)) (rest := st.map (pv ad)) ⟨F.x, F.b, F.l, F.o, F.t⟩ (C (xD X) (xcy X) H.size ad) ⟨cCallB F L hdd, F.t _ hsta⟩ ⟨cBlind, fun U hU hW => ⟨rfl, by rw [hU], by rw [hU]; exact hP, va_K.moved hW.alike F.k, hD.weaken (fun _ _ _ _ => trivial)⟩⟩ rfl (by rw [List.length_map]; exact hA) (by rw [← F.l]; exact hl.1) (by simp [List.map_reverse]) ?_ hd (by rw [F.r]; exact ⟨hc, hs⟩)) hD hS hq hl hls hst kk
  refine lv_room ?_
  rw [List.map_map]
  exact Nat.le_trans (Nat.le_of_eq (congrArg List.sum (List.map_congr_left (fun v _ => pv_cat ad v)))) hcat
end
