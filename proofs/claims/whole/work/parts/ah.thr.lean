/-! CONTRACTS OF METHODS THAT MAY THROW -/
def xPost (D : va_G) (cy : Nat → ClassId) (sz : Nat) (ad : Nat → Nat) (σ : HS) (pl : List Nat) (Ψ : String → HS → List Nat → Prop) : String → State → State → Prop := fun E st t =>
  (∃ (σ' : HS) (pl' : List Nat) (ad' : Nat → Nat), Ψ E σ' pl' ∧ (∀ q, q ∈ pl → q ∈ pl' ∧ ad' q = ad q) ∧ va_P D vwCl (wl cy ad' σ' pl') t.heap ∧ va_K D vwCl (tyL cy) t ∧ va_D (va_A (wl cy ad σ pl) sz) (wl cy ad' σ' pl')) ∧ va_F (va_A (wl cy ad σ pl) sz) st t
def ecL : List String := ["java/lang/IllegalArgumentException", "java/lang/IllegalStateException", "java/lang/IndexOutOfBoundsException", "java/util/NoSuchElementException", "java/lang/UnsupportedOperationException"]
def edL : List String := ["java/lang/RuntimeException", "java/lang/Exception", "java/lang/Throwable"]
/-- words of a throw that a call doesn't hand on by itself -/
def exL : List Cond := ecL.map (fun E => Cond.castable E E) ++ edL.map (fun E => Cond.declares (Bundle.initS E))
def exW (U : State) : Prop := ∀ w ∈ exL, va_Nw w U
theorem exW.warm {s U : State} (hW : s.WarmedH U.vm) (h : exW s) : exW U := fun w hw => by
  have h0 := h w hw
  rcases List.mem_append.mp hw with z | z
  · obtain ⟨E, -, rfl⟩ := List.mem_map.mp z
    exact va_Nw.warmC hW h0
  · obtain ⟨E, -, rfl⟩ := List.mem_map.mp z
    exact va_Nw.warmD hW h0
theorem exW.same {u U : State} (hv : U.vm = u.vm) (h : exW u) : exW U := fun w hw => by
  have h0 := h w hw
  rcases List.mem_append.mp hw with z | z
  · obtain ⟨E, -, rfl⟩ := List.mem_map.mp z
    exact va_Nw.same rfl hv.symm h0
  · obtain ⟨E, -, rfl⟩ := List.mem_map.mp z
    exact va_Nw.same rfl hv.symm h0
def cPreX (D : va_G) (cy : Nat → ClassId) (sz : Nat) (ad : Nat → Nat) (σ : HS) (pl : List Nat) (avs : List Value) : Array Value → State → Prop := fun a U => cPreS D cy sz ad σ pl avs a U ∧ exW U
/-- a method that returns with Φ or throws with Ψ -/
def ConX (l : Launch) (d : Nat) (y : MethodName) (cc : ByteArray) (nL : Nat) (ret : Option FieldType) (avs : List Value) (σ : HS) (pl : List Nat) (mc ms : Nat) (Φ : Option Value → HS → List Nat → Prop) (Ψ : String → HS → List Nat → Prop) : Prop :=
  ∀ (D : va_G) (cy : Nat → ClassId) (sz : Nat) (ad : Nat → Nat), vx_Met l y (Cond.code y cc nL ret :: lwG) (rmD d mc ms) (cPreX D cy sz ad σ pl avs) (cPost D cy sz ad σ pl Φ) (xPost D cy sz ad σ pl Ψ) mc ms (va_A (wl cy ad σ pl) sz)
def SXX (X : Ctx) : Prop := SX X ∧ exW (xs X)
/-- how a walk may throw -/
def Tx (X : Ctx) (mc ms : Nat) (Ψ : String → HS → List Nat → Prop) : Prop := (xl X).stackTraces = false ∧ (∀ x ∈ (xc X).exceptionTable.toList, False) ∧ xA X = va_A (wl (xcy X) (xad X) (xσ X) (xpl X)) (xs X).heap.size ∧
  ∃ Qc, xQ X = vx_MQ (xbelow X) Qc (xPost (xD X) (xcy X) (xs X).heap.size (xad X) (xσ X) (xpl X) Ψ) (xargs X) (xs X) mc ms (xA X)
theorem ConX.of {l : Launch} {d : Nat} {y : MethodName} {cc : ByteArray} {nL : Nat} {ret : Option FieldType} {avs : List Value} {σ : HS} {pl : List Nat} {mc ms : Nat} {Φ : Option Value → HS → List Nat → Prop} {Ψ : String → HS → List Nat → Prop}
    (hst : l.stackTraces = false) (hy : plainName y.cls = true) (hn : (lg_sl avs).length ≤ nL)
    (h : ∀ X : Ctx, xl X = l → (xmeth X).name = y.name → Fx X cc y.cls nL d mc ms → Ex X ret mc ms Φ → SXX X → Tx X mc ms Ψ → WA X σ pl 0 0 0 (lv_args 0 avs) []) : ConX l d y cc nL ret avs σ pl mc ms Φ Ψ := by
  intro D cy sz ad
  refine vx_ofW (cc := cc) (maxL := nL) (ret := ret) hy rfl ?_
  intro p e s m args below meth c s₁ B hml htb hv
  obtain ⟨⟨rfl, hsz, hP, hK, hD0, hSW⟩, hEW⟩ := hv
  subst hsz
  have hts := atoms_spec (ws := Cond.code y cc nL ret :: lwG) B.pre
  have hD := hD0.self (sz := s.heap.size)
  have k := h (p, l, e, rmD d mc ms, s, m, (avs.map (pv ad)).toArray, below, meth, c, D, cy, va_A (wl cy ad σ pl) s.heap.size, σ, pl, ad, vx_MQ below (cPost D cy s.heap.size ad σ pl Φ) (xPost D cy s.heap.size ad σ pl Ψ) (avs.map (pv ad)).toArray s mc ms (va_A (wl cy ad σ pl) s.heap.size)) rfl (name_of_methodNamed B.named B.method).1
    ⟨B.exec, B.bytes, hml, findClass_of_methodNamed B.named, fun w hw => hts w (List.mem_cons_of_mem _ hw), hK, fun q hq => Or.inr hq, B.notSynchronized, rfl⟩
    ⟨B.returns, rfl, fun _ _ _ _ _ z => vx_ret z⟩ ⟨hSW, hEW⟩ ⟨hst, htb, rfl, _, rfl⟩
  rw [lg_entry_eq]
  refine k ad s.heap [] _ hP hD va_S.rf (fun q hq => ⟨hq, rfl⟩) ?_
  show lv_has _ c.maxLocals _
  rw [hml, ← lv_argsT]
  exact lv_entry _ (by rw [lg_slT]; exact hn)
section
variable {X : Ctx} {cc : ByteArray} {own : String} {nL d mc ms : Nat} {σ : HS} {pl : List Nat} {k1 k2 pc : Nat} {ls ls' : List (Nat × Value)} {st : List Value} {Φ : Option Value → HS → List Nat → Prop} {Ψx : String → HS → List Nat → Prop}
/-- the end of a throw, in the words of places -/
theorem xEnd (T : Tx X mc ms Ψx) (F : Fx X cc own nL d mc ms) {ad : Nat → Nat} {H : Heap} {locs : List Loc} {E : String} (hΨ : Ψx E σ pl) (hP : va_P (xD X) vwCl (wl (xcy X) ad σ pl) H) (hD : va_D (xA X) (wl (xcy X) ad σ pl)) (hS : va_S (xA X) (xs X).heap H locs) (hq : ∀ q, q ∈ xpl X → q ∈ pl ∧ ad q = xad X q) (t : State) (hv : (xs X).vm.Alike t.vm) (h1 : H.size ≤ t.heap.size) (h2 : ∀ q : Nat, q < H.size → t.heap[q]? = H[q]?) :
    xPost (xD X) (xcy X) (xs X).heap.size (xad X) (xσ X) (xpl X) Ψx E (xs X) t := by
  refine ⟨⟨σ, pl, ad, hΨ, hq, hP.kept (fun k q hk => h2 _ (hP k q hk).lt), va_K.moved hv F.k, ?_⟩, ?_⟩
  · rw [← T.2.2.1]; exact hD
  · rw [← T.2.2.1]; exact ⟨Nat.le_trans hS.1 h1, fun q a b => by rw [h2 q (Nat.lt_of_lt_of_le a hS.1)]; exact hS.2.1 q a b⟩
theorem exU {w : Cond} {U : State} {args : Array Value} (hw : w ∈ exL) (h : va_Nw w U) : w.before args U = true := by
  rcases List.mem_append.mp hw with z | z
  · obtain ⟨E, -, rfl⟩ := List.mem_map.mp z
    exact va_Nw.use rfl h
  · obtain ⟨E, -, rfl⟩ := List.mem_map.mp z
    exact va_Nw.use rfl h
def xnL : List String := ["java/lang/RuntimeException", "java/lang/Exception"]
/-- the words of a throw: class link, its text, its constructor -/
def TW (ik is ic : Nat) (cls text : String) : Prop := Bundle.fit cls = true ∧ Cond.classLink RX11 ik cls ∈ lwG ∧ Cond.initialized cls ∈ lwG ∧ (is, text) ∈ sxL ∧ (∀ w ∈ vx_atS RX11 ic cls xnL, (w ∈ lwG ∨ w ∈ exL) ∧ vx_ot w = true)
theorem a_throwS (F : Fx X cc RX11 nL d mc ms) (S : SXX X) (T : Tx X mc ms Ψx) {ik is ic : Nat} {cls text : String} (L : TW ik is ic cls text) (hd1 : 1 ≤ d)
    (d0 : decode cc pc = .ok (.new ik, 3)) (d3 : decode cc (pc + 3) = .ok (.dup, 1)) (d4 : decode cc (pc + 4) = .ok (.ldc is, 2)) (d6 : decode cc (pc + 6) = .ok (.invokespecial ic, 3)) (d9 : decode cc (pc + 9) = .ok (.athrow, 1))
    (hc : k1 + 1 ≤ mc) (hs : k2 + 6 ≤ ms) (hcat : (st.map fun v => v.category).sum ≤ 8) (hΨ : Ψx cls σ pl) : WA X σ pl k1 k2 pc ls st := by
  intro ad H locs la hP hD hS hq hl
  obtain ⟨Qc, hQ⟩ := T.2.2.2
  obtain ⟨sa, hsa⟩ := S.1.2.2.2.2.2.1 _ L.2.2.2.1
  have ot : ∀ w ∈ lwG, vx_ot w = true := fun w hw => by unfold vx_ot; rw [(List.mem_filter.mp hw).2, Bool.or_true]
  show WX X H locs k1 k2 (xQ X) _
  rw [hQ]
  refine vx_throwS F.x F.b T.1 F.o L.1 (by decide) (F.t _ L.2.1) (F.t _ L.2.2.1) hsa (fun w hw => (L.2.2.2.2 w hw).1.elim (F.t _) (fun z => exU z (S.2 w z))) (fun w hw => ?_) S.1.2.2.2.2.1.1 S.1.2.2.2.2.1.2 hS hl.1 d0 d3 d4 d6 d9 (fun x hx => (T.2.1 x hx).elim) ?_ ?_ (by rw [F.r]; exact hc) (by rw [F.r]; exact hs) F.lk (fun t hv h1 h2 => xEnd T F hΨ hP hD hS hq t hv h1 h2) hS.2.2 hc hs
  · rcases List.mem_cons.mp hw with rfl | hw
    · exact ot _ L.2.1
    · rcases List.mem_cons.mp hw with rfl | hw
      · exact ot _ L.2.2.1
      · exact (L.2.2.2.2 w hw).2
  · rw [F.r]; show 2 + 3 < 16 * d; omega
  · rw [F.r]; have := lv_room2 ad hcat; show _ + (13 * (2 + 1) + 43) ≤ 128 * d; omega
theorem a_throwSW (F : Fx X cc RX11 nL d mc ms) (S : SXX X) (T : Tx X mc ms Ψx) {ik is ic : Nat} {cls text : String} (L : TW ik is ic cls text) (hd1 : 1 ≤ d)
    (d0 : decode cc pc = .ok (.new ik, 3)) (d3 : decode cc (pc + 3) = .ok (.dup, 1)) (d4 : decode cc (pc + 4) = .ok (.ldc_w is, 3)) (d7 : decode cc (pc + 7) = .ok (.invokespecial ic, 3)) (d10 : decode cc (pc + 10) = .ok (.athrow, 1))
    (hc : k1 + 1 ≤ mc) (hs : k2 + 6 ≤ ms) (hcat : (st.map fun v => v.category).sum ≤ 8) (hΨ : Ψx cls σ pl) : WA X σ pl k1 k2 pc ls st := by
  intro ad H locs la hP hD hS hq hl
  obtain ⟨Qc, hQ⟩ := T.2.2.2
  obtain ⟨sa, hsa⟩ := S.1.2.2.2.2.2.1 _ L.2.2.2.1
  have ot : ∀ w ∈ lwG, vx_ot w = true := fun w hw => by unfold vx_ot; rw [(List.mem_filter.mp hw).2, Bool.or_true]
  show WX X H locs k1 k2 (xQ X) _
  rw [hQ]
  refine vx_throwSW F.x F.b T.1 F.o L.1 (by decide) (F.t _ L.2.1) (F.t _ L.2.2.1) hsa (fun w hw => (L.2.2.2.2 w hw).1.elim (F.t _) (fun z => exU z (S.2 w z))) (fun w hw => ?_) S.1.2.2.2.2.1.1 S.1.2.2.2.2.1.2 hS hl.1 d0 d3 d4 d7 d10 (fun x hx => (T.2.1 x hx).elim) ?_ ?_ (by rw [F.r]; exact hc) (by rw [F.r]; exact hs) F.lk (fun t hv h1 h2 => xEnd T F hΨ hP hD hS hq t hv h1 h2) hS.2.2 hc hs
  · rcases List.mem_cons.mp hw with rfl | hw
    · exact ot _ L.2.1
    · rcases List.mem_cons.mp hw with rfl | hw
      · exact ot _ L.2.2.1
      · exact (L.2.2.2.2 w hw).2
  · rw [F.r]; show 2 + 3 < 16 * d; omega
  · rw [F.r]; have := lv_room2 ad hcat; show _ + (13 * (2 + 1) + 43) ≤ 128 * d; omega
/-- behind a call of a method that may throw: what it throws goes on -/
theorem cBlindX {D : va_G} {cy : Nat → ClassId} {sz : Nat} {ad : Nat → Nat} {avs : List Value} : FrameBlind (cPreX D cy sz ad σ pl avs) := fun a U g mk q => ⟨cBlindS a U g mk q.1, exW.same (u := U) (U := U.calling g mk a) rfl q.2⟩
theorem cBackX (F : Fx X cc own nL d mc ms) (TX : Tx X mc ms Ψx) {ad : Nat → Nat} {H : Heap} {locs : List Loc} {la : Array Slot} {mc' ms' : Nat} {st0 : List Value} {a : Array Value} {Ψ : Option Value → HS → List Nat → Prop} {Ψ' : String → HS → List Nat → Prop}
    (hr : vx_Run (xp X) (xl X) (xe X) (xR X) (xs X) (xm X) (xargs X) (xbelow X) (xmeth X) (xc X) H locs k1 k2 mc' ms' (F0 (xm X) pc la st0) (st.map (pv ad)) (cPost (xD X) (xcy X) H.size ad σ pl Ψ a) (xPost (xD X) (xcy X) H.size ad σ pl Ψ') (va_A (wl (xcy X) ad σ pl) H.size))
    (hD : va_D (xA X) (wl (xcy X) ad σ pl)) (hS : va_S (xA X) (xs X).heap H locs) (hq : ∀ q, q ∈ xpl X → q ∈ pl ∧ ad q = xad X q) (hl : lv_has la (xc X).maxLocals (lsT ad ls))
    (hls : ∀ x ∈ ls, ∀ p, x.2 = .ref p → p ∈ pl) (hst : ∀ v ∈ st, ∀ p, v = .ref p → p ∈ pl) (hc : k1 + mc' ≤ mc) (hs : k2 + ms' ≤ ms)
    (kx : ∀ E σ' pl', Ψ' E σ' pl' → (∀ q, q ∈ pl → q ∈ pl') → Ψx E σ' pl')
    (kk : ∀ r σ' pl', Ψ r σ' pl' → (∀ q, q ∈ pl → q ∈ pl') → WA X σ' pl' (k1 + mc') (k2 + ms') (pc + 3) ls (r.toList ++ st)) : WX X H locs k1 k2 (xQ X) (F0 (xm X) pc la st0) := by
  intro T hT Y
  have hF := cFree F hD hS
  rcases hr T hT Y with ⟨v, st₀, t, T', L, h0, Y', hL, e1, e2, ⟨⟨r, σ', pl', ad', hv, hΨ, hag, hP1, hK1, hD1⟩, hz, hk⟩, go⟩ | ⟨q, st₀, t, T', L, E, ce, h0, Y', hL, e1, e2, ⟨⟨σ', pl', ad', hΨ, hag, hP1, hK1, hD1⟩, hz, hk⟩, hce, hcv, hcl, go⟩
  · have hv : v = r.map (pv ad') := by injection hv
    subst hv
    rw [h0] at hz hk
    have hls' : lsT ad' ls = lsT ad ls := List.map_congr_left (fun x hx => by
      have hx2 := hls x hx
      obtain ⟨i, v⟩ := x
      cases v with
      | ref p => show (i, Value.ref (ad' p)) = (i, Value.ref (ad p)); rw [(hag p (hx2 p rfl)).2]
      | _ => rfl)
    have hst' : st.map (pv ad') = st.map (pv ad) := List.map_congr_left (fun x hx => by
      have hx2 := hst x hx
      cases x with
      | ref p => show Value.ref (ad' p) = Value.ref (ad p); rw [(hag p (hx2 p rfl)).2]
      | _ => rfl)
    obtain ⟨t2, a1, b1⟩ := kk r σ' pl' hΨ (fun q h => (hag q h).1) ad' T'.heap (locs ++ L) la (by rw [e1]; exact hP1) (hD1.weaken (fun _ _ _ h => hF _ h))
      ⟨Nat.le_trans hS.1 (by rw [e1]; exact hz), fun q h1 h2 => by rw [e1, hk q (Nat.lt_of_lt_of_le h1 hS.1) (fun z => h2 (hF q z))]; exact hS.2.1 q h1 h2, fun q hq => by
        rcases List.mem_append.mp hq with h | h
        · exact hS.2.2 q h
        · exact hF _ (hL q h)⟩
      (fun q h => ⟨(hag q (hq q h).1).1, (hag q (hq q h).1).2.trans (hq q h).2⟩) (by rw [hls']; exact hl) T' rfl Y'
    refine ⟨t2, go t2 ?_, b1⟩
    have e3 : (r.toList ++ st).map (pv ad') = (r.map (pv ad')).toList ++ st.map (pv ad) := by
      rw [List.map_append, hst']; cases r <;> rfl
    rw [e3] at a1
    exact a1
  · rw [h0] at hz hk
    have hS' : va_S (xA X) (xs X).heap T'.heap (locs ++ L) := ⟨Nat.le_trans hS.1 (by rw [e1]; exact hz), fun q h1 h2 => by rw [e1, hk q (Nat.lt_of_lt_of_le h1 hS.1) (fun z => h2 (hF q z))]; exact hS.2.1 q h1 h2, fun q hq => by
        rcases List.mem_append.mp hq with h | h
        · exact hS.2.2 q h
        · exact hF _ (hL q h)⟩
    obtain ⟨Qc, hQ⟩ := TX.2.2.2
    have hP2 : va_P (xD X) vwCl (wl (xcy X) ad' σ' pl') T'.heap := by rw [e1]; exact hP1
    have w := vx_out (p := xp X) (l := xl X) (e := xe X) (R := xR X) (s := xs X) (m := xm X) (args := xargs X) (below := xbelow X) (meth := xmeth X) (c := xc X) (H := T'.heap) (locs := locs ++ L) (cells := k1 + mc') (slots := k2 + ms') (ls := la) (rest := st.map (pv ad)) (Qc := Qc) (XC := xPost (xD X) (xcy X) (xs X).heap.size (xad X) (xσ X) (xpl X) Ψx) (free := xA X) (pc := pc) (E := E) (ce := ce) (q := q) (mc := mc) (ms := ms)
      (fun x hx => (TX.2.1 x hx).elim) F.lk (by rw [e1]; exact hce) hcv hcl
      (fun t' ht' hv' => xEnd TX F (kx E σ' pl' hΨ (fun q h => (hag q h).1)) hP2 (hD1.weaken (fun _ _ _ h => hF _ h)) hS' (fun q h => ⟨(hag q (hq q h).1).1, (hag q (hq q h).1).2.trans (hq q h).2⟩) t' hv' (by rw [ht']; exact Nat.le_refl _) (fun q _ => by rw [ht']))
      hS'.2.2 hc hs
    obtain ⟨t2, a1, b1⟩ := w T' rfl Y'
    rw [← hQ] at b1
    exact ⟨t2, go.trans a1, b1⟩
theorem a_callVX (F : Fx X cc own nL d mc ms) (S : SXX X) (TX : Tx X mc ms Ψx) {y : MethodName} {cy : ByteArray} {nLy index n d' mc' ms' ci b : Nat} {rt : Option FieldType} {As : List Value} {Ψ : Option Value → HS → List Nat → Prop} {Ψ' : String → HS → List Nat → Prop} (C : ConX (xl X) d' y cy nLy rt (.ref b :: As) σ pl mc' ms' Ψ Ψ') (L : ML own index y cy nLy rt n) (hi : Cond.instanceMethod y ∈ lwG) (hse : Cond.selects y.cls y y ∈ lwG) (hdd : d' < d)
    (hci : ci < 13) (hcl : RR ci = y.cls) (hb : b ∈ pl) (hk : sK σ b = ci) (hA : As.length = n) (hd : decode cc pc = .ok (.invokevirtual index, 3)) (hcat : (st.map fun v => v.category).sum ≤ 8) (hc : k1 + mc' ≤ mc) (hs : k2 + ms' ≤ ms)
    (hls : ∀ x ∈ ls, ∀ p, x.2 = .ref p → p ∈ pl) (hst : ∀ v ∈ st, ∀ p, v = .ref p → p ∈ pl)
    (kx : ∀ E σ' pl', Ψ' E σ' pl' → (∀ q, q ∈ pl → q ∈ pl') → Ψx E σ' pl')
    (kk : ∀ r σ' pl', Ψ r σ' pl' → (∀ q, q ∈ pl → q ∈ pl') → WA X σ' pl' (k1 + mc') (k2 + ms') (pc + 3) ls (r.toList ++ st)) : WA X σ pl k1 k2 pc ls (As.reverse ++ .ref b :: st) := by
  intro ad H locs la hP hD hS hq hl
  obtain ⟨i, hi2, hw⟩ := wl_get (cy := xcy X) (ad := ad) (σ := σ) hb
  rw [ce_o hk hci] at hw
  refine cBackX F TX (vx_runV (As := As.map (pv ad)) (rest := st.map (pv ad)) (b := ad b) (C := y.cls) ⟨F.x, F.b, F.l, F.o, F.t⟩ (C (xD X) (xcy X) H.size ad) ⟨cCallB F L hdd, F.t _ hi, F.t _ hse⟩ ⟨cBlindX, ?_, fun U hU hW => ⟨⟨rfl, by rw [hU], by rw [hU]; exact hP, va_K.moved hW.alike F.k, hD.weaken (fun _ _ _ _ => trivial), S.1.at F hD hS hU hW⟩, S.2.warm hW⟩⟩ rfl (by rw [List.length_map]; exact hA) (by rw [← F.l]; exact hl.1) (by simp [List.map_reverse, pv]) (lv_room (lv_room2 ad hcat)) hd (by rw [F.r]; exact ⟨hc, hs⟩)) hD hS hq hl hls hst hc hs kx kk
  have := va_recv F.k hP (vw_at hci) hw
  rw [hcl] at this
  exact this
theorem a_callSX (F : Fx X cc own nL d mc ms) (S : SXX X) (TX : Tx X mc ms Ψx) {y : MethodName} {cy : ByteArray} {nLy index n d' mc' ms' : Nat} {rt : Option FieldType} {As : List Value} {Ψ : Option Value → HS → List Nat → Prop} {Ψ' : String → HS → List Nat → Prop} (C : ConX (xl X) d' y cy nLy rt As σ pl mc' ms' Ψ Ψ') (L : ML own index y cy nLy rt n) (hsta : Cond.static y ∈ lwG) (hdd : d' < d)
    (hA : As.length = n) (hd : decode cc pc = .ok (.invokestatic index, 3)) (hcat : (st.map fun v => v.category).sum ≤ 8) (hc : k1 + mc' ≤ mc) (hs : k2 + ms' ≤ ms)
    (hls : ∀ x ∈ ls, ∀ p, x.2 = .ref p → p ∈ pl) (hst : ∀ v ∈ st, ∀ p, v = .ref p → p ∈ pl)
    (kx : ∀ E σ' pl', Ψ' E σ' pl' → (∀ q, q ∈ pl → q ∈ pl') → Ψx E σ' pl')
    (kk : ∀ r σ' pl', Ψ r σ' pl' → (∀ q, q ∈ pl → q ∈ pl') → WA X σ' pl' (k1 + mc') (k2 + ms') (pc + 3) ls (r.toList ++ st)) : WA X σ pl k1 k2 pc ls (As.reverse ++ st) := by
  intro ad H locs la hP hD hS hq hl
  exact cBackX F TX (vx_runS (As := As.map (pv ad)) (rest := st.map (pv ad)) ⟨F.x, F.b, F.l, F.o, F.t⟩ (C (xD X) (xcy X) H.size ad) ⟨cCallB F L hdd, F.t _ hsta⟩ ⟨cBlindX, fun U hU hW => ⟨⟨rfl, by rw [hU], by rw [hU]; exact hP, va_K.moved hW.alike F.k, hD.weaken (fun _ _ _ _ => trivial), S.1.at F hD hS hU hW⟩, S.2.warm hW⟩⟩ rfl (by rw [List.length_map]; exact hA) (by rw [← F.l]; exact hl.1) (by simp [List.map_reverse]) (lv_room (lv_room2 ad hcat)) hd (by rw [F.r]; exact ⟨hc, hs⟩)) hD hS hq hl hls hst hc hs kx kk
end
