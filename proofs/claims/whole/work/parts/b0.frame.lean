/-! FRAME: a call with worlds beside it that the callee doesn't see; the catching of what it throws -/
/-- caught by the row x of this method's table; the rows ahead don't take it -/
theorem vx_catch {p : Program} {l : Launch} {e : Env} {R : Room} {s : State} {m : MethodId} {args : Array Value} {below : List Frame} {meth : Method} {c : Code} {H : Heap} {locs : List Loc} {cells slots : Nat} {Q : State → Prop} {pc : Nat} {ls : Array Slot} {rest : List Value} {own name : String} {E : String} {ce : Cell} {q : Addr} (hown : s.vm.findClass own = some m.cls) (pre : List ExceptionTableEntry) (x : ExceptionTableEntry) (suf : List ExceptionTableEntry) (hsplit : c.exceptionTable.toList = pre ++ x :: suf)
    (hpass : ∀ z ∈ pre, covers z pc = false ∨ (z.catchType ≠ 0 ∧ ∃ nm : String, (Cond.classLink own z.catchType nm).before args s = true ∧ va_Nc E nm s)) (hx : covers x pc = true) (h0 : x.catchType ≠ 0)
    (hlink : (Cond.classLink own x.catchType name).before args s = true) (hcast : (Cond.castable E name).before args s = true) (hcell : H[q]? = some ce) (hv : ce.vm = .none) (hcl : s.vm.findClass E = some ce.cls)
    (kk : W p l e R s m args below meth c H locs cells slots Q (F0 m x.handlerPc ls [.ref q])) : vx_W p l e R s m args below meth c H locs cells slots Q (F0 m pc ls rest) q := by
  intro T hT X
  have hpl : e.platform.magicAccessors = ({} : Platform).magicAccessors := by rw [X.admits.platform]
  obtain ⟨c3, c4, hc3, hc4, hasg⟩ := Cond.castable_spec hcast
  cases Option.some.inj (hc3.symm.trans hcl)
  obtain ⟨c5, hc5, hcl5⟩ := Cond.classLink_spec hown hlink e.platform hpl
  cases Option.some.inj (hc4.symm.trans hc5)
  obtain ⟨vm', X', st⟩ := X.thenCaughtThrough q (g := F0 m pc ls rest) rfl (Steps.refl _) (by rw [hT]; exact hcell) (by rw [hv]; rfl) (by obtain ⟨k9, h9, -⟩ := Vm.findClass_spec hcl; exact ⟨k9, h9⟩) pre x suf hsplit
    (fun z hz => by
      rcases hpass z hz with h | ⟨hz0, nm, hl1, hn1⟩
      · exact Or.inl h
      · obtain ⟨c6, hc6, hcl6⟩ := Cond.classLink_spec hown hl1 e.platform hpl
        obtain ⟨a8, b8, h1, h2, h3⟩ := hn1
        cases Option.some.inj (h1.symm.trans hcl)
        cases Option.some.inj (h2.symm.trans hc6)
        exact Or.inr ⟨hz0, _, hcl6, h3⟩) hx (Or.inr ⟨h0, c4, hcl5, hasg⟩)
  obtain ⟨t, a1, b1⟩ := kk (T.setVm vm') hT X'
  exact ⟨t, st.trans a1, b1⟩

def apt (w1 w2 : va_W) : Prop := ∀ (i j : Nat) (p q : Nat × va_E), w1[i]? = some p → w2[j]? = some q → p.1 ≠ q.1
theorem apt.sy {w1 w2 : va_W} (h : apt w1 w2) : apt w2 w1 := fun i j p q h1 h2 e => h j i q p h2 h1 e.symm
theorem fr_rest {D : va_G} {w w' : va_W} {st t : State} {H : Heap} (h0 : st.heap = H) (hD' : va_D (va_A w H.size) w') (hF : va_F (va_A w H.size) st t) : ∀ wr, va_P D vwCl wr H → apt w wr → va_P D vwCl wr t.heap ∧ apt w' wr := fun wr hr ha => by
  refine ⟨hr.kept (fun k q hk => ?_), fun i j p q hp hq e => ?_⟩
  · have lt := (hr k q hk).lt
    rw [hF.2 q.1 (by rw [h0]; exact lt) (fun z => ?_), h0]
    rcases z with ⟨k', e', z⟩ | z
    · exact ha k' k _ q z hk rfl
    · exact absurd lt (Nat.not_lt.mpr z)
  · have lt := (hr j q hq).lt
    rcases hD'.2 i p hp with ⟨k', e', z⟩ | z
    · exact ha k' j _ q z hq e
    · rw [e] at z; exact absurd lt (Nat.not_lt.mpr z)
/-- what is fixed over a walk, whatever its room -/
def FLx (X : Ctx) (cc : ByteArray) (own : String) (nL : Nat) : Prop :=
  (xp X).tables.exec = Jvm.exec ∧ (xc X).code = cc ∧ (xc X).maxLocals = nL ∧ (xs X).vm.findClass own = some (xm X).cls ∧ (∀ w ∈ lwG, w.before (xargs X) (xs X) = true) ∧ va_K (xD X) vwCl (tyL (xcy X)) (xs X) ∧ (∀ q, (xs X).heap.size ≤ q → xA X q) ∧ (xmeth X).locks = false ∧ SXX X
section
variable {X : Ctx} {cc : ByteArray} {own : String} {nL : Nat} {σ : HS} {pl : List Nat} {k1 k2 pc : Nat} {ad : Nat → Nat} {H : Heap} {locs : List Loc} {la : Array Slot}
theorem fFree (F : FLx X cc own nL) {w : va_W} (hD : va_D (xA X) w) (hS : va_S (xA X) (xs X).heap H locs) : ∀ q, va_A w H.size q → xA X q := by
  intro q h
  rcases h with ⟨k, e, h⟩ | h
  · exact hD.2 k _ h
  · exact F.2.2.2.2.2.2.1 q (Nat.le_trans hS.1 h)
theorem fSs {w : va_W} {st t T' : State} {L : List Loc} (F : FLx X cc own nL) (hD : va_D (xA X) w) (hS : va_S (xA X) (xs X).heap H locs) (h0 : st.heap = H) (e1 : T'.heap = t.heap) (hF : va_F (va_A w H.size) st t) (hL : ∀ q ∈ L, va_A w H.size q.base) : va_S (xA X) (xs X).heap T'.heap (locs ++ L) := by
  have hf := fFree F hD hS
  obtain ⟨hz, hk⟩ := hF
  rw [h0] at hz hk
  exact ⟨Nat.le_trans hS.1 (by rw [e1]; exact hz), fun q h1 h2 => by rw [e1, hk q (Nat.lt_of_lt_of_le h1 hS.1) (fun z => h2 (hf q z))]; exact hS.2.1 q h1 h2, fun q hq => by
    rcases List.mem_append.mp hq with h | h
    · exact hS.2.2 q h
    · exact hf _ (hL q h)⟩
theorem fBackX (F : FLx X cc own nL) {mc' ms' : Nat} {st0 rest : List Value} {a : Array Value} {Ψ : Option Value → HS → List Nat → Prop} {Ψ' : String → HS → List Nat → Prop}
    (hr : vx_Run (xp X) (xl X) (xe X) (xR X) (xs X) (xm X) (xargs X) (xbelow X) (xmeth X) (xc X) H locs k1 k2 mc' ms' (F0 (xm X) pc la st0) rest (cPost (xD X) (xcy X) H.size ad σ pl Ψ a) (xPost (xD X) (xcy X) H.size ad σ pl Ψ') (va_A (wl (xcy X) ad σ pl) H.size))
    (hD : va_D (xA X) (wl (xcy X) ad σ pl)) (hS : va_S (xA X) (xs X).heap H locs)
    (kx : ∀ E ce q σ' pl' ad' H' locs', Ψ' E σ' pl' → (∀ q, q ∈ pl → q ∈ pl' ∧ ad' q = ad q) → va_P (xD X) vwCl (wl (xcy X) ad' σ' pl') H' → va_D (xA X) (wl (xcy X) ad' σ' pl') → va_S (xA X) (xs X).heap H' locs' → (∀ wr, va_P (xD X) vwCl wr H → apt (wl (xcy X) ad σ pl) wr → va_P (xD X) vwCl wr H' ∧ apt (wl (xcy X) ad' σ' pl') wr) → H'[q]? = some ce → ce.vm = .none → (xs X).vm.findClass E = some ce.cls → vx_W (xp X) (xl X) (xe X) (xR X) (xs X) (xm X) (xargs X) (xbelow X) (xmeth X) (xc X) H' locs' (k1 + mc') (k2 + ms') (xQ X) (F0 (xm X) pc la rest) q)
    (kk : ∀ r σ' pl' ad' H' locs', Ψ r σ' pl' → (∀ q, q ∈ pl → q ∈ pl' ∧ ad' q = ad q) → va_P (xD X) vwCl (wl (xcy X) ad' σ' pl') H' → va_D (xA X) (wl (xcy X) ad' σ' pl') → va_S (xA X) (xs X).heap H' locs' → (∀ wr, va_P (xD X) vwCl wr H → apt (wl (xcy X) ad σ pl) wr → va_P (xD X) vwCl wr H' ∧ apt (wl (xcy X) ad' σ' pl') wr) → WX X H' locs' (k1 + mc') (k2 + ms') (xQ X) (F0 (xm X) (pc + 3) la ((r.map (pv ad')).toList ++ rest))) : WX X H locs k1 k2 (xQ X) (F0 (xm X) pc la st0) := by
  intro T hT Y
  rcases hr T hT Y with ⟨v, st₀, t, T', L, h0, Y', hL, e1, e2, ⟨⟨r, σ', pl', ad', hv, hΨ, hag, hP1, hK1, hD1⟩, hF⟩, go⟩ | ⟨q, st₀, t, T', L, E, ce, h0, Y', hL, e1, e2, ⟨⟨σ', pl', ad', hΨ, hag, hP1, hK1, hD1⟩, hF⟩, hce, hcv, hcl, go⟩
  · have hv : v = r.map (pv ad') := by injection hv
    subst hv
    have hfr := fr_rest (D := xD X) h0 hD1 hF
    rw [← e1] at hfr
    obtain ⟨t2, a1, b1⟩ := kk r σ' pl' ad' T'.heap (locs ++ L) hΨ hag (by rw [e1]; exact hP1) (hD1.weaken (fun _ _ _ h => fFree F hD hS _ h)) (fSs F hD hS h0 e1 hF hL) hfr T' rfl Y'
    exact ⟨t2, go t2 a1, b1⟩
  · have hfr := fr_rest (D := xD X) h0 hD1 hF
    rw [← e1] at hfr
    obtain ⟨t2, a1, b1⟩ := kx E ce q σ' pl' ad' T'.heap (locs ++ L) hΨ hag (by rw [e1]; exact hP1) (hD1.weaken (fun _ _ _ h => fFree F hD hS _ h)) (fSs F hD hS h0 e1 hF hL) hfr (by rw [e1]; exact hce) hcv hcl T' rfl Y'
    exact ⟨t2, go.trans a1, b1⟩
theorem fBack (F : FLx X cc own nL) {mc' ms' : Nat} {st0 rest : List Value} {a : Array Value} {Ψ : Option Value → HS → List Nat → Prop}
    (hr : va_Run (xp X) (xl X) (xe X) (xR X) (xs X) (xm X) (xargs X) (xbelow X) (xmeth X) (xc X) H locs k1 k2 mc' ms' (F0 (xm X) pc la st0) rest (cPost (xD X) (xcy X) H.size ad σ pl Ψ a) (va_A (wl (xcy X) ad σ pl) H.size))
    (hD : va_D (xA X) (wl (xcy X) ad σ pl)) (hS : va_S (xA X) (xs X).heap H locs)
    (kk : ∀ r σ' pl' ad' H' locs', Ψ r σ' pl' → (∀ q, q ∈ pl → q ∈ pl' ∧ ad' q = ad q) → va_P (xD X) vwCl (wl (xcy X) ad' σ' pl') H' → va_D (xA X) (wl (xcy X) ad' σ' pl') → va_S (xA X) (xs X).heap H' locs' → (∀ wr, va_P (xD X) vwCl wr H → apt (wl (xcy X) ad σ pl) wr → va_P (xD X) vwCl wr H' ∧ apt (wl (xcy X) ad' σ' pl') wr) → WX X H' locs' (k1 + mc') (k2 + ms') (xQ X) (F0 (xm X) (pc + 3) la ((r.map (pv ad')).toList ++ rest))) : WX X H locs k1 k2 (xQ X) (F0 (xm X) pc la st0) := by
  intro T hT Y
  obtain ⟨v, st₀, t, T', L, h0, Y', hL, e1, e2, ⟨⟨r, σ', pl', ad', hv, hΨ, hag, hP1, hK1, hD1⟩, hF⟩, go⟩ := hr T hT Y
  have hv : v = r.map (pv ad') := by injection hv
  subst hv
  have hfr := fr_rest (D := xD X) h0 hD1 hF
  rw [← e1] at hfr
  obtain ⟨t2, a1, b1⟩ := kk r σ' pl' ad' T'.heap (locs ++ L) hΨ hag (by rw [e1]; exact hP1) (hD1.weaken (fun _ _ _ h => fFree F hD hS _ h)) (fSs F hD hS h0 e1 hF hL) hfr T' rfl Y'
  exact ⟨t2, go t2 a1, b1⟩
theorem fCallB (F : FLx X cc own nL) {y : MethodName} {cy : ByteArray} {nLy index n d' mc' ms' : Nat} {rt : Option FieldType} (L : ML own index y cy nLy rt n) (hfr : 16 * d' + 1 ≤ (xR X).frames) (hlo : 8 + (nLy + 11) + 128 * d' ≤ (xR X).locals) : CallB (xR X) (xs X) (xargs X) own index y cy nLy rt (Cond.code y cy nLy rt :: lwG) (rmD d' mc' ms') mc' ms' n := by
  refine ⟨rfl, rfl, hfr, hlo, ?_, List.mem_cons_self, F.2.2.2.2.1 _ L.2.1, F.2.2.2.2.1 _ L.2.2.1, L.2.2.2.2.1, ?_, F.2.2.2.2.1 _ L.1⟩
  · refine pay_in F.2.2.2.2.1 (fun w hw => ?_)
    rcases List.mem_cons.mp hw with rfl | h
    · exact lwG_good _ L.2.1
    · exact lwG_good _ h
  · intro sig h
    have h2 := L.2.2.2.2.2
    rw [h] at h2
    exact (Option.some.inj h2).symm
theorem fSW (F : FLx X cc own nL) {w : va_W} (hD : va_D (xA X) w) (hS : va_S (xA X) (xs X).heap H locs) {U : State} (hU : U.heap = H) (hW : (xs X).WarmedH U.vm) : SW (va_A w H.size) U U.heap := by
  rw [hU]
  exact ((F.2.2.2.2.2.2.2.2.1.kept hS.2.1).narrow (fFree F hD hS)).warm hW
theorem f_callVX (F : FLx X cc own nL) {y : MethodName} {cy : ByteArray} {nLy index n d' mc' ms' ci b : Nat} {rt : Option FieldType} {As rest : List Value} {Ψ : Option Value → HS → List Nat → Prop} {Ψ' : String → HS → List Nat → Prop} (C : ConX (xl X) d' y cy nLy rt (.ref b :: As) σ pl mc' ms' Ψ Ψ') (L : ML own index y cy nLy rt n) (hi : Cond.instanceMethod y ∈ lwG) (hse : Cond.selects y.cls y y ∈ lwG) (hfr : 16 * d' + 1 ≤ (xR X).frames) (hlo : 8 + (nLy + 11) + 128 * d' ≤ (xR X).locals)
    (hci : ci < 13) (hcl : RR ci = y.cls) (hb : b ∈ pl) (hk : sK σ b = ci) (hA : As.length = n) (hd : decode cc pc = .ok (.invokevirtual index, 3)) (hcat : (rest.map fun v => v.category).sum ≤ 8) (hc : k1 + mc' ≤ (xR X).cells) (hs : k2 + ms' ≤ (xR X).slots) (hla : la.size = nL)
    (hP : va_P (xD X) vwCl (wl (xcy X) ad σ pl) H) (hD : va_D (xA X) (wl (xcy X) ad σ pl)) (hS : va_S (xA X) (xs X).heap H locs)
    (kx : ∀ E ce q σ' pl' ad' H' locs', Ψ' E σ' pl' → (∀ q, q ∈ pl → q ∈ pl' ∧ ad' q = ad q) → va_P (xD X) vwCl (wl (xcy X) ad' σ' pl') H' → va_D (xA X) (wl (xcy X) ad' σ' pl') → va_S (xA X) (xs X).heap H' locs' → (∀ wr, va_P (xD X) vwCl wr H → apt (wl (xcy X) ad σ pl) wr → va_P (xD X) vwCl wr H' ∧ apt (wl (xcy X) ad' σ' pl') wr) → H'[q]? = some ce → ce.vm = .none → (xs X).vm.findClass E = some ce.cls → vx_W (xp X) (xl X) (xe X) (xR X) (xs X) (xm X) (xargs X) (xbelow X) (xmeth X) (xc X) H' locs' (k1 + mc') (k2 + ms') (xQ X) (F0 (xm X) pc la rest) q)
    (kk : ∀ r σ' pl' ad' H' locs', Ψ r σ' pl' → (∀ q, q ∈ pl → q ∈ pl' ∧ ad' q = ad q) → va_P (xD X) vwCl (wl (xcy X) ad' σ' pl') H' → va_D (xA X) (wl (xcy X) ad' σ' pl') → va_S (xA X) (xs X).heap H' locs' → (∀ wr, va_P (xD X) vwCl wr H → apt (wl (xcy X) ad σ pl) wr → va_P (xD X) vwCl wr H' ∧ apt (wl (xcy X) ad' σ' pl') wr) → WX X H' locs' (k1 + mc') (k2 + ms') (xQ X) (F0 (xm X) (pc + 3) la ((r.map (pv ad')).toList ++ rest))) : WX X H locs k1 k2 (xQ X) (F0 (xm X) pc la ((As.map (pv ad)).reverse ++ .ref (ad b) :: rest)) := by
  obtain ⟨i, hi2, hw⟩ := wl_get (cy := xcy X) (ad := ad) (σ := σ) hb
  rw [ce_o hk hci] at hw
  refine fBackX F (vx_runV (As := As.map (pv ad)) (rest := rest) (b := ad b) (C := y.cls) ⟨F.1, F.2.1, F.2.2.1, F.2.2.2.1, F.2.2.2.2.1⟩ (C (xD X) (xcy X) H.size ad) ⟨fCallB F L hfr hlo, F.2.2.2.2.1 _ hi, F.2.2.2.2.1 _ hse⟩ ⟨cBlindX, ?_, fun U hU hW => ⟨⟨rfl, by rw [hU], by rw [hU]; exact hP, va_K.moved hW.alike F.2.2.2.2.2.1, hD.weaken (fun _ _ _ _ => trivial), fSW F hD hS hU hW⟩, F.2.2.2.2.2.2.2.2.2.warm hW⟩⟩ rfl (by rw [List.length_map]; exact hA) hla rfl (lv_room hcat) hd ⟨hc, hs⟩) hD hS kx kk
  have := va_recv F.2.2.2.2.2.1 hP (vw_at hci) hw
  rw [hcl] at this
  exact this
theorem f_callV (F : FLx X cc own nL) {y : MethodName} {cy : ByteArray} {nLy index n d' mc' ms' ci b : Nat} {rt : Option FieldType} {As rest : List Value} {Ψ : Option Value → HS → List Nat → Prop} (C : Con (xl X) d' y cy nLy rt (.ref b :: As) σ pl mc' ms' Ψ) (L : ML own index y cy nLy rt n) (hi : Cond.instanceMethod y ∈ lwG) (hse : Cond.selects y.cls y y ∈ lwG) (hfr : 16 * d' + 1 ≤ (xR X).frames) (hlo : 8 + (nLy + 11) + 128 * d' ≤ (xR X).locals)
    (hci : ci < 13) (hcl : RR ci = y.cls) (hb : b ∈ pl) (hk : sK σ b = ci) (hA : As.length = n) (hd : decode cc pc = .ok (.invokevirtual index, 3)) (hcat : (rest.map fun v => v.category).sum ≤ 8) (hc : k1 + mc' ≤ (xR X).cells) (hs : k2 + ms' ≤ (xR X).slots) (hla : la.size = nL)
    (hP : va_P (xD X) vwCl (wl (xcy X) ad σ pl) H) (hD : va_D (xA X) (wl (xcy X) ad σ pl)) (hS : va_S (xA X) (xs X).heap H locs)
    (kk : ∀ r σ' pl' ad' H' locs', Ψ r σ' pl' → (∀ q, q ∈ pl → q ∈ pl' ∧ ad' q = ad q) → va_P (xD X) vwCl (wl (xcy X) ad' σ' pl') H' → va_D (xA X) (wl (xcy X) ad' σ' pl') → va_S (xA X) (xs X).heap H' locs' → (∀ wr, va_P (xD X) vwCl wr H → apt (wl (xcy X) ad σ pl) wr → va_P (xD X) vwCl wr H' ∧ apt (wl (xcy X) ad' σ' pl') wr) → WX X H' locs' (k1 + mc') (k2 + ms') (xQ X) (F0 (xm X) (pc + 3) la ((r.map (pv ad')).toList ++ rest))) : WX X H locs k1 k2 (xQ X) (F0 (xm X) pc la ((As.map (pv ad)).reverse ++ .ref (ad b) :: rest)) := by
  obtain ⟨i, hi2, hw⟩ := wl_get (cy := xcy X) (ad := ad) (σ := σ) hb
  rw [ce_o hk hci] at hw
  refine fBack F (va_runV (As := As.map (pv ad)) (rest := rest) (b := ad b) (C := y.cls) ⟨F.1, F.2.1, F.2.2.1, F.2.2.2.1, F.2.2.2.2.1⟩ (C (xD X) (xcy X) H.size ad) ⟨fCallB F L hfr hlo, F.2.2.2.2.1 _ hi, F.2.2.2.2.1 _ hse⟩ ⟨cBlind, ?_, fun U hU hW => ⟨rfl, by rw [hU], by rw [hU]; exact hP, va_K.moved hW.alike F.2.2.2.2.2.1, hD.weaken (fun _ _ _ _ => trivial)⟩⟩ rfl (by rw [List.length_map]; exact hA) hla rfl (lv_room hcat) hd ⟨hc, hs⟩) hD hS kk
  have := va_recv F.2.2.2.2.2.1 hP (vw_at hci) hw
  rw [hcl] at this
  exact this
end
