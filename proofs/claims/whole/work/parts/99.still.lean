/-! WHAT STANDS STILL: links of the nest, static rows, what a throw needs -/
def nwL : List (String × Nat × MethodName) := [("BearHouse", 9, ⟨"BearHouse$Bytes", "<init>", "()V"⟩), ("BearHouse", 21, ⟨"BearHouse$Board", "<init>", "()V"⟩), ("BearHouse", 28, ⟨"BearHouse$Past", "<init>", "()V"⟩), ("BearHouse$Texts", 11, ⟨"BearHouse$Board", "<init>", "()V"⟩), ("BearHouse", 62, ⟨"BearHouse$Match", "<init>", "()V"⟩), ("BearHouse$Stands", 30, ⟨"BearHouse$Whole", "<init>", "()V"⟩), ("BearHouse$Printer", 9, ⟨"BearHouse$Whole", "<init>", "()V"⟩), ("BearHouse$Past", 19, ⟨"BearHouse$Board", "<init>", "()V"⟩), ("BearHouse", 241, ⟨"BearHouse$Stands", "howMany", "(III)I"⟩), ("BearHouse$Stands", 120, ⟨"BearHouse$Shelf", "<init>", "()V"⟩)]
def sxL : List (Nat × String) := [(298, "the TAPE has not so many bytes"), (101, "a match is under way"), (315, "no such PLAYER or POINT"), (151, "no such what"), (300, "dice are 1 to 6"), (306, "these dice are not due"), (310, "no such RESULT"), (197, "a match is to 0 to 25 POINTS"), (216, "no dice are due"), (221, "there is no double"), (226, "no double is to be answered"), (234, "no game is over"), (239, "LEVEL is 90"), (321, "no STAND"), (324, "not KNOWN"), (266, "n is not 0 to 12"), (281, "it may take more than 12 rolls"), (285, "both have none left")]
def ncL : List (String × String) := [("java/lang/IllegalStateException", "java/lang/IllegalArgumentException"), ("java/lang/IndexOutOfBoundsException", "java/util/NoSuchElementException"), ("java/lang/UnsupportedOperationException", "java/lang/IllegalArgumentException"), ("java/lang/UnsupportedOperationException", "java/lang/IllegalStateException")]
def stPt (j : Nat) : Int32 := if j = 0 then 24 else if j = 1 then 13 else if j = 2 then 8 else 6
def stMn (j : Nat) : Int32 := if j = 0 then 2 else if j = 1 then 5 else if j = 2 then 3 else 5
def SW (A : Nat → Prop) (U : State) (H : Heap) : Prop :=
  (∀ x ∈ nwL, va_Nw (.methodLinkNest x.1 x.2.1 x.2.2 "BearHouse") U) ∧ (va_AO RX0 U ∧ va_AO RX7 U) ∧
  (∃ t, va_Z RX0 "START_POINTS" "[I" (.ref t) A U H ∧ va_T .int t 4 (fun j => .int (stPt j)) A U H) ∧
  (∃ t, va_Z RX0 "START_MEN" "[I" (.ref t) A U H ∧ va_T .int t 4 (fun j => .int (stMn j)) A U H) ∧
  (vx_Zq Bundle.tN "UNASSIGNED_STACK" Bundle.steD A U H ∧ vx_Zq Bundle.tN "SUPPRESSED_SENTINEL" Bundle.listD A U H) ∧
  (∀ x ∈ sxL, ∃ sa, vk_R "BearHouse" x.1 x.2 sa U) ∧ (∀ x ∈ ncL, va_Nc x.1 x.2 U)
theorem SW.kept {A : Nat → Prop} {U : State} {H H1 : Heap} (h : SW A U H) (hq : ∀ a : Nat, a < H.size → ¬ A a → H1[a]? = H[a]?) : SW A U H1 := by
  obtain ⟨h1, h2, ⟨t1, a1, b1⟩, ⟨t2, a2, b2⟩, ⟨z1, z2⟩, h5, h6⟩ := h
  exact ⟨h1, h2, ⟨t1, a1.kept hq, b1.kept hq⟩, ⟨t2, a2.kept hq, b2.kept hq⟩, ⟨z1.kept hq, z2.kept hq⟩, h5, h6⟩
theorem SW.narrow {A B : Nat → Prop} {U : State} {H : Heap} (h : SW A U H) (hq : ∀ q, B q → A q) : SW B U H := by
  obtain ⟨h1, h2, ⟨t1, a1, b1⟩, ⟨t2, a2, b2⟩, ⟨z1, z2⟩, h5, h6⟩ := h
  exact ⟨h1, h2, ⟨t1, a1.narrow hq, b1.narrow hq⟩, ⟨t2, a2.narrow hq, b2.narrow hq⟩, ⟨z1.narrow hq, z2.narrow hq⟩, h5, h6⟩
theorem SW.warm {A : Nat → Prop} {s U : State} {H : Heap} (hW : s.WarmedH U.vm) (h : SW A s H) : SW A U H := by
  obtain ⟨h1, h2, ⟨t1, a1, b1⟩, ⟨t2, a2, b2⟩, ⟨z1, z2⟩, h5, h6⟩ := h
  have hv := hW.alike
  exact ⟨fun x hx => va_Nw.warmM hW (h1 x hx), ⟨h2.1.moved hv, h2.2.moved hv⟩, ⟨t1, a1.moved hv, b1.moved hv⟩, ⟨t2, a2.moved hv, b2.moved hv⟩, ⟨z1.moved hv, z2.moved hv⟩, fun x hx => (h5 x hx).imp (fun sa g => vk_R.warm hW g), fun x hx => (h6 x hx).moved hv⟩
theorem SW.same {A : Nat → Prop} {u U : State} {H : Heap} (hv : U.vm = u.vm) (h : SW A u H) : SW A U H := by
  obtain ⟨h1, h2, ⟨t1, a1, b1⟩, ⟨t2, a2, b2⟩, ⟨z1, z2⟩, h5, h6⟩ := h
  have ha : u.vm.Alike U.vm := by rw [hv]; exact Vm.Alike.refl u.vm
  exact ⟨fun x hx => va_Nw.same rfl hv.symm (h1 x hx), ⟨h2.1.moved ha, h2.2.moved ha⟩, ⟨t1, a1.moved ha, b1.moved ha⟩, ⟨t2, a2.moved ha, b2.moved ha⟩, ⟨z1.moved ha, z2.moved ha⟩, fun x hx => (h5 x hx).imp (fun sa g => vk_R.same hv g), fun x hx => (h6 x hx).moved ha⟩
/-- a contract that may look at what stands still -/
def cPreS (D : va_G) (cy : Nat → ClassId) (sz : Nat) (ad : Nat → Nat) (σ : HS) (pl : List Nat) (avs : List Value) : Array Value → State → Prop := va_Pc (avs.map (pv ad)) (fun U => U.heap.size = sz ∧ va_P D vwCl (wl cy ad σ pl) U.heap ∧ va_K D vwCl (tyL cy) U ∧ va_D (fun _ => True) (wl cy ad σ pl) ∧ SW (va_A (wl cy ad σ pl) sz) U U.heap)
def ConS (l : Launch) (d : Nat) (y : MethodName) (cc : ByteArray) (nL : Nat) (ret : Option FieldType) (avs : List Value) (σ : HS) (pl : List Nat) (mc ms : Nat) (Φ : Option Value → HS → List Nat → Prop) : Prop :=
  ∀ (D : va_G) (cy : Nat → ClassId) (sz : Nat) (ad : Nat → Nat), Met l y (Cond.code y cc nL ret :: lwG) (rmD d mc ms) (cPreS D cy sz ad σ pl avs) (cPost D cy sz ad σ pl Φ) mc ms (va_A (wl cy ad σ pl) sz)
def SX (X : Ctx) : Prop := SW (xA X) (xs X) (xs X).heap
theorem ConS.of {l : Launch} {d : Nat} {y : MethodName} {cc : ByteArray} {nL : Nat} {ret : Option FieldType} {avs : List Value} {σ : HS} {pl : List Nat} {mc ms : Nat} {Φ : Option Value → HS → List Nat → Prop}
    (hy : plainName y.cls = true) (hn : (lg_sl avs).length ≤ nL)
    (h : ∀ X : Ctx, xl X = l → (xmeth X).name = y.name → Fx X cc y.cls nL d mc ms → Ex X ret mc ms Φ → SX X → WA X σ pl 0 0 0 (lv_args 0 avs) []) : ConS l d y cc nL ret avs σ pl mc ms Φ := by
  intro D cy sz ad
  refine Met.ofW (cc := cc) (maxL := nL) (ret := ret) hy rfl ?_
  intro p e s m args below meth c s₁ B hml hv
  obtain ⟨rfl, hsz, hP, hK, hD0, hSW⟩ := hv
  subst hsz
  have hts := atoms_spec (ws := Cond.code y cc nL ret :: lwG) B.pre
  have hD := hD0.self (sz := s.heap.size)
  have k := h (p, l, e, rmD d mc ms, s, m, (avs.map (pv ad)).toArray, below, meth, c, D, cy, va_A (wl cy ad σ pl) s.heap.size, σ, pl, ad, MQ below (cPost D cy s.heap.size ad σ pl Φ) (avs.map (pv ad)).toArray s mc ms (va_A (wl cy ad σ pl) s.heap.size)) rfl (name_of_methodNamed B.named B.method).1
    ⟨B.exec, B.bytes, hml, findClass_of_methodNamed B.named, fun w hw => hts w (List.mem_cons_of_mem _ hw), hK, fun q hq => Or.inr hq, B.notSynchronized, rfl⟩
    ⟨B.returns, rfl, fun _ _ _ _ _ z => z⟩ hSW
  rw [lg_entry_eq]
  refine k ad s.heap [] _ hP hD va_S.rf (fun q hq => ⟨hq, rfl⟩) ?_
  show lv_has _ c.maxLocals _
  rw [hml, ← lv_argsT]
  exact lv_entry _ (by rw [lg_slT]; exact hn)
section
variable {X : Ctx} {cc : ByteArray} {own : String} {nL d mc ms : Nat} {σ : HS} {pl : List Nat} {k1 k2 pc : Nat} {ls ls' : List (Nat × Value)} {st : List Value} {Φ : Option Value → HS → List Nat → Prop}
theorem cBlindS {D : va_G} {cy : Nat → ClassId} {sz : Nat} {ad : Nat → Nat} {avs : List Value} : FrameBlind (cPreS D cy sz ad σ pl avs) := by
  intro a U g mk q
  obtain ⟨q0, q1, qP, qK, qD, qS⟩ := q
  exact ⟨q0, q1, qP, va_K.moved (u := U) (U := U.calling g mk a) (Vm.Alike.refl U.vm) qK, qD, SW.same (u := U) (U := U.calling g mk a) rfl qS⟩
/-- what stands still, at a callee's start -/
theorem SX.at (S : SX X) (F : Fx X cc own nL d mc ms) {ad : Nat → Nat} {H : Heap} {locs : List Loc} (hD : va_D (xA X) (wl (xcy X) ad σ pl)) (hS : va_S (xA X) (xs X).heap H locs) {U : State} (hU : U.heap = H) (hW : (xs X).WarmedH U.vm) : SW (va_A (wl (xcy X) ad σ pl) H.size) U U.heap := by
  rw [hU]
  exact ((S.kept hS.2.1).narrow (cFree F hD hS)).warm hW
theorem lv_room2 (ad : Nat → Nat) (hcat : (st.map fun v => v.category).sum ≤ 8) : ((st.map (pv ad)).map fun v => v.category).sum ≤ 8 := by
  rw [List.map_map]
  exact Nat.le_trans (Nat.le_of_eq (congrArg List.sum (List.map_congr_left (fun v _ => pv_cat ad v)))) hcat
theorem a_callVS (F : Fx X cc own nL d mc ms) (S : SX X) {y : MethodName} {cy : ByteArray} {nLy index n d' mc' ms' ci b : Nat} {rt : Option FieldType} {As : List Value} {Ψ : Option Value → HS → List Nat → Prop} (C : ConS (xl X) d' y cy nLy rt (.ref b :: As) σ pl mc' ms' Ψ) (L : ML own index y cy nLy rt n) (hi : Cond.instanceMethod y ∈ lwG) (hse : Cond.selects y.cls y y ∈ lwG) (hdd : d' < d)
    (hci : ci < 13) (hcl : RR ci = y.cls) (hb : b ∈ pl) (hk : sK σ b = ci) (hA : As.length = n) (hd : decode cc pc = .ok (.invokevirtual index, 3)) (hcat : (st.map fun v => v.category).sum ≤ 8) (hc : k1 + mc' ≤ mc) (hs : k2 + ms' ≤ ms)
    (hls : ∀ x ∈ ls, ∀ p, x.2 = .ref p → p ∈ pl) (hst : ∀ v ∈ st, ∀ p, v = .ref p → p ∈ pl)
    (kk : ∀ r σ' pl', Ψ r σ' pl' → (∀ q, q ∈ pl → q ∈ pl') → WA X σ' pl' (k1 + mc') (k2 + ms') (pc + 3) ls (r.toList ++ st)) : WA X σ pl k1 k2 pc ls (As.reverse ++ .ref b :: st) := by
  intro ad H locs la hP hD hS hq hl
  obtain ⟨i, hi2, hw⟩ := wl_get (cy := xcy X) (ad := ad) (σ := σ) hb
  rw [ce_o hk hci] at hw
  refine cBack F (va_runV (As := As.map (pv ad)) (rest := st.map (pv ad)) (b := ad b) (C := y.cls) ⟨F.x, F.b, F.l, F.o, F.t⟩ (C (xD X) (xcy X) H.size ad) ⟨cCallB F L hdd, F.t _ hi, F.t _ hse⟩ ⟨cBlindS, ?_, fun U hU hW => ⟨rfl, by rw [hU], by rw [hU]; exact hP, va_K.moved hW.alike F.k, hD.weaken (fun _ _ _ _ => trivial), S.at F hD hS hU hW⟩⟩ rfl (by rw [List.length_map]; exact hA) (by rw [← F.l]; exact hl.1) (by simp [List.map_reverse, pv]) (lv_room (lv_room2 ad hcat)) hd (by rw [F.r]; exact ⟨hc, hs⟩)) hD hS hq hl hls hst kk
  have := va_recv F.k hP (vw_at hci) hw
  rw [hcl] at this
  exact this
/-- a constructor, by a plain link -/
theorem a_callI (F : Fx X cc own nL d mc ms) {y : MethodName} {cy : ByteArray} {nLy index n d' mc' ms' b : Nat} {As : List Value} {Ψ : Option Value → HS → List Nat → Prop} (C : Con (xl X) d' y cy nLy none (.ref b :: As) σ pl mc' ms' Ψ) (L : ML own index y cy nLy none n) (hy : y.name = "<init>") (hi : Cond.instanceMethod y ∈ lwG) (hdd : d' < d)
    (hA : As.length = n) (hd : decode cc pc = .ok (.invokespecial index, 3)) (hcat : (st.map fun v => v.category).sum ≤ 8) (hc : k1 + mc' ≤ mc) (hs : k2 + ms' ≤ ms)
    (hls : ∀ x ∈ ls, ∀ p, x.2 = .ref p → p ∈ pl) (hst : ∀ v ∈ st, ∀ p, v = .ref p → p ∈ pl)
    (kk : ∀ r σ' pl', Ψ r σ' pl' → (∀ q, q ∈ pl → q ∈ pl') → WA X σ' pl' (k1 + mc') (k2 + ms') (pc + 3) ls (r.toList ++ st)) : WA X σ pl k1 k2 pc ls (As.reverse ++ .ref b :: st) := by
  intro ad H locs la hP hD hS hq hl
  exact cBack F (va_runI (As := As.map (pv ad)) (rest := st.map (pv ad)) (b := ad b) ⟨F.x, F.b, F.l, F.o, F.t⟩ (C (xD X) (xcy X) H.size ad) ⟨cCallB F L hdd, hy, F.t _ hi⟩ ⟨cBlind, fun U hU hW => ⟨rfl, by rw [hU], by rw [hU]; exact hP, va_K.moved hW.alike F.k, hD.weaken (fun _ _ _ _ => trivial)⟩⟩ rfl (by rw [List.length_map]; exact hA) (by rw [← F.l]; exact hl.1) (by simp [List.map_reverse, pv]) (lv_room (lv_room2 ad hcat)) hd (by rw [F.r]; exact ⟨hc, hs⟩)) hD hS hq hl hls hst kk
theorem a_callIS (F : Fx X cc own nL d mc ms) (S : SX X) {y : MethodName} {cy : ByteArray} {nLy index n d' mc' ms' b : Nat} {As : List Value} {Ψ : Option Value → HS → List Nat → Prop} (C : ConS (xl X) d' y cy nLy none (.ref b :: As) σ pl mc' ms' Ψ) (L : ML own index y cy nLy none n) (hy : y.name = "<init>") (hi : Cond.instanceMethod y ∈ lwG) (hdd : d' < d)
    (hA : As.length = n) (hd : decode cc pc = .ok (.invokespecial index, 3)) (hcat : (st.map fun v => v.category).sum ≤ 8) (hc : k1 + mc' ≤ mc) (hs : k2 + ms' ≤ ms)
    (hls : ∀ x ∈ ls, ∀ p, x.2 = .ref p → p ∈ pl) (hst : ∀ v ∈ st, ∀ p, v = .ref p → p ∈ pl)
    (kk : ∀ r σ' pl', Ψ r σ' pl' → (∀ q, q ∈ pl → q ∈ pl') → WA X σ' pl' (k1 + mc') (k2 + ms') (pc + 3) ls (r.toList ++ st)) : WA X σ pl k1 k2 pc ls (As.reverse ++ .ref b :: st) := by
  intro ad H locs la hP hD hS hq hl
  exact cBack F (va_runI (As := As.map (pv ad)) (rest := st.map (pv ad)) (b := ad b) ⟨F.x, F.b, F.l, F.o, F.t⟩ (C (xD X) (xcy X) H.size ad) ⟨cCallB F L hdd, hy, F.t _ hi⟩ ⟨cBlindS, fun U hU hW => ⟨rfl, by rw [hU], by rw [hU]; exact hP, va_K.moved hW.alike F.k, hD.weaken (fun _ _ _ _ => trivial), S.at F hD hS hU hW⟩⟩ rfl (by rw [List.length_map]; exact hA) (by rw [← F.l]; exact hl.1) (by simp [List.map_reverse, pv]) (lv_room (lv_room2 ad hcat)) hd (by rw [F.r]; exact ⟨hc, hs⟩)) hD hS hq hl hls hst kk
/-- the words of a call in the nest -/
def MN (own : String) (index : Nat) (y : MethodName) (cy : ByteArray) (nLy : Nat) (ret : Option FieldType) (n : Nat) : Prop :=
  (own, index, y) ∈ nwL ∧ Cond.code y cy nLy ret ∈ lwG ∧ Cond.initialized y.cls ∈ lwG ∧ nLy ≤ 40 ∧ (y.cls ≠ "java/lang/invoke/MethodHandle" ∧ y.cls ≠ "java/lang/invoke/VarHandle") ∧ (parseMethodDescriptor y.desc).map (fun d => d.parameters.length) = some n
theorem cCallN (F : Fx X cc own nL d mc ms) (S : SX X) {y : MethodName} {cy : ByteArray} {nLy index n d' mc' ms' : Nat} {rt : Option FieldType} (L : MN own index y cy nLy rt n) (hdd : d' < d) : va_CN (xR X) (xs X) (xargs X) own index y "BearHouse" cy nLy rt (Cond.code y cy nLy rt :: lwG) (rmD d' mc' ms') mc' ms' n := by
  refine va_cnB n F.t (fun w hw => ?_) rfl rfl rfl (S.1 _ L.1) (F.t _ L.2.2.1) ⟨L.2.2.2.2.1.1, L.2.2.2.2.1.2, L.2.2.2.2.2⟩ ⟨?_, ?_⟩
  · rcases List.mem_cons.mp hw with rfl | h
    · exact lwG_good _ L.2.1
    · exact lwG_good _ h
  · rw [F.r]; show 16 * d' + 1 ≤ 16 * d; omega
  · rw [F.r]; show 8 + (nLy + 11) + 128 * d' ≤ 128 * d; have := L.2.2.2.1; omega
theorem a_callN (F : Fx X cc own nL d mc ms) (S : SX X) {y : MethodName} {cy : ByteArray} {nLy index n d' mc' ms' b : Nat} {As : List Value} {Ψ : Option Value → HS → List Nat → Prop} (C : Con (xl X) d' y cy nLy none (.ref b :: As) σ pl mc' ms' Ψ) (L : MN own index y cy nLy none n) (hy : y.name = "<init>") (hi : Cond.instanceMethod y ∈ lwG) (hdd : d' < d)
    (hA : As.length = n) (hd : decode cc pc = .ok (.invokespecial index, 3)) (hcat : (st.map fun v => v.category).sum ≤ 8) (hc : k1 + mc' ≤ mc) (hs : k2 + ms' ≤ ms)
    (hls : ∀ x ∈ ls, ∀ p, x.2 = .ref p → p ∈ pl) (hst : ∀ v ∈ st, ∀ p, v = .ref p → p ∈ pl)
    (kk : ∀ r σ' pl', Ψ r σ' pl' → (∀ q, q ∈ pl → q ∈ pl') → WA X σ' pl' (k1 + mc') (k2 + ms') (pc + 3) ls (r.toList ++ st)) : WA X σ pl k1 k2 pc ls (As.reverse ++ .ref b :: st) := by
  intro ad H locs la hP hD hS hq hl
  exact cBack F (va_runIN (As := As.map (pv ad)) (rest := st.map (pv ad)) (b := ad b) ⟨F.x, F.b, F.l, F.o, F.t⟩ (C (xD X) (xcy X) H.size ad) ⟨cCallN F S L hdd, hy, F.t _ hi⟩ ⟨cBlind, fun U hU hW => ⟨rfl, by rw [hU], by rw [hU]; exact hP, va_K.moved hW.alike F.k, hD.weaken (fun _ _ _ _ => trivial)⟩⟩ rfl (by rw [List.length_map]; exact hA) (by rw [← F.l]; exact hl.1) (by simp [List.map_reverse, pv]) (lv_room (lv_room2 ad hcat)) hd (by rw [F.r]; exact ⟨hc, hs⟩)) hD hS hq hl hls hst kk
theorem a_callNS (F : Fx X cc own nL d mc ms) (S : SX X) {y : MethodName} {cy : ByteArray} {nLy index n d' mc' ms' b : Nat} {As : List Value} {Ψ : Option Value → HS → List Nat → Prop} (C : ConS (xl X) d' y cy nLy none (.ref b :: As) σ pl mc' ms' Ψ) (L : MN own index y cy nLy none n) (hy : y.name = "<init>") (hi : Cond.instanceMethod y ∈ lwG) (hdd : d' < d)
    (hA : As.length = n) (hd : decode cc pc = .ok (.invokespecial index, 3)) (hcat : (st.map fun v => v.category).sum ≤ 8) (hc : k1 + mc' ≤ mc) (hs : k2 + ms' ≤ ms)
    (hls : ∀ x ∈ ls, ∀ p, x.2 = .ref p → p ∈ pl) (hst : ∀ v ∈ st, ∀ p, v = .ref p → p ∈ pl)
    (kk : ∀ r σ' pl', Ψ r σ' pl' → (∀ q, q ∈ pl → q ∈ pl') → WA X σ' pl' (k1 + mc') (k2 + ms') (pc + 3) ls (r.toList ++ st)) : WA X σ pl k1 k2 pc ls (As.reverse ++ .ref b :: st) := by
  intro ad H locs la hP hD hS hq hl
  exact cBack F (va_runIN (As := As.map (pv ad)) (rest := st.map (pv ad)) (b := ad b) ⟨F.x, F.b, F.l, F.o, F.t⟩ (C (xD X) (xcy X) H.size ad) ⟨cCallN F S L hdd, hy, F.t _ hi⟩ ⟨cBlindS, fun U hU hW => ⟨rfl, by rw [hU], by rw [hU]; exact hP, va_K.moved hW.alike F.k, hD.weaken (fun _ _ _ _ => trivial), S.at F hD hS hU hW⟩⟩ rfl (by rw [List.length_map]; exact hA) (by rw [← F.l]; exact hl.1) (by simp [List.map_reverse, pv]) (lv_room (lv_room2 ad hcat)) hd (by rw [F.r]; exact ⟨hc, hs⟩)) hD hS hq hl hls hst kk
theorem a_callSN (F : Fx X cc own nL d mc ms) (S : SX X) {y : MethodName} {cy : ByteArray} {nLy index n d' mc' ms' : Nat} {rt : Option FieldType} {As : List Value} {Ψ : Option Value → HS → List Nat → Prop} (C : Con (xl X) d' y cy nLy rt As σ pl mc' ms' Ψ) (L : MN own index y cy nLy rt n) (hsta : Cond.static y ∈ lwG) (hdd : d' < d)
    (hA : As.length = n) (hd : decode cc pc = .ok (.invokestatic index, 3)) (hcat : (st.map fun v => v.category).sum ≤ 8) (hc : k1 + mc' ≤ mc) (hs : k2 + ms' ≤ ms)
    (hls : ∀ x ∈ ls, ∀ p, x.2 = .ref p → p ∈ pl) (hst : ∀ v ∈ st, ∀ p, v = .ref p → p ∈ pl)
    (kk : ∀ r σ' pl', Ψ r σ' pl' → (∀ q, q ∈ pl → q ∈ pl') → WA X σ' pl' (k1 + mc') (k2 + ms') (pc + 3) ls (r.toList ++ st)) : WA X σ pl k1 k2 pc ls (As.reverse ++ st) := by
  intro ad H locs la hP hD hS hq hl
  exact cBack F (va_runSN (As := As.map (pv ad)) (rest := st.map (pv ad)) ⟨F.x, F.b, F.l, F.o, F.t⟩ (C (xD X) (xcy X) H.size ad) ⟨cCallN F S L hdd, F.t _ hsta, trivial⟩ ⟨cBlind, fun U hU hW => ⟨rfl, by rw [hU], by rw [hU]; exact hP, va_K.moved hW.alike F.k, hD.weaken (fun _ _ _ _ => trivial)⟩⟩ rfl (by rw [List.length_map]; exact hA) (by rw [← F.l]; exact hl.1) (by simp [List.map_reverse]) (lv_room (lv_room2 ad hcat)) hd (by rw [F.r]; exact ⟨hc, hs⟩)) hD hS hq hl hls hst kk
end
