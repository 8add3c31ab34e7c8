/-! THE LAW'S FRAME: three worlds beside each other, and the script -/
def LW (X : Ctx) (adR : Nat → Nat) (σR : HS) (plR : List Nat) (adC : Nat → Nat) (σC : HS) (plC : List Nat) (ao : Nat) (U : Nat → Int64) (H : Heap) (locs : List Loc) : Prop :=
  (va_P (xD X) vwCl (wl (xcy X) adR σR plR) H ∧ va_D (xA X) (wl (xcy X) adR σR plR)) ∧ (va_P (xD X) vwCl (wl (xcy X) adC σC plC) H ∧ va_D (xA X) (wl (xcy X) adC σC plC)) ∧ (va_P (xD X) vwCl [oC (xcy X) ao U] H ∧ xA X ao) ∧ apt (wl (xcy X) adC σC plC) (wl (xcy X) adR σR plR) ∧ apt (wl (xcy X) adC σC plC) [oC (xcy X) ao U] ∧ apt (wl (xcy X) adR σR plR) [oC (xcy X) ao U] ∧ va_S (xA X) (xs X).heap H locs
def LA (X : Ctx) (ax ay ao : Nat) (σR : HS) (plR : List Nat) (σC : HS) (plC : List Nat) (U : Nat → Int64) (k1 k2 pc : Nat) (ls : List (Nat × Value)) (st : List Value) : Prop :=
  ∀ (adR adC : Nat → Nat) (H : Heap) (locs : List Loc) (la : Array Slot), LW X adR σR plR adC σC plC ao U H locs → adC 100 = ax → adR 0 = ay → lv_has la 7 ls → WX X H locs k1 k2 (xQ X) (F0 (xm X) pc la st)
theorem apt_app {w1 w2 wr : va_W} (h1 : apt w1 wr) (h2 : apt w2 wr) : apt (w1 ++ w2) wr := fun i j p q hp hq e => by
  by_cases hi : i < w1.length
  · rw [List.getElem?_append_left hi] at hp
    exact h1 i j p q hp hq e
  · rw [List.getElem?_append_right (Nat.not_lt.mp hi)] at hp
    exact h2 _ j p q hp hq e
theorem hBlind {D : va_G} {cy : Nat → ClassId} {sz : Nat} {ad : Nat → Nat} {σ : HS} {pl : List Nat} {ao : Nat} {U : Nat → Int64} {avs : List Value} : FrameBlind (hPre D cy sz ad σ pl ao U avs) := fun a u g mk q =>
  ⟨q.1, q.2.1, q.2.2.1, q.2.2.2.1, va_K.moved (u := u) (U := u.calling g mk a) (Vm.Alike.refl u.vm) q.2.2.2.2.1, q.2.2.2.2.2.1, q.2.2.2.2.2.2.1, SW.same (u := u) (U := u.calling g mk a) rfl q.2.2.2.2.2.2.2.1, exW.same (u := u) (U := u.calling g mk a) rfl q.2.2.2.2.2.2.2.2⟩
section
variable {X : Ctx} {ax ay ao : Nat} {σR σC : HS} {plR plC : List Nat} {U : Nat → Int64} {k1 k2 pc : Nat} {ls ls' : List (Nat × Value)} {st : List Value}
theorem l_widen {j1 j2 : Nat} (h1 : k1 ≤ j1) (h2 : k2 ≤ j2) (k : LA X ax ay ao σR plR σC plC U j1 j2 pc ls st) : LA X ax ay ao σR plR σC plC U k1 k2 pc ls st := fun adR adC H locs la h hx hy hl => W.widen h1 h2 (k adR adC H locs la h hx hy hl)
theorem l_iconst (F : FLx X cL_law RL 7) {n : Int} {v : Int32} (hd : decode cL_law pc = .ok (.iconst n, 1)) (hv : Int32.ofInt n = v) (k : LA X ax ay ao σR plR σC plC U k1 k2 (pc + 1) ls (.int v :: st)) : LA X ax ay ao σR plR σC plC U k1 k2 pc ls st := fun adR adC H locs la h hx hy hl => lv_iconst F.1 F.2.1 hd hv (k adR adC H locs la h hx hy hl)
theorem l_bipush (F : FLx X cL_law RL 7) {n : Int} {v : Int32} (hd : decode cL_law pc = .ok (.bipush n, 2)) (hv : (Int8.ofInt n).toInt32 = v) (k : LA X ax ay ao σR plR σC plC U k1 k2 (pc + 2) ls (.int v :: st)) : LA X ax ay ao σR plR σC plC U k1 k2 pc ls st := fun adR adC H locs la h hx hy hl => lv_bipush F.1 F.2.1 hd hv (k adR adC H locs la h hx hy hl)
theorem l_iload (F : FLx X cL_law RL 7) {i : Nat} {x : Int32} (j : Nat) (hd : decode cL_law pc = .ok (.iload i, 2)) (hj : ls[j]? = some (i, .int x)) (k : LA X ax ay ao σR plR σC plC U k1 k2 (pc + 2) ls (.int x :: st)) : LA X ax ay ao σR plR σC plC U k1 k2 pc ls st := fun adR adC H locs la h hx hy hl => lv_iload F.1 F.2.1 hd (lv_at hl j hj) (k adR adC H locs la h hx hy hl)
theorem l_aload_n (F : FLx X cL_law RL 7) {k9 : Fin 4} {i : Nat} {x : Nat} (j : Nat) (hd : decode cL_law pc = .ok (.aload_n k9, 1)) (hi : (k9 : Nat) = i) (hj : ls[j]? = some (i, .ref x)) (k : LA X ax ay ao σR plR σC plC U k1 k2 (pc + 1) ls (.ref x :: st)) : LA X ax ay ao σR plR σC plC U k1 k2 pc ls st := fun adR adC H locs la h hx hy hl => lv_aload_n F.1 F.2.1 hd hi (lv_at hl j hj) (k adR adC H locs la h hx hy hl)
theorem l_iadd (F : FLx X cL_law RL 7) {x y : Int32} (hd : decode cL_law pc = .ok (.iadd, 1)) (k : LA X ax ay ao σR plR σC plC U k1 k2 (pc + 1) ls (.int (x + y) :: st)) : LA X ax ay ao σR plR σC plC U k1 k2 pc ls (.int y :: .int x :: st) := fun adR adC H locs la h hx hy hl => lv_iadd F.1 F.2.1 hd (k adR adC H locs la h hx hy hl)
theorem l_isub (F : FLx X cL_law RL 7) {x y : Int32} (hd : decode cL_law pc = .ok (.isub, 1)) (k : LA X ax ay ao σR plR σC plC U k1 k2 (pc + 1) ls (.int (x - y) :: st)) : LA X ax ay ao σR plR σC plC U k1 k2 pc ls (.int y :: .int x :: st) := fun adR adC H locs la h hx hy hl => lv_isub F.1 F.2.1 hd (k adR adC H locs la h hx hy hl)
theorem l_iand (F : FLx X cL_law RL 7) {x y : Int32} (hd : decode cL_law pc = .ok (.iand, 1)) (k : LA X ax ay ao σR plR σC plC U k1 k2 (pc + 1) ls (.int (x &&& y) :: st)) : LA X ax ay ao σR plR σC plC U k1 k2 pc ls (.int y :: .int x :: st) := fun adR adC H locs la h hx hy hl => lv_iand F.1 F.2.1 hd (k adR adC H locs la h hx hy hl)
theorem l_i2l (F : FLx X cL_law RL 7) {x : Int32} (hd : decode cL_law pc = .ok (.i2l, 1)) (k : LA X ax ay ao σR plR σC plC U k1 k2 (pc + 1) ls (.long x.toInt64 :: st)) : LA X ax ay ao σR plR σC plC U k1 k2 pc ls (.int x :: st) := fun adR adC H locs la h hx hy hl => lv_i2l F.1 F.2.1 hd rfl (k adR adC H locs la h hx hy hl)
theorem l_lcmp (F : FLx X cL_law RL 7) {x y : Int64} (hd : decode cL_law pc = .ok (.lcmp, 1)) (k : LA X ax ay ao σR plR σC plC U k1 k2 (pc + 1) ls (.int (lg_cmp x y) :: st)) : LA X ax ay ao σR plR σC plC U k1 k2 pc ls (.long y :: .long x :: st) := fun adR adC H locs la h hx hy hl => W.lcmp F.1 F.2.1 hd (k adR adC H locs la h hx hy hl)
theorem l_istore (F : FLx X cL_law RL 7) {i : Nat} {x : Int32} (hd : decode cL_law pc = .ok (.istore i, 2)) (hn : i < 7) (hl' : (i, Value.int x) :: ls.filter (fun q => !(q.1 == i) && !(q.1 + 1 == i && q.2.category == 2)) = ls') (k : LA X ax ay ao σR plR σC plC U k1 k2 (pc + 2) ls' st) : LA X ax ay ao σR plR σC plC U k1 k2 pc ls (.int x :: st) := fun adR adC H locs la h hx hy hl => lv_istore F.1 F.2.1 hd hl hn hl' (fun la' hl2 => k adR adC H locs la' h hx hy hl2)
theorem l_iinc (F : FLx X cL_law RL 7) {i k0 : Nat} {n : Int} {x v : Int32} (hd : decode cL_law pc = .ok (.iinc i n, 3)) (hk : ls[k0]? = some (i, .int x)) (hv : x + Int32.ofInt n = v) (hn : i < 7) (hl' : (i, Value.int v) :: ls.filter (fun q => !(q.1 == i) && !(q.1 + 1 == i && q.2.category == 2)) = ls') (k : LA X ax ay ao σR plR σC plC U k1 k2 (pc + 3) ls' st) : LA X ax ay ao σR plR σC plC U k1 k2 pc ls st := fun adR adC H locs la h hx hy hl => lv_iinc F.1 F.2.1 hd hl hk hv hn hl' (fun la' hl2 => k adR adC H locs la' h hx hy hl2)
theorem l_goto (F : FLx X cL_law RL 7) {off : Int} {tgt : Nat} (hd : decode cL_law pc = .ok (.goto off, 3)) (ht : (pc : Int) + off = (tgt : Int)) (k : LA X ax ay ao σR plR σC plC U k1 k2 tgt ls st) : LA X ax ay ao σR plR σC plC U k1 k2 pc ls st := fun adR adC H locs la h hx hy hl => lv_goto F.1 F.2.1 hd ht (k adR adC H locs la h hx hy hl)
theorem l_sub (ks : List Nat) (h : lv_pick ls ks = ls') (k : LA X ax ay ao σR plR σC plC U k1 k2 pc ls' st) : LA X ax ay ao σR plR σC plC U k1 k2 pc ls st := fun adR adC H locs la hw hx hy hl => k adR adC H locs la hw hx hy (lv_sub hl ks h)
theorem l_icmp_eq (F : FLx X cL_law RL 7) {x y : Int32} {off : Int} {tgt : Nat} (hd : decode cL_law pc = .ok (.if_icmp .eq off, 3)) (ht : (pc : Int) + off = (tgt : Int)) (e : x = y) (k : LA X ax ay ao σR plR σC plC U k1 k2 tgt ls st) : LA X ax ay ao σR plR σC plC U k1 k2 pc ls (.int y :: .int x :: st) := fun adR adC H locs la h hx hy hl => lv_icmp_eq F.1 F.2.1 hd ht (fun _ => k adR adC H locs la h hx hy hl) (fun z => absurd e z)
theorem l_icmp_gt (F : FLx X cL_law RL 7) {x y : Int32} {off : Int} {tgt : Nat} (hd : decode cL_law pc = .ok (.if_icmp .gt off, 3)) (ht : (pc : Int) + off = (tgt : Int)) (kt : y < x → LA X ax ay ao σR plR σC plC U k1 k2 tgt ls st) (kf : ¬ y < x → LA X ax ay ao σR plR σC plC U k1 k2 (pc + 3) ls st) : LA X ax ay ao σR plR σC plC U k1 k2 pc ls (.int y :: .int x :: st) := fun adR adC H locs la h hx hy hl => lv_icmp_gt F.1 F.2.1 hd ht (fun z => kt z adR adC H locs la h hx hy hl) (fun z => kf z adR adC H locs la h hx hy hl)
theorem l_if_eq (F : FLx X cL_law RL 7) {x : Int32} {off : Int} {tgt : Nat} (hd : decode cL_law pc = .ok (.ifCond .eq off, 3)) (ht : (pc : Int) + off = (tgt : Int)) (kt : x = 0 → LA X ax ay ao σR plR σC plC U k1 k2 tgt ls st) (kf : ¬ x = 0 → LA X ax ay ao σR plR σC plC U k1 k2 (pc + 3) ls st) : LA X ax ay ao σR plR σC plC U k1 k2 pc ls (.int x :: st) := fun adR adC H locs la h hx hy hl => lv_if_eq F.1 F.2.1 hd ht (fun z => kt z adR adC H locs la h hx hy hl) (fun z => kf z adR adC H locs la h hx hy hl)
theorem l_if_ne (F : FLx X cL_law RL 7) {x : Int32} {off : Int} {tgt : Nat} (hd : decode cL_law pc = .ok (.ifCond .ne off, 3)) (ht : (pc : Int) + off = (tgt : Int)) (kt : ¬ x = 0 → LA X ax ay ao σR plR σC plC U k1 k2 tgt ls st) (kf : x = 0 → LA X ax ay ao σR plR σC plC U k1 k2 (pc + 3) ls st) : LA X ax ay ao σR plR σC plC U k1 k2 pc ls (.int x :: st) := fun adR adC H locs la h hx hy hl => lv_if_ne F.1 F.2.1 hd ht (fun z => kt z adR adC H locs la h hx hy hl) (fun z => kf z adR adC H locs la h hx hy hl)
theorem l_laload (F : FLx X cL_law RL 7) {i : Int32} (hi : vp_in i 1) (hd : decode cL_law pc = .ok (.laload, 1)) (k : LA X ax ay ao σR plR σC plC U k1 k2 (pc + 1) ls (.long (U i.toNatClampNeg) :: st)) : LA X ax ay ao σR plR σC plC U k1 k2 pc ls (.int i :: .ref ao :: st) := fun adR adC H locs la h hx hy hl => va_lald F.1 F.2.1 F.2.2.2.2.2.1 h.2.2.1.1 0 1 (cA := xcy X 14) (n := 1) (f := U) rfl rfl hi hd (k adR adC H locs la h hx hy hl)
/-- a number of the script -/
theorem l_ld (F : FLx X cL_law RL 7) {b L : Nat} {xs0 : Nat → Int32} (hS : va_X b L xs0 (xs X) (xs X).heap) (hbl : b < (xs X).heap.size) (hbA : ¬ xA X b) {n j : Nat} {jj : Int} (q0 q4 : Nat) (hn : n + j < L) (hL : L ≤ 3072) (hv : Int32.ofInt jj = nI j) (h0 : decode cL_law pc = .ok (.aload_n 0, 1)) (h1 : decode cL_law (pc + 1) = .ok (.iload 4, 2)) (h2 : decode cL_law (pc + 3) = .ok (.iconst jj, 1)) (h3 : decode cL_law (pc + 4) = .ok (.iadd, 1)) (h4 : decode cL_law (pc + 5) = .ok (.iaload, 1)) (hl0 : ls[q0]? = some (0, .ref b)) (hl4 : ls[q4]? = some (4, .int (nI n))) (k : LA X ax ay ao σR plR σC plC U k1 k2 (pc + 6) ls (.int (xs0 (n + j)) :: st)) : LA X ax ay ao σR plR σC plC U k1 k2 pc ls st := by
  refine l_aload_n F q0 h0 rfl hl0 (l_iload F q4 h1 hl4 (l_iconst F h2 hv (l_iadd F h3 ?_)))
  intro adR adC H locs la h hx hy hl
  refine va_sld F.1 F.2.1 hS hbl hbA h.2.2.2.2.2.2 (i := nI n + nI j) ?_ h4 ?_
  · rw [nI_A]; exact vp_in_nI hn (by omega)
  · rw [nI_A, nI_clamp (by omega)]
    exact k adR adC H locs la h hx hy hl
theorem l_ld0 (F : FLx X cL_law RL 7) {b L : Nat} {xs0 : Nat → Int32} (hS : va_X b L xs0 (xs X) (xs X).heap) (hbl : b < (xs X).heap.size) (hbA : ¬ xA X b) {n : Nat} (q0 q4 : Nat) (hn : n < L) (hL : L ≤ 3072) (h0 : decode cL_law pc = .ok (.aload_n 0, 1)) (h1 : decode cL_law (pc + 1) = .ok (.iload 4, 2)) (h4 : decode cL_law (pc + 3) = .ok (.iaload, 1)) (hl0 : ls[q0]? = some (0, .ref b)) (hl4 : ls[q4]? = some (4, .int (nI n))) (k : LA X ax ay ao σR plR σC plC U k1 k2 (pc + 4) ls (.int (xs0 n) :: st)) : LA X ax ay ao σR plR σC plC U k1 k2 pc ls st := by
  refine l_aload_n F q0 h0 rfl hl0 (l_iload F q4 h1 hl4 ?_)
  intro adR adC H locs la h hx hy hl
  refine va_sld F.1 F.2.1 hS hbl hbA h.2.2.2.2.2.2 (i := nI n) (vp_in_nI hn (by omega)) h4 ?_
  rw [nI_clamp (by omega)]
  exact k adR adC H locs la h hx hy hl
theorem l_len (F : FLx X cL_law RL 7) {b L : Nat} {xs0 : Nat → Int32} (hS : va_X b L xs0 (xs X) (xs X).heap) (hbl : b < (xs X).heap.size) (hbA : ¬ xA X b) (hd : decode cL_law pc = .ok (.arraylength, 1)) (k : LA X ax ay ao σR plR σC plC U k1 k2 (pc + 1) ls (.int (nI L) :: st)) : LA X ax ay ao σR plR σC plC U k1 k2 pc ls (.ref b :: st) := fun adR adC H locs la h hx hy hl => va_slen F.1 F.2.1 hS hbl hbA h.2.2.2.2.2.2 hd (k adR adC H locs la h hx hy hl)
/-- a call of the reference's -/
theorem l_callR (F : FLx X cL_law RL 7) {y : MethodName} {cy : ByteArray} {nLy index n d' mc' ms' : Nat} {rt : Option FieldType} {As rest : List Value} {Φ : Option Value → HS → List Nat → Prop} (C : Con (xl X) d' y cy nLy rt (.ref 0 :: As) σR plR mc' ms' Φ) (L : ML RL index y cy nLy rt n) (hi : Cond.instanceMethod y ∈ lwG) (hse : Cond.selects y.cls y y ∈ lwG) (hfr : 16 * d' + 1 ≤ (xR X).frames) (hlo : 8 + (nLy + 11) + 128 * d' ≤ (xR X).locals)
    (hcl : RR 12 = y.cls) (hb : 0 ∈ plR) (hk : sK σR 0 = 12) (hA : As.length = n) (hAs : ∀ ad, As.map (pv ad) = As) (hd : decode cL_law pc = .ok (.invokevirtual index, 3)) (hcat : (rest.map fun v => v.category).sum ≤ 8) (hc : k1 + mc' ≤ (xR X).cells) (hs : k2 + ms' ≤ (xR X).slots) (hr : ∀ r σ' pl', Φ r σ' pl' → ∀ ad, r.map (pv ad) = r)
    (kk : ∀ r σ' pl', Φ r σ' pl' → (∀ q, q ∈ plR → q ∈ pl') → LA X ax ay ao σ' pl' σC plC U (k1 + mc') (k2 + ms') (pc + 3) ls (r.toList ++ rest)) : LA X ax ay ao σR plR σC plC U k1 k2 pc ls (As.reverse ++ .ref ay :: rest) := by
  intro adR adC H locs la h hx hy hl
  subst hy
  have z := f_callV (As := As) (rest := rest) (b := 0) (ci := 12) F C L hi hse hfr hlo (by decide) hcl hb hk hA hd hcat hc hs hl.1 h.1.1 h.1.2 h.2.2.2.2.2.2 (fun r σ' pl' ad' H' locs' hΦ hag hP1 hD1 hS1 hf => by
    obtain ⟨c1, c2⟩ := hf _ h.2.1.1 h.2.2.2.1.sy
    obtain ⟨o1, o2⟩ := hf _ h.2.2.1.1 h.2.2.2.2.2.1
    rw [hr r σ' pl' hΦ ad']
    exact kk r σ' pl' hΦ (fun q hq => (hag q hq).1) ad' adC H' locs' la ⟨⟨hP1, hD1⟩, ⟨c1, h.2.1.2⟩, ⟨o1, h.2.2.1.2⟩, c2.sy, h.2.2.2.2.1, o2, hS1⟩ hx (hag 0 hb).2 hl)
  rw [hAs adR] at z
  exact z
/-- a call of the class's that throws nothing -/
theorem l_callC (F : FLx X cL_law RL 7) {y : MethodName} {cy : ByteArray} {nLy index n d' mc' ms' : Nat} {rt : Option FieldType} {As rest : List Value} {Φ : Option Value → HS → List Nat → Prop} (C : ConX (xl X) d' y cy nLy rt (.ref 100 :: As) σC plC mc' ms' Φ (fun _ _ _ => False)) (L : ML RL index y cy nLy rt n) (hi : Cond.instanceMethod y ∈ lwG) (hse : Cond.selects y.cls y y ∈ lwG) (hfr : 16 * d' + 1 ≤ (xR X).frames) (hlo : 8 + (nLy + 11) + 128 * d' ≤ (xR X).locals)
    (hcl : RR 11 = y.cls) (hb : 100 ∈ plC) (hk : sK σC 100 = 11) (hA : As.length = n) (hAs : ∀ ad, As.map (pv ad) = As) (hd : decode cL_law pc = .ok (.invokevirtual index, 3)) (hcat : (rest.map fun v => v.category).sum ≤ 8) (hc : k1 + mc' ≤ (xR X).cells) (hs : k2 + ms' ≤ (xR X).slots) (hr : ∀ r σ' pl', Φ r σ' pl' → ∀ ad, r.map (pv ad) = r)
    (kk : ∀ r σ' pl', Φ r σ' pl' → (∀ q, q ∈ plC → q ∈ pl') → LA X ax ay ao σR plR σ' pl' U (k1 + mc') (k2 + ms') (pc + 3) ls (r.toList ++ rest)) : LA X ax ay ao σR plR σC plC U k1 k2 pc ls (As.reverse ++ .ref ax :: rest) := by
  intro adR adC H locs la h hx hy hl
  subst hx
  have z := f_callVX (As := As) (rest := rest) (b := 100) (ci := 11) F C L hi hse hfr hlo (by decide) hcl hb hk hA hd hcat hc hs hl.1 h.2.1.1 h.2.1.2 h.2.2.2.2.2.2 (fun E ce q σ' pl' ad' H' locs' hΨ hag hP1 hD1 hS1 hf hce hcv hcl => hΨ.elim) (fun r σ' pl' ad' H' locs' hΦ hag hP1 hD1 hS1 hf => by
    obtain ⟨c1, c2⟩ := hf _ h.1.1 h.2.2.2.1
    obtain ⟨o1, o2⟩ := hf _ h.2.2.1.1 h.2.2.2.2.1
    rw [hr r σ' pl' hΦ ad']
    exact kk r σ' pl' hΦ (fun q hq => (hag q hq).1) adR ad' H' locs' la ⟨⟨c1, h.1.2⟩, ⟨hP1, hD1⟩, ⟨o1, h.2.2.1.2⟩, c2, o2, h.2.2.2.2.2.1, hS1⟩ (hag 100 hb).2 hy hl)
  rw [hAs adC] at z
  exact z
/-- a helper -/
theorem l_help (F : FLx X cL_law RL 7) {y : MethodName} {cc' : ByteArray} {nL' index n mc' ms' : Nat} {hh : List (Nat × Nat × Nat × Nat)} {avs : Nat → Nat → List Value} {rest : List Value} {Θ : (Nat → Int64) → Int32 → HS → List Nat → (Nat → Int64) → Prop} (C : HCon (xl X) 19 y cc' nL' hh avs σC plC mc' ms' Θ) (L : HL index y cc' nL' hh n) (hfr : 16 * 19 + 1 ≤ (xR X).frames) (hlo : 8 + (nL' + 11) + 128 * 19 ≤ (xR X).locals) (hb : 100 ∈ plC) (hA : (avs ax ao).length = n) (hd : decode cL_law pc = .ok (.invokestatic index, 3)) (hcat : (rest.map fun v => v.category).sum ≤ 8) (hc : k1 + mc' ≤ (xR X).cells) (hs : k2 + ms' ≤ (xR X).slots)
    (kk : ∀ k σ' pl' U', Θ U k σ' pl' U' → (∀ q, q ∈ plC → q ∈ pl') → LA X ax ay ao σR plR σ' pl' U' (k1 + mc') (k2 + ms') (pc + 3) ls (.int k :: rest)) : LA X ax ay ao σR plR σC plC U k1 k2 pc ls ((avs ax ao).reverse ++ rest) := by
  intro adR adC H locs la h hx hy hl
  subst hx
  obtain ⟨⟨pR, dR⟩, ⟨pC, dC⟩, ⟨pO, hao⟩, aCR, aCo, aRo, hS⟩ := h
  have dCo : va_D (xA X) (wl (xcy X) adC σC plC ++ [oC (xcy X) ao U]) := dC.app (vD_1 (x := oC (xcy X) ao U) hao) aCo
  have hr := vx_runSX (As := avs (adC 100) ao) (rest := rest) (cells := k1) (slots := k2) (locs := locs) (H := H) (g := F0 (xm X) pc la ((avs (adC 100) ao).reverse ++ rest)) (meth := xmeth X) (below := xbelow X) (e := xe X) ⟨F.1, F.2.1, F.2.2.1, F.2.2.2.1, F.2.2.2.2.1⟩ (C (xD X) (xcy X) H.size adC ao U) (R := xR X) (index := index) (n := n)
    ⟨⟨rfl, rfl, hfr, hlo, pay_in F.2.2.2.2.1 (fun w hw => by
      rcases List.mem_cons.mp hw with rfl | h
      · exact lwG_good _ L.2.1
      · exact lwG_good _ h), List.mem_cons_self⟩, F.2.2.2.2.1 _ L.2.1, F.2.2.2.2.1 _ L.2.2.2.1, L.2.2.2.2.1, fun sig hh2 => by
        have h2 := L.2.2.2.2.2
        rw [hh2] at h2
        exact (Option.some.inj h2).symm, F.2.2.2.2.1 _ L.1, F.2.2.2.2.1 _ L.2.2.1⟩
    ⟨hBlind, fun V hV hW => ⟨rfl, by rw [hV], by rw [hV]; exact pC, by rw [hV]; exact pO, va_K.moved hW.alike F.2.2.2.2.2.1, dC.weaken (fun _ _ _ _ => trivial), aCo, fSW F dCo hS hV hW, F.2.2.2.2.2.2.2.2.2.warm hW⟩⟩ rfl hA hl.1 rfl (lv_room hcat) hd ⟨hc, hs⟩
  intro T hT Y
  rcases hr T hT Y with ⟨v, st₀, t, T', L2, h0, Y', hL, e1, e2, ⟨⟨k, σ', pl', ad', U', hv, hΘ, hag, hP1, hP2, hK1, hD1, hap⟩, hF⟩, go⟩ | ⟨q, st₀, t, T', L2, E, ce, h0, Y', hL, e1, e2, hf, hce, hcv, hcl, go⟩
  · have hv : v = some (.int k) := by injection hv
    subst hv
    obtain ⟨r1, r2⟩ := fr_rest (D := xD X) h0 hD1 hF _ pR (apt_app aCR aRo.sy)
    obtain ⟨t2, a1, b1⟩ := kk k σ' pl' U' hΘ (fun q hq => (hag q hq).1) adR ad' T'.heap (locs ++ L2) la ⟨⟨by rw [e1]; exact r1, dR⟩, ⟨by rw [e1]; exact hP1, hD1.weaken (fun _ _ _ h => fFree F dCo hS _ h)⟩, ⟨by rw [e1]; exact hP2, hao⟩, r2, hap, apt_ao aRo, fSs F dCo hS h0 e1 hF hL⟩ (hag 100 hb).2 hy hl T' rfl Y'
    exact ⟨t2, go t2 a1, b1⟩
  · exact hf.elim
end
