/-! THE CLAIM OUT OF ONE WALK OF THE LAW'S BODY. Your part is whole_start (and what it stands on); all else here is the same for every law, but numbers. -/
def R_law : String := "BearHouseLaw"
def lw_P (b : Addr) (xs : List Int32) (args : Array Value) (s : State) : Prop := args = #[.ref b] ∧ s.IntsAt b xs ∧ xs.length ≤ 3072 ∧ (Jvm.Cond.and given_1 narrow_1).before args s = true
def lw_Q (_ : Array Value) (s : State) (o : Outcome) (t : State) : Prop := o = .returned (some (.int 1)) ∧ Framed s o t [] room_1.cells room_1.slots
def lw_Z (below : List Frame) (a : Array Value) (s : State) : State → Prop := fun t => ∃ o, t.status = .running ∧ Ended t below o ∧ lw_Q a s o t
/-- the law's own end, with 1 on the stack, nothing written that was there before, its room as the claim has it -/
theorem lw_ret {p : Program} {l : Launch} {e : Env} {s : State} {m : MethodId} {below : List Frame} {meth : Method} {c : Code} {b : Nat} (hx : p.tables.exec = Jvm.exec) (hb : c.code = code) (hr : meth.sig.returnType = ret) (hlocks : meth.locks = false) {pc : Nat} {H : Heap} {ls : Array Slot} (hdg : decode code pc = .ok (.ireturn, 1)) : W p l e room_1 s m #[Value.ref b] below meth c H [] room_1.cells room_1.slots (lw_Z below #[Value.ref b] s) (F0 m pc ls [.int 1]) := by
  intro T hT X
  obtain ⟨fs, hret, hrun, hended, hW, hframe⟩ := X.leave (v := some (.int 1)) (hlocks := hlocks) (fun h => by rw [hr] at h; cases h)
  have hmeth' : T.vm.method? m = some meth := X.method'
  refine ⟨T.setFrames fs, ?_, .returned (some (.int 1)), hrun, hended, rfl, ⟨_, rfl⟩, hW, hframe⟩
  jvm_step X.here [X.here.top, hx, hb, hdg, hmeth', hr, ret, narrow_b1]
  (try refine ⟨rfl, ?_⟩); (try refine ⟨rfl, ?_⟩)
  first | (intro acts; rw [hret _ acts rfl rfl rfl]) | rw [hret _ _ rfl rfl rfl]
  exact Steps.refl _
/-- what holds at the law's entry: the machine, the code, the tables' words (any of lw_tbl by 'hts w (by decide +kernel)'), the script of L ints xs at the cell b, what the Statement gives of the start (any of its parts by flat_of_before) -/
def lw_At (p : Program) (s : State) (m : MethodId) (meth : Method) (c : Code) (b L : Nat) (xs : Nat → Int32) : Prop :=
  p.tables.exec = Jvm.exec ∧ c.code = code ∧ meth.sig.returnType = ret ∧ c.maxLocals = 7 ∧ s.vm.findClass R_law = some m.cls ∧ (∀ w ∈ lw_tbl, w.before #[Value.ref b] s = true) ∧ va_X b L xs s s.heap ∧ b < s.heap.size ∧ meth.locks = false ∧ (Jvm.Cond.and given_1 narrow_1).before #[Value.ref b] s = true
theorem apt_D {A : Nat → Prop} {w1 w2 : va_W} (h : va_D A (w1 ++ w2)) : apt w1 w2 := fun i j p q hp hq e => by
  have hi : i < w1.length := (List.getElem?_eq_some_iff.mp hp).1
  have := h.1 i (w1.length + j) p q (by rw [List.getElem?_append_left hi]; exact hp) (by rw [List.getElem?_append_right (Nat.le_add_right _ _), Nat.add_sub_cancel_left]; exact hq) e
  omega
theorem apt_l {w1 w2 wr : va_W} (h : apt (w1 ++ w2) wr) : apt w1 wr := fun i j p q hp hq e => h i j p q (by rw [List.getElem?_append_left (List.getElem?_eq_some_iff.mp hp).1]; exact hp) hq e
theorem apt_r {w1 w2 wr : va_W} (h : apt (w1 ++ w2) wr) : apt w2 wr := fun i j p q hp hq e => h (w1.length + i) j p q (by rw [List.getElem?_append_right (Nat.le_add_right _ _), Nat.add_sub_cancel_left]; exact hp) hq e
section
variable {X : Ctx} {b ax ay ao L : Nat} {xs0 : Nat → Int32}
theorem l_hend (F : FLx X cL_law RL 7) (hC : RmC X) (hL : L ≤ 3072) (hA : ∀ q, xA X q → (xs X).heap.size ≤ q) (hQ : ∀ (H : Heap) (la : Array Slot), WX X H [] (xR X).cells (xR X).slots (xQ X) (F0 (xm X) 1427 la [.int 1])) : ∀ n I A J σC plC U k1 k2, INV n I A J σC plC U k1 k2 → n ≤ L → LA X ax ay ao (mS I A J) plM σC plC U k1 k2 1426 (LB b ax ay ao (nI n)) [] := by
  intro n I A J σC plC U k1 k2 ⟨P, O, IC, AC, JC, g, e, T, h1, h2⟩ hn
  obtain ⟨p1, p2⟩ := pot_le (n := n) (f := frT O) (by omega) T.g6
  have c1 := hC.1
  have c2 := hC.2.1
  refine l_iconst F (v := 1) dL_law_1426 (by decide) ?_
  intro adR adC H locs la h hx hy hl
  exact va_forget (fun q hq => hA _ (h.2.2.2.2.2.2.2.2 q hq)) (W.widen (by omega) (by omega) (hQ H la))
theorem l_steps (F : FLx X cL_law RL 7) (hR : RmL X) (hC : RmC X) (S : Scr X b L xs0) : ∀ c, c < 23 → ∀ n I A J σC plC U k1 k2, INV n I A J σC plC U k1 k2 → n + 5 < L → (∀ I' A' J' σ' pl' U' j1 j2, INV (n + 6) I' A' J' σ' pl' U' j1 j2 → LA X ax ay ao (mS I' A' J') plM σ' pl' U' j1 j2 1420 (LB b ax ay ao (nI n)) []) → LA X ax ay ao (mS I A J) plM σC plC U k1 k2 (strt c) (LB b ax ay ao (nI n)) [] := by
  intro c hc n I A J σC plC U k1 k2 ⟨P, O, IC, AC, JC, g, e, T, h1, h2⟩ hn kc
  subst e
  match c, hc with
  | 0, _ => exact s_feed F hR hC S hn T h1 h2 kc
  | 1, _ => exact s_position F hR hC S hn T h1 h2 kc
  | 2, _ => exact s_fault F hR hC S hn T h1 h2 kc
  | 3, _ => exact s_men F hR hC S hn T h1 h2 kc
  | 4, _ => exact s_ask F hR hC S hn T h1 h2 kc
  | 5, _ => exact s_plays F hR hC S hn T h1 h2 kc
  | 6, _ => exact s_result F hR hC S hn T h1 h2 kc
  | 7, _ => exact s_way F hR hC S hn T h1 h2 kc
  | 8, _ => exact s_choose F hR hC S hn T h1 h2 kc
  | 9, _ => exact s_say F hR hC S hn T h1 h2 kc
  | 10, _ => exact s_back F hR hC S hn T h1 h2 kc
  | 11, _ => exact s_begin F hR hC S hn T h1 h2 kc
  | 12, _ => exact s_roll F hR hC S hn T h1 h2 kc
  | 13, _ => exact s_offer F hR hC S hn T h1 h2 kc
  | 14, _ => exact s_answer F hR hC S hn T h1 h2 kc
  | 15, _ => exact s_next F hR hC S hn T h1 h2 kc
  | 16, _ => exact s_match F hR hC S hn T h1 h2 kc
  | 17, _ => exact s_learn F hR hC S hn T h1 h2 kc
  | 18, _ => exact s_rolls F hR hC S hn T h1 h2 kc
  | 19, _ => exact s_best F hR hC S hn T h1 h2 kc
  | 20, _ => exact s_within F hR hC S hn T h1 h2 kc
  | 21, _ => exact s_race F hR hC S hn T h1 h2 kc
  | 22, _ => exact s_octet F hR hC S hn T h1 h2 kc
  | c + 23, h => exact absurd h (by omega)
set_option maxRecDepth 100000 in
theorem l_start {la : Array Slot} (F : FLx X cL_law RL 7) (hR : RmL X) (hC : RmC X) (S : Scr X b L xs0) (hA : ∀ q, xA X q → (xs X).heap.size ≤ q) (hQ : ∀ (H : Heap) (la : Array Slot), WX X H [] (xR X).cells (xR X).slots (xQ X) (F0 (xm X) 1427 la [.int 1])) (hl : lv_has la 7 [(0, .ref b)]) : WX X (xs X).heap [] 0 0 (xQ X) (F0 (xm X) 0 la []) := by
  have c1 := hC.1
  have c2 := hC.2.1
  have r1 := hR.1
  have r2 := hR.2
  refine f_new (σ := mC (up1 P0 100 (fun _ => none)) zO zI zI zJ) (p := 100) (ci := 11) (ws := []) F (by decide) rfl (show up1 P0 100 (fun _ => none) 100 = _ from up1_s) rfl uw11 cl_L_8 it_11 ii_11 dL_law_0 (by omega) (by show 0 + 11 ≤ _; omega) (fun k q h => by simp at h) ⟨fun i j p q h => by simp at h, fun k q h => by simp at h⟩ va_S.rf (fun qx H1 _ pC dC _ hS => ?_)
  refine lv_dup F.1 F.2.1 dL_law_3 rfl ?_
  refine f_callIS (b := 100) (As := []) (rest := [.ref qx]) (ad := fun _ => qx) F (c_11_init (xl X)) ml_L_82 rfl im_yX11_init (by omega) (by omega) rfl dL_law_4 (Nat.le_of_ble_eq_true rfl) (by omega) (by show 0 + 11 + 2377 ≤ _; omega) hl.1 pC dC hS (fun r σ' pl' adC H2 locs2 hΨ hag pC2 dC2 hS2 _ => ?_)
  obtain ⟨rfl, A', J', rfl, rfl, hcl, hA', hrk, hbd, hJ', hpw⟩ := hΨ
  refine lv_astore_n (lv' := [(1, .ref qx), (0, .ref b)]) F.1 F.2.1 dL_law_7 rfl hl (by decide) rfl (fun la1 hl1 => ?_)
  refine f_new (σ := mG zI (up1 pM 0 (fun _ => none)) zI zJ) (p := 0) (ci := 12) (ws := wl (xcy X) adC (mC P0 zO IN A' J') plN) F (by decide) rfl (show up1 pM 0 (fun _ => none) 0 = _ from up1_s) rfl uw12 cl_L_83 it_12 ii_12 dL_law_8 (by omega) (by show 0 + 11 + 2377 + 74 ≤ _; omega) pC2 dC2 hS2 (fun qy H3 pC3 pR dR aRC hS3 => ?_)
  refine lv_dup F.1 F.2.1 dL_law_11 rfl ?_
  refine f_callI (b := 0) (As := []) (rest := [.ref qy]) (ad := fun _ => qy) F (c_12_init (xl X)) ml_L_85 rfl im_yX12_init (by omega) (by omega) rfl dL_law_12 (Nat.le_of_ble_eq_true rfl) (by omega) (by show 0 + 11 + 2377 + 74 + 2030906 ≤ _; omega) hl1.1 pR dR hS3 (fun r σ' pl' adR H4 locs4 hΨ hag2 pR4 dR4 hS4 hf => ?_)
  obtain ⟨rfl, rfl, rfl⟩ := hΨ
  obtain ⟨pC4, aRC4⟩ := hf _ pC3 aRC
  refine lv_astore_n (lv' := [(2, .ref qy), (1, .ref qx), (0, .ref b)]) F.1 F.2.1 dL_law_15 rfl hl1 (by decide) rfl (fun la2 hl2 => ?_)
  refine lv_iconst (v := 1) F.1 F.2.1 dL_law_16 (by decide) ?_
  refine va_newa (atype := .long) (ty := .long) (a0 := (1, .inr (.inl (fun _ => 0)))) F.1 F.2.1 (F.2.2.2.2.1 _ ar_long) rfl F.2.2.2.2.2.1 (pR4.app pC4) (dR4.app dC2 aRC4) hS4 F.2.2.2.2.2.2.1 (fun cA => rfl) (by decide) rfl (Nat.le_of_ble_eq_true rfl) (by omega) (by show 0 + 11 + 2377 + 74 + 2030906 + 1 ≤ _; omega) dL_law_17 (fun ao cA H5 hK5 hP5 hD5 hS5 => ?_)
  have hcA := cA_eq (t0 := 1) F.2.2.2.2.2.1 hK5 rfl
  subst hcA
  refine lv_astore_n (lv' := [(3, .ref ao), (2, .ref qy), (1, .ref qx), (0, .ref b)]) F.1 F.2.1 dL_law_19 rfl hl2 (by decide) rfl (fun la3 hl3 => ?_)
  refine lv_iconst (v := 0) F.1 F.2.1 dL_law_20 (by decide) ?_
  refine lv_istore (lv' := [(4, .int 0), (3, .ref ao), (2, .ref qy), (1, .ref qx), (0, .ref b)]) F.1 F.2.1 dL_law_21 hl3 (by decide) rfl (fun la4 hl4 => ?_)
  have T := t_init hcl hA' hrk hbd hJ' hpw
  have I0 : INV 0 IM AM zJ (mC P0 zO IN A' J') plN (fun _ => 0) 80 2033369 := INV.mk T ⟨by unfold potC; omega, by unfold potS; omega⟩
  have ax5 := apt_D hD5
  have hao : xA X ao := hD5.2 (wl (xcy X) adR (mS IM AM zJ) plM ++ wl (xcy X) adC (mC P0 zO IN A' J') plN).length _ (by rw [List.getElem?_append_right (Nat.le_refl _), Nat.sub_self]; rfl)
  exact l_loop (ax := qx) (ay := qy) (ao := ao) F S INV INV_skip (l_hend F hC S.2.2.2 hA hQ) (l_steps F hR hC S) L 0 IM AM zJ _ plN (fun _ => 0) _ _ (Nat.zero_add L) I0 adR adC H5 locs4 la4 ⟨⟨vP_l (vP_l hP5), dR4⟩, ⟨vP_r (vP_l hP5), dC2⟩, ⟨vP_r hP5, hao⟩, aRC4.sy, apt_r ax5, apt_l ax5, hS5⟩ (hag 100 List.mem_cons_self).2 (hag2 0 List.mem_cons_self).2 (lv_sub hl4 [4, 3, 2, 1, 0] rfl)
end
set_option maxRecDepth 100000 in
theorem whole_start {p : Program} {e : Env} {s : State} {m : MethodId} {below : List Frame} {meth : Method} {c : Code} (l : Launch) (hst : l.stackTraces = false) {b L : Nat} {xs : Nat → Int32} (hL : L ≤ 3072) (C0 : lw_At p s m meth c b L xs) : W p l e room_1 s m #[Value.ref b] below meth c s.heap [] 0 0 (lw_Z below #[Value.ref b] s) (entryFrame m ([Value.ref b] : List Value).toArray 7) := by
  obtain ⟨hx, hb, hr, hml, hown, hts, hX, hbl, hlocks, hgv⟩ := id C0
  obtain ⟨D, cy, hK⟩ := st_K hts
  have hl := lv_entry ([.ref b]) (n := 7) (Nat.le_of_ble_eq_true rfl)
  rw [lg_entry_eq]
  generalize (lg_sl ([.ref b]) ++ List.replicate (7 - (lg_sl ([.ref b])).length) Slot.unset).toArray = ls at hl ⊢
  have hl : lv_has ls 7 [(0, .ref b)] := hl
  exact l_start (X := (p, l, e, room_1, s, m, #[Value.ref b], below, meth, c, D, cy, (fun q => s.heap.size ≤ q), mS zI zI zJ, [], id, lw_Z below #[Value.ref b] s)) (L := L) (xs0 := xs) ⟨hx, hb, hml, hown, st_G hts, hK, fun q h => h, hlocks, st_SW hts hgv, st_ex hts⟩ ⟨(by decide : 2000 ≤ room_1.frames), (by decide : 20000 ≤ room_1.locals)⟩ ⟨(by decide : 60000 ≤ room_1.cells), (by decide : 5000000 ≤ room_1.slots), hst⟩ ⟨hX, hbl, Nat.not_le.mpr hbl, hL⟩ (fun q h => h) (fun H la => lw_ret hx hb hr hlocks dL_law_1427) hl
set_option maxHeartbeats 4000000 in
theorem lw_walk (l : Launch) (hst : l.stackTraces = false) (b : Addr) (xs : List Int32) : MetFree l x (headSpec (Jvm.Cond.code x code maxLocals ret :: tables_1) room_1) (lw_P b xs) (fun _ _ _ _ _ => True) lw_Q := by
  refine MetFree.of_bodyS (code := code) (maxLocals := maxLocals) (ret := ret) (by decide) ?_ ?_
  · intro args s m h hn
    obtain ⟨meth, c, h1, h2, h3, h4, h5, h6, -, -⟩ := Cond.code_spec hn (atoms_spec (ws := Jvm.Cond.code x code maxLocals ret :: tables_1) h _ List.mem_cons_self)
    exact ⟨meth, c, h1, h2, h3, h4, h5, h6⟩
  · intro p e s m args below meth c s₁ B hml0 hP _
    obtain ⟨rfl, hx, hbd, hgv⟩ := hP
    obtain ⟨scr, harrAt, hlist, hof, hsmall⟩ := hx
    obtain ⟨hcb, hkn, -, -⟩ := State.arrayAt?_spec harrAt
    have hown : s.vm.findClass R_law = some m.cls := findClass_of_methodNamed B.named
    have hts0 : ∀ c ∈ (Jvm.Cond.code x code maxLocals ret :: tables_1), c.before #[Value.ref b] s = true := atoms_spec (ws := Jvm.Cond.code x code maxLocals ret :: tables_1) B.pre
    have hts : ∀ w ∈ lw_tbl, w.before #[Value.ref b] s = true := k2_hts_sels lw_privs (fun w hw => hts0 w (List.mem_cons_of_mem _ hw)) lw_privs_ok
    have hml : c.maxLocals = 7 := B.maxLocals_eq (hts0 _ List.mem_cons_self)
    have X₀ : Stand p l e room_1 s m #[Value.ref b] below meth c s₁ [] 0 0 := Stand.of_body B
    have hh0 : s₁.heap = s.heap := by rw [B.state]; rfl
    have hsz : scr.slots.size = xs.length := by rw [← Array.length_toList, hlist, List.length_map]
    have hval : ∀ j : Nat, j < xs.length → scr.slots[j]? = some (.int (xs.getD j 0)) := fun j hj => by
      rw [← Array.getElem?_toList, hlist]
      simp [hj]
    have hbl : b < s.heap.size := (Array.getElem?_eq_some_iff.mp hcb).1
    have hX : va_X b xs.length (fun j => xs.getD j 0) s s.heap := ⟨scr, hcb, hof, hkn, hsz, hval⟩
    have K : W p l e room_1 s m #[Value.ref b] below meth c s₁.heap [] 0 0 (lw_Z below #[Value.ref b] s) (entryFrame m ([Value.ref b] : List Value).toArray 7) := by
      rw [hh0]
      exact whole_start l hst hbd ⟨B.exec, B.bytes, B.returns, hml, hown, hts, hX, hbl, B.notSynchronized, hgv⟩
    obtain ⟨t, a1, o, b1, b2, b3⟩ := K s₁ rfl X₀
    exact ⟨t, o, a1, b1, b2, b3⟩
theorem lw_pre_spec {args : Array Value} {s : State} (h : (Jvm.Cond.and given_1 narrow_1).before args s = true) (hr : rest_1_c.before args s = true) : ∃ (b : Addr) (xs : List Int32), lw_P b xs args s := by
  have hs := flat_of_before _ h
  have hq := flat_of_before _ hr
  have hc : (Cond.count 1).before args s = true := hs _ (by decide +kernel)
  have harr : (Cond.arrayOf (.arg 0) .int).before args s = true := hs _ (by decide +kernel)
  have hle : (Cond.le (.length (.arg 0)) (.int 3072)).before args s = true := hs _ (by decide +kernel)
  have hlen : (Cond.isInt (.length (.arg 0))).before args s = true := hq _ (by decide +kernel)
  have hall : (Cond.all (.arg 0) (.isInt (.elem (.arg 0) (.index 0)))).before args s = true := hq _ (by decide +kernel)
  obtain ⟨b, xs, hb, hx⟩ := State.ints_of_pre rfl harr hlen hall
  have hsm : xs.length < 2 ^ 31 := hx.choose_spec.2.2.2
  have hev : (Term.length (.arg 0)).eval args s none [] s = some (.int xs.length.toInt32) := hx.length_eval hb
  have hv := Cond.le_ints hev (show (Term.int 3072).eval args s none [] s = some (.int 3072) from rfl)
  have hd : xs.length.toInt32 ≤ 3072 := by
    simpa [Cond.before, Cond.holds, hv] using hle
  have hN : xs.length ≤ 3072 := (Int32.ofNat_le_ofNat hsm (by decide)).mp (show Int32.ofNat xs.length ≤ Int32.ofNat 3072 from hd)
  exact ⟨b, xs, Cond.one_arg hc (show args[0]? = some (.ref b) from hb), hx, hN, h⟩
theorem lw_comes (l : Launch) (hst : l.stackTraces = false) : Comes l x (Jvm.Cond.code x code maxLocals ret :: tables_1) room_1 (fun tb e args s => Calls_1 tb e args s ∧ rest_1 tb e args s ∧ Pre_1 tb e args s)
    (fun _ _ args s o t => lw_Q args s o t) := by
  intro p e ha hc hk s m args below hf hfit hheap happ hpre
  obtain ⟨b, xs, hP⟩ := lw_pre_spec hpre.2.2 hpre.2.1
  obtain ⟨k, o, h1, h2, h3, hQ⟩ := lw_walk l hst b xs p e ha hc hk s m args below hf ((Spec.applies_iff_loose hf).mp happ).1 hP trivial
  exact ⟨k, o, h1, h2, h3, hQ⟩
theorem lw_frame {s t : State} {o : Outcome} {args : Array Value} (h : Framed s o t [] room_1.cells room_1.slots) :
    Framed s o t (fieldLocs frame_1_writes args s ++ arrayLocs frame_1_arrays args s ++ staticLocs frame_1_statics s) room_1.cells room_1.slots := h
theorem lw_limb (L : Cond) (hL : ∀ (args : Array Value) (s t : State), L.after args s (.returned (some (.int 1))) t = true) :
    ArmFor flags0 classFile x code maxLocals ret World_1 tables_1 room_1 Calls_1 rest_1 Pre_1
      (fun tb e a s o t => postC L tb e a s o t ∧ Framed s o t (fieldLocs frame_1_writes a s ++ arrayLocs frame_1_arrays a s ++ staticLocs frame_1_statics s) room_1.cells room_1.slots) := by
  intro l hfl _ _ p e ha hc hk s m args below hf hfit hheap happ hpre
  obtain ⟨k, o, h1, h2, h3, rfl, hF⟩ := lw_comes l (by unfold Launch.stackTraces; rw [hfl]; decide) p e ha hc hk s m args below hf hfit hheap happ hpre
  exact ⟨k, _, h1, h2, h3, hL args s _, lw_frame hF⟩
theorem i_vc : Claimed_1_1 ∧ Claimed_1_2 := ⟨lw_limb limb_1_1 (fun args s t => by simp [limb_1_1, Cond.after, Cond.holds, Cond.value]), lw_limb limb_1_2 (fun args s t => Cond.after_iff.mpr (by
  first | (rw [show limb_1_2 = Cond.eq .result (.int 1) from rfl, Cond.eq_ints (x := 1) (y := 1) rfl rfl]; simp; done) | (simp [limb_1_2, Cond.value, Term.eval]; done)))⟩
