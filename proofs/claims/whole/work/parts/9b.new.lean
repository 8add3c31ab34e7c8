def clC (P O : Nat → Nat → Option Nat) (pl : List Nat) : Prop := ∀ q, q ∈ pl → (∀ k b, rF (kC q) k = true → P q k = some b → b ∈ pl) ∧ (16 ≤ kC q → ∀ i b, O q i = some b → b ∈ pl)
theorem clC.no {P O : Nat → Nat → Option Nat} {pl : List Nat} {p : Nat} (h : clC P O pl) (hp : p ∉ pl) {I A : Nat → Nat → Int32} {J : Nat → Nat → Int64} : noR (mC P O I A J) pl p := ⟨hp, fun q hq => ⟨fun k hk z => hp ((h q hq).1 k p hk z), fun h16 i z => hp ((h q hq).2 h16 i p z)⟩⟩
theorem clC.new {P O : Nat → Nat → Option Nat} {pl : List Nat} {p : Nat} (h : clC P O pl) (hp : p ∉ pl) (hk : kC p < 16) : clC (up1 P p (fun _ => none)) O (pl ++ [p]) := fun q hq => by
  rcases List.mem_append.mp hq with hq | hq
  · have hne : q ≠ p := fun z => hp (z ▸ hq)
    exact ⟨fun k b hk hb => List.mem_append_left _ ((h q hq).1 k b hk (by rw [up1_p hne] at hb; exact hb)), fun h16 i b hb => List.mem_append_left _ ((h q hq).2 h16 i b hb)⟩
  · have e := List.mem_singleton.mp hq
    subst e
    exact ⟨fun k b _ hb => by rw [up1_s] at hb; exact absurd hb (fun z => nomatch z), fun h16 => absurd h16 (by omega)⟩
theorem clC.row {P O : Nat → Nat → Option Nat} {pl : List Nat} {p : Nat} (h : clC P O pl) (hk : 13 ≤ kC p) (h16 : kC p < 16) : clC P O (pl ++ [p]) := fun q hq => by
  rcases List.mem_append.mp hq with hq | hq
  · exact ⟨fun k b hk hb => List.mem_append_left _ ((h q hq).1 k b hk hb), fun h16 i b hb => List.mem_append_left _ ((h q hq).2 h16 i b hb)⟩
  · have e := List.mem_singleton.mp hq
    subst e
    refine ⟨fun k b hr _ => ?_, fun z => absurd z (by omega)⟩
    have : rF (kC q) k = false := by unfold rF; rw [show rfL.getD (kC q) [] = [] from by rw [List.getD_eq_getElem?_getD, List.getElem?_eq_none (by show 13 ≤ _; exact hk)]; rfl]; rfl
    rw [this] at hr; exact absurd hr (by decide)
theorem clC.put {P O : Nat → Nat → Option Nat} {pl : List Nat} {p k b : Nat} (h : clC P O pl) (hb : b ∈ pl) : clC (up2 P p k (some b)) O pl := fun q hq => by
  refine ⟨fun j c hj hc => ?_, (h q hq).2⟩
  by_cases e : q = p
  · subst e
    by_cases e2 : j = k
    · subst e2; rw [up2_s] at hc; cases hc; exact hb
    · rw [up2_k e2] at hc; exact (h q hq).1 j c hj hc
  · rw [up2_p e] at hc; exact (h q hq).1 j c hj hc
theorem clC.ast {P O : Nat → Nat → Option Nat} {pl : List Nat} {p i b : Nat} (h : clC P O pl) (hb : b ∈ pl) : clC P (up1 O p (va_up (O p) i (some b))) pl := fun q hq => by
  refine ⟨(h q hq).1, fun h16 j c hc => ?_⟩
  by_cases e : q = p
  · subst e
    rw [up1_s] at hc
    by_cases e2 : j = i
    · subst e2; simp only [va_up, if_true] at hc; cases hc; exact hb
    · simp only [va_up, if_neg e2] at hc; exact (h q hq).2 h16 j c hc
  · rw [up1_p e] at hc; exact (h q hq).2 h16 j c hc
theorem clC.cg {P O P' : Nat → Nat → Option Nat} {pl : List Nat} (h : clC P O pl) (e : P' = P) : clC P' O pl := e ▸ h

set_option maxRecDepth 10000 in
theorem c_0_init (l : Launch) {P O : Nat → Nat → Option Nat} (I A : Nat → Nat → Int32) (J : Nat → Nat → Int64) {pl : List Nat} (p : Nat) (hk_p : kC p = 0) (hp_p : p ∈ pl) (hn : p + 1 ∉ pl) (hC : clC P O pl) : Con l 1 yX0_init cX0_init 1 none [.ref p] (mC P O I A J) pl 1 52 (fun r σ' pl' => r = none ∧ σ' = mC (up2 P p 0 (some (p + 1))) O I (up1 A (p + 1) (fun _ => 0)) J ∧ pl' = pl ++ [p + 1]) := by
  refine Con.of (by decide) (Nat.le_of_ble_eq_true rfl) (fun X hX9 hn9 F E => ?_)
  have hno : noR (mC P O I A J) pl (p + 1) := hC.no hn
  refine a_aload_n F 0 dX0_init_0 rfl rfl ?_
  refine a_objI F oi_0 oi_i oi_c (by decide) dX0_init_1 (by decide) ?_
  refine a_aload_n F 0 dX0_init_4 rfl rfl ?_
  refine a_bipush (v := 52) F dX0_init_5 (by decide) ?_
  refine a_newi (p := p + 1) F (k_bd hk_p).1 hno ac_int (by decide) (by show _ = nC (p + 1); rw [(k_bd hk_p).2]; rfl) (by show nC (p + 1) * 4 ≤ _; rw [(k_bd hk_p).2]; decide) dX0_init_7 (Nat.le_refl 1) (by show 0 + nC (p + 1) ≤ 52; rw [(k_bd hk_p).2]; decide) (hl_r hp_p hl_nil) (hs_r hp_p hs_nil) ?_
  refine a_putF F hn9 fl_0_9 rfl rfl rfl (fun _ => rfl) (fun _ => rfl) (List.mem_append_left _ hp_p) hk_p dX0_init_9 ?_
  exact a_vret F E dX0_init_12 (Nat.le_refl 1) (by show 0 + nC (p + 1) ≤ 52; rw [(k_bd hk_p).2]; decide) ⟨rfl, rfl, rfl⟩

theorem up_back {P : Nat → Nat → Option Nat} {p : Nat} (h : P p = fun k => if k = 0 then some (p + 1) else none) : up2 (up1 P p (fun _ => none)) p 0 (some (p + 1)) = P := by
  funext q
  by_cases c : q = p
  · subst c
    funext k
    by_cases c2 : k = 0
    · subst c2; rw [up2_s, h]; rfl
    · rw [up2_k c2, up1_s, h]; simp [c2]
  · rw [up2_r c, up1_p c]
section
variable {X : Ctx} {cc : ByteArray} {own : String} {nL d mc ms : Nat} {pl : List Nat} {k1 k2 pc : Nat} {ls : List (Nat × Value)} {st : List Value} {P O : Nat → Nat → Option Nat} {I A : Nat → Nat → Int32} {J : Nat → Nat → Int64}
theorem hl_app {pl : List Nat} {p : Nat} {ls : List (Nat × Value)} (h : ∀ x ∈ ls, ∀ p, x.2 = .ref p → p ∈ pl) : ∀ x ∈ ls, ∀ q, x.2 = .ref q → q ∈ pl ++ [p] := fun x hx q e => List.mem_append_left _ (h x hx q e)
theorem hs_app {pl : List Nat} {p : Nat} {st : List Value} (h : ∀ v ∈ st, ∀ p, v = .ref p → p ∈ pl) : ∀ v ∈ st, ∀ q, v = .ref q → q ∈ pl ++ [p] := fun x hx q e => List.mem_append_left _ (h x hx q e)
/-- new Board() in the nest -/
theorem a_newBd (F : Fx X cc own nL d mc ms) (S : SX X) {i1 i2 p : Nat} (hk : kC p = 0) (h0 : p ∉ pl) (h1 : p + 1 ∉ pl) (hC : clC P O pl) (hPp : P p = fun k => if k = 0 then some (p + 1) else none) (hcl : Cond.classLink own i1 (RR 0) ∈ lwG) (L : MN own i2 yX0_init cX0_init 1 none 0) (hd0 : decode cc pc = .ok (.new i1, 3)) (hd3 : decode cc (pc + 3) = .ok (.dup, 1)) (hd4 : decode cc (pc + 4) = .ok (.invokespecial i2, 3)) (hdd : 1 < d) (hc : k1 + 2 ≤ mc) (hs : k2 + 54 ≤ ms)
    (hls : ∀ x ∈ ls, ∀ p, x.2 = .ref p → p ∈ pl) (hst : ∀ v ∈ st, ∀ p, v = .ref p → p ∈ pl) (hcat : (st.map fun v => v.category).sum ≤ 7)
    (kk : WA X (mC P O (up1 I p (fun _ => 0)) (up1 A (p + 1) (fun _ => 0)) J) (pl ++ [p] ++ [p + 1]) (k1 + 2) (k2 + 54) (pc + 7) ls (.ref p :: st)) : WA X (mC P O I A J) pl k1 k2 pc ls st := by
  refine a_new (ci := 0) (p := p) F (by decide) hk (hC.no h0) uw0 hcl it_0 ii_0 hd0 (by omega) (by show k2 + 2 ≤ ms; omega) hls hst ?_
  refine a_dup F hd3 rfl ?_
  have hp : p ∈ pl ++ [p] := List.mem_append_right _ (List.mem_singleton.mpr rfl)
  have hn : p + 1 ∉ pl ++ [p] := fun z => by
    rcases List.mem_append.mp z with z | z
    · exact h1 z
    · have := List.mem_singleton.mp z; omega
  refine a_callN (b := p) (As := []) (st := .ref p :: st) F S (c_0_init (xl X) (P := up1 P p (fun _ => none)) (O := O) (up1 I p (fun _ => 0)) A J p hk hp hn (hC.new h0 (by omega))) L rfl im_yX0_init hdd rfl hd4 ?_ (by omega) (by show k2 + 2 + 52 ≤ ms; omega) (hl_app hls) (hs_r hp (hs_app hst)) ?_
  · show (1 + (st.map fun v => v.category).sum) ≤ 8; omega
  rintro _ _ _ ⟨rfl, rfl, rfl⟩ _
  rw [up_back hPp]
  exact kk
end
theorem pS_bd {p : Nat} {P : Nat → Nat → Option Nat} (hP : ∀ k, P p k = pS p k) (h : hoC p = true) : P p = fun k => if k = 0 then some (p + 1) else none := by
  funext k; rw [hP]; unfold pS; rw [if_pos h]
