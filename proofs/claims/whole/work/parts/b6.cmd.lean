/-! THE LAW'S COMMANDS: each from its row of the switch to the loop's end -/
abbrev LB (b ax ay ao : Nat) (i : Int32) : List (Nat × Value) := [(0, .ref b), (1, .ref ax), (2, .ref ay), (3, .ref ao), (4, .int i)]
def Scr (X : Ctx) (b L : Nat) (xs0 : Nat → Int32) : Prop := va_X b L xs0 (xs X) (xs X).heap ∧ b < (xs X).heap.size ∧ ¬ xA X b ∧ L ≤ 3072
def RmL (X : Ctx) : Prop := 2000 ≤ (xR X).frames ∧ 20000 ≤ (xR X).locals
section
variable {X : Ctx} {b ax ay ao : Nat} {σC : HS} {plC : List Nat} {I A : Nat → Nat → Int32} {J : Nat → Nat → Int64} {U : Nat → Int64} {k1 k2 pc L n : Nat} {i : Int32} {xs0 : Nat → Int32}
theorem plM_0 : 0 ∈ plM := by decide
theorem r_plain {v : Int32} : ∀ ad, Option.map (pv ad) (some (Value.int v)) = some (.int v) := fun _ => rfl
theorem l_thr (F : FLx X cL_law RL 7) (hR : RmL X) {ls : List (Nat × Value)} {st : List Value} (hcat : (st.map fun v => v.category).sum ≤ 8) (hc : k1 ≤ (xR X).cells) (hs : k2 ≤ (xR X).slots) (j : Nat) (hj : ls[j]? = some (2, .ref ay)) (h0 : decode cL_law pc = .ok (.aload_n 2, 1)) (h1 : decode cL_law (pc + 1) = .ok (.invokevirtual 97, 3)) (kk : LA X ax ay ao (mS I A J) plM σC plC U k1 k2 (pc + 4) ls (.int (I 0 0) :: st)) : LA X ax ay ao (mS I A J) plM σC plC U k1 k2 pc ls st := by
  refine l_aload_n F j h0 rfl hj ?_
  refine l_callR (As := []) (rest := st) F (c_thrown (xl X) I A J) ml_L_97 im_yX12_thrown se_yX12_thrown (by have := hR.1; omega) (by have := hR.2; omega) rfl plM_0 rfl rfl (fun _ => rfl) h1 hcat hc hs (fun r σ' pl' hΦ ad => by rw [hΦ.1]; rfl) (fun r σ' pl' hΦ _ => ?_)
  obtain ⟨rfl, rfl, rfl⟩ := hΦ
  exact kk
theorem l_tail (F : FLx X cL_law RL 7) (hR : RmL X) {k v : Int32} {off : Int} (hc : k1 ≤ (xR X).cells) (hs : k2 ≤ (xR X).slots) (hk : I 0 0 = k) (hv : k = 0 → U 0 = v.toInt64) (h0 : decode cL_law pc = .ok (.aload_n 2, 1)) (h1 : decode cL_law (pc + 1) = .ok (.invokevirtual 97, 3)) (h4 : decode cL_law (pc + 4) = .ok (.iload 5, 2)) (h6 : decode cL_law (pc + 6) = .ok (.if_icmp .eq 5, 3)) (h11 : decode cL_law (pc + 11) = .ok (.iload 5, 2)) (h13 : decode cL_law (pc + 13) = .ok (.ifCond .ne 15, 3)) (h16 : decode cL_law (pc + 16) = .ok (.aload_n 3, 1)) (h17 : decode cL_law (pc + 17) = .ok (.iconst 0, 1)) (h18 : decode cL_law (pc + 18) = .ok (.laload, 1)) (h19 : decode cL_law (pc + 19) = .ok (.iload 6, 2)) (h21 : decode cL_law (pc + 21) = .ok (.i2l, 1)) (h22 : decode cL_law (pc + 22) = .ok (.lcmp, 1)) (h23 : decode cL_law (pc + 23) = .ok (.ifCond .eq 5, 3)) (h28 : decode cL_law (pc + 28) = .ok (.goto off, 3)) (ht : ((pc + 28 : Nat) : Int) + off = ((1420 : Nat) : Int))
    (kk : LA X ax ay ao (mS I A J) plM σC plC U k1 k2 1420 (LB b ax ay ao i) []) : LA X ax ay ao (mS I A J) plM σC plC U k1 k2 pc ((6, .int v) :: (5, .int k) :: LB b ax ay ao i) [] := by
  have ke : LA X ax ay ao (mS I A J) plM σC plC U k1 k2 (pc + 28) ((6, .int v) :: (5, .int k) :: LB b ax ay ao i) [] := l_goto F h28 ht (l_sub [2, 3, 4, 5, 6] rfl kk)
  refine l_thr F hR (by decide) hc hs 4 rfl h0 h1 ?_
  refine l_iload F 1 h4 rfl ?_
  refine l_icmp_eq (tgt := pc + 11) F h6 (by omega) hk ?_
  refine l_iload F 1 h11 rfl ?_
  refine l_if_ne (tgt := pc + 28) F h13 (by omega) (fun _ => ke) (fun hz => ?_)
  refine l_aload_n F 5 h16 rfl rfl (l_iconst F h17 (v := 0) (by decide) (l_laload F (vp_in_nI (n := 0) (by decide) (by decide)) h18 (l_iload F 0 h19 rfl (l_i2l F h21 (l_lcmp F h22 ?_)))))
  refine l_if_eq (tgt := pc + 28) F h23 (by omega) (fun _ => ke) (fun z => absurd (by rw [lg_cmp_eq]; exact hv hz) z)
theorem w_feed (F : FLx X cL_law RL 7) (hR : RmL X) (S : Scr X b L xs0) (hn : n + 5 < L) {mc ms : Nat} {Φ : Option Value → HS → List Nat → Prop} (C : ConX (xl X) 18 yX11_feed cX11_feed 6 (some .int) [.ref 100, .int (xs0 (n + 1)), .int (xs0 (n + 2)), .int (xs0 (n + 3)), .int (xs0 (n + 4)), .int (xs0 (n + 5))] σC plC mc ms Φ (fun _ _ _ => False)) (hb : 100 ∈ plC) (hk : sK σC 100 = 11) (hc : k1 + mc ≤ (xR X).cells) (hs : k2 + ms ≤ (xR X).slots) (hr : ∀ r σ' pl', Φ r σ' pl' → ∃ v, r = some (.int v))
    (kk : ∀ v σ' pl', Φ (some (.int v)) σ' pl' → (∀ q, q ∈ plC → q ∈ pl') → ∃ dR ΦR, dR ≤ 100 ∧ Con (xl X) dR yX12_feed cX12_feed 8 (some .int) [.ref 0, .int (xs0 (n + 1)), .int (xs0 (n + 2)), .int (xs0 (n + 3)), .int (xs0 (n + 4)), .int (xs0 (n + 5))] (mS I A J) plM 0 0 ΦR ∧ ∀ r σR' plR', ΦR r σR' plR' → ∃ I' A' J', r = some (.int v) ∧ σR' = mS I' A' J' ∧ plR' = plM ∧ LA X ax ay ao (mS I' A' J') plM σ' pl' U (k1 + mc) (k2 + ms) 1420 (LB b ax ay ao (nI n)) []) :
    LA X ax ay ao (mS I A J) plM σC plC U k1 k2 148 (LB b ax ay ao (nI n)) [] := by
  refine l_aload_n F 1 dL_law_148 rfl rfl ?_
  refine l_ld F S.1 S.2.1 S.2.2.1 (n := n) (j := 1) 0 4 (by omega) S.2.2.2 (by decide) dL_law_149 dL_law_150 dL_law_152 dL_law_153 dL_law_154 rfl rfl ?_
  refine l_ld F S.1 S.2.1 S.2.2.1 (n := n) (j := 2) 0 4 (by omega) S.2.2.2 (by decide) dL_law_155 dL_law_156 dL_law_158 dL_law_159 dL_law_160 rfl rfl ?_
  refine l_ld F S.1 S.2.1 S.2.2.1 (n := n) (j := 3) 0 4 (by omega) S.2.2.2 (by decide) dL_law_161 dL_law_162 dL_law_164 dL_law_165 dL_law_166 rfl rfl ?_
  refine l_ld F S.1 S.2.1 S.2.2.1 (n := n) (j := 4) 0 4 (by omega) S.2.2.2 (by decide) dL_law_167 dL_law_168 dL_law_170 dL_law_171 dL_law_172 rfl rfl ?_
  refine l_ld F S.1 S.2.1 S.2.2.1 (n := n) (j := 5) 0 4 (by omega) S.2.2.2 (by decide) dL_law_173 dL_law_174 dL_law_176 dL_law_177 dL_law_178 rfl rfl ?_
  refine l_callC (As := [.int (xs0 (n + 1)), .int (xs0 (n + 2)), .int (xs0 (n + 3)), .int (xs0 (n + 4)), .int (xs0 (n + 5))]) (rest := []) F C ml_L_86 im_yX11_feed se_yX11_feed (by have := hR.1; omega) (by have := hR.2; omega) rfl hb hk rfl (fun _ => rfl) dL_law_179 (by decide) hc hs (fun r σ' pl' hΦ ad => by obtain ⟨v, rfl⟩ := hr r σ' pl' hΦ; rfl) (fun r σ' pl' hΦ hq => ?_)
  obtain ⟨v, rfl⟩ := hr r σ' pl' hΦ
  obtain ⟨dR, ΦR, hdR, CR, hR2⟩ := kk v σ' pl' hΦ hq
  refine l_aload_n F 2 dL_law_182 rfl rfl ?_
  refine l_ld F S.1 S.2.1 S.2.2.1 (n := n) (j := 1) 0 4 (by omega) S.2.2.2 (by decide) dL_law_183 dL_law_184 dL_law_186 dL_law_187 dL_law_188 rfl rfl ?_
  refine l_ld F S.1 S.2.1 S.2.2.1 (n := n) (j := 2) 0 4 (by omega) S.2.2.2 (by decide) dL_law_189 dL_law_190 dL_law_192 dL_law_193 dL_law_194 rfl rfl ?_
  refine l_ld F S.1 S.2.1 S.2.2.1 (n := n) (j := 3) 0 4 (by omega) S.2.2.2 (by decide) dL_law_195 dL_law_196 dL_law_198 dL_law_199 dL_law_200 rfl rfl ?_
  refine l_ld F S.1 S.2.1 S.2.2.1 (n := n) (j := 4) 0 4 (by omega) S.2.2.2 (by decide) dL_law_201 dL_law_202 dL_law_204 dL_law_205 dL_law_206 rfl rfl ?_
  refine l_ld F S.1 S.2.1 S.2.2.1 (n := n) (j := 5) 0 4 (by omega) S.2.2.2 (by decide) dL_law_207 dL_law_208 dL_law_210 dL_law_211 dL_law_212 rfl rfl ?_
  refine l_callR (As := [.int (xs0 (n + 1)), .int (xs0 (n + 2)), .int (xs0 (n + 3)), .int (xs0 (n + 4)), .int (xs0 (n + 5))]) (rest := [.int v]) F CR ml_L_90 im_yX12_feed se_yX12_feed (by have := hR.1; omega) (by have := hR.2; omega) rfl plM_0 rfl rfl (fun _ => rfl) dL_law_213 (Nat.le_of_ble_eq_true rfl) hc hs (fun r σ' pl' hΦ ad => by obtain ⟨_, _, _, rfl, _⟩ := hR2 r σ' pl' hΦ; rfl) (fun r σ2 pl2 hΦ2 _ => ?_)
  obtain ⟨I', A', J', rfl, rfl, rfl, kL⟩ := hR2 r σ2 pl2 hΦ2
  exact l_icmp_eq (tgt := 1420) F dL_law_216 (by decide) rfl kL
theorem w_position (F : FLx X cL_law RL 7) (hR : RmL X) (S : Scr X b L xs0) (hn : n + 5 < L) {mc ms : Nat} {Θ : (Nat → Int64) → Int32 → HS → List Nat → (Nat → Int64) → Prop} (C : HCon (xl X) 19 yL_position cL_position 4 [(0, 9, 12, 13), (0, 9, 15, 15)] (fun a o => [.ref a, .int (xs0 (n + 1)), .ref o]) σC plC mc ms Θ) (hb : 100 ∈ plC) (hc : k1 + mc ≤ (xR X).cells) (hs : k2 + ms ≤ (xR X).slots)
    (kk : ∀ k σ' pl' U', Θ U k σ' pl' U' → (∀ q, q ∈ plC → q ∈ pl') → ∃ dR ΦR, dR ≤ 100 ∧ Con (xl X) dR yX12_position cX12_position 6 (some .int) [.ref 0, .int (xs0 (n + 1))] (mS I A J) plM 0 0 ΦR ∧ ∀ r σR' plR', ΦR r σR' plR' → ∃ v I' A' J', r = some (.int v) ∧ σR' = mS I' A' J' ∧ plR' = plM ∧ I' 0 0 = k ∧ (k = 0 → U' 0 = v.toInt64) ∧ LA X ax ay ao (mS I' A' J') plM σ' pl' U' (k1 + mc) (k2 + ms) 1420 (LB b ax ay ao (nI n)) []) :
    LA X ax ay ao (mS I A J) plM σC plC U k1 k2 221 (LB b ax ay ao (nI n)) [] := by
  refine l_aload_n F 1 dL_law_221 rfl rfl ?_
  refine l_ld F S.1 S.2.1 S.2.2.1 (n := n) (j := 1) 0 4 (by omega) S.2.2.2 (by decide) dL_law_222 dL_law_223 dL_law_225 dL_law_226 dL_law_227 rfl rfl ?_
  refine l_aload_n F 3 dL_law_228 rfl rfl ?_
  refine l_help (avs := (fun a o => [.ref a, .int (xs0 (n + 1)), .ref o])) (rest := []) F C hl_L_position (by have := hR.1; omega) (by have := hR.2; omega) hb rfl dL_law_229 (by decide) hc hs (fun k σ' pl' U' hΘ hq => ?_)
  obtain ⟨dR, ΦR, hdR, CR, hR2⟩ := kk k σ' pl' U' hΘ hq
  refine l_istore (ls' := (5, .int k) :: LB b ax ay ao (nI n)) F dL_law_232 (by decide) rfl ?_
  refine l_aload_n F 3 dL_law_234 rfl rfl ?_
  refine l_ld F S.1 S.2.1 S.2.2.1 (n := n) (j := 1) 1 5 (by omega) S.2.2.2 (by decide) dL_law_235 dL_law_236 dL_law_238 dL_law_239 dL_law_240 rfl rfl ?_
  refine l_callR (As := [.int (xs0 (n + 1))]) (rest := []) F CR ml_L_96 im_yX12_position se_yX12_position (by have := hR.1; omega) (by have := hR.2; omega) rfl plM_0 rfl rfl (fun _ => rfl) dL_law_241 (by decide) hc hs (fun r σ' pl' hΦ ad => by obtain ⟨_, _, _, _, rfl, _⟩ := hR2 r σ' pl' hΦ; rfl) (fun r σ2 pl2 hΦ2 _ => ?_)
  obtain ⟨v, I', A', J', rfl, rfl, rfl, e1, e2, kL⟩ := hR2 r σ2 pl2 hΦ2
  refine l_istore (ls' := (6, .int v) :: (5, .int k) :: LB b ax ay ao (nI n)) F dL_law_244 (by decide) rfl ?_
  exact l_tail F hR hc hs e1 e2 dL_law_246 dL_law_247 dL_law_250 dL_law_252 dL_law_257 dL_law_259 dL_law_262 dL_law_263 dL_law_264 dL_law_265 dL_law_267 dL_law_268 dL_law_269 dL_law_274 (by decide) kL
theorem w_fault (F : FLx X cL_law RL 7) (hR : RmL X) (S : Scr X b L xs0) (hn : n + 5 < L) {mc ms : Nat} {Φ : Option Value → HS → List Nat → Prop} (C : ConX (xl X) 18 yX11_fault cX11_fault 1 (some .int) [.ref 100] σC plC mc ms Φ (fun _ _ _ => False)) (hb : 100 ∈ plC) (hk : sK σC 100 = 11) (hc : k1 + mc ≤ (xR X).cells) (hs : k2 + ms ≤ (xR X).slots) (hr : ∀ r σ' pl', Φ r σ' pl' → ∃ v, r = some (.int v))
    (kk : ∀ v σ' pl', Φ (some (.int v)) σ' pl' → (∀ q, q ∈ plC → q ∈ pl') → ∃ dR ΦR, dR ≤ 100 ∧ Con (xl X) dR yX12_fault cX12_fault 1 (some .int) [.ref 0] (mS I A J) plM 0 0 ΦR ∧ ∀ r σR' plR', ΦR r σR' plR' → ∃ I' A' J', r = some (.int v) ∧ σR' = mS I' A' J' ∧ plR' = plM ∧ LA X ax ay ao (mS I' A' J') plM σ' pl' U (k1 + mc) (k2 + ms) 1420 (LB b ax ay ao (nI n)) []) :
    LA X ax ay ao (mS I A J) plM σC plC U k1 k2 277 (LB b ax ay ao (nI n)) [] := by
  refine l_aload_n F 1 dL_law_277 rfl rfl ?_
  refine l_callC (As := []) (rest := []) F C ml_L_100 im_yX11_fault se_yX11_fault (by have := hR.1; omega) (by have := hR.2; omega) rfl hb hk rfl (fun _ => rfl) dL_law_278 (by decide) hc hs (fun r σ' pl' hΦ ad => by obtain ⟨v, rfl⟩ := hr r σ' pl' hΦ; rfl) (fun r σ' pl' hΦ hq => ?_)
  obtain ⟨v, rfl⟩ := hr r σ' pl' hΦ
  obtain ⟨dR, ΦR, hdR, CR, hR2⟩ := kk v σ' pl' hΦ hq
  refine l_aload_n F 2 dL_law_281 rfl rfl ?_
  refine l_callR (As := []) (rest := [.int v]) F CR ml_L_103 im_yX12_fault se_yX12_fault (by have := hR.1; omega) (by have := hR.2; omega) rfl plM_0 rfl rfl (fun _ => rfl) dL_law_282 (Nat.le_of_ble_eq_true rfl) hc hs (fun r σ' pl' hΦ ad => by obtain ⟨_, _, _, rfl, _⟩ := hR2 r σ' pl' hΦ; rfl) (fun r σ2 pl2 hΦ2 _ => ?_)
  obtain ⟨I', A', J', rfl, rfl, rfl, kL⟩ := hR2 r σ2 pl2 hΦ2
  exact l_icmp_eq (tgt := 1420) F dL_law_285 (by decide) rfl kL
theorem w_men (F : FLx X cL_law RL 7) (hR : RmL X) (S : Scr X b L xs0) (hn : n + 5 < L) {mc ms : Nat} {Θ : (Nat → Int64) → Int32 → HS → List Nat → (Nat → Int64) → Prop} (C : HCon (xl X) 19 yL_men cL_men 5 [(0, 10, 13, 21)] (fun a o => [.ref a, .int (xs0 (n + 1)), .int (xs0 (n + 2)), .ref o]) σC plC mc ms Θ) (hb : 100 ∈ plC) (hc : k1 + mc ≤ (xR X).cells) (hs : k2 + ms ≤ (xR X).slots)
    (kk : ∀ k σ' pl' U', Θ U k σ' pl' U' → (∀ q, q ∈ plC → q ∈ pl') → ∃ dR ΦR, dR ≤ 100 ∧ Con (xl X) dR yX12_men cX12_men 3 (some .int) [.ref 0, .int (xs0 (n + 1)), .int (xs0 (n + 2))] (mS I A J) plM 0 0 ΦR ∧ ∀ r σR' plR', ΦR r σR' plR' → ∃ v I' A' J', r = some (.int v) ∧ σR' = mS I' A' J' ∧ plR' = plM ∧ I' 0 0 = k ∧ (k = 0 → U' 0 = v.toInt64) ∧ LA X ax ay ao (mS I' A' J') plM σ' pl' U' (k1 + mc) (k2 + ms) 1420 (LB b ax ay ao (nI n)) []) :
    LA X ax ay ao (mS I A J) plM σC plC U k1 k2 290 (LB b ax ay ao (nI n)) [] := by
  refine l_aload_n F 1 dL_law_290 rfl rfl ?_
  refine l_ld F S.1 S.2.1 S.2.2.1 (n := n) (j := 1) 0 4 (by omega) S.2.2.2 (by decide) dL_law_291 dL_law_292 dL_law_294 dL_law_295 dL_law_296 rfl rfl ?_
  refine l_ld F S.1 S.2.1 S.2.2.1 (n := n) (j := 2) 0 4 (by omega) S.2.2.2 (by decide) dL_law_297 dL_law_298 dL_law_300 dL_law_301 dL_law_302 rfl rfl ?_
  refine l_aload_n F 3 dL_law_303 rfl rfl ?_
  refine l_help (avs := (fun a o => [.ref a, .int (xs0 (n + 1)), .int (xs0 (n + 2)), .ref o])) (rest := []) F C hl_L_men (by have := hR.1; omega) (by have := hR.2; omega) hb rfl dL_law_304 (by decide) hc hs (fun k σ' pl' U' hΘ hq => ?_)
  obtain ⟨dR, ΦR, hdR, CR, hR2⟩ := kk k σ' pl' U' hΘ hq
  refine l_istore (ls' := (5, .int k) :: LB b ax ay ao (nI n)) F dL_law_307 (by decide) rfl ?_
  refine l_aload_n F 3 dL_law_309 rfl rfl ?_
  refine l_ld F S.1 S.2.1 S.2.2.1 (n := n) (j := 1) 1 5 (by omega) S.2.2.2 (by decide) dL_law_310 dL_law_311 dL_law_313 dL_law_314 dL_law_315 rfl rfl ?_
  refine l_ld F S.1 S.2.1 S.2.2.1 (n := n) (j := 2) 1 5 (by omega) S.2.2.2 (by decide) dL_law_316 dL_law_317 dL_law_319 dL_law_320 dL_law_321 rfl rfl ?_
  refine l_callR (As := [.int (xs0 (n + 1)), .int (xs0 (n + 2))]) (rest := []) F CR ml_L_107 im_yX12_men se_yX12_men (by have := hR.1; omega) (by have := hR.2; omega) rfl plM_0 rfl rfl (fun _ => rfl) dL_law_322 (by decide) hc hs (fun r σ' pl' hΦ ad => by obtain ⟨_, _, _, _, rfl, _⟩ := hR2 r σ' pl' hΦ; rfl) (fun r σ2 pl2 hΦ2 _ => ?_)
  obtain ⟨v, I', A', J', rfl, rfl, rfl, e1, e2, kL⟩ := hR2 r σ2 pl2 hΦ2
  refine l_istore (ls' := (6, .int v) :: (5, .int k) :: LB b ax ay ao (nI n)) F dL_law_325 (by decide) rfl ?_
  exact l_tail F hR hc hs e1 e2 dL_law_327 dL_law_328 dL_law_331 dL_law_333 dL_law_338 dL_law_340 dL_law_343 dL_law_344 dL_law_345 dL_law_346 dL_law_348 dL_law_349 dL_law_350 dL_law_355 (by decide) kL
theorem w_ask (F : FLx X cL_law RL 7) (hR : RmL X) (S : Scr X b L xs0) (hn : n + 5 < L) {mc ms : Nat} {Θ : (Nat → Int64) → Int32 → HS → List Nat → (Nat → Int64) → Prop} (C : HCon (xl X) 19 yL_ask cL_ask 4 [(0, 9, 12, 13)] (fun a o => [.ref a, .int (xs0 (n + 1)), .ref o]) σC plC mc ms Θ) (hb : 100 ∈ plC) (hc : k1 + mc ≤ (xR X).cells) (hs : k2 + ms ≤ (xR X).slots)
    (kk : ∀ k σ' pl' U', Θ U k σ' pl' U' → (∀ q, q ∈ plC → q ∈ pl') → ∃ dR ΦR, dR ≤ 100 ∧ Con (xl X) dR yX12_ask cX12_ask 2 (some .int) [.ref 0, .int (xs0 (n + 1))] (mS I A J) plM 0 0 ΦR ∧ ∀ r σR' plR', ΦR r σR' plR' → ∃ v I' A' J', r = some (.int v) ∧ σR' = mS I' A' J' ∧ plR' = plM ∧ I' 0 0 = k ∧ (k = 0 → U' 0 = v.toInt64) ∧ LA X ax ay ao (mS I' A' J') plM σ' pl' U' (k1 + mc) (k2 + ms) 1420 (LB b ax ay ao (nI n)) []) :
    LA X ax ay ao (mS I A J) plM σC plC U k1 k2 358 (LB b ax ay ao (nI n)) [] := by
  refine l_aload_n F 1 dL_law_358 rfl rfl ?_
  refine l_ld F S.1 S.2.1 S.2.2.1 (n := n) (j := 1) 0 4 (by omega) S.2.2.2 (by decide) dL_law_359 dL_law_360 dL_law_362 dL_law_363 dL_law_364 rfl rfl ?_
  refine l_aload_n F 3 dL_law_365 rfl rfl ?_
  refine l_help (avs := (fun a o => [.ref a, .int (xs0 (n + 1)), .ref o])) (rest := []) F C hl_L_ask (by have := hR.1; omega) (by have := hR.2; omega) hb rfl dL_law_366 (by decide) hc hs (fun k σ' pl' U' hΘ hq => ?_)
  obtain ⟨dR, ΦR, hdR, CR, hR2⟩ := kk k σ' pl' U' hΘ hq
  refine l_istore (ls' := (5, .int k) :: LB b ax ay ao (nI n)) F dL_law_369 (by decide) rfl ?_
  refine l_aload_n F 3 dL_law_371 rfl rfl ?_
  refine l_ld F S.1 S.2.1 S.2.2.1 (n := n) (j := 1) 1 5 (by omega) S.2.2.2 (by decide) dL_law_372 dL_law_373 dL_law_375 dL_law_376 dL_law_377 rfl rfl ?_
  refine l_callR (As := [.int (xs0 (n + 1))]) (rest := []) F CR ml_L_110 im_yX12_ask se_yX12_ask (by have := hR.1; omega) (by have := hR.2; omega) rfl plM_0 rfl rfl (fun _ => rfl) dL_law_378 (by decide) hc hs (fun r σ' pl' hΦ ad => by obtain ⟨_, _, _, _, rfl, _⟩ := hR2 r σ' pl' hΦ; rfl) (fun r σ2 pl2 hΦ2 _ => ?_)
  obtain ⟨v, I', A', J', rfl, rfl, rfl, e1, e2, kL⟩ := hR2 r σ2 pl2 hΦ2
  refine l_istore (ls' := (6, .int v) :: (5, .int k) :: LB b ax ay ao (nI n)) F dL_law_381 (by decide) rfl ?_
  exact l_tail F hR hc hs e1 e2 dL_law_383 dL_law_384 dL_law_387 dL_law_389 dL_law_394 dL_law_396 dL_law_399 dL_law_400 dL_law_401 dL_law_402 dL_law_404 dL_law_405 dL_law_406 dL_law_411 (by decide) kL
theorem w_plays (F : FLx X cL_law RL 7) (hR : RmL X) (S : Scr X b L xs0) (hn : n + 5 < L) {mc ms : Nat} {Θ : (Nat → Int64) → Int32 → HS → List Nat → (Nat → Int64) → Prop} (C : HCon (xl X) 19 yL_plays cL_plays 5 [(0, 10, 13, 13), (0, 10, 17, 15)] (fun a o => [.ref a, .int (xs0 (n + 1)), .int (xs0 (n + 2)), .ref o]) σC plC mc ms Θ) (hb : 100 ∈ plC) (hc : k1 + mc ≤ (xR X).cells) (hs : k2 + ms ≤ (xR X).slots)
    (kk : ∀ k σ' pl' U', Θ U k σ' pl' U' → (∀ q, q ∈ plC → q ∈ pl') → ∃ dR ΦR, dR ≤ 100 ∧ Con (xl X) dR yX12_plays cX12_plays 3 (some .int) [.ref 0, .int (xs0 (n + 1)), .int (xs0 (n + 2))] (mS I A J) plM 0 0 ΦR ∧ ∀ r σR' plR', ΦR r σR' plR' → ∃ v I' A' J', r = some (.int v) ∧ σR' = mS I' A' J' ∧ plR' = plM ∧ I' 0 0 = k ∧ (k = 0 → U' 0 = v.toInt64) ∧ LA X ax ay ao (mS I' A' J') plM σ' pl' U' (k1 + mc) (k2 + ms) 1420 (LB b ax ay ao (nI n)) []) :
    LA X ax ay ao (mS I A J) plM σC plC U k1 k2 414 (LB b ax ay ao (nI n)) [] := by
  refine l_aload_n F 1 dL_law_414 rfl rfl ?_
  refine l_ld F S.1 S.2.1 S.2.2.1 (n := n) (j := 1) 0 4 (by omega) S.2.2.2 (by decide) dL_law_415 dL_law_416 dL_law_418 dL_law_419 dL_law_420 rfl rfl ?_
  refine l_ld F S.1 S.2.1 S.2.2.1 (n := n) (j := 2) 0 4 (by omega) S.2.2.2 (by decide) dL_law_421 dL_law_422 dL_law_424 dL_law_425 dL_law_426 rfl rfl ?_
  refine l_aload_n F 3 dL_law_427 rfl rfl ?_
  refine l_help (avs := (fun a o => [.ref a, .int (xs0 (n + 1)), .int (xs0 (n + 2)), .ref o])) (rest := []) F C hl_L_plays (by have := hR.1; omega) (by have := hR.2; omega) hb rfl dL_law_428 (by decide) hc hs (fun k σ' pl' U' hΘ hq => ?_)
  obtain ⟨dR, ΦR, hdR, CR, hR2⟩ := kk k σ' pl' U' hΘ hq
  refine l_istore (ls' := (5, .int k) :: LB b ax ay ao (nI n)) F dL_law_431 (by decide) rfl ?_
  refine l_aload_n F 3 dL_law_433 rfl rfl ?_
  refine l_ld F S.1 S.2.1 S.2.2.1 (n := n) (j := 1) 1 5 (by omega) S.2.2.2 (by decide) dL_law_434 dL_law_435 dL_law_437 dL_law_438 dL_law_439 rfl rfl ?_
  refine l_ld F S.1 S.2.1 S.2.2.1 (n := n) (j := 2) 1 5 (by omega) S.2.2.2 (by decide) dL_law_440 dL_law_441 dL_law_443 dL_law_444 dL_law_445 rfl rfl ?_
  refine l_callR (As := [.int (xs0 (n + 1)), .int (xs0 (n + 2))]) (rest := []) F CR ml_L_113 im_yX12_plays se_yX12_plays (by have := hR.1; omega) (by have := hR.2; omega) rfl plM_0 rfl rfl (fun _ => rfl) dL_law_446 (by decide) hc hs (fun r σ' pl' hΦ ad => by obtain ⟨_, _, _, _, rfl, _⟩ := hR2 r σ' pl' hΦ; rfl) (fun r σ2 pl2 hΦ2 _ => ?_)
  obtain ⟨v, I', A', J', rfl, rfl, rfl, e1, e2, kL⟩ := hR2 r σ2 pl2 hΦ2
  refine l_istore (ls' := (6, .int v) :: (5, .int k) :: LB b ax ay ao (nI n)) F dL_law_449 (by decide) rfl ?_
  exact l_tail F hR hc hs e1 e2 dL_law_451 dL_law_452 dL_law_455 dL_law_457 dL_law_462 dL_law_464 dL_law_467 dL_law_468 dL_law_469 dL_law_470 dL_law_472 dL_law_473 dL_law_474 dL_law_479 (by decide) kL
theorem w_result (F : FLx X cL_law RL 7) (hR : RmL X) (S : Scr X b L xs0) (hn : n + 5 < L) {mc ms : Nat} {Θ : (Nat → Int64) → Int32 → HS → List Nat → (Nat → Int64) → Prop} (C : HCon (xl X) 19 yL_result cL_result 6 [(0, 12, 15, 33), (0, 12, 19, 21)] (fun a o => [.ref a, .int (xs0 (n + 1)), .int (xs0 (n + 2)), .int (xs0 (n + 3)), .ref o]) σC plC mc ms Θ) (hb : 100 ∈ plC) (hc : k1 + mc ≤ (xR X).cells) (hs : k2 + ms ≤ (xR X).slots)
    (kk : ∀ k σ' pl' U', Θ U k σ' pl' U' → (∀ q, q ∈ plC → q ∈ pl') → ∃ dR ΦR, dR ≤ 100 ∧ Con (xl X) dR yX12_result cX12_result 4 (some .int) [.ref 0, .int (xs0 (n + 1)), .int (xs0 (n + 2)), .int (xs0 (n + 3))] (mS I A J) plM 0 0 ΦR ∧ ∀ r σR' plR', ΦR r σR' plR' → ∃ v I' A' J', r = some (.int v) ∧ σR' = mS I' A' J' ∧ plR' = plM ∧ I' 0 0 = k ∧ (k = 0 → U' 0 = v.toInt64) ∧ LA X ax ay ao (mS I' A' J') plM σ' pl' U' (k1 + mc) (k2 + ms) 1420 (LB b ax ay ao (nI n)) []) :
    LA X ax ay ao (mS I A J) plM σC plC U k1 k2 482 (LB b ax ay ao (nI n)) [] := by
  refine l_aload_n F 1 dL_law_482 rfl rfl ?_
  refine l_ld F S.1 S.2.1 S.2.2.1 (n := n) (j := 1) 0 4 (by omega) S.2.2.2 (by decide) dL_law_483 dL_law_484 dL_law_486 dL_law_487 dL_law_488 rfl rfl ?_
  refine l_ld F S.1 S.2.1 S.2.2.1 (n := n) (j := 2) 0 4 (by omega) S.2.2.2 (by decide) dL_law_489 dL_law_490 dL_law_492 dL_law_493 dL_law_494 rfl rfl ?_
  refine l_ld F S.1 S.2.1 S.2.2.1 (n := n) (j := 3) 0 4 (by omega) S.2.2.2 (by decide) dL_law_495 dL_law_496 dL_law_498 dL_law_499 dL_law_500 rfl rfl ?_
  refine l_aload_n F 3 dL_law_501 rfl rfl ?_
  refine l_help (avs := (fun a o => [.ref a, .int (xs0 (n + 1)), .int (xs0 (n + 2)), .int (xs0 (n + 3)), .ref o])) (rest := []) F C hl_L_result (by have := hR.1; omega) (by have := hR.2; omega) hb rfl dL_law_502 (by decide) hc hs (fun k σ' pl' U' hΘ hq => ?_)
  obtain ⟨dR, ΦR, hdR, CR, hR2⟩ := kk k σ' pl' U' hΘ hq
  refine l_istore (ls' := (5, .int k) :: LB b ax ay ao (nI n)) F dL_law_505 (by decide) rfl ?_
  refine l_aload_n F 3 dL_law_507 rfl rfl ?_
  refine l_ld F S.1 S.2.1 S.2.2.1 (n := n) (j := 1) 1 5 (by omega) S.2.2.2 (by decide) dL_law_508 dL_law_509 dL_law_511 dL_law_512 dL_law_513 rfl rfl ?_
  refine l_ld F S.1 S.2.1 S.2.2.1 (n := n) (j := 2) 1 5 (by omega) S.2.2.2 (by decide) dL_law_514 dL_law_515 dL_law_517 dL_law_518 dL_law_519 rfl rfl ?_
  refine l_ld F S.1 S.2.1 S.2.2.1 (n := n) (j := 3) 1 5 (by omega) S.2.2.2 (by decide) dL_law_520 dL_law_521 dL_law_523 dL_law_524 dL_law_525 rfl rfl ?_
  refine l_callR (As := [.int (xs0 (n + 1)), .int (xs0 (n + 2)), .int (xs0 (n + 3))]) (rest := []) F CR ml_L_117 im_yX12_result se_yX12_result (by have := hR.1; omega) (by have := hR.2; omega) rfl plM_0 rfl rfl (fun _ => rfl) dL_law_526 (by decide) hc hs (fun r σ' pl' hΦ ad => by obtain ⟨_, _, _, _, rfl, _⟩ := hR2 r σ' pl' hΦ; rfl) (fun r σ2 pl2 hΦ2 _ => ?_)
  obtain ⟨v, I', A', J', rfl, rfl, rfl, e1, e2, kL⟩ := hR2 r σ2 pl2 hΦ2
  refine l_istore (ls' := (6, .int v) :: (5, .int k) :: LB b ax ay ao (nI n)) F dL_law_529 (by decide) rfl ?_
  exact l_tail F hR hc hs e1 e2 dL_law_531 dL_law_532 dL_law_535 dL_law_537 dL_law_542 dL_law_544 dL_law_547 dL_law_548 dL_law_549 dL_law_550 dL_law_552 dL_law_553 dL_law_554 dL_law_559 (by decide) kL
theorem w_way (F : FLx X cL_law RL 7) (hR : RmL X) (S : Scr X b L xs0) (hn : n + 5 < L) {mc ms : Nat} {Θ : (Nat → Int64) → Int32 → HS → List Nat → (Nat → Int64) → Prop} (C : HCon (xl X) 19 yL_way cL_way 5 [(0, 10, 13, 33)] (fun a o => [.ref a, .int (xs0 (n + 1)), .int (xs0 (n + 2)), .ref o]) σC plC mc ms Θ) (hb : 100 ∈ plC) (hc : k1 + mc ≤ (xR X).cells) (hs : k2 + ms ≤ (xR X).slots)
    (kk : ∀ k σ' pl' U', Θ U k σ' pl' U' → (∀ q, q ∈ plC → q ∈ pl') → ∃ dR ΦR, dR ≤ 100 ∧ Con (xl X) dR yX12_way cX12_way 3 (some .int) [.ref 0, .int (xs0 (n + 1)), .int (xs0 (n + 2))] (mS I A J) plM 0 0 ΦR ∧ ∀ r σR' plR', ΦR r σR' plR' → ∃ v I' A' J', r = some (.int v) ∧ σR' = mS I' A' J' ∧ plR' = plM ∧ I' 0 0 = k ∧ (k = 0 → U' 0 = v.toInt64) ∧ LA X ax ay ao (mS I' A' J') plM σ' pl' U' (k1 + mc) (k2 + ms) 1420 (LB b ax ay ao (nI n)) []) :
    LA X ax ay ao (mS I A J) plM σC plC U k1 k2 562 (LB b ax ay ao (nI n)) [] := by
  refine l_aload_n F 1 dL_law_562 rfl rfl ?_
  refine l_ld F S.1 S.2.1 S.2.2.1 (n := n) (j := 1) 0 4 (by omega) S.2.2.2 (by decide) dL_law_563 dL_law_564 dL_law_566 dL_law_567 dL_law_568 rfl rfl ?_
  refine l_ld F S.1 S.2.1 S.2.2.1 (n := n) (j := 2) 0 4 (by omega) S.2.2.2 (by decide) dL_law_569 dL_law_570 dL_law_572 dL_law_573 dL_law_574 rfl rfl ?_
  refine l_aload_n F 3 dL_law_575 rfl rfl ?_
  refine l_help (avs := (fun a o => [.ref a, .int (xs0 (n + 1)), .int (xs0 (n + 2)), .ref o])) (rest := []) F C hl_L_way (by have := hR.1; omega) (by have := hR.2; omega) hb rfl dL_law_576 (by decide) hc hs (fun k σ' pl' U' hΘ hq => ?_)
  obtain ⟨dR, ΦR, hdR, CR, hR2⟩ := kk k σ' pl' U' hΘ hq
  refine l_istore (ls' := (5, .int k) :: LB b ax ay ao (nI n)) F dL_law_579 (by decide) rfl ?_
  refine l_aload_n F 3 dL_law_581 rfl rfl ?_
  refine l_ld F S.1 S.2.1 S.2.2.1 (n := n) (j := 1) 1 5 (by omega) S.2.2.2 (by decide) dL_law_582 dL_law_583 dL_law_585 dL_law_586 dL_law_587 rfl rfl ?_
  refine l_ld F S.1 S.2.1 S.2.2.1 (n := n) (j := 2) 1 5 (by omega) S.2.2.2 (by decide) dL_law_588 dL_law_589 dL_law_591 dL_law_592 dL_law_593 rfl rfl ?_
  refine l_callR (As := [.int (xs0 (n + 1)), .int (xs0 (n + 2))]) (rest := []) F CR ml_L_120 im_yX12_way se_yX12_way (by have := hR.1; omega) (by have := hR.2; omega) rfl plM_0 rfl rfl (fun _ => rfl) dL_law_594 (by decide) hc hs (fun r σ' pl' hΦ ad => by obtain ⟨_, _, _, _, rfl, _⟩ := hR2 r σ' pl' hΦ; rfl) (fun r σ2 pl2 hΦ2 _ => ?_)
  obtain ⟨v, I', A', J', rfl, rfl, rfl, e1, e2, kL⟩ := hR2 r σ2 pl2 hΦ2
  refine l_istore (ls' := (6, .int v) :: (5, .int k) :: LB b ax ay ao (nI n)) F dL_law_597 (by decide) rfl ?_
  exact l_tail F hR hc hs e1 e2 dL_law_599 dL_law_600 dL_law_603 dL_law_605 dL_law_610 dL_law_612 dL_law_615 dL_law_616 dL_law_617 dL_law_618 dL_law_620 dL_law_621 dL_law_622 dL_law_627 (by decide) kL
theorem w_choose (F : FLx X cL_law RL 7) (hR : RmL X) (S : Scr X b L xs0) (hn : n + 5 < L) {mc ms : Nat} {Θ : (Nat → Int64) → Int32 → HS → List Nat → (Nat → Int64) → Prop} (C : HCon (xl X) 19 yL_choose cL_choose 4 [(0, 9, 12, 33)] (fun a o => [.ref a, .int (xs0 (n + 1)), .ref o]) σC plC mc ms Θ) (hb : 100 ∈ plC) (hc : k1 + mc ≤ (xR X).cells) (hs : k2 + ms ≤ (xR X).slots)
    (kk : ∀ k σ' pl' U', Θ U k σ' pl' U' → (∀ q, q ∈ plC → q ∈ pl') → ∃ dR ΦR, dR ≤ 100 ∧ Con (xl X) dR yX12_choose cX12_choose 4 (some .int) [.ref 0, .int (xs0 (n + 1))] (mS I A J) plM 0 0 ΦR ∧ ∀ r σR' plR', ΦR r σR' plR' → ∃ v I' A' J', r = some (.int v) ∧ σR' = mS I' A' J' ∧ plR' = plM ∧ I' 0 0 = k ∧ (k = 0 → U' 0 = v.toInt64) ∧ LA X ax ay ao (mS I' A' J') plM σ' pl' U' (k1 + mc) (k2 + ms) 1420 (LB b ax ay ao (nI n)) []) :
    LA X ax ay ao (mS I A J) plM σC plC U k1 k2 630 (LB b ax ay ao (nI n)) [] := by
  refine l_aload_n F 1 dL_law_630 rfl rfl ?_
  refine l_ld F S.1 S.2.1 S.2.2.1 (n := n) (j := 1) 0 4 (by omega) S.2.2.2 (by decide) dL_law_631 dL_law_632 dL_law_634 dL_law_635 dL_law_636 rfl rfl ?_
  refine l_aload_n F 3 dL_law_637 rfl rfl ?_
  refine l_help (avs := (fun a o => [.ref a, .int (xs0 (n + 1)), .ref o])) (rest := []) F C hl_L_choose (by have := hR.1; omega) (by have := hR.2; omega) hb rfl dL_law_638 (by decide) hc hs (fun k σ' pl' U' hΘ hq => ?_)
  obtain ⟨dR, ΦR, hdR, CR, hR2⟩ := kk k σ' pl' U' hΘ hq
  refine l_istore (ls' := (5, .int k) :: LB b ax ay ao (nI n)) F dL_law_641 (by decide) rfl ?_
  refine l_aload_n F 3 dL_law_643 rfl rfl ?_
  refine l_ld F S.1 S.2.1 S.2.2.1 (n := n) (j := 1) 1 5 (by omega) S.2.2.2 (by decide) dL_law_644 dL_law_645 dL_law_647 dL_law_648 dL_law_649 rfl rfl ?_
  refine l_callR (As := [.int (xs0 (n + 1))]) (rest := []) F CR ml_L_123 im_yX12_choose se_yX12_choose (by have := hR.1; omega) (by have := hR.2; omega) rfl plM_0 rfl rfl (fun _ => rfl) dL_law_650 (by decide) hc hs (fun r σ' pl' hΦ ad => by obtain ⟨_, _, _, _, rfl, _⟩ := hR2 r σ' pl' hΦ; rfl) (fun r σ2 pl2 hΦ2 _ => ?_)
  obtain ⟨v, I', A', J', rfl, rfl, rfl, e1, e2, kL⟩ := hR2 r σ2 pl2 hΦ2
  refine l_istore (ls' := (6, .int v) :: (5, .int k) :: LB b ax ay ao (nI n)) F dL_law_653 (by decide) rfl ?_
  exact l_tail F hR hc hs e1 e2 dL_law_655 dL_law_656 dL_law_659 dL_law_661 dL_law_666 dL_law_668 dL_law_671 dL_law_672 dL_law_673 dL_law_674 dL_law_676 dL_law_677 dL_law_678 dL_law_683 (by decide) kL
theorem w_say (F : FLx X cL_law RL 7) (hR : RmL X) (S : Scr X b L xs0) (hn : n + 5 < L) {mc ms : Nat} {Θ : (Nat → Int64) → Int32 → HS → List Nat → (Nat → Int64) → Prop} (C : HCon (xl X) 19 yL_say cL_say 6 [(0, 12, 15, 13), (0, 12, 19, 15)] (fun a o => [.ref a, .int (xs0 (n + 1)), .int (xs0 (n + 2)), .int (xs0 (n + 3)), .ref o]) σC plC mc ms Θ) (hb : 100 ∈ plC) (hc : k1 + mc ≤ (xR X).cells) (hs : k2 + ms ≤ (xR X).slots)
    (kk : ∀ k σ' pl' U', Θ U k σ' pl' U' → (∀ q, q ∈ plC → q ∈ pl') → ∃ dR ΦR, dR ≤ 100 ∧ Con (xl X) dR yX12_say cX12_say 7 (some .int) [.ref 0, .int (xs0 (n + 1)), .int (xs0 (n + 2)), .int (xs0 (n + 3))] (mS I A J) plM 0 0 ΦR ∧ ∀ r σR' plR', ΦR r σR' plR' → ∃ v I' A' J', r = some (.int v) ∧ σR' = mS I' A' J' ∧ plR' = plM ∧ I' 0 0 = k ∧ (k = 0 → U' 0 = v.toInt64) ∧ LA X ax ay ao (mS I' A' J') plM σ' pl' U' (k1 + mc) (k2 + ms) 1420 (LB b ax ay ao (nI n)) []) :
    LA X ax ay ao (mS I A J) plM σC plC U k1 k2 686 (LB b ax ay ao (nI n)) [] := by
  refine l_aload_n F 1 dL_law_686 rfl rfl ?_
  refine l_ld F S.1 S.2.1 S.2.2.1 (n := n) (j := 1) 0 4 (by omega) S.2.2.2 (by decide) dL_law_687 dL_law_688 dL_law_690 dL_law_691 dL_law_692 rfl rfl ?_
  refine l_ld F S.1 S.2.1 S.2.2.1 (n := n) (j := 2) 0 4 (by omega) S.2.2.2 (by decide) dL_law_693 dL_law_694 dL_law_696 dL_law_697 dL_law_698 rfl rfl ?_
  refine l_ld F S.1 S.2.1 S.2.2.1 (n := n) (j := 3) 0 4 (by omega) S.2.2.2 (by decide) dL_law_699 dL_law_700 dL_law_702 dL_law_703 dL_law_704 rfl rfl ?_
  refine l_aload_n F 3 dL_law_705 rfl rfl ?_
  refine l_help (avs := (fun a o => [.ref a, .int (xs0 (n + 1)), .int (xs0 (n + 2)), .int (xs0 (n + 3)), .ref o])) (rest := []) F C hl_L_say (by have := hR.1; omega) (by have := hR.2; omega) hb rfl dL_law_706 (by decide) hc hs (fun k σ' pl' U' hΘ hq => ?_)
  obtain ⟨dR, ΦR, hdR, CR, hR2⟩ := kk k σ' pl' U' hΘ hq
  refine l_istore (ls' := (5, .int k) :: LB b ax ay ao (nI n)) F dL_law_709 (by decide) rfl ?_
  refine l_aload_n F 3 dL_law_711 rfl rfl ?_
  refine l_ld F S.1 S.2.1 S.2.2.1 (n := n) (j := 1) 1 5 (by omega) S.2.2.2 (by decide) dL_law_712 dL_law_713 dL_law_715 dL_law_716 dL_law_717 rfl rfl ?_
  refine l_ld F S.1 S.2.1 S.2.2.1 (n := n) (j := 2) 1 5 (by omega) S.2.2.2 (by decide) dL_law_718 dL_law_719 dL_law_721 dL_law_722 dL_law_723 rfl rfl ?_
  refine l_ld F S.1 S.2.1 S.2.2.1 (n := n) (j := 3) 1 5 (by omega) S.2.2.2 (by decide) dL_law_724 dL_law_725 dL_law_727 dL_law_728 dL_law_729 rfl rfl ?_
  refine l_callR (As := [.int (xs0 (n + 1)), .int (xs0 (n + 2)), .int (xs0 (n + 3))]) (rest := []) F CR ml_L_126 im_yX12_say se_yX12_say (by have := hR.1; omega) (by have := hR.2; omega) rfl plM_0 rfl rfl (fun _ => rfl) dL_law_730 (by decide) hc hs (fun r σ' pl' hΦ ad => by obtain ⟨_, _, _, _, rfl, _⟩ := hR2 r σ' pl' hΦ; rfl) (fun r σ2 pl2 hΦ2 _ => ?_)
  obtain ⟨v, I', A', J', rfl, rfl, rfl, e1, e2, kL⟩ := hR2 r σ2 pl2 hΦ2
  refine l_istore (ls' := (6, .int v) :: (5, .int k) :: LB b ax ay ao (nI n)) F dL_law_733 (by decide) rfl ?_
  exact l_tail F hR hc hs e1 e2 dL_law_735 dL_law_736 dL_law_739 dL_law_741 dL_law_746 dL_law_748 dL_law_751 dL_law_752 dL_law_753 dL_law_754 dL_law_756 dL_law_757 dL_law_758 dL_law_763 (by decide) kL
theorem w_back (F : FLx X cL_law RL 7) (hR : RmL X) (S : Scr X b L xs0) (hn : n + 5 < L) {mc ms : Nat} {Φ : Option Value → HS → List Nat → Prop} (C : ConX (xl X) 18 yX11_back cX11_back 1 (some .boolean) [.ref 100] σC plC mc ms Φ (fun _ _ _ => False)) (hb : 100 ∈ plC) (hk : sK σC 100 = 11) (hc : k1 + mc ≤ (xR X).cells) (hs : k2 + ms ≤ (xR X).slots) (hr : ∀ r σ' pl', Φ r σ' pl' → ∃ v, r = some (.int v))
    (kk : ∀ v σ' pl', Φ (some (.int v)) σ' pl' → (∀ q, q ∈ plC → q ∈ pl') → ∃ dR ΦR, dR ≤ 100 ∧ Con (xl X) dR yX12_back cX12_back 2 (some .boolean) [.ref 0] (mS I A J) plM 0 0 ΦR ∧ ∀ r σR' plR', ΦR r σR' plR' → ∃ I' A' J', r = some (.int v) ∧ σR' = mS I' A' J' ∧ plR' = plM ∧ LA X ax ay ao (mS I' A' J') plM σ' pl' U (k1 + mc) (k2 + ms) 1420 (LB b ax ay ao (nI n)) []) :
    LA X ax ay ao (mS I A J) plM σC plC U k1 k2 766 (LB b ax ay ao (nI n)) [] := by
  refine l_aload_n F 1 dL_law_766 rfl rfl ?_
  refine l_callC (As := []) (rest := []) F C ml_L_127 im_yX11_back se_yX11_back (by have := hR.1; omega) (by have := hR.2; omega) rfl hb hk rfl (fun _ => rfl) dL_law_767 (by decide) hc hs (fun r σ' pl' hΦ ad => by obtain ⟨v, rfl⟩ := hr r σ' pl' hΦ; rfl) (fun r σ' pl' hΦ hq => ?_)
  obtain ⟨v, rfl⟩ := hr r σ' pl' hΦ
  obtain ⟨dR, ΦR, hdR, CR, hR2⟩ := kk v σ' pl' hΦ hq
  refine l_aload_n F 2 dL_law_770 rfl rfl ?_
  refine l_callR (As := []) (rest := [.int v]) F CR ml_L_131 im_yX12_back se_yX12_back (by have := hR.1; omega) (by have := hR.2; omega) rfl plM_0 rfl rfl (fun _ => rfl) dL_law_771 (Nat.le_of_ble_eq_true rfl) hc hs (fun r σ' pl' hΦ ad => by obtain ⟨_, _, _, rfl, _⟩ := hR2 r σ' pl' hΦ; rfl) (fun r σ2 pl2 hΦ2 _ => ?_)
  obtain ⟨I', A', J', rfl, rfl, rfl, kL⟩ := hR2 r σ2 pl2 hΦ2
  exact l_icmp_eq (tgt := 1420) F dL_law_774 (by decide) rfl kL
theorem w_begin (F : FLx X cL_law RL 7) (hR : RmL X) (S : Scr X b L xs0) (hn : n + 5 < L) {mc ms : Nat} {Θ : (Nat → Int64) → Int32 → HS → List Nat → (Nat → Int64) → Prop} (C : HCon (xl X) 19 yL_begin cL_begin 3 [(0, 5, 8, 13)] (fun a _ => [.ref a, .int (xs0 (n + 1))]) σC plC mc ms Θ) (hb : 100 ∈ plC) (hc : k1 + mc ≤ (xR X).cells) (hs : k2 + ms ≤ (xR X).slots)
    (kk : ∀ k σ' pl' U', Θ U k σ' pl' U' → (∀ q, q ∈ plC → q ∈ pl') → ∃ dR ΦR, dR ≤ 100 ∧ Con (xl X) dR yX12_begin cX12_begin 2 none [.ref 0, .int (xs0 (n + 1))] (mS I A J) plM 0 0 ΦR ∧ ∀ r σR' plR', ΦR r σR' plR' → ∃ I' A' J', r = none ∧ σR' = mS I' A' J' ∧ plR' = plM ∧ I' 0 0 = k ∧ LA X ax ay ao (mS I' A' J') plM σ' pl' U' (k1 + mc) (k2 + ms) 1420 (LB b ax ay ao (nI n)) []) :
    LA X ax ay ao (mS I A J) plM σC plC U k1 k2 779 (LB b ax ay ao (nI n)) [] := by
  refine l_aload_n F 1 dL_law_779 rfl rfl ?_
  refine l_ld F S.1 S.2.1 S.2.2.1 (n := n) (j := 1) 0 4 (by omega) S.2.2.2 (by decide) dL_law_780 dL_law_781 dL_law_783 dL_law_784 dL_law_785 rfl rfl ?_
  refine l_help (avs := (fun a _ => [.ref a, .int (xs0 (n + 1))])) (rest := []) F C hl_L_begin (by have := hR.1; omega) (by have := hR.2; omega) hb rfl dL_law_786 (by decide) hc hs (fun k σ' pl' U' hΘ hq => ?_)
  obtain ⟨dR, ΦR, hdR, CR, hR2⟩ := kk k σ' pl' U' hΘ hq
  refine l_istore (ls' := (5, .int k) :: LB b ax ay ao (nI n)) F dL_law_789 (by decide) rfl ?_
  refine l_aload_n F 3 dL_law_791 rfl rfl ?_
  refine l_ld F S.1 S.2.1 S.2.2.1 (n := n) (j := 1) 1 5 (by omega) S.2.2.2 (by decide) dL_law_792 dL_law_793 dL_law_795 dL_law_796 dL_law_797 rfl rfl ?_
  refine l_callR (As := [.int (xs0 (n + 1))]) (rest := []) F CR ml_L_135 im_yX12_begin se_yX12_begin (by have := hR.1; omega) (by have := hR.2; omega) rfl plM_0 rfl rfl (fun _ => rfl) dL_law_798 (by decide) hc hs (fun r σ' pl' hΦ ad => by obtain ⟨_, _, _, rfl, _⟩ := hR2 r σ' pl' hΦ; rfl) (fun r σ2 pl2 hΦ2 _ => ?_)
  obtain ⟨I', A', J', rfl, rfl, rfl, e1, kL⟩ := hR2 r σ2 pl2 hΦ2
  refine l_thr F hR (by decide) hc hs 3 rfl dL_law_801 dL_law_802 ?_
  refine l_iload F 0 dL_law_805 rfl ?_
  refine l_icmp_eq (tgt := 812) F dL_law_807 (by decide) e1 ?_
  exact l_goto (tgt := 1420) F dL_law_812 (by decide) (l_sub [1, 2, 3, 4, 5] rfl kL)
theorem w_roll (F : FLx X cL_law RL 7) (hR : RmL X) (S : Scr X b L xs0) (hn : n + 5 < L) {mc ms : Nat} {Θ : (Nat → Int64) → Int32 → HS → List Nat → (Nat → Int64) → Prop} (C : HCon (xl X) 19 yL_roll cL_roll 5 [(0, 10, 13, 13), (0, 10, 17, 15)] (fun a o => [.ref a, .int (xs0 (n + 1)), .int (xs0 (n + 2)), .ref o]) σC plC mc ms Θ) (hb : 100 ∈ plC) (hc : k1 + mc ≤ (xR X).cells) (hs : k2 + ms ≤ (xR X).slots)
    (kk : ∀ k σ' pl' U', Θ U k σ' pl' U' → (∀ q, q ∈ plC → q ∈ pl') → ∃ dR ΦR, dR ≤ 100 ∧ Con (xl X) dR yX12_roll cX12_roll 3 (some .int) [.ref 0, .int (xs0 (n + 1)), .int (xs0 (n + 2))] (mS I A J) plM 0 0 ΦR ∧ ∀ r σR' plR', ΦR r σR' plR' → ∃ v I' A' J', r = some (.int v) ∧ σR' = mS I' A' J' ∧ plR' = plM ∧ I' 0 0 = k ∧ (k = 0 → U' 0 = v.toInt64) ∧ LA X ax ay ao (mS I' A' J') plM σ' pl' U' (k1 + mc) (k2 + ms) 1420 (LB b ax ay ao (nI n)) []) :
    LA X ax ay ao (mS I A J) plM σC plC U k1 k2 815 (LB b ax ay ao (nI n)) [] := by
  refine l_aload_n F 1 dL_law_815 rfl rfl ?_
  refine l_ld F S.1 S.2.1 S.2.2.1 (n := n) (j := 1) 0 4 (by omega) S.2.2.2 (by decide) dL_law_816 dL_law_817 dL_law_819 dL_law_820 dL_law_821 rfl rfl ?_
  refine l_ld F S.1 S.2.1 S.2.2.1 (n := n) (j := 2) 0 4 (by omega) S.2.2.2 (by decide) dL_law_822 dL_law_823 dL_law_825 dL_law_826 dL_law_827 rfl rfl ?_
  refine l_aload_n F 3 dL_law_828 rfl rfl ?_
  refine l_help (avs := (fun a o => [.ref a, .int (xs0 (n + 1)), .int (xs0 (n + 2)), .ref o])) (rest := []) F C hl_L_roll (by have := hR.1; omega) (by have := hR.2; omega) hb rfl dL_law_829 (by decide) hc hs (fun k σ' pl' U' hΘ hq => ?_)
  obtain ⟨dR, ΦR, hdR, CR, hR2⟩ := kk k σ' pl' U' hΘ hq
  refine l_istore (ls' := (5, .int k) :: LB b ax ay ao (nI n)) F dL_law_832 (by decide) rfl ?_
  refine l_aload_n F 3 dL_law_834 rfl rfl ?_
  refine l_ld F S.1 S.2.1 S.2.2.1 (n := n) (j := 1) 1 5 (by omega) S.2.2.2 (by decide) dL_law_835 dL_law_836 dL_law_838 dL_law_839 dL_law_840 rfl rfl ?_
  refine l_ld F S.1 S.2.1 S.2.2.1 (n := n) (j := 2) 1 5 (by omega) S.2.2.2 (by decide) dL_law_841 dL_law_842 dL_law_844 dL_law_845 dL_law_846 rfl rfl ?_
  refine l_callR (As := [.int (xs0 (n + 1)), .int (xs0 (n + 2))]) (rest := []) F CR ml_L_138 im_yX12_roll se_yX12_roll (by have := hR.1; omega) (by have := hR.2; omega) rfl plM_0 rfl rfl (fun _ => rfl) dL_law_847 (by decide) hc hs (fun r σ' pl' hΦ ad => by obtain ⟨_, _, _, _, rfl, _⟩ := hR2 r σ' pl' hΦ; rfl) (fun r σ2 pl2 hΦ2 _ => ?_)
  obtain ⟨v, I', A', J', rfl, rfl, rfl, e1, e2, kL⟩ := hR2 r σ2 pl2 hΦ2
  refine l_istore (ls' := (6, .int v) :: (5, .int k) :: LB b ax ay ao (nI n)) F dL_law_850 (by decide) rfl ?_
  exact l_tail F hR hc hs e1 e2 dL_law_852 dL_law_853 dL_law_856 dL_law_858 dL_law_863 dL_law_865 dL_law_868 dL_law_869 dL_law_870 dL_law_871 dL_law_873 dL_law_874 dL_law_875 dL_law_880 (by decide) kL
theorem w_offer (F : FLx X cL_law RL 7) (hR : RmL X) (S : Scr X b L xs0) (hn : n + 5 < L) {mc ms : Nat} {Θ : (Nat → Int64) → Int32 → HS → List Nat → (Nat → Int64) → Prop} (C : HCon (xl X) 19 yL_offer cL_offer 3 [(0, 8, 11, 15)] (fun a o => [.ref a, .ref o]) σC plC mc ms Θ) (hb : 100 ∈ plC) (hc : k1 + mc ≤ (xR X).cells) (hs : k2 + ms ≤ (xR X).slots)
    (kk : ∀ k σ' pl' U', Θ U k σ' pl' U' → (∀ q, q ∈ plC → q ∈ pl') → ∃ dR ΦR, dR ≤ 100 ∧ Con (xl X) dR yX12_offer cX12_offer 1 (some .int) [.ref 0] (mS I A J) plM 0 0 ΦR ∧ ∀ r σR' plR', ΦR r σR' plR' → ∃ v I' A' J', r = some (.int v) ∧ σR' = mS I' A' J' ∧ plR' = plM ∧ I' 0 0 = k ∧ (k = 0 → U' 0 = v.toInt64) ∧ LA X ax ay ao (mS I' A' J') plM σ' pl' U' (k1 + mc) (k2 + ms) 1420 (LB b ax ay ao (nI n)) []) :
    LA X ax ay ao (mS I A J) plM σC plC U k1 k2 883 (LB b ax ay ao (nI n)) [] := by
  refine l_aload_n F 1 dL_law_883 rfl rfl ?_
  refine l_aload_n F 3 dL_law_884 rfl rfl ?_
  refine l_help (avs := (fun a o => [.ref a, .ref o])) (rest := []) F C hl_L_offer (by have := hR.1; omega) (by have := hR.2; omega) hb rfl dL_law_885 (by decide) hc hs (fun k σ' pl' U' hΘ hq => ?_)
  obtain ⟨dR, ΦR, hdR, CR, hR2⟩ := kk k σ' pl' U' hΘ hq
  refine l_istore (ls' := (5, .int k) :: LB b ax ay ao (nI n)) F dL_law_888 (by decide) rfl ?_
  refine l_aload_n F 3 dL_law_890 rfl rfl ?_
  refine l_callR (As := []) (rest := []) F CR ml_L_142 im_yX12_offer se_yX12_offer (by have := hR.1; omega) (by have := hR.2; omega) rfl plM_0 rfl rfl (fun _ => rfl) dL_law_891 (by decide) hc hs (fun r σ' pl' hΦ ad => by obtain ⟨_, _, _, _, rfl, _⟩ := hR2 r σ' pl' hΦ; rfl) (fun r σ2 pl2 hΦ2 _ => ?_)
  obtain ⟨v, I', A', J', rfl, rfl, rfl, e1, e2, kL⟩ := hR2 r σ2 pl2 hΦ2
  refine l_istore (ls' := (6, .int v) :: (5, .int k) :: LB b ax ay ao (nI n)) F dL_law_894 (by decide) rfl ?_
  exact l_tail F hR hc hs e1 e2 dL_law_896 dL_law_897 dL_law_900 dL_law_902 dL_law_907 dL_law_909 dL_law_912 dL_law_913 dL_law_914 dL_law_915 dL_law_917 dL_law_918 dL_law_919 dL_law_924 (by decide) kL
theorem w_answer (F : FLx X cL_law RL 7) (hR : RmL X) (S : Scr X b L xs0) (hn : n + 5 < L) {mc ms : Nat} {Θ : (Nat → Int64) → Int32 → HS → List Nat → (Nat → Int64) → Prop} (C : HCon (xl X) 19 yL_answer cL_answer 4 [(0, 9, 12, 15)] (fun a o => [.ref a, .int (if xs0 (n + 1) = 0 then 0 else 1), .ref o]) σC plC mc ms Θ) (hb : 100 ∈ plC) (hc : k1 + mc ≤ (xR X).cells) (hs : k2 + ms ≤ (xR X).slots)
    (kk : ∀ k σ' pl' U', Θ U k σ' pl' U' → (∀ q, q ∈ plC → q ∈ pl') → ∃ dR ΦR, dR ≤ 100 ∧ Con (xl X) dR yX12_answer cX12_answer 2 (some .int) [.ref 0, .int (if xs0 (n + 1) = 0 then 0 else 1)] (mS I A J) plM 0 0 ΦR ∧ ∀ r σR' plR', ΦR r σR' plR' → ∃ v I' A' J', r = some (.int v) ∧ σR' = mS I' A' J' ∧ plR' = plM ∧ I' 0 0 = k ∧ (k = 0 → U' 0 = v.toInt64) ∧ LA X ax ay ao (mS I' A' J') plM σ' pl' U' (k1 + mc) (k2 + ms) 1420 (LB b ax ay ao (nI n)) []) :
    LA X ax ay ao (mS I A J) plM σC plC U k1 k2 927 (LB b ax ay ao (nI n)) [] := by
  refine l_aload_n F 1 dL_law_927 rfl rfl ?_
  refine l_ld F S.1 S.2.1 S.2.2.1 (n := n) (j := 1) 0 4 (by omega) S.2.2.2 (by decide) dL_law_928 dL_law_929 dL_law_931 dL_law_932 dL_law_933 rfl rfl ?_
  suffices hgo : LA X ax ay ao (mS I A J) plM σC plC U k1 k2 942 (LB b ax ay ao (nI n)) [.int (if xs0 (n + 1) = 0 then 0 else 1), .ref ax] by
    refine l_if_eq (tgt := 941) F dL_law_934 (by decide) (fun z => ?_) (fun z => ?_)
    · rw [if_pos z] at hgo
      exact l_iconst F dL_law_941 (by decide) hgo
    · rw [if_neg z] at hgo
      exact l_iconst F dL_law_937 (by decide) (l_goto (tgt := 942) F dL_law_938 (by decide) hgo)
  refine l_aload_n F 3 dL_law_942 rfl rfl ?_
  refine l_help (avs := (fun a o => [.ref a, .int (if xs0 (n + 1) = 0 then 0 else 1), .ref o])) (rest := []) F C hl_L_answer (by have := hR.1; omega) (by have := hR.2; omega) hb rfl dL_law_943 (by decide) hc hs (fun k σ' pl' U' hΘ hq => ?_)
  obtain ⟨dR, ΦR, hdR, CR, hR2⟩ := kk k σ' pl' U' hΘ hq
  refine l_istore (ls' := (5, .int k) :: LB b ax ay ao (nI n)) F dL_law_946 (by decide) rfl ?_
  refine l_aload_n F 3 dL_law_948 rfl rfl ?_
  refine l_ld F S.1 S.2.1 S.2.2.1 (n := n) (j := 1) 1 5 (by omega) S.2.2.2 (by decide) dL_law_949 dL_law_950 dL_law_952 dL_law_953 dL_law_954 rfl rfl ?_
  suffices hgo : LA X ax ay ao (mS I A J) plM σ' pl' U' (k1 + mc) (k2 + ms) 963 ((5, .int k) :: LB b ax ay ao (nI n)) [.int (if xs0 (n + 1) = 0 then 0 else 1), .ref ay] by
    refine l_if_eq (tgt := 962) F dL_law_955 (by decide) (fun z => ?_) (fun z => ?_)
    · rw [if_pos z] at hgo
      exact l_iconst F dL_law_962 (by decide) hgo
    · rw [if_neg z] at hgo
      exact l_iconst F dL_law_958 (by decide) (l_goto (tgt := 963) F dL_law_959 (by decide) hgo)
  refine l_callR (As := [.int (if xs0 (n + 1) = 0 then 0 else 1)]) (rest := []) F CR ml_L_146 im_yX12_answer se_yX12_answer (by have := hR.1; omega) (by have := hR.2; omega) rfl plM_0 rfl rfl (fun _ => rfl) dL_law_963 (by decide) hc hs (fun r σ' pl' hΦ ad => by obtain ⟨_, _, _, _, rfl, _⟩ := hR2 r σ' pl' hΦ; rfl) (fun r σ2 pl2 hΦ2 _ => ?_)
  obtain ⟨v, I', A', J', rfl, rfl, rfl, e1, e2, kL⟩ := hR2 r σ2 pl2 hΦ2
  refine l_istore (ls' := (6, .int v) :: (5, .int k) :: LB b ax ay ao (nI n)) F dL_law_966 (by decide) rfl ?_
  exact l_tail F hR hc hs e1 e2 dL_law_968 dL_law_969 dL_law_972 dL_law_974 dL_law_979 dL_law_981 dL_law_984 dL_law_985 dL_law_986 dL_law_987 dL_law_989 dL_law_990 dL_law_991 dL_law_996 (by decide) kL
theorem w_next (F : FLx X cL_law RL 7) (hR : RmL X) (S : Scr X b L xs0) (hn : n + 5 < L) {mc ms : Nat} {Θ : (Nat → Int64) → Int32 → HS → List Nat → (Nat → Int64) → Prop} (C : HCon (xl X) 19 yL_next cL_next 2 [(0, 4, 7, 15)] (fun a _ => [.ref a]) σC plC mc ms Θ) (hb : 100 ∈ plC) (hc : k1 + mc ≤ (xR X).cells) (hs : k2 + ms ≤ (xR X).slots)
    (kk : ∀ k σ' pl' U', Θ U k σ' pl' U' → (∀ q, q ∈ plC → q ∈ pl') → ∃ dR ΦR, dR ≤ 100 ∧ Con (xl X) dR yX12_next cX12_next 1 none [.ref 0] (mS I A J) plM 0 0 ΦR ∧ ∀ r σR' plR', ΦR r σR' plR' → ∃ I' A' J', r = none ∧ σR' = mS I' A' J' ∧ plR' = plM ∧ I' 0 0 = k ∧ LA X ax ay ao (mS I' A' J') plM σ' pl' U' (k1 + mc) (k2 + ms) 1420 (LB b ax ay ao (nI n)) []) :
    LA X ax ay ao (mS I A J) plM σC plC U k1 k2 999 (LB b ax ay ao (nI n)) [] := by
  refine l_aload_n F 1 dL_law_999 rfl rfl ?_
  refine l_help (avs := (fun a _ => [.ref a])) (rest := []) F C hl_L_next (by have := hR.1; omega) (by have := hR.2; omega) hb rfl dL_law_1000 (by decide) hc hs (fun k σ' pl' U' hΘ hq => ?_)
  obtain ⟨dR, ΦR, hdR, CR, hR2⟩ := kk k σ' pl' U' hΘ hq
  refine l_istore (ls' := (5, .int k) :: LB b ax ay ao (nI n)) F dL_law_1003 (by decide) rfl ?_
  refine l_aload_n F 3 dL_law_1005 rfl rfl ?_
  refine l_callR (As := []) (rest := []) F CR ml_L_150 im_yX12_next se_yX12_next (by have := hR.1; omega) (by have := hR.2; omega) rfl plM_0 rfl rfl (fun _ => rfl) dL_law_1006 (by decide) hc hs (fun r σ' pl' hΦ ad => by obtain ⟨_, _, _, rfl, _⟩ := hR2 r σ' pl' hΦ; rfl) (fun r σ2 pl2 hΦ2 _ => ?_)
  obtain ⟨I', A', J', rfl, rfl, rfl, e1, kL⟩ := hR2 r σ2 pl2 hΦ2
  refine l_thr F hR (by decide) hc hs 3 rfl dL_law_1009 dL_law_1010 ?_
  refine l_iload F 0 dL_law_1013 rfl ?_
  refine l_icmp_eq (tgt := 1020) F dL_law_1015 (by decide) e1 ?_
  exact l_goto (tgt := 1420) F dL_law_1020 (by decide) (l_sub [1, 2, 3, 4, 5] rfl kL)
theorem w_match (F : FLx X cL_law RL 7) (hR : RmL X) (S : Scr X b L xs0) (hn : n + 5 < L) {mc ms : Nat} {Θ : (Nat → Int64) → Int32 → HS → List Nat → (Nat → Int64) → Prop} (C : HCon (xl X) 19 yL_match cL_match 4 [(0, 9, 12, 13)] (fun a o => [.ref a, .int (xs0 (n + 1)), .ref o]) σC plC mc ms Θ) (hb : 100 ∈ plC) (hc : k1 + mc ≤ (xR X).cells) (hs : k2 + ms ≤ (xR X).slots)
    (kk : ∀ k σ' pl' U', Θ U k σ' pl' U' → (∀ q, q ∈ plC → q ∈ pl') → ∃ dR ΦR, dR ≤ 100 ∧ Con (xl X) dR yX12_match cX12_match 2 (some .int) [.ref 0, .int (xs0 (n + 1))] (mS I A J) plM 0 0 ΦR ∧ ∀ r σR' plR', ΦR r σR' plR' → ∃ v I' A' J', r = some (.int v) ∧ σR' = mS I' A' J' ∧ plR' = plM ∧ I' 0 0 = k ∧ (k = 0 → U' 0 = v.toInt64) ∧ LA X ax ay ao (mS I' A' J') plM σ' pl' U' (k1 + mc) (k2 + ms) 1420 (LB b ax ay ao (nI n)) []) :
    LA X ax ay ao (mS I A J) plM σC plC U k1 k2 1023 (LB b ax ay ao (nI n)) [] := by
  refine l_aload_n F 1 dL_law_1023 rfl rfl ?_
  refine l_ld F S.1 S.2.1 S.2.2.1 (n := n) (j := 1) 0 4 (by omega) S.2.2.2 (by decide) dL_law_1024 dL_law_1025 dL_law_1027 dL_law_1028 dL_law_1029 rfl rfl ?_
  refine l_aload_n F 3 dL_law_1030 rfl rfl ?_
  refine l_help (avs := (fun a o => [.ref a, .int (xs0 (n + 1)), .ref o])) (rest := []) F C hl_L_match (by have := hR.1; omega) (by have := hR.2; omega) hb rfl dL_law_1031 (by decide) hc hs (fun k σ' pl' U' hΘ hq => ?_)
  obtain ⟨dR, ΦR, hdR, CR, hR2⟩ := kk k σ' pl' U' hΘ hq
  refine l_istore (ls' := (5, .int k) :: LB b ax ay ao (nI n)) F dL_law_1034 (by decide) rfl ?_
  refine l_aload_n F 3 dL_law_1036 rfl rfl ?_
  refine l_ld F S.1 S.2.1 S.2.2.1 (n := n) (j := 1) 1 5 (by omega) S.2.2.2 (by decide) dL_law_1037 dL_law_1038 dL_law_1040 dL_law_1041 dL_law_1042 rfl rfl ?_
  refine l_callR (As := [.int (xs0 (n + 1))]) (rest := []) F CR ml_L_153 im_yX12_match se_yX12_match (by have := hR.1; omega) (by have := hR.2; omega) rfl plM_0 rfl rfl (fun _ => rfl) dL_law_1043 (by decide) hc hs (fun r σ' pl' hΦ ad => by obtain ⟨_, _, _, _, rfl, _⟩ := hR2 r σ' pl' hΦ; rfl) (fun r σ2 pl2 hΦ2 _ => ?_)
  obtain ⟨v, I', A', J', rfl, rfl, rfl, e1, e2, kL⟩ := hR2 r σ2 pl2 hΦ2
  refine l_istore (ls' := (6, .int v) :: (5, .int k) :: LB b ax ay ao (nI n)) F dL_law_1046 (by decide) rfl ?_
  exact l_tail F hR hc hs e1 e2 dL_law_1048 dL_law_1049 dL_law_1052 dL_law_1054 dL_law_1059 dL_law_1061 dL_law_1064 dL_law_1065 dL_law_1066 dL_law_1067 dL_law_1069 dL_law_1070 dL_law_1071 dL_law_1076 (by decide) kL
theorem w_learn (F : FLx X cL_law RL 7) (hR : RmL X) (S : Scr X b L xs0) (hn : n + 5 < L) {mc ms : Nat} {Θ : (Nat → Int64) → Int32 → HS → List Nat → (Nat → Int64) → Prop} (C : HCon (xl X) 19 yL_learn cL_learn 3 [(0, 8, 11, 15)] (fun a o => [.ref a, .ref o]) σC plC mc ms Θ) (hb : 100 ∈ plC) (hc : k1 + mc ≤ (xR X).cells) (hs : k2 + ms ≤ (xR X).slots)
    (kk : ∀ k σ' pl' U', Θ U k σ' pl' U' → (∀ q, q ∈ plC → q ∈ pl') → ∃ dR ΦR, dR ≤ 100 ∧ Con (xl X) dR yX12_learn cX12_learn 10 (some .int) [.ref 0] (mS I A J) plM 0 0 ΦR ∧ ∀ r σR' plR', ΦR r σR' plR' → ∃ v I' A' J', r = some (.int v) ∧ σR' = mS I' A' J' ∧ plR' = plM ∧ I' 0 0 = k ∧ (k = 0 → U' 0 = v.toInt64) ∧ LA X ax ay ao (mS I' A' J') plM σ' pl' U' (k1 + mc) (k2 + ms) 1420 (LB b ax ay ao (nI n)) []) :
    LA X ax ay ao (mS I A J) plM σC plC U k1 k2 1079 (LB b ax ay ao (nI n)) [] := by
  refine l_aload_n F 1 dL_law_1079 rfl rfl ?_
  refine l_aload_n F 3 dL_law_1080 rfl rfl ?_
  refine l_help (avs := (fun a o => [.ref a, .ref o])) (rest := []) F C hl_L_learn (by have := hR.1; omega) (by have := hR.2; omega) hb rfl dL_law_1081 (by decide) hc hs (fun k σ' pl' U' hΘ hq => ?_)
  obtain ⟨dR, ΦR, hdR, CR, hR2⟩ := kk k σ' pl' U' hΘ hq
  refine l_istore (ls' := (5, .int k) :: LB b ax ay ao (nI n)) F dL_law_1084 (by decide) rfl ?_
  refine l_aload_n F 3 dL_law_1086 rfl rfl ?_
  refine l_callR (As := []) (rest := []) F CR ml_L_156 im_yX12_learn se_yX12_learn (by have := hR.1; omega) (by have := hR.2; omega) rfl plM_0 rfl rfl (fun _ => rfl) dL_law_1087 (by decide) hc hs (fun r σ' pl' hΦ ad => by obtain ⟨_, _, _, _, rfl, _⟩ := hR2 r σ' pl' hΦ; rfl) (fun r σ2 pl2 hΦ2 _ => ?_)
  obtain ⟨v, I', A', J', rfl, rfl, rfl, e1, e2, kL⟩ := hR2 r σ2 pl2 hΦ2
  refine l_istore (ls' := (6, .int v) :: (5, .int k) :: LB b ax ay ao (nI n)) F dL_law_1090 (by decide) rfl ?_
  exact l_tail F hR hc hs e1 e2 dL_law_1092 dL_law_1093 dL_law_1096 dL_law_1098 dL_law_1103 dL_law_1105 dL_law_1108 dL_law_1109 dL_law_1110 dL_law_1111 dL_law_1113 dL_law_1114 dL_law_1115 dL_law_1120 (by decide) kL
theorem w_rolls (F : FLx X cL_law RL 7) (hR : RmL X) (S : Scr X b L xs0) (hn : n + 5 < L) {mc ms : Nat} {Θ : (Nat → Int64) → Int32 → HS → List Nat → (Nat → Int64) → Prop} (C : HCon (xl X) 19 yL_rolls cL_rolls 4 [(0, 9, 12, 13), (0, 9, 15, 15)] (fun a o => [.ref a, .int (xs0 (n + 1)), .ref o]) σC plC mc ms Θ) (hb : 100 ∈ plC) (hc : k1 + mc ≤ (xR X).cells) (hs : k2 + ms ≤ (xR X).slots)
    (kk : ∀ k σ' pl' U', Θ U k σ' pl' U' → (∀ q, q ∈ plC → q ∈ pl') → ∃ dR ΦR, dR ≤ 100 ∧ Con (xl X) dR yX12_rolls cX12_rolls 4 (some .int) [.ref 0, .int (xs0 (n + 1))] (mS I A J) plM 0 0 ΦR ∧ ∀ r σR' plR', ΦR r σR' plR' → ∃ v I' A' J', r = some (.int v) ∧ σR' = mS I' A' J' ∧ plR' = plM ∧ I' 0 0 = k ∧ (k = 0 → U' 0 = v.toInt64) ∧ LA X ax ay ao (mS I' A' J') plM σ' pl' U' (k1 + mc) (k2 + ms) 1420 (LB b ax ay ao (nI n)) []) :
    LA X ax ay ao (mS I A J) plM σC plC U k1 k2 1123 (LB b ax ay ao (nI n)) [] := by
  refine l_aload_n F 1 dL_law_1123 rfl rfl ?_
  refine l_ld F S.1 S.2.1 S.2.2.1 (n := n) (j := 1) 0 4 (by omega) S.2.2.2 (by decide) dL_law_1124 dL_law_1125 dL_law_1127 dL_law_1128 dL_law_1129 rfl rfl ?_
  refine l_aload_n F 3 dL_law_1130 rfl rfl ?_
  refine l_help (avs := (fun a o => [.ref a, .int (xs0 (n + 1)), .ref o])) (rest := []) F C hl_L_rolls (by have := hR.1; omega) (by have := hR.2; omega) hb rfl dL_law_1131 (by decide) hc hs (fun k σ' pl' U' hΘ hq => ?_)
  obtain ⟨dR, ΦR, hdR, CR, hR2⟩ := kk k σ' pl' U' hΘ hq
  refine l_istore (ls' := (5, .int k) :: LB b ax ay ao (nI n)) F dL_law_1134 (by decide) rfl ?_
  refine l_aload_n F 3 dL_law_1136 rfl rfl ?_
  refine l_ld F S.1 S.2.1 S.2.2.1 (n := n) (j := 1) 1 5 (by omega) S.2.2.2 (by decide) dL_law_1137 dL_law_1138 dL_law_1140 dL_law_1141 dL_law_1142 rfl rfl ?_
  refine l_callR (As := [.int (xs0 (n + 1))]) (rest := []) F CR ml_L_159 im_yX12_rolls se_yX12_rolls (by have := hR.1; omega) (by have := hR.2; omega) rfl plM_0 rfl rfl (fun _ => rfl) dL_law_1143 (by decide) hc hs (fun r σ' pl' hΦ ad => by obtain ⟨_, _, _, _, rfl, _⟩ := hR2 r σ' pl' hΦ; rfl) (fun r σ2 pl2 hΦ2 _ => ?_)
  obtain ⟨v, I', A', J', rfl, rfl, rfl, e1, e2, kL⟩ := hR2 r σ2 pl2 hΦ2
  refine l_istore (ls' := (6, .int v) :: (5, .int k) :: LB b ax ay ao (nI n)) F dL_law_1146 (by decide) rfl ?_
  exact l_tail F hR hc hs e1 e2 dL_law_1148 dL_law_1149 dL_law_1152 dL_law_1154 dL_law_1159 dL_law_1161 dL_law_1164 dL_law_1165 dL_law_1166 dL_law_1167 dL_law_1169 dL_law_1170 dL_law_1171 dL_law_1176 (by decide) kL
theorem w_best (F : FLx X cL_law RL 7) (hR : RmL X) (S : Scr X b L xs0) (hn : n + 5 < L) {mc ms : Nat} {Θ : (Nat → Int64) → Int32 → HS → List Nat → (Nat → Int64) → Prop} (C : HCon (xl X) 19 yL_best cL_best 6 [(0, 12, 15, 13), (0, 12, 19, 15)] (fun a o => [.ref a, .int (xs0 (n + 1)), .int (xs0 (n + 2)), .int (xs0 (n + 3)), .ref o]) σC plC mc ms Θ) (hb : 100 ∈ plC) (hc : k1 + mc ≤ (xR X).cells) (hs : k2 + ms ≤ (xR X).slots)
    (kk : ∀ k σ' pl' U', Θ U k σ' pl' U' → (∀ q, q ∈ plC → q ∈ pl') → ∃ dR ΦR, dR ≤ 100 ∧ Con (xl X) dR yX12_best cX12_best 4 (some .int) [.ref 0, .int (xs0 (n + 1)), .int (xs0 (n + 2)), .int (xs0 (n + 3))] (mS I A J) plM 0 0 ΦR ∧ ∀ r σR' plR', ΦR r σR' plR' → ∃ v I' A' J', r = some (.int v) ∧ σR' = mS I' A' J' ∧ plR' = plM ∧ I' 0 0 = k ∧ (k = 0 → U' 0 = v.toInt64) ∧ LA X ax ay ao (mS I' A' J') plM σ' pl' U' (k1 + mc) (k2 + ms) 1420 (LB b ax ay ao (nI n)) []) :
    LA X ax ay ao (mS I A J) plM σC plC U k1 k2 1179 (LB b ax ay ao (nI n)) [] := by
  refine l_aload_n F 1 dL_law_1179 rfl rfl ?_
  refine l_ld F S.1 S.2.1 S.2.2.1 (n := n) (j := 1) 0 4 (by omega) S.2.2.2 (by decide) dL_law_1180 dL_law_1181 dL_law_1183 dL_law_1184 dL_law_1185 rfl rfl ?_
  refine l_ld F S.1 S.2.1 S.2.2.1 (n := n) (j := 2) 0 4 (by omega) S.2.2.2 (by decide) dL_law_1186 dL_law_1187 dL_law_1189 dL_law_1190 dL_law_1191 rfl rfl ?_
  refine l_ld F S.1 S.2.1 S.2.2.1 (n := n) (j := 3) 0 4 (by omega) S.2.2.2 (by decide) dL_law_1192 dL_law_1193 dL_law_1195 dL_law_1196 dL_law_1197 rfl rfl ?_
  refine l_aload_n F 3 dL_law_1198 rfl rfl ?_
  refine l_help (avs := (fun a o => [.ref a, .int (xs0 (n + 1)), .int (xs0 (n + 2)), .int (xs0 (n + 3)), .ref o])) (rest := []) F C hl_L_best (by have := hR.1; omega) (by have := hR.2; omega) hb rfl dL_law_1199 (by decide) hc hs (fun k σ' pl' U' hΘ hq => ?_)
  obtain ⟨dR, ΦR, hdR, CR, hR2⟩ := kk k σ' pl' U' hΘ hq
  refine l_istore (ls' := (5, .int k) :: LB b ax ay ao (nI n)) F dL_law_1202 (by decide) rfl ?_
  refine l_aload_n F 3 dL_law_1204 rfl rfl ?_
  refine l_ld F S.1 S.2.1 S.2.2.1 (n := n) (j := 1) 1 5 (by omega) S.2.2.2 (by decide) dL_law_1205 dL_law_1206 dL_law_1208 dL_law_1209 dL_law_1210 rfl rfl ?_
  refine l_ld F S.1 S.2.1 S.2.2.1 (n := n) (j := 2) 1 5 (by omega) S.2.2.2 (by decide) dL_law_1211 dL_law_1212 dL_law_1214 dL_law_1215 dL_law_1216 rfl rfl ?_
  refine l_ld F S.1 S.2.1 S.2.2.1 (n := n) (j := 3) 1 5 (by omega) S.2.2.2 (by decide) dL_law_1217 dL_law_1218 dL_law_1220 dL_law_1221 dL_law_1222 rfl rfl ?_
  refine l_callR (As := [.int (xs0 (n + 1)), .int (xs0 (n + 2)), .int (xs0 (n + 3))]) (rest := []) F CR ml_L_162 im_yX12_best se_yX12_best (by have := hR.1; omega) (by have := hR.2; omega) rfl plM_0 rfl rfl (fun _ => rfl) dL_law_1223 (by decide) hc hs (fun r σ' pl' hΦ ad => by obtain ⟨_, _, _, _, rfl, _⟩ := hR2 r σ' pl' hΦ; rfl) (fun r σ2 pl2 hΦ2 _ => ?_)
  obtain ⟨v, I', A', J', rfl, rfl, rfl, e1, e2, kL⟩ := hR2 r σ2 pl2 hΦ2
  refine l_istore (ls' := (6, .int v) :: (5, .int k) :: LB b ax ay ao (nI n)) F dL_law_1226 (by decide) rfl ?_
  exact l_tail F hR hc hs e1 e2 dL_law_1228 dL_law_1229 dL_law_1232 dL_law_1234 dL_law_1239 dL_law_1241 dL_law_1244 dL_law_1245 dL_law_1246 dL_law_1247 dL_law_1249 dL_law_1250 dL_law_1251 dL_law_1256 (by decide) kL
theorem w_within (F : FLx X cL_law RL 7) (hR : RmL X) (S : Scr X b L xs0) (hn : n + 5 < L) {mc ms : Nat} {Θ : (Nat → Int64) → Int32 → HS → List Nat → (Nat → Int64) → Prop} (C : HCon (xl X) 19 yL_within cL_within 5 [(0, 10, 13, 13), (0, 10, 17, 15)] (fun a o => [.ref a, .int (xs0 (n + 1)), .int (xs0 (n + 2)), .ref o]) σC plC mc ms Θ) (hb : 100 ∈ plC) (hc : k1 + mc ≤ (xR X).cells) (hs : k2 + ms ≤ (xR X).slots)
    (kk : ∀ k σ' pl' U', Θ U k σ' pl' U' → (∀ q, q ∈ plC → q ∈ pl') → ∃ dR ΦR, dR ≤ 100 ∧ Con (xl X) dR yX12_within cX12_within 3 (some .int) [.ref 0, .int (xs0 (n + 1)), .int (xs0 (n + 2))] (mS I A J) plM 0 0 ΦR ∧ ∀ r σR' plR', ΦR r σR' plR' → ∃ v I' A' J', r = some (.int v) ∧ σR' = mS I' A' J' ∧ plR' = plM ∧ I' 0 0 = k ∧ (k = 0 → U' 0 = v.toInt64) ∧ LA X ax ay ao (mS I' A' J') plM σ' pl' U' (k1 + mc) (k2 + ms) 1420 (LB b ax ay ao (nI n)) []) :
    LA X ax ay ao (mS I A J) plM σC plC U k1 k2 1259 (LB b ax ay ao (nI n)) [] := by
  refine l_aload_n F 1 dL_law_1259 rfl rfl ?_
  refine l_ld F S.1 S.2.1 S.2.2.1 (n := n) (j := 1) 0 4 (by omega) S.2.2.2 (by decide) dL_law_1260 dL_law_1261 dL_law_1263 dL_law_1264 dL_law_1265 rfl rfl ?_
  refine l_ld F S.1 S.2.1 S.2.2.1 (n := n) (j := 2) 0 4 (by omega) S.2.2.2 (by decide) dL_law_1266 dL_law_1267 dL_law_1269 dL_law_1270 dL_law_1271 rfl rfl ?_
  refine l_aload_n F 3 dL_law_1272 rfl rfl ?_
  refine l_help (avs := (fun a o => [.ref a, .int (xs0 (n + 1)), .int (xs0 (n + 2)), .ref o])) (rest := []) F C hl_L_within (by have := hR.1; omega) (by have := hR.2; omega) hb rfl dL_law_1273 (by decide) hc hs (fun k σ' pl' U' hΘ hq => ?_)
  obtain ⟨dR, ΦR, hdR, CR, hR2⟩ := kk k σ' pl' U' hΘ hq
  refine l_istore (ls' := (5, .int k) :: LB b ax ay ao (nI n)) F dL_law_1276 (by decide) rfl ?_
  refine l_aload_n F 3 dL_law_1278 rfl rfl ?_
  refine l_ld F S.1 S.2.1 S.2.2.1 (n := n) (j := 1) 1 5 (by omega) S.2.2.2 (by decide) dL_law_1279 dL_law_1280 dL_law_1282 dL_law_1283 dL_law_1284 rfl rfl ?_
  refine l_ld F S.1 S.2.1 S.2.2.1 (n := n) (j := 2) 1 5 (by omega) S.2.2.2 (by decide) dL_law_1285 dL_law_1286 dL_law_1288 dL_law_1289 dL_law_1290 rfl rfl ?_
  refine l_callR (As := [.int (xs0 (n + 1)), .int (xs0 (n + 2))]) (rest := []) F CR ml_L_165 im_yX12_within se_yX12_within (by have := hR.1; omega) (by have := hR.2; omega) rfl plM_0 rfl rfl (fun _ => rfl) dL_law_1291 (by decide) hc hs (fun r σ' pl' hΦ ad => by obtain ⟨_, _, _, _, rfl, _⟩ := hR2 r σ' pl' hΦ; rfl) (fun r σ2 pl2 hΦ2 _ => ?_)
  obtain ⟨v, I', A', J', rfl, rfl, rfl, e1, e2, kL⟩ := hR2 r σ2 pl2 hΦ2
  refine l_istore (ls' := (6, .int v) :: (5, .int k) :: LB b ax ay ao (nI n)) F dL_law_1294 (by decide) rfl ?_
  exact l_tail F hR hc hs e1 e2 dL_law_1296 dL_law_1297 dL_law_1300 dL_law_1302 dL_law_1307 dL_law_1309 dL_law_1312 dL_law_1313 dL_law_1314 dL_law_1315 dL_law_1317 dL_law_1318 dL_law_1319 dL_law_1324 (by decide) kL
theorem w_race (F : FLx X cL_law RL 7) (hR : RmL X) (S : Scr X b L xs0) (hn : n + 5 < L) {mc ms : Nat} {Θ : (Nat → Int64) → Int32 → HS → List Nat → (Nat → Int64) → Prop} (C : HCon (xl X) 19 yL_race cL_race 5 [(0, 10, 13, 13), (0, 10, 17, 15), (0, 10, 21, 80)] (fun a o => [.ref a, .int (xs0 (n + 1)), .int (xs0 (n + 2)), .ref o]) σC plC mc ms Θ) (hb : 100 ∈ plC) (hc : k1 + mc ≤ (xR X).cells) (hs : k2 + ms ≤ (xR X).slots)
    (kk : ∀ k σ' pl' U', Θ U k σ' pl' U' → (∀ q, q ∈ plC → q ∈ pl') → ∃ dR ΦR, dR ≤ 100 ∧ Con (xl X) dR yX12_race cX12_race 5 (some .int) [.ref 0, .int (xs0 (n + 1)), .int (xs0 (n + 2))] (mS I A J) plM 0 0 ΦR ∧ ∀ r σR' plR', ΦR r σR' plR' → ∃ v I' A' J', r = some (.int v) ∧ σR' = mS I' A' J' ∧ plR' = plM ∧ I' 0 0 = k ∧ (k = 0 → U' 0 = v.toInt64) ∧ LA X ax ay ao (mS I' A' J') plM σ' pl' U' (k1 + mc) (k2 + ms) 1420 (LB b ax ay ao (nI n)) []) :
    LA X ax ay ao (mS I A J) plM σC plC U k1 k2 1327 (LB b ax ay ao (nI n)) [] := by
  refine l_aload_n F 1 dL_law_1327 rfl rfl ?_
  refine l_ld F S.1 S.2.1 S.2.2.1 (n := n) (j := 1) 0 4 (by omega) S.2.2.2 (by decide) dL_law_1328 dL_law_1329 dL_law_1331 dL_law_1332 dL_law_1333 rfl rfl ?_
  refine l_ld F S.1 S.2.1 S.2.2.1 (n := n) (j := 2) 0 4 (by omega) S.2.2.2 (by decide) dL_law_1334 dL_law_1335 dL_law_1337 dL_law_1338 dL_law_1339 rfl rfl ?_
  refine l_aload_n F 3 dL_law_1340 rfl rfl ?_
  refine l_help (avs := (fun a o => [.ref a, .int (xs0 (n + 1)), .int (xs0 (n + 2)), .ref o])) (rest := []) F C hl_L_race (by have := hR.1; omega) (by have := hR.2; omega) hb rfl dL_law_1341 (by decide) hc hs (fun k σ' pl' U' hΘ hq => ?_)
  obtain ⟨dR, ΦR, hdR, CR, hR2⟩ := kk k σ' pl' U' hΘ hq
  refine l_istore (ls' := (5, .int k) :: LB b ax ay ao (nI n)) F dL_law_1344 (by decide) rfl ?_
  refine l_aload_n F 3 dL_law_1346 rfl rfl ?_
  refine l_ld F S.1 S.2.1 S.2.2.1 (n := n) (j := 1) 1 5 (by omega) S.2.2.2 (by decide) dL_law_1347 dL_law_1348 dL_law_1350 dL_law_1351 dL_law_1352 rfl rfl ?_
  refine l_ld F S.1 S.2.1 S.2.2.1 (n := n) (j := 2) 1 5 (by omega) S.2.2.2 (by decide) dL_law_1353 dL_law_1354 dL_law_1356 dL_law_1357 dL_law_1358 rfl rfl ?_
  refine l_callR (As := [.int (xs0 (n + 1)), .int (xs0 (n + 2))]) (rest := []) F CR ml_L_168 im_yX12_race se_yX12_race (by have := hR.1; omega) (by have := hR.2; omega) rfl plM_0 rfl rfl (fun _ => rfl) dL_law_1359 (by decide) hc hs (fun r σ' pl' hΦ ad => by obtain ⟨_, _, _, _, rfl, _⟩ := hR2 r σ' pl' hΦ; rfl) (fun r σ2 pl2 hΦ2 _ => ?_)
  obtain ⟨v, I', A', J', rfl, rfl, rfl, e1, e2, kL⟩ := hR2 r σ2 pl2 hΦ2
  refine l_istore (ls' := (6, .int v) :: (5, .int k) :: LB b ax ay ao (nI n)) F dL_law_1362 (by decide) rfl ?_
  exact l_tail F hR hc hs e1 e2 dL_law_1364 dL_law_1365 dL_law_1368 dL_law_1370 dL_law_1375 dL_law_1377 dL_law_1380 dL_law_1381 dL_law_1382 dL_law_1383 dL_law_1385 dL_law_1386 dL_law_1387 dL_law_1392 (by decide) kL
theorem w_octet (F : FLx X cL_law RL 7) (hR : RmL X) (S : Scr X b L xs0) (hn : n + 5 < L) {mc ms : Nat} {Φ : Option Value → HS → List Nat → Prop} (C : ConX (xl X) 18 yX11_octet cX11_octet 2 (some .int) [.ref 100, .int (xs0 (n + 1))] σC plC mc ms Φ (fun _ _ _ => False)) (hb : 100 ∈ plC) (hk : sK σC 100 = 11) (hc : k1 + mc ≤ (xR X).cells) (hs : k2 + ms ≤ (xR X).slots) (hr : ∀ r σ' pl', Φ r σ' pl' → ∃ v, r = some (.int v))
    (kk : ∀ v σ' pl', Φ (some (.int v)) σ' pl' → (∀ q, q ∈ plC → q ∈ pl') → ∃ dR ΦR, dR ≤ 100 ∧ Con (xl X) dR yX12_octet cX12_octet 2 (some .int) [.ref 0, .int (xs0 (n + 1))] (mS I A J) plM 0 0 ΦR ∧ ∀ r σR' plR', ΦR r σR' plR' → ∃ I' A' J', r = some (.int v) ∧ σR' = mS I' A' J' ∧ plR' = plM ∧ LA X ax ay ao (mS I' A' J') plM σ' pl' U (k1 + mc) (k2 + ms) 1420 (LB b ax ay ao (nI n)) []) :
    LA X ax ay ao (mS I A J) plM σC plC U k1 k2 1395 (LB b ax ay ao (nI n)) [] := by
  refine l_aload_n F 1 dL_law_1395 rfl rfl ?_
  refine l_ld F S.1 S.2.1 S.2.2.1 (n := n) (j := 1) 0 4 (by omega) S.2.2.2 (by decide) dL_law_1396 dL_law_1397 dL_law_1399 dL_law_1400 dL_law_1401 rfl rfl ?_
  refine l_callC (As := [.int (xs0 (n + 1))]) (rest := []) F C ml_L_169 im_yX11_octet se_yX11_octet (by have := hR.1; omega) (by have := hR.2; omega) rfl hb hk rfl (fun _ => rfl) dL_law_1402 (by decide) hc hs (fun r σ' pl' hΦ ad => by obtain ⟨v, rfl⟩ := hr r σ' pl' hΦ; rfl) (fun r σ' pl' hΦ hq => ?_)
  obtain ⟨v, rfl⟩ := hr r σ' pl' hΦ
  obtain ⟨dR, ΦR, hdR, CR, hR2⟩ := kk v σ' pl' hΦ hq
  refine l_aload_n F 2 dL_law_1405 rfl rfl ?_
  refine l_ld F S.1 S.2.1 S.2.2.1 (n := n) (j := 1) 0 4 (by omega) S.2.2.2 (by decide) dL_law_1406 dL_law_1407 dL_law_1409 dL_law_1410 dL_law_1411 rfl rfl ?_
  refine l_callR (As := [.int (xs0 (n + 1))]) (rest := [.int v]) F CR ml_L_172 im_yX12_octet se_yX12_octet (by have := hR.1; omega) (by have := hR.2; omega) rfl plM_0 rfl rfl (fun _ => rfl) dL_law_1412 (Nat.le_of_ble_eq_true rfl) hc hs (fun r σ' pl' hΦ ad => by obtain ⟨_, _, _, rfl, _⟩ := hR2 r σ' pl' hΦ; rfl) (fun r σ2 pl2 hΦ2 _ => ?_)
  obtain ⟨I', A', J', rfl, rfl, rfl, kL⟩ := hR2 r σ2 pl2 hΦ2
  exact l_icmp_eq (tgt := 1420) F dL_law_1415 (by decide) rfl kL
end