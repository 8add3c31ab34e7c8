/-! the constructor of the reference -/
abbrev mG (I : Nat → Nat → Int32) (P : Nat → Nat → Option Nat) (A : Nat → Nat → Int32) (J : Nat → Nat → Int64) : HS := (kM, nM, I, P, A, J, oM)
def clM (P : Nat → Nat → Option Nat) (pl : List Nat) : Prop := ∀ k b, rF 12 k = true → P 0 k = some b → b ∈ pl
theorem kM_0 : ∀ q, q ≠ 0 → 13 ≤ kM q ∧ kM q ≤ 15 := fun q hq => by unfold kM; split <;> omega
theorem clM.no {P : Nat → Nat → Option Nat} {pl : List Nat} {p : Nat} {I A : Nat → Nat → Int32} {J : Nat → Nat → Int64} (h : clM P pl) (hp : p ∉ pl) : noR (mG I P A J) pl p := ⟨hp, fun q hq => by
  by_cases c : q = 0
  · subst c
    exact ⟨fun k hk z => hp (h k p hk z), fun h16 => absurd (show 16 ≤ 12 from h16) (by decide)⟩
  · have hk := kM_0 q c
    refine ⟨fun k hr => ?_, fun h16 => ?_⟩
    · have : rF (kM q) k = false := by unfold rF; rw [show rfL.getD (kM q) [] = [] from by rw [List.getD_eq_getElem?_getD, List.getElem?_eq_none (by show 13 ≤ _; exact hk.1)]; rfl]; rfl
      exact absurd (this.symm.trans hr) (by decide)
    · have h16 : 16 ≤ kM q := h16
      omega⟩
theorem clM.put {P : Nat → Nat → Option Nat} {pl : List Nat} {k : Nat} (h : clM P pl) : clM (up2 P 0 k (some k)) (pl ++ [k]) := fun j b hj hb => by
  by_cases e2 : j = k
  · subst e2; rw [up2_s] at hb; cases hb; exact mR
  · rw [up2_k e2] at hb; exact mL (h j b hj hb)
theorem stA_0 {I A : Nat → Nat → Int32} {P : Nat → Nat → Option Nat} {J : Nat → Nat → Int64} {p : Nat} (h : A p = fun _ => 0) : stA (mG I P A J) p (fun _ => 0) = mG I P A J := by
  show mG I P (up1 A p (fun _ => 0)) J = _
  rw [up1_i0 h]
theorem stJ_0 {I A : Nat → Nat → Int32} {P : Nat → Nat → Option Nat} {J : Nat → Nat → Int64} {p : Nat} (h : J p = fun _ => 0) : stJ (mG I P A J) p (fun _ => 0) = mG I P A J := by
  show mG I P A (up1 J p (fun _ => 0)) = _
  rw [up1_i0 h]
theorem nI_nn {n : Nat} (h : n < 2 ^ 31) : ¬ nI n < 0 := fun z => by have := (nI_ltI (a := n) (b := 0) h (by decide)).mp z; omega
theorem a_mkI {X : Ctx} {mc ms k1 k2 pc : Nat} (F : Fx X cX12_init RX12 1 2 mc ms) (hn9 : (xmeth X).name = "<init>") {I : Nat → Nat → Int32} {P : Nat → Nat → Option Nat} {pl : List Nat} {p n idx : Nat} {v : Int32} (hk : kM p = 13) (hn : nM p = n) (hv : v = nI n) (hC : clM P pl) (hp : p ∉ pl) (h0 : 0 ∈ pl) (hb : n ≤ 2000000) (hc : k1 + 1 ≤ mc) (hs : k2 + n ≤ ms) (d2 : decode cX12_init pc = .ok (.newarray .int, 2)) (d3 : decode cX12_init (pc + 2) = .ok (.putfield idx, 3)) (fl : FL RX12 idx 12 p) (hrf : rF 12 p = true) (hfin : (TT 12 p).2.2.2 = true) (hdecl : (TT 12 p).1 = RX12) (hnar : ∀ q, narrow (tyT 12 p) (.ref q) = .ref q) (hfit : ∀ q, fits (tyT 12 p) (.ref q) = true) (kk : WA X (mG I (up2 P 0 p (some p)) zI zJ) (pl ++ [p]) (k1 + 1) (k2 + n) (pc + 5) [(0, .ref 0)] []) : WA X (mG I P zI zJ) pl k1 k2 pc [(0, .ref 0)] [.int v, .ref 0] := by
  subst hv
  have hn' : sN (mG I P zI zJ) p = n := hn
  refine a_newi (p := p) F hk (hC.no hp) ac_int (nI_nn (by omega)) (by rw [hn', nI_clamp (by omega)]) (by rw [hn']; omega) d2 hc (by rw [hn']; exact hs) (hl_r h0 hl_nil) (hs_r h0 hs_nil) ?_
  rw [stA_0 (p := p) rfl, hn']
  exact a_putF F hn9 fl hrf hfin hdecl hnar hfit (mL h0) rfl d3 kk
theorem a_mkZ {X : Ctx} {mc ms k1 k2 pc : Nat} (F : Fx X cX12_init RX12 1 2 mc ms) (hn9 : (xmeth X).name = "<init>") {I : Nat → Nat → Int32} {P : Nat → Nat → Option Nat} {pl : List Nat} {p n idx : Nat} {v : Int32} (hk : kM p = 15) (hn : nM p = n) (hv : v = nI n) (hC : clM P pl) (hp : p ∉ pl) (h0 : 0 ∈ pl) (hb : n ≤ 2000000) (hc : k1 + 1 ≤ mc) (hs : k2 + n ≤ ms) (d2 : decode cX12_init pc = .ok (.newarray .boolean, 2)) (d3 : decode cX12_init (pc + 2) = .ok (.putfield idx, 3)) (fl : FL RX12 idx 12 p) (hrf : rF 12 p = true) (hfin : (TT 12 p).2.2.2 = true) (hdecl : (TT 12 p).1 = RX12) (hnar : ∀ q, narrow (tyT 12 p) (.ref q) = .ref q) (hfit : ∀ q, fits (tyT 12 p) (.ref q) = true) (kk : WA X (mG I (up2 P 0 p (some p)) zI zJ) (pl ++ [p]) (k1 + 1) (k2 + n) (pc + 5) [(0, .ref 0)] []) : WA X (mG I P zI zJ) pl k1 k2 pc [(0, .ref 0)] [.int v, .ref 0] := by
  subst hv
  have hn' : sN (mG I P zI zJ) p = n := hn
  refine a_newz (p := p) F hk (hC.no hp) ac_boolean (nI_nn (by omega)) (by rw [hn', nI_clamp (by omega)]) (by rw [hn']; omega) d2 hc (by rw [hn']; exact hs) (hl_r h0 hl_nil) (hs_r h0 hs_nil) ?_
  rw [stA_0 (p := p) rfl, hn']
  exact a_putF F hn9 fl hrf hfin hdecl hnar hfit (mL h0) rfl d3 kk
theorem a_mkL {X : Ctx} {mc ms k1 k2 pc : Nat} (F : Fx X cX12_init RX12 1 2 mc ms) (hn9 : (xmeth X).name = "<init>") {I : Nat → Nat → Int32} {P : Nat → Nat → Option Nat} {pl : List Nat} {p n idx : Nat} {v : Int32} (hk : kM p = 14) (hn : nM p = n) (hv : v = nI n) (hC : clM P pl) (hp : p ∉ pl) (h0 : 0 ∈ pl) (hb : n ≤ 2000000) (hc : k1 + 1 ≤ mc) (hs : k2 + n ≤ ms) (d2 : decode cX12_init pc = .ok (.newarray .long, 2)) (d3 : decode cX12_init (pc + 2) = .ok (.putfield idx, 3)) (fl : FL RX12 idx 12 p) (hrf : rF 12 p = true) (hfin : (TT 12 p).2.2.2 = true) (hdecl : (TT 12 p).1 = RX12) (hnar : ∀ q, narrow (tyT 12 p) (.ref q) = .ref q) (hfit : ∀ q, fits (tyT 12 p) (.ref q) = true) (kk : WA X (mG I (up2 P 0 p (some p)) zI zJ) (pl ++ [p]) (k1 + 1) (k2 + n) (pc + 5) [(0, .ref 0)] []) : WA X (mG I P zI zJ) pl k1 k2 pc [(0, .ref 0)] [.int v, .ref 0] := by
  subst hv
  have hn' : sN (mG I P zI zJ) p = n := hn
  refine a_newl (p := p) F hk (hC.no hp) ac_long (nI_nn (by omega)) (by rw [hn', nI_clamp (by omega)]) (by rw [hn']; omega) d2 hc (by rw [hn']; exact hs) (hl_r h0 hl_nil) (hs_r h0 hs_nil) ?_
  rw [stJ_0 (p := p) rfl, hn']
  exact a_putF F hn9 fl hrf hfin hdecl hnar hfit (mL h0) rfl d3 kk
theorem nM_1 : nM 1 = 52 := by decide
theorem nM_3 : nM 3 = 468 := by decide
theorem nM_4 : nM 4 = 8 := by decide
theorem nM_5 : nM 5 = 9 := by decide
theorem nM_6 : nM 6 = 9 := by decide
theorem nM_7 : nM 7 = 9 := by decide
theorem nM_13 : nM 13 = 166400 := by decide
theorem nM_14 : nM 14 = 12800 := by decide
theorem nM_15 : nM 15 = 3200 := by decide
theorem nM_18 : nM 18 = 424 := by decide
theorem nM_30 : nM 30 = 2 := by decide
theorem nM_34 : nM 34 = 400 := by decide
theorem nM_43 : nM 43 = 52 := by decide
theorem nM_44 : nM 44 = 16 := by decide
theorem nM_45 : nM 45 = 16 := by decide
theorem nM_46 : nM 46 = 16 := by decide
theorem nM_48 : nM 48 = 16 := by decide
theorem nM_49 : nM 49 = 434112 := by decide
theorem nM_50 : nM 50 = 1139544 := by decide
theorem nM_51 : nM 51 = 54264 := by decide
theorem nM_52 : nM 52 = 119 := by decide
theorem nM_53 : nM 53 = 8 := by decide
theorem nM_54 : nM 54 = 8 := by decide
theorem nM_57 : nM 57 = 1000 := by decide
theorem nM_59 : nM 59 = 400 := by decide
theorem nM_60 : nM 60 = 400 := by decide
theorem nM_62 : nM 62 = 12 := by decide
theorem nM_63 : nM 63 = 12 := by decide
theorem nM_64 : nM 64 = 12 := by decide
theorem nM_65 : nM 65 = 54264 := by decide
theorem nM_66 : nM 66 = 54264 := by decide
theorem nM_67 : nM 67 = 13 := by decide
theorem nM_68 : nM 68 = 13 := by decide
theorem nM_69 : nM 69 = 54264 := by decide
theorem nM_70 : nM 70 = 54264 := by decide
theorem nM_71 : nM 71 = 12 := by decide
theorem nM_72 : nM 72 = 12 := by decide
theorem nM_73 : nM 73 = 12 := by decide
set_option maxHeartbeats 4000000 in
theorem mk_0 {X : Ctx} (F : Fx X cX12_init RX12 1 2 38 2030906) (hn9 : (xmeth X).name = "<init>") {P : Nat → Nat → Option Nat} (hC : clM P [0]) (kk : clM (up2 (up2 (up2 (up2 (up2 (up2 P 0 1 (some 1)) 0 3 (some 3)) 0 4 (some 4)) 0 5 (some 5)) 0 6 (some 6)) 0 7 (some 7)) (((((([0] ++ [1]) ++ [3]) ++ [4]) ++ [5]) ++ [6]) ++ [7]) → WA X (mG zI (up2 (up2 (up2 (up2 (up2 (up2 P 0 1 (some 1)) 0 3 (some 3)) 0 4 (some 4)) 0 5 (some 5)) 0 6 (some 6)) 0 7 (some 7)) zI zJ) (((((([0] ++ [1]) ++ [3]) ++ [4]) ++ [5]) ++ [6]) ++ [7]) 6 555 53 [(0, .ref 0)] []) : WA X (mG zI P zI zJ) [0] 0 0 4 [(0, .ref 0)] [] := by
  refine a_aload_n F 0 dX12_init_4 rfl rfl ?_
  refine a_bipush (v := 52) F dX12_init_5 (by decide) ?_
  refine a_mkI F hn9 (p := 1) (n := 52) rfl nM_1 rfl hC (by decide) (by decide) (by decide) (by decide) (by decide) dX12_init_7 dX12_init_9 fl_12_13 rfl rfl rfl (fun _ => rfl) (fun _ => rfl) ?_
  have hC1 := hC.put (k := 1)
  refine a_aload_n F 0 dX12_init_12 rfl rfl ?_
  refine a_sipush (v := 468) F dX12_init_13 (by decide) ?_
  refine a_mkI F hn9 (p := 3) (n := 468) rfl nM_3 rfl hC1 (by decide) (by decide) (by decide) (by decide) (by decide) dX12_init_16 dX12_init_18 fl_12_17 rfl rfl rfl (fun _ => rfl) (fun _ => rfl) ?_
  have hC2 := hC1.put (k := 3)
  refine a_aload_n F 0 dX12_init_21 rfl rfl ?_
  refine a_bipush (v := 8) F dX12_init_22 (by decide) ?_
  refine a_mkI F hn9 (p := 4) (n := 8) rfl nM_4 rfl hC2 (by decide) (by decide) (by decide) (by decide) (by decide) dX12_init_24 dX12_init_26 fl_12_20 rfl rfl rfl (fun _ => rfl) (fun _ => rfl) ?_
  have hC3 := hC2.put (k := 4)
  refine a_aload_n F 0 dX12_init_29 rfl rfl ?_
  refine a_bipush (v := 9) F dX12_init_30 (by decide) ?_
  refine a_mkI F hn9 (p := 5) (n := 9) rfl nM_5 rfl hC3 (by decide) (by decide) (by decide) (by decide) (by decide) dX12_init_32 dX12_init_34 fl_12_23 rfl rfl rfl (fun _ => rfl) (fun _ => rfl) ?_
  have hC4 := hC3.put (k := 5)
  refine a_aload_n F 0 dX12_init_37 rfl rfl ?_
  refine a_bipush (v := 9) F dX12_init_38 (by decide) ?_
  refine a_mkI F hn9 (p := 6) (n := 9) rfl nM_6 rfl hC4 (by decide) (by decide) (by decide) (by decide) (by decide) dX12_init_40 dX12_init_42 fl_12_26 rfl rfl rfl (fun _ => rfl) (fun _ => rfl) ?_
  have hC5 := hC4.put (k := 6)
  refine a_aload_n F 0 dX12_init_45 rfl rfl ?_
  refine a_bipush (v := 9) F dX12_init_46 (by decide) ?_
  refine a_mkI F hn9 (p := 7) (n := 9) rfl nM_7 rfl hC5 (by decide) (by decide) (by decide) (by decide) (by decide) dX12_init_48 dX12_init_50 fl_12_29 rfl rfl rfl (fun _ => rfl) (fun _ => rfl) ?_
  have hC6 := hC5.put (k := 7)
  exact kk hC6

set_option maxHeartbeats 4000000 in
theorem mk_1 {X : Ctx} (F : Fx X cX12_init RX12 1 2 38 2030906) (hn9 : (xmeth X).name = "<init>") {P : Nat → Nat → Option Nat} (hC : clM P (((((([0] ++ [1]) ++ [3]) ++ [4]) ++ [5]) ++ [6]) ++ [7])) (kk : clM (up2 (up2 (up2 (up2 (up2 (up2 P 0 13 (some 13)) 0 14 (some 14)) 0 15 (some 15)) 0 18 (some 18)) 0 30 (some 30)) 0 34 (some 34)) (((((((((((([0] ++ [1]) ++ [3]) ++ [4]) ++ [5]) ++ [6]) ++ [7]) ++ [13]) ++ [14]) ++ [15]) ++ [18]) ++ [30]) ++ [34]) → WA X (mG (up2 (up2 (up2 zI 0 22 (1)) 0 23 (-1)) 0 27 (-1)) (up2 (up2 (up2 (up2 (up2 (up2 P 0 13 (some 13)) 0 14 (some 14)) 0 15 (some 15)) 0 18 (some 18)) 0 30 (some 30)) 0 34 (some 34)) zI zJ) (((((((((((([0] ++ [1]) ++ [3]) ++ [4]) ++ [5]) ++ [6]) ++ [7]) ++ [13]) ++ [14]) ++ [15]) ++ [18]) ++ [30]) ++ [34]) 12 183781 119 [(0, .ref 0)] []) : WA X (mG zI P zI zJ) (((((([0] ++ [1]) ++ [3]) ++ [4]) ++ [5]) ++ [6]) ++ [7]) 6 555 53 [(0, .ref 0)] [] := by
  refine a_aload_n F 0 dX12_init_53 rfl rfl ?_
  refine a_ldc F kc_12_32 dX12_init_54 ?_
  refine a_mkI F hn9 (p := 13) (n := 166400) rfl nM_13 rfl hC (by decide) (by decide) (by decide) (by decide) (by decide) dX12_init_56 dX12_init_58 fl_12_33 rfl rfl rfl (fun _ => rfl) (fun _ => rfl) ?_
  have hC1 := hC.put (k := 13)
  refine a_aload_n F 0 dX12_init_61 rfl rfl ?_
  refine a_sipush (v := 12800) F dX12_init_62 (by decide) ?_
  refine a_mkI F hn9 (p := 14) (n := 12800) rfl nM_14 rfl hC1 (by decide) (by decide) (by decide) (by decide) (by decide) dX12_init_65 dX12_init_67 fl_12_36 rfl rfl rfl (fun _ => rfl) (fun _ => rfl) ?_
  have hC2 := hC1.put (k := 14)
  refine a_aload_n F 0 dX12_init_70 rfl rfl ?_
  refine a_sipush (v := 3200) F dX12_init_71 (by decide) ?_
  refine a_mkI F hn9 (p := 15) (n := 3200) rfl nM_15 rfl hC2 (by decide) (by decide) (by decide) (by decide) (by decide) dX12_init_74 dX12_init_76 fl_12_39 rfl rfl rfl (fun _ => rfl) (fun _ => rfl) ?_
  have hC3 := hC2.put (k := 15)
  refine a_aload_n F 0 dX12_init_79 rfl rfl ?_
  refine a_sipush (v := 424) F dX12_init_80 (by decide) ?_
  refine a_mkI F hn9 (p := 18) (n := 424) rfl nM_18 rfl hC3 (by decide) (by decide) (by decide) (by decide) (by decide) dX12_init_83 dX12_init_85 fl_12_42 rfl rfl rfl (fun _ => rfl) (fun _ => rfl) ?_
  have hC4 := hC3.put (k := 18)
  refine a_aload_n F 0 dX12_init_88 rfl rfl ?_
  refine a_iconst (v := 1) F dX12_init_89 (by decide) ?_
  refine a_puti F fl_12_45 rfl rfl rfl rfl (by decide) rfl dX12_init_90 ?_
  refine a_aload_n F 0 dX12_init_93 rfl rfl ?_
  refine a_iconst (v := -1) F dX12_init_94 (by decide) ?_
  refine a_puti F fl_12_48 rfl rfl rfl rfl (by decide) rfl dX12_init_95 ?_
  refine a_aload_n F 0 dX12_init_98 rfl rfl ?_
  refine a_iconst (v := -1) F dX12_init_99 (by decide) ?_
  refine a_puti F fl_12_51 rfl rfl rfl rfl (by decide) rfl dX12_init_100 ?_
  refine a_aload_n F 0 dX12_init_103 rfl rfl ?_
  refine a_iconst (v := 2) F dX12_init_104 (by decide) ?_
  refine a_mkI F hn9 (p := 30) (n := 2) rfl nM_30 rfl hC4 (by decide) (by decide) (by decide) (by decide) (by decide) dX12_init_105 dX12_init_107 fl_12_54 rfl rfl rfl (fun _ => rfl) (fun _ => rfl) ?_
  have hC5 := hC4.put (k := 30)
  refine a_aload_n F 0 dX12_init_110 rfl rfl ?_
  refine a_sipush (v := 400) F dX12_init_111 (by decide) ?_
  refine a_mkI F hn9 (p := 34) (n := 400) rfl nM_34 rfl hC5 (by decide) (by decide) (by decide) (by decide) (by decide) dX12_init_114 dX12_init_116 fl_12_57 rfl rfl rfl (fun _ => rfl) (fun _ => rfl) ?_
  have hC6 := hC5.put (k := 34)
  exact kk hC6

set_option maxHeartbeats 4000000 in
theorem mk_2 {X : Ctx} (F : Fx X cX12_init RX12 1 2 38 2030906) (hn9 : (xmeth X).name = "<init>") {P : Nat → Nat → Option Nat} (hC : clM P (((((((((((([0] ++ [1]) ++ [3]) ++ [4]) ++ [5]) ++ [6]) ++ [7]) ++ [13]) ++ [14]) ++ [15]) ++ [18]) ++ [30]) ++ [34])) (kk : clM (up2 (up2 (up2 (up2 (up2 (up2 P 0 43 (some 43)) 0 44 (some 44)) 0 45 (some 45)) 0 46 (some 46)) 0 48 (some 48)) 0 49 (some 49)) (((((((((((((((((([0] ++ [1]) ++ [3]) ++ [4]) ++ [5]) ++ [6]) ++ [7]) ++ [13]) ++ [14]) ++ [15]) ++ [18]) ++ [30]) ++ [34]) ++ [43]) ++ [44]) ++ [45]) ++ [46]) ++ [48]) ++ [49]) → WA X (mG (up2 (up2 (up2 (up2 zI 0 22 (1)) 0 23 (-1)) 0 27 (-1)) 0 42 (-1)) (up2 (up2 (up2 (up2 (up2 (up2 P 0 43 (some 43)) 0 44 (some 44)) 0 45 (some 45)) 0 46 (some 46)) 0 48 (some 48)) 0 49 (some 49)) zI zJ) (((((((((((((((((([0] ++ [1]) ++ [3]) ++ [4]) ++ [5]) ++ [6]) ++ [7]) ++ [13]) ++ [14]) ++ [15]) ++ [18]) ++ [30]) ++ [34]) ++ [43]) ++ [44]) ++ [45]) ++ [46]) ++ [48]) ++ [49]) 18 618009 172 [(0, .ref 0)] []) : WA X (mG (up2 (up2 (up2 zI 0 22 (1)) 0 23 (-1)) 0 27 (-1)) P zI zJ) (((((((((((([0] ++ [1]) ++ [3]) ++ [4]) ++ [5]) ++ [6]) ++ [7]) ++ [13]) ++ [14]) ++ [15]) ++ [18]) ++ [30]) ++ [34]) 12 183781 119 [(0, .ref 0)] [] := by
  refine a_aload_n F 0 dX12_init_119 rfl rfl ?_
  refine a_iconst (v := -1) F dX12_init_120 (by decide) ?_
  refine a_puti F fl_12_60 rfl rfl rfl rfl (by decide) rfl dX12_init_121 ?_
  refine a_aload_n F 0 dX12_init_124 rfl rfl ?_
  refine a_bipush (v := 52) F dX12_init_125 (by decide) ?_
  refine a_mkI F hn9 (p := 43) (n := 52) rfl nM_43 rfl hC (by decide) (by decide) (by decide) (by decide) (by decide) dX12_init_127 dX12_init_129 fl_12_63 rfl rfl rfl (fun _ => rfl) (fun _ => rfl) ?_
  have hC1 := hC.put (k := 43)
  refine a_aload_n F 0 dX12_init_132 rfl rfl ?_
  refine a_bipush (v := 16) F dX12_init_133 (by decide) ?_
  refine a_mkI F hn9 (p := 44) (n := 16) rfl nM_44 rfl hC1 (by decide) (by decide) (by decide) (by decide) (by decide) dX12_init_135 dX12_init_137 fl_12_66 rfl rfl rfl (fun _ => rfl) (fun _ => rfl) ?_
  have hC2 := hC1.put (k := 44)
  refine a_aload_n F 0 dX12_init_140 rfl rfl ?_
  refine a_bipush (v := 16) F dX12_init_141 (by decide) ?_
  refine a_mkI F hn9 (p := 45) (n := 16) rfl nM_45 rfl hC2 (by decide) (by decide) (by decide) (by decide) (by decide) dX12_init_143 dX12_init_145 fl_12_69 rfl rfl rfl (fun _ => rfl) (fun _ => rfl) ?_
  have hC3 := hC2.put (k := 45)
  refine a_aload_n F 0 dX12_init_148 rfl rfl ?_
  refine a_bipush (v := 16) F dX12_init_149 (by decide) ?_
  refine a_mkZ F hn9 (p := 46) (n := 16) rfl nM_46 rfl hC3 (by decide) (by decide) (by decide) (by decide) (by decide) dX12_init_151 dX12_init_153 fl_12_72 rfl rfl rfl (fun _ => rfl) (fun _ => rfl) ?_
  have hC4 := hC3.put (k := 46)
  refine a_aload_n F 0 dX12_init_156 rfl rfl ?_
  refine a_bipush (v := 16) F dX12_init_157 (by decide) ?_
  refine a_mkZ F hn9 (p := 48) (n := 16) rfl nM_48 rfl hC4 (by decide) (by decide) (by decide) (by decide) (by decide) dX12_init_159 dX12_init_161 fl_12_76 rfl rfl rfl (fun _ => rfl) (fun _ => rfl) ?_
  have hC5 := hC4.put (k := 48)
  refine a_aload_n F 0 dX12_init_164 rfl rfl ?_
  refine a_ldc F kc_12_79 dX12_init_165 ?_
  refine a_mkI F hn9 (p := 49) (n := 434112) rfl nM_49 rfl hC5 (by decide) (by decide) (by decide) (by decide) (by decide) dX12_init_167 dX12_init_169 fl_12_80 rfl rfl rfl (fun _ => rfl) (fun _ => rfl) ?_
  have hC6 := hC5.put (k := 49)
  exact kk hC6

set_option maxHeartbeats 4000000 in
theorem mk_3 {X : Ctx} (F : Fx X cX12_init RX12 1 2 38 2030906) (hn9 : (xmeth X).name = "<init>") {P : Nat → Nat → Option Nat} (hC : clM P (((((((((((((((((([0] ++ [1]) ++ [3]) ++ [4]) ++ [5]) ++ [6]) ++ [7]) ++ [13]) ++ [14]) ++ [15]) ++ [18]) ++ [30]) ++ [34]) ++ [43]) ++ [44]) ++ [45]) ++ [46]) ++ [48]) ++ [49])) (kk : clM (up2 (up2 (up2 (up2 (up2 (up2 P 0 50 (some 50)) 0 51 (some 51)) 0 52 (some 52)) 0 53 (some 53)) 0 54 (some 54)) 0 57 (some 57)) (((((((((((((((((((((((([0] ++ [1]) ++ [3]) ++ [4]) ++ [5]) ++ [6]) ++ [7]) ++ [13]) ++ [14]) ++ [15]) ++ [18]) ++ [30]) ++ [34]) ++ [43]) ++ [44]) ++ [45]) ++ [46]) ++ [48]) ++ [49]) ++ [50]) ++ [51]) ++ [52]) ++ [53]) ++ [54]) ++ [57]) → WA X (mG (up2 (up2 (up2 (up2 zI 0 22 (1)) 0 23 (-1)) 0 27 (-1)) 0 42 (-1)) (up2 (up2 (up2 (up2 (up2 (up2 P 0 50 (some 50)) 0 51 (some 51)) 0 52 (some 52)) 0 53 (some 53)) 0 54 (some 54)) 0 57 (some 57)) zI zJ) (((((((((((((((((((((((([0] ++ [1]) ++ [3]) ++ [4]) ++ [5]) ++ [6]) ++ [7]) ++ [13]) ++ [14]) ++ [15]) ++ [18]) ++ [30]) ++ [34]) ++ [43]) ++ [44]) ++ [45]) ++ [46]) ++ [48]) ++ [49]) ++ [50]) ++ [51]) ++ [52]) ++ [53]) ++ [54]) ++ [57]) 24 1812952 221 [(0, .ref 0)] []) : WA X (mG (up2 (up2 (up2 (up2 zI 0 22 (1)) 0 23 (-1)) 0 27 (-1)) 0 42 (-1)) P zI zJ) (((((((((((((((((([0] ++ [1]) ++ [3]) ++ [4]) ++ [5]) ++ [6]) ++ [7]) ++ [13]) ++ [14]) ++ [15]) ++ [18]) ++ [30]) ++ [34]) ++ [43]) ++ [44]) ++ [45]) ++ [46]) ++ [48]) ++ [49]) 18 618009 172 [(0, .ref 0)] [] := by
  refine a_aload_n F 0 dX12_init_172 rfl rfl ?_
  refine a_ldc F kc_12_83 dX12_init_173 ?_
  refine a_mkI F hn9 (p := 50) (n := 1139544) rfl nM_50 rfl hC (by decide) (by decide) (by decide) (by decide) (by decide) dX12_init_175 dX12_init_177 fl_12_84 rfl rfl rfl (fun _ => rfl) (fun _ => rfl) ?_
  have hC1 := hC.put (k := 50)
  refine a_aload_n F 0 dX12_init_180 rfl rfl ?_
  refine a_ldc F kc_12_87 dX12_init_181 ?_
  refine a_mkI F hn9 (p := 51) (n := 54264) rfl nM_51 rfl hC1 (by decide) (by decide) (by decide) (by decide) (by decide) dX12_init_183 dX12_init_185 fl_12_88 rfl rfl rfl (fun _ => rfl) (fun _ => rfl) ?_
  have hC2 := hC1.put (k := 51)
  refine a_aload_n F 0 dX12_init_188 rfl rfl ?_
  refine a_bipush (v := 119) F dX12_init_189 (by decide) ?_
  refine a_mkI F hn9 (p := 52) (n := 119) rfl nM_52 rfl hC2 (by decide) (by decide) (by decide) (by decide) (by decide) dX12_init_191 dX12_init_193 fl_12_91 rfl rfl rfl (fun _ => rfl) (fun _ => rfl) ?_
  have hC3 := hC2.put (k := 52)
  refine a_aload_n F 0 dX12_init_196 rfl rfl ?_
  refine a_bipush (v := 8) F dX12_init_197 (by decide) ?_
  refine a_mkI F hn9 (p := 53) (n := 8) rfl nM_53 rfl hC3 (by decide) (by decide) (by decide) (by decide) (by decide) dX12_init_199 dX12_init_201 fl_12_94 rfl rfl rfl (fun _ => rfl) (fun _ => rfl) ?_
  have hC4 := hC3.put (k := 53)
  refine a_aload_n F 0 dX12_init_204 rfl rfl ?_
  refine a_bipush (v := 8) F dX12_init_205 (by decide) ?_
  refine a_mkI F hn9 (p := 54) (n := 8) rfl nM_54 rfl hC4 (by decide) (by decide) (by decide) (by decide) (by decide) dX12_init_207 dX12_init_209 fl_12_97 rfl rfl rfl (fun _ => rfl) (fun _ => rfl) ?_
  have hC5 := hC4.put (k := 54)
  refine a_aload_n F 0 dX12_init_212 rfl rfl ?_
  refine a_sipush (v := 1000) F dX12_init_213 (by decide) ?_
  refine a_mkI F hn9 (p := 57) (n := 1000) rfl nM_57 rfl hC5 (by decide) (by decide) (by decide) (by decide) (by decide) dX12_init_216 dX12_init_218 fl_12_100 rfl rfl rfl (fun _ => rfl) (fun _ => rfl) ?_
  have hC6 := hC5.put (k := 57)
  exact kk hC6

set_option maxHeartbeats 4000000 in
theorem mk_4 {X : Ctx} (F : Fx X cX12_init RX12 1 2 38 2030906) (hn9 : (xmeth X).name = "<init>") {P : Nat → Nat → Option Nat} (hC : clM P (((((((((((((((((((((((([0] ++ [1]) ++ [3]) ++ [4]) ++ [5]) ++ [6]) ++ [7]) ++ [13]) ++ [14]) ++ [15]) ++ [18]) ++ [30]) ++ [34]) ++ [43]) ++ [44]) ++ [45]) ++ [46]) ++ [48]) ++ [49]) ++ [50]) ++ [51]) ++ [52]) ++ [53]) ++ [54]) ++ [57])) (kk : clM (up2 (up2 (up2 (up2 (up2 (up2 P 0 59 (some 59)) 0 60 (some 60)) 0 62 (some 62)) 0 63 (some 63)) 0 64 (some 64)) 0 65 (some 65)) (((((((((((((((((((((((((((((([0] ++ [1]) ++ [3]) ++ [4]) ++ [5]) ++ [6]) ++ [7]) ++ [13]) ++ [14]) ++ [15]) ++ [18]) ++ [30]) ++ [34]) ++ [43]) ++ [44]) ++ [45]) ++ [46]) ++ [48]) ++ [49]) ++ [50]) ++ [51]) ++ [52]) ++ [53]) ++ [54]) ++ [57]) ++ [59]) ++ [60]) ++ [62]) ++ [63]) ++ [64]) ++ [65]) → WA X (mG (up2 (up2 (up2 (up2 zI 0 22 (1)) 0 23 (-1)) 0 27 (-1)) 0 42 (-1)) (up2 (up2 (up2 (up2 (up2 (up2 P 0 59 (some 59)) 0 60 (some 60)) 0 62 (some 62)) 0 63 (some 63)) 0 64 (some 64)) 0 65 (some 65)) zI zJ) (((((((((((((((((((((((((((((([0] ++ [1]) ++ [3]) ++ [4]) ++ [5]) ++ [6]) ++ [7]) ++ [13]) ++ [14]) ++ [15]) ++ [18]) ++ [30]) ++ [34]) ++ [43]) ++ [44]) ++ [45]) ++ [46]) ++ [48]) ++ [49]) ++ [50]) ++ [51]) ++ [52]) ++ [53]) ++ [54]) ++ [57]) ++ [59]) ++ [60]) ++ [62]) ++ [63]) ++ [64]) ++ [65]) 30 1868052 271 [(0, .ref 0)] []) : WA X (mG (up2 (up2 (up2 (up2 zI 0 22 (1)) 0 23 (-1)) 0 27 (-1)) 0 42 (-1)) P zI zJ) (((((((((((((((((((((((([0] ++ [1]) ++ [3]) ++ [4]) ++ [5]) ++ [6]) ++ [7]) ++ [13]) ++ [14]) ++ [15]) ++ [18]) ++ [30]) ++ [34]) ++ [43]) ++ [44]) ++ [45]) ++ [46]) ++ [48]) ++ [49]) ++ [50]) ++ [51]) ++ [52]) ++ [53]) ++ [54]) ++ [57]) 24 1812952 221 [(0, .ref 0)] [] := by
  refine a_aload_n F 0 dX12_init_221 rfl rfl ?_
  refine a_sipush (v := 400) F dX12_init_222 (by decide) ?_
  refine a_mkI F hn9 (p := 59) (n := 400) rfl nM_59 rfl hC (by decide) (by decide) (by decide) (by decide) (by decide) dX12_init_225 dX12_init_227 fl_12_103 rfl rfl rfl (fun _ => rfl) (fun _ => rfl) ?_
  have hC1 := hC.put (k := 59)
  refine a_aload_n F 0 dX12_init_230 rfl rfl ?_
  refine a_sipush (v := 400) F dX12_init_231 (by decide) ?_
  refine a_mkI F hn9 (p := 60) (n := 400) rfl nM_60 rfl hC1 (by decide) (by decide) (by decide) (by decide) (by decide) dX12_init_234 dX12_init_236 fl_12_106 rfl rfl rfl (fun _ => rfl) (fun _ => rfl) ?_
  have hC2 := hC1.put (k := 60)
  refine a_aload_n F 0 dX12_init_239 rfl rfl ?_
  refine a_bipush (v := 12) F dX12_init_240 (by decide) ?_
  refine a_mkI F hn9 (p := 62) (n := 12) rfl nM_62 rfl hC2 (by decide) (by decide) (by decide) (by decide) (by decide) dX12_init_242 dX12_init_244 fl_12_109 rfl rfl rfl (fun _ => rfl) (fun _ => rfl) ?_
  have hC3 := hC2.put (k := 62)
  refine a_aload_n F 0 dX12_init_247 rfl rfl ?_
  refine a_bipush (v := 12) F dX12_init_248 (by decide) ?_
  refine a_mkI F hn9 (p := 63) (n := 12) rfl nM_63 rfl hC3 (by decide) (by decide) (by decide) (by decide) (by decide) dX12_init_250 dX12_init_252 fl_12_112 rfl rfl rfl (fun _ => rfl) (fun _ => rfl) ?_
  have hC4 := hC3.put (k := 63)
  refine a_aload_n F 0 dX12_init_255 rfl rfl ?_
  refine a_bipush (v := 12) F dX12_init_256 (by decide) ?_
  refine a_mkI F hn9 (p := 64) (n := 12) rfl nM_64 rfl hC4 (by decide) (by decide) (by decide) (by decide) (by decide) dX12_init_258 dX12_init_260 fl_12_115 rfl rfl rfl (fun _ => rfl) (fun _ => rfl) ?_
  have hC5 := hC4.put (k := 64)
  refine a_aload_n F 0 dX12_init_263 rfl rfl ?_
  refine a_ldc F kc_12_87 dX12_init_264 ?_
  refine a_mkL F hn9 (p := 65) (n := 54264) rfl nM_65 rfl hC5 (by decide) (by decide) (by decide) (by decide) (by decide) dX12_init_266 dX12_init_268 fl_12_118 rfl rfl rfl (fun _ => rfl) (fun _ => rfl) ?_
  have hC6 := hC5.put (k := 65)
  exact kk hC6

set_option maxHeartbeats 4000000 in
theorem mk_5 {X : Ctx} (F : Fx X cX12_init RX12 1 2 38 2030906) (hn9 : (xmeth X).name = "<init>") {P : Nat → Nat → Option Nat} (hC : clM P (((((((((((((((((((((((((((((([0] ++ [1]) ++ [3]) ++ [4]) ++ [5]) ++ [6]) ++ [7]) ++ [13]) ++ [14]) ++ [15]) ++ [18]) ++ [30]) ++ [34]) ++ [43]) ++ [44]) ++ [45]) ++ [46]) ++ [48]) ++ [49]) ++ [50]) ++ [51]) ++ [52]) ++ [53]) ++ [54]) ++ [57]) ++ [59]) ++ [60]) ++ [62]) ++ [63]) ++ [64]) ++ [65])) (kk : clM (up2 (up2 (up2 (up2 (up2 (up2 P 0 66 (some 66)) 0 67 (some 67)) 0 68 (some 68)) 0 69 (some 69)) 0 70 (some 70)) 0 71 (some 71)) (((((((((((((((((((((((((((((((((((([0] ++ [1]) ++ [3]) ++ [4]) ++ [5]) ++ [6]) ++ [7]) ++ [13]) ++ [14]) ++ [15]) ++ [18]) ++ [30]) ++ [34]) ++ [43]) ++ [44]) ++ [45]) ++ [46]) ++ [48]) ++ [49]) ++ [50]) ++ [51]) ++ [52]) ++ [53]) ++ [54]) ++ [57]) ++ [59]) ++ [60]) ++ [62]) ++ [63]) ++ [64]) ++ [65]) ++ [66]) ++ [67]) ++ [68]) ++ [69]) ++ [70]) ++ [71]) → WA X (mG (up2 (up2 (up2 (up2 zI 0 22 (1)) 0 23 (-1)) 0 27 (-1)) 0 42 (-1)) (up2 (up2 (up2 (up2 (up2 (up2 P 0 66 (some 66)) 0 67 (some 67)) 0 68 (some 68)) 0 69 (some 69)) 0 70 (some 70)) 0 71 (some 71)) zI zJ) (((((((((((((((((((((((((((((((((((([0] ++ [1]) ++ [3]) ++ [4]) ++ [5]) ++ [6]) ++ [7]) ++ [13]) ++ [14]) ++ [15]) ++ [18]) ++ [30]) ++ [34]) ++ [43]) ++ [44]) ++ [45]) ++ [46]) ++ [48]) ++ [49]) ++ [50]) ++ [51]) ++ [52]) ++ [53]) ++ [54]) ++ [57]) ++ [59]) ++ [60]) ++ [62]) ++ [63]) ++ [64]) ++ [65]) ++ [66]) ++ [67]) ++ [68]) ++ [69]) ++ [70]) ++ [71]) 36 2030882 319 [(0, .ref 0)] []) : WA X (mG (up2 (up2 (up2 (up2 zI 0 22 (1)) 0 23 (-1)) 0 27 (-1)) 0 42 (-1)) P zI zJ) (((((((((((((((((((((((((((((([0] ++ [1]) ++ [3]) ++ [4]) ++ [5]) ++ [6]) ++ [7]) ++ [13]) ++ [14]) ++ [15]) ++ [18]) ++ [30]) ++ [34]) ++ [43]) ++ [44]) ++ [45]) ++ [46]) ++ [48]) ++ [49]) ++ [50]) ++ [51]) ++ [52]) ++ [53]) ++ [54]) ++ [57]) ++ [59]) ++ [60]) ++ [62]) ++ [63]) ++ [64]) ++ [65]) 30 1868052 271 [(0, .ref 0)] [] := by
  refine a_aload_n F 0 dX12_init_271 rfl rfl ?_
  refine a_ldc F kc_12_87 dX12_init_272 ?_
  refine a_mkL F hn9 (p := 66) (n := 54264) rfl nM_66 rfl hC (by decide) (by decide) (by decide) (by decide) (by decide) dX12_init_274 dX12_init_276 fl_12_122 rfl rfl rfl (fun _ => rfl) (fun _ => rfl) ?_
  have hC1 := hC.put (k := 66)
  refine a_aload_n F 0 dX12_init_279 rfl rfl ?_
  refine a_bipush (v := 13) F dX12_init_280 (by decide) ?_
  refine a_mkL F hn9 (p := 67) (n := 13) rfl nM_67 rfl hC1 (by decide) (by decide) (by decide) (by decide) (by decide) dX12_init_282 dX12_init_284 fl_12_125 rfl rfl rfl (fun _ => rfl) (fun _ => rfl) ?_
  have hC2 := hC1.put (k := 67)
  refine a_aload_n F 0 dX12_init_287 rfl rfl ?_
  refine a_bipush (v := 13) F dX12_init_288 (by decide) ?_
  refine a_mkL F hn9 (p := 68) (n := 13) rfl nM_68 rfl hC2 (by decide) (by decide) (by decide) (by decide) (by decide) dX12_init_290 dX12_init_292 fl_12_128 rfl rfl rfl (fun _ => rfl) (fun _ => rfl) ?_
  have hC3 := hC2.put (k := 68)
  refine a_aload_n F 0 dX12_init_295 rfl rfl ?_
  refine a_ldc F kc_12_87 dX12_init_296 ?_
  refine a_mkI F hn9 (p := 69) (n := 54264) rfl nM_69 rfl hC3 (by decide) (by decide) (by decide) (by decide) (by decide) dX12_init_298 dX12_init_300 fl_12_131 rfl rfl rfl (fun _ => rfl) (fun _ => rfl) ?_
  have hC4 := hC3.put (k := 69)
  refine a_aload_n F 0 dX12_init_303 rfl rfl ?_
  refine a_ldc F kc_12_87 dX12_init_304 ?_
  refine a_mkI F hn9 (p := 70) (n := 54264) rfl nM_70 rfl hC4 (by decide) (by decide) (by decide) (by decide) (by decide) dX12_init_306 dX12_init_308 fl_12_134 rfl rfl rfl (fun _ => rfl) (fun _ => rfl) ?_
  have hC5 := hC4.put (k := 70)
  refine a_aload_n F 0 dX12_init_311 rfl rfl ?_
  refine a_bipush (v := 12) F dX12_init_312 (by decide) ?_
  refine a_mkI F hn9 (p := 71) (n := 12) rfl nM_71 rfl hC5 (by decide) (by decide) (by decide) (by decide) (by decide) dX12_init_314 dX12_init_316 fl_12_137 rfl rfl rfl (fun _ => rfl) (fun _ => rfl) ?_
  have hC6 := hC5.put (k := 71)
  exact kk hC6

set_option maxHeartbeats 4000000 in
theorem mk_6 {X : Ctx} (F : Fx X cX12_init RX12 1 2 38 2030906) (hn9 : (xmeth X).name = "<init>") {P : Nat → Nat → Option Nat} (hC : clM P (((((((((((((((((((((((((((((((((((([0] ++ [1]) ++ [3]) ++ [4]) ++ [5]) ++ [6]) ++ [7]) ++ [13]) ++ [14]) ++ [15]) ++ [18]) ++ [30]) ++ [34]) ++ [43]) ++ [44]) ++ [45]) ++ [46]) ++ [48]) ++ [49]) ++ [50]) ++ [51]) ++ [52]) ++ [53]) ++ [54]) ++ [57]) ++ [59]) ++ [60]) ++ [62]) ++ [63]) ++ [64]) ++ [65]) ++ [66]) ++ [67]) ++ [68]) ++ [69]) ++ [70]) ++ [71])) (kk : clM (up2 (up2 P 0 72 (some 72)) 0 73 (some 73)) (((((((((((((((((((((((((((((((((((((([0] ++ [1]) ++ [3]) ++ [4]) ++ [5]) ++ [6]) ++ [7]) ++ [13]) ++ [14]) ++ [15]) ++ [18]) ++ [30]) ++ [34]) ++ [43]) ++ [44]) ++ [45]) ++ [46]) ++ [48]) ++ [49]) ++ [50]) ++ [51]) ++ [52]) ++ [53]) ++ [54]) ++ [57]) ++ [59]) ++ [60]) ++ [62]) ++ [63]) ++ [64]) ++ [65]) ++ [66]) ++ [67]) ++ [68]) ++ [69]) ++ [70]) ++ [71]) ++ [72]) ++ [73]) → WA X (mG (up2 (up2 (up2 (up2 zI 0 22 (1)) 0 23 (-1)) 0 27 (-1)) 0 42 (-1)) (up2 (up2 P 0 72 (some 72)) 0 73 (some 73)) zI zJ) (((((((((((((((((((((((((((((((((((((([0] ++ [1]) ++ [3]) ++ [4]) ++ [5]) ++ [6]) ++ [7]) ++ [13]) ++ [14]) ++ [15]) ++ [18]) ++ [30]) ++ [34]) ++ [43]) ++ [44]) ++ [45]) ++ [46]) ++ [48]) ++ [49]) ++ [50]) ++ [51]) ++ [52]) ++ [53]) ++ [54]) ++ [57]) ++ [59]) ++ [60]) ++ [62]) ++ [63]) ++ [64]) ++ [65]) ++ [66]) ++ [67]) ++ [68]) ++ [69]) ++ [70]) ++ [71]) ++ [72]) ++ [73]) 38 2030906 335 [(0, .ref 0)] []) : WA X (mG (up2 (up2 (up2 (up2 zI 0 22 (1)) 0 23 (-1)) 0 27 (-1)) 0 42 (-1)) P zI zJ) (((((((((((((((((((((((((((((((((((([0] ++ [1]) ++ [3]) ++ [4]) ++ [5]) ++ [6]) ++ [7]) ++ [13]) ++ [14]) ++ [15]) ++ [18]) ++ [30]) ++ [34]) ++ [43]) ++ [44]) ++ [45]) ++ [46]) ++ [48]) ++ [49]) ++ [50]) ++ [51]) ++ [52]) ++ [53]) ++ [54]) ++ [57]) ++ [59]) ++ [60]) ++ [62]) ++ [63]) ++ [64]) ++ [65]) ++ [66]) ++ [67]) ++ [68]) ++ [69]) ++ [70]) ++ [71]) 36 2030882 319 [(0, .ref 0)] [] := by
  refine a_aload_n F 0 dX12_init_319 rfl rfl ?_
  refine a_bipush (v := 12) F dX12_init_320 (by decide) ?_
  refine a_mkI F hn9 (p := 72) (n := 12) rfl nM_72 rfl hC (by decide) (by decide) (by decide) (by decide) (by decide) dX12_init_322 dX12_init_324 fl_12_140 rfl rfl rfl (fun _ => rfl) (fun _ => rfl) ?_
  have hC1 := hC.put (k := 72)
  refine a_aload_n F 0 dX12_init_327 rfl rfl ?_
  refine a_bipush (v := 12) F dX12_init_328 (by decide) ?_
  refine a_mkI F hn9 (p := 73) (n := 12) rfl nM_73 rfl hC1 (by decide) (by decide) (by decide) (by decide) (by decide) dX12_init_330 dX12_init_332 fl_12_143 rfl rfl rfl (fun _ => rfl) (fun _ => rfl) ?_
  have hC2 := hC1.put (k := 73)
  exact kk hC2

theorem pM_0 : pM 0 = lkL [(1, 1), (3, 3), (4, 4), (5, 5), (6, 6), (7, 7), (13, 13), (14, 14), (15, 15), (18, 18), (30, 30), (34, 34), (43, 43), (44, 44), (45, 45), (46, 46), (48, 48), (49, 49), (50, 50), (51, 51), (52, 52), (53, 53), (54, 54), (57, 57), (59, 59), (60, 60), (62, 62), (63, 63), (64, 64), (65, 65), (66, 66), (67, 67), (68, 68), (69, 69), (70, 70), (71, 71), (72, 72), (73, 73)] (fun _ => none) := by
  funext k
  by_cases h : k < 74
  · revert k; decide
  · obtain ⟨j, rfl⟩ : ∃ j, k = j + 74 := ⟨k - 74, by omega⟩
    rfl
def IM : Nat → Nat → Int32 := up2 (up2 (up2 (up2 (up2 (up2 zI 0 22 (1)) 0 23 (-1)) 0 27 (-1)) 0 42 (-1)) 0 2 0) 0 16 0
def AM : Nat → Nat → Int32 := up1 zI 1 (fillF (zI 1) 52 startB)
set_option maxRecDepth 10000 in
theorem c_12_init (l : Launch) : Con l 2 yX12_init cX12_init 1 none [.ref 0] (mG zI (up1 pM 0 (fun _ => none)) zI zJ) [0] 38 2030906 (PM none IM AM zJ) := by
  refine Con.of (by decide) (Nat.le_of_ble_eq_true rfl) (fun X hX9 hn9 F E => ?_)
  refine a_aload_n F 0 dX12_init_0 rfl rfl ?_
  refine a_objI F oi_12 oi_i oi_c (by decide) dX12_init_1 (by decide) ?_
  have hC0 : clM (up1 pM 0 (fun _ => none)) [0] := fun k b _ hb => by rw [up1_s] at hb; exact absurd hb (fun z => nomatch z)
  refine mk_0 F hn9 hC0 (fun hC1 => ?_)
  refine mk_1 F hn9 hC1 (fun hC2 => ?_)
  refine mk_2 F hn9 hC2 (fun hC3 => ?_)
  refine mk_3 F hn9 hC3 (fun hC4 => ?_)
  refine mk_4 F hn9 hC4 (fun hC5 => ?_)
  refine mk_5 F hn9 hC5 (fun hC6 => ?_)
  refine mk_6 F hn9 hC6 (fun hC7 => ?_)
  have eP : (up2 (up2 (up2 (up2 (up2 (up2 (up2 (up2 (up2 (up2 (up2 (up2 (up2 (up2 (up2 (up2 (up2 (up2 (up2 (up2 (up2 (up2 (up2 (up2 (up2 (up2 (up2 (up2 (up2 (up2 (up2 (up2 (up2 (up2 (up2 (up2 (up2 (up2 (up1 pM 0 (fun _ => none)) 0 1 (some 1)) 0 3 (some 3)) 0 4 (some 4)) 0 5 (some 5)) 0 6 (some 6)) 0 7 (some 7)) 0 13 (some 13)) 0 14 (some 14)) 0 15 (some 15)) 0 18 (some 18)) 0 30 (some 30)) 0 34 (some 34)) 0 43 (some 43)) 0 44 (some 44)) 0 45 (some 45)) 0 46 (some 46)) 0 48 (some 48)) 0 49 (some 49)) 0 50 (some 50)) 0 51 (some 51)) 0 52 (some 52)) 0 53 (some 53)) 0 54 (some 54)) 0 57 (some 57)) 0 59 (some 59)) 0 60 (some 60)) 0 62 (some 62)) 0 63 (some 63)) 0 64 (some 64)) 0 65 (some 65)) 0 66 (some 66)) 0 67 (some 67)) 0 68 (some 68)) 0 69 (some 69)) 0 70 (some 70)) 0 71 (some 71)) 0 72 (some 72)) 0 73 (some 73)) = pM := puts_fin (L := [(1, 1), (3, 3), (4, 4), (5, 5), (6, 6), (7, 7), (13, 13), (14, 14), (15, 15), (18, 18), (30, 30), (34, 34), (43, 43), (44, 44), (45, 45), (46, 46), (48, 48), (49, 49), (50, 50), (51, 51), (52, 52), (53, 53), (54, 54), (57, 57), (59, 59), (60, 60), (62, 62), (63, 63), (64, 64), (65, 65), (66, 66), (67, 67), (68, 68), (69, 69), (70, 70), (71, 71), (72, 72), (73, 73)]) pM_0
  show WA X (mG (up2 (up2 (up2 (up2 zI 0 22 (1)) 0 23 (-1)) 0 27 (-1)) 0 42 (-1)) (up2 (up2 (up2 (up2 (up2 (up2 (up2 (up2 (up2 (up2 (up2 (up2 (up2 (up2 (up2 (up2 (up2 (up2 (up2 (up2 (up2 (up2 (up2 (up2 (up2 (up2 (up2 (up2 (up2 (up2 (up2 (up2 (up2 (up2 (up2 (up2 (up2 (up2 (up1 pM 0 (fun _ => none)) 0 1 (some 1)) 0 3 (some 3)) 0 4 (some 4)) 0 5 (some 5)) 0 6 (some 6)) 0 7 (some 7)) 0 13 (some 13)) 0 14 (some 14)) 0 15 (some 15)) 0 18 (some 18)) 0 30 (some 30)) 0 34 (some 34)) 0 43 (some 43)) 0 44 (some 44)) 0 45 (some 45)) 0 46 (some 46)) 0 48 (some 48)) 0 49 (some 49)) 0 50 (some 50)) 0 51 (some 51)) 0 52 (some 52)) 0 53 (some 53)) 0 54 (some 54)) 0 57 (some 57)) 0 59 (some 59)) 0 60 (some 60)) 0 62 (some 62)) 0 63 (some 63)) 0 64 (some 64)) 0 65 (some 65)) 0 66 (some 66)) 0 67 (some 67)) 0 68 (some 68)) 0 69 (some 69)) 0 70 (some 70)) 0 71 (some 71)) 0 72 (some 72)) 0 73 (some 73)) zI zJ) plM 38 2030906 335 [(0, .ref 0)] []
  rw [eP]
  refine a_aload_n F 0 dX12_init_335 rfl rfl ?_
  refine a_callV (b := 0) (As := []) (st := []) (ci := 12) F (c_start (xl X) (up2 (up2 (up2 (up2 zI 0 22 (1)) 0 23 (-1)) 0 27 (-1)) 0 42 (-1)) zI zJ) ml_12_146 im_yX12_start se_yX12_start (by decide) (by decide) rfl (by decide) rfl rfl dX12_init_336 (by decide) (Nat.le_of_ble_eq_true rfl) (Nat.le_of_ble_eq_true rfl) (hl_r (by decide) hl_nil) hs_nil ?_
  rintro _ _ _ ⟨rfl, rfl, rfl⟩ _
  exact a_vret F E dX12_init_339 (Nat.le_of_ble_eq_true rfl) (Nat.le_of_ble_eq_true rfl) ⟨rfl, rfl, rfl⟩
