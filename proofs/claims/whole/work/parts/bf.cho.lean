/-! choose -/
section
variable {X : Ctx} {b ax ay ao L n g k1 k2 : Nat} {xs0 : Nat → Int32} {I A : Nat → Nat → Int32} {J : Nat → Nat → Int64} {P O : Nat → Nat → Option Nat} {IC AC : Nat → Nat → Int32} {JC : Nat → Nat → Int64} {pl : List Nat} {U : Nat → Int64} {I' A' I2 A2 : Nat → Nat → Int32} {O2 : Nat → Nat → Option Nat} {pl' : List Nat}
theorem ch_bd {r : Nat} {B' : Nat → Nat} (hok : okB B') (h : ∀ k, k < 52 → A 13 (52 * r + k) = nI (B' k)) : bdR (chB A r) 0 B' := fun k hk => by
  rw [Nat.zero_add]
  unfold chB segF
  rw [if_pos (by omega), Nat.sub_zero]
  exact ⟨h k hk, Nat.le_trans (okB_le hok hk) (by decide)⟩
theorem n1m {m : Nat} (h : m ≤ 1) : 1 - nI m = nI (1 - m) := by
  rcases (by omega : m = 0 ∨ m = 1) with rfl | rfl <;> rfl
theorem diceI_q {q k : Nat} {a c : Int32} (h : q ≠ 114) : diceI IC a c q k = IC q k := by
  unfold diceI
  rw [up2_p h, up2_p h]
theorem s_choose (F : FLx X cL_law RL 7) (hR : RmL X) (hC : RmC X) (S : Scr X b L xs0) (hn : n + 5 < L) (T : TIE g I A J P O IC AC JC pl) (h1 : k1 ≤ potC n g (frT O)) (h2 : k2 ≤ potS n g (frT O)) (kc : KC X b ax ay ao n) : LA X ax ay ao (mS I A J) plM (mC P O IC AC JC) pl U k1 k2 (strt 8) (LB b ax ay ao (nI n)) [] := by
  obtain ⟨p1, p2⟩ := pot_le (n := n) (f := frT O) (by have := S.2.2.2; omega) T.g6
  obtain ⟨m, B, sz, Lv, p, hd, mt, τ, iv, eg, tb, tm, tt, tp, tl, ts, tr⟩ := id T
  have hc := hC.1
  have hs := hC.2.1
  have i100 : 100 ∈ pl := iv.2.1 _ (by decide)
  generalize ea : xs0 (n + 1) = x
  obtain ⟨a1, a2, a3, a4, a5, a6⟩ := id ts
  refine w_choose F hR S hn (h_choose (p0 := xs0 (n + 1)) (c_11_choose (xl X) hC.2.2 iv.1 IC AC JC iv.2.1 (xs0 (n + 1)) hd p iv.2.2.1 iv.2.2.2.1 iv.2.2.2.2.1 a2 a1 a4 a5 tr.1 tr.2.2.1) i100 rfl (fun r σ' pl' h => ⟨_, h.2.1⟩) (fun E σ' pl' h => h.1)) i100 (by omega) (by omega) ?_
  rw [ea]
  intro k σ' pl' U' hΘ _
  refine ⟨2, _, by decide, c_choose (xl X) I A J x ⟨p, a1, a3⟩ tr.okR.1 (fun h0 h1 => ?_), ?_⟩
  · obtain ⟨i, rfl, hi, hc0⟩ := tr.at (x := x) ⟨h0, by rw [tr.cn]; exact h1⟩
    obtain ⟨r0, hr0, er, -⟩ := tr.2.2.2.2.2 i hi
    rw [nI_clamp (by omega)]
    exact ⟨r0, hr0, er⟩
  have e7 := tr.cn
  rcases hΘ with ⟨rfl, v, ⟨h0, hv, hyes, hno⟩, rfl⟩ | ⟨E, ⟨rfl, rfl, rfl, he⟩, rfl, rfl⟩
  · rw [← e7, if_pos h0]
    cases hv
    obtain ⟨i, rfl, hi, hc0⟩ := tr.at h0
    obtain ⟨r0, hr0, er, hokT, eT, -⟩ := tr.2.2.2.2.2 i hi
    have hmt : mt = m := tr.2.1.1 (by omega)
    subst hmt
    rw [nI_clamp (by omega)] at hyes hno
    rw [nI_clamp (by omega), er, nI_clamp (by omega), a3, nI_clamp (by omega)]
    obtain ⟨c1, c2, c3, c4, c5, c6⟩ := id tb
    have hok' := hokT
    generalize τ.2.2.1 i = B' at hyes hno hokT eT
    by_cases hu : undC IC
    · rw [if_pos ((t_und tm).mp hu)]
      obtain ⟨r', hr', hg, rfl⟩ := hyes hu
      have hu2 := (t_und tm).mp hu
      have h3 : I 0 20 = 3 := by
        apply Classical.byContradiction
        intro z
        have := tr.2.1.2 ⟨fun y => by rw [y] at hu2; exact absurd hu2.1 (by decide), fun y => by rw [y] at hu2; exact absurd hu2.2 (by decide), z⟩
        omega
      have hch := ch_bd (A := A) (r := r0) hokT eT
      have q0 : chB A r0 0 = r' 0 := by have z1 := (hch 0 (by decide)).1; have z2 := (hr' 0 (by decide)).1; rw [Nat.zero_add] at z1 z2; rw [z1, z2]
      have q26 : chB A r0 26 = r' 26 := by have z1 := (hch 26 (by decide)).1; have z2 := (hr' 26 (by decide)).1; rw [Nat.zero_add] at z1 z2; rw [z1, z2]
      unfold chPost
      rw [if_pos (show (up2 I 0 0 0) 0 20 = 3 from h3), q0, q26]
      have tc : tMc (up2 (chI (up2 I 0 0 0)) 0 20 2) (up1 A 1 (chB A r0)) (diceI (up2 (up2 IC 130 1 (nI (1 - mt))) 110 7 0) 0 0) (up1 AC 131 r') := tm.c
      have fin : ∀ w v, w ≤ 1 → LA X ax ay ao (mS (endI (up2 (chI (up2 I 0 0 0)) 0 20 2) (nI w) v (A 30 w + v)) (up1 (up1 A 1 (chB A r0)) 30 (upd (A 30) w (A 30 w + v))) J) plM (mC P O (eCI (diceI (up2 (up2 IC 130 1 (nI (1 - mt))) 110 7 0) 0 0) (nI w) v (AC 115 w + v)) (up1 (up1 AC 131 r') 115 (upd (AC 115) w (AC 115 w + v))) JC) pl (vp_updL U 0 (nI (1 - mt)).toInt64) (k1 + 10) (k2 + 100) 1420 (LB b ax ay ao (nI n)) [] := by
        intro w v hw
        obtain ⟨u1, u2, u3⟩ := t_end tc rfl rfl hw v
        have fI : ∀ q k, q ≠ 114 → eCI (diceI (up2 (up2 IC 130 1 (nI (1 - mt))) 110 7 0) 0 0) (nI w) v (AC 115 w + v) q k = (up2 (up2 IC 130 1 (nI (1 - mt))) 110 7 0) q k := fun q k h => by rw [eCI_q h, diceI_q h]
        refine kc _ _ _ _ _ _ _ _ (INV.mk (g := g) ⟨1 - mt, B', sz, Lv, p, hd, mt, (τ.1, 0, τ.2.2.1, τ.2.2.2.1, τ.2.2.2.2), iv.fr (fun q k hq => ?_) rfl, eg, ⟨by omega, hokT, ?_, ?_, hch, hr'⟩, u1, ?_, ?_, ?_, ts.fr (endI_k (by omega)) rfl (fI _ _ (by decide)) (fI _ _ (by decide)) (fun q k hq => ?_) (fun q hq => ?_), tr.zero (endI_k (by omega)) (endI_k (by omega)) (fI _ _ (by decide)) (fI _ _ (by decide)) (fI _ _ (by decide))⟩ (pot_st h1 h2 (by decide) (by decide)))
        · rw [fI _ _ (by omega), up2_p (by omega), up2_p (by omega)]
        · rw [endI_k (by omega)]
          show 1 - I 0 2 = _
          rw [c3, n1m c1]
        · exact fI 130 1 (by decide)
        · obtain ⟨f1, f2, f3, f4, f5⟩ := tt
          exact ⟨f1, (endI_k (by omega)).trans f2, (fI _ _ (by decide)).trans f3, f4, by rw [endI_k (by omega), fI _ _ (by decide)]; exact f5⟩
        · obtain ⟨len, f1, f2, f3, f4⟩ := tp
          exact ⟨len, f1, (endI_k (by omega)).trans f2, (fI _ _ (by decide)).trans f3, f4⟩
        · obtain ⟨⟨f1, f2, f3, f4⟩, f5, f6⟩ := tl
          refine ⟨⟨(endI_k (by omega)).trans f1, f2, ?_, f4⟩, f5, (fI _ _ (by decide)).trans f6⟩
          rcases f3 with f3 | ⟨f3, f7⟩
          · exact Or.inl ((endI_k (by omega)).trans f3)
          · exact Or.inr ⟨(endI_k (by omega)).trans f3, f7⟩
        · rw [fI _ _ (by omega), up2_p (by omega), up2_p (by omega)]
        · rw [up1_p (by omega), up1_p (by omega)]
      by_cases z0 : r' 0 = 15
      · obtain ⟨-, rfl, -⟩ := hg.1 z0
        rw [if_pos (Or.inl z0), if_pos z0]
        rintro r σR plR ⟨rfl, rfl, rfl⟩
        have ev : overV (up2 (chI (up2 I 0 0 0)) 0 20 2) (up1 A 1 (chB A r0)) 0 1 = I 0 22 * twI r' 1 := by
          show I 0 22 * timesOf (chB A r0) 1 (26 * 1) = I 0 22 * twI r' (nI 1)
          rw [tw_e (by omega) hch hr']
        have e13 : (up2 (up2 IC 130 1 (nI (1 - mt))) 110 7 0) 114 13 = I 0 22 := tm.2.2.2.1
        unfold overI overA
        rw [ev, e13]
        refine ⟨_, _, _, _, rfl, rfl, rfl, endI_k (by omega), fun _ => ?_, fin 0 (I 0 22 * twI r' 1) (by omega)⟩
        show _ = (1 - I 0 2).toInt64
        rw [c3, n1m c1]
        rfl
      · by_cases z26 : r' 26 = 15
        · obtain ⟨-, rfl, -⟩ := hg.2.1 z0 z26
          rw [if_pos (Or.inr z26), if_neg z0]
          rintro r σR plR ⟨rfl, rfl, rfl⟩
          have ev : overV (up2 (chI (up2 I 0 0 0)) 0 20 2) (up1 A 1 (chB A r0)) 1 1 = I 0 22 * twI r' 0 := by
            show I 0 22 * timesOf (chB A r0) 1 (26 * 0) = I 0 22 * twI r' (nI 0)
            rw [tw_e (by omega) hch hr']
          have e13 : (up2 (up2 IC 130 1 (nI (1 - mt))) 110 7 0) 114 13 = I 0 22 := tm.2.2.2.1
          unfold overI overA
          rw [ev, e13]
          refine ⟨_, _, _, _, rfl, rfl, rfl, endI_k (by omega), fun _ => ?_, fin 1 (I 0 22 * twI r' 0) (by omega)⟩
          show _ = (1 - I 0 2).toInt64
          rw [c3, n1m c1]
          rfl
        · obtain ⟨-, rfl, -⟩ := hg.2.2 z0 z26
          rw [if_neg (fun z => z.elim z0 z26)]
          rintro r σR plR ⟨rfl, rfl, rfl⟩
          obtain ⟨d0, d1, d2, d3, d4, d5, d6, d7, d8, d9, f0, f1, f2, f3, f4, f5, f6⟩ := tm
          have fI : ∀ q k, q ≠ 114 → (up2 (diceI (up2 (up2 IC 130 1 (nI (1 - mt))) 110 7 0) 0 0) 114 12 2) q k = (up2 (up2 IC 130 1 (nI (1 - mt))) 110 7 0) q k := fun q k h => by rw [up2_p h, diceI_q h]
          refine ⟨_, _, _, _, rfl, rfl, rfl, rfl, fun _ => ?_, kc _ _ _ _ _ _ _ _ (INV.mk (g := g) ⟨1 - mt, B', sz, Lv, p, hd, mt, (τ.1, 0, τ.2.2.1, τ.2.2.2.1, τ.2.2.2.2), iv.fr (fun q k hq => ?_) rfl, eg, ⟨by omega, hokT, ?_, rfl, hch, hr'⟩, ⟨⟨(by decide : (0 : Int32) ≤ 2), (by decide : (2 : Int32) ≤ 6)⟩, rfl, d2, d3, d4, d5, d6, d7, d8, fun z => absurd z (by decide : ¬ (2 : Int32) = 3), fun _ => ⟨rfl, rfl⟩, f1, f2, f3, f4, f5, f6⟩, tt, tp, tl, ts.fr rfl rfl rfl rfl (fun q k hq => ?_) (fun q hq => up1_p (by omega)), tr.zero rfl rfl rfl rfl rfl⟩ (pot_st h1 h2 (by decide) (by decide)))⟩
          · show _ = (1 - I 0 2).toInt64
            rw [c3, n1m c1]
            rfl
          · rw [fI _ _ (by omega), up2_p (by omega), up2_p (by omega)]
          · show 1 - I 0 2 = _
            rw [c3, n1m c1]
          · rw [fI _ _ (by omega), up2_p (by omega), up2_p (by omega)]
    · rw [if_neg (fun z => hu ((t_und tm).mpr z))]
      obtain ⟨O2, I2, A2, hk, r', hr', rfl⟩ := hno hu
      obtain ⟨iv2, ef⟩ := kp_i (Nat.mod_lt _ (by decide)) iv hk
      obtain ⟨x1, x2, x3, x4, x5, x6, x7, x8, x9, x10, x11, x12, x13⟩ := kp_x hk
      have hch := ch_bd (A := up1 A 18 (remRow (A 18) p (A 1) (I 0 2))) (r := r0) hokT eT
      have h3 : ¬ I 0 20 = 3 := fun z => hu ((t_und tm).mpr (by rw [z]; decide))
      unfold chPost
      rw [if_neg (show ¬ (up2 (up2 I 0 0 0) 0 19 (nI (remP p + 1))) 0 20 = 3 from h3)]
      rintro r σR plR ⟨rfl, rfl, rfl⟩
      have fI : ∀ q k, q ≠ 102 → q < 200 → I2 q k = IC q k := fun q k h h' => x9 q k h (by omega)
      have fA : ∀ q, q < 200 → A2 q = AC q := fun q h => x11 q (by omega)
      have ts2 : tPs (remP p + 1) ((hd + 1) % 8) (chI (up2 (up2 I 0 0 0) 0 19 (nI (remP p + 1)))) (up1 (up1 A 18 (remRow (A 18) p (A 1) (I 0 2))) 1 (chB (up1 A 18 (remRow (A 18) p (A 1) (I 0 2))) r0)) O2 I2 A2 := t_keep tb ts hk rfl rfl
      have tr2 : tbS P I2 A2 JC pl' mt τ := by
        obtain ⟨y1, y2, y3, y4, y5, y6, y7, y8, o, y9⟩ := tr.2.2.1
        exact ⟨y1.up x3 (fun q hq => (x4 q hq).imp id (fun z => Or.inl (by omega))), y2, y3, by rw [fI _ _ (by decide) (by decide)]; exact y4, by rw [fI _ _ (by decide) (by decide)]; exact y5, by rw [fI _ _ (by decide) (by decide)]; exact y6, y7, y8, o, by rw [x11 _ (by omega)]; exact y9⟩
      refine ⟨_, _, _, _, rfl, rfl, rfl, rfl, fun _ => ?_, kc _ _ _ _ _ _ _ _ (INV.mk (g := g) ⟨1 - mt, B', sz, Lv, remP p + 1, (hd + 1) % 8, mt, (τ.1, 0, τ.2.2.1, τ.2.2.2.1, τ.2.2.2.2), iv2.fr (fun q k hq => ?_) rfl, eg, ⟨by omega, hokT, ?_, rfl, hch, hr'⟩, ?_, ?_, ?_, ?_, ts2.fr rfl rfl rfl rfl (fun q k hq => ?_) (fun q hq => up1_p (by omega)), ⟨tr.1, ⟨fun z => absurd rfl z, fun _ => rfl⟩, tr2.zero rfl rfl rfl, rfl, tr.2.2.2.2.1, fun j hj => absurd hj (Nat.not_lt_zero _)⟩⟩ (by rw [ef]; exact pot_st h1 h2 (by decide) (by decide)))⟩
      · show _ = (1 - I 0 2).toInt64
        rw [c3, n1m c1]
        rfl
      · rw [up2_p (by omega), up2_p (by omega)]
      · show 1 - I 0 2 = _
        rw [c3, n1m c1]
      · obtain ⟨d0, d1, d2, d3, d4, d5, d6, d7, d8, d9, f0, f1, f2, f3, f4, f5, f6⟩ := tm
        have f114 : ∀ k, (up2 (up2 I2 130 1 (nI (1 - mt))) 110 7 0) 114 k = IC 114 k := fun k => fI 114 k (by decide) (by decide)
        have f115 : (up1 A2 131 r') 115 = AC 115 := fA 115 (by decide)
        unfold tMt
        rw [f114, f114, f114, f114, f114, f114, f114, f114, f114, f114, f114, f114, f114, f115]
        exact ⟨d0, d1, d2, d3, d4, d5, d6, d7, d8, d9, f0, f1, f2, f3, f4, f5, f6⟩
      · obtain ⟨f1, f2, f3, f4, f5⟩ := tt
        exact ⟨f1, f2, (fI _ _ (by decide) (by decide)).trans f3, f4.trans (fA 121 (by decide)).symm, f5.trans (fI _ _ (by decide) (by decide)).symm⟩
      · obtain ⟨len, f1, f2, f3, f4⟩ := tp
        exact ⟨len, f1, f2, (fI _ _ (by decide) (by decide)).trans f3, fun j hj => (f4 j hj).trans (congrFun (fA 123 (by decide)) j).symm⟩
      · exact ⟨tl.1, tl.2.1, (fI _ _ (by decide) (by decide)).trans tl.2.2⟩
      · rw [up2_p (by omega), up2_p (by omega)]
  · rw [← e7, if_neg he]
    rintro r σR plR ⟨rfl, rfl, rfl⟩
    exact ⟨_, _, _, _, rfl, rfl, rfl, rfl, fun z => absurd z (by decide), kc _ _ _ _ _ _ _ _ (INV.mk (T.thr _) (pot_st h1 h2 (by decide) (by decide)))⟩
end