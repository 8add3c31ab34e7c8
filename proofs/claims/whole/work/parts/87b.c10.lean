set_option maxRecDepth 200000 in
theorem c_9_readStack (l : Launch) {P O : Nat → Nat → Option Nat} (hP : laP P) (I A : Nat → Nat → Int32) (J : Nat → Nat → Int64) {pl : List Nat} (hB : inB pl) (n p sz m : Nat) (rd al : Nat → Nat) (hm : m ≤ 1) (h : AtC I (A 121) n p sz) (hb : rdB (A 133) rd al) : Con l 7 yX9_readStack cX9_readStack 3 (some .boolean) [.ref 106, .int (nI m)] (mC P O I A J) pl 0 0 (stQ P O I A J pl n sz m al (stk1 (A 121) n m (al m) rd p)) := by
  refine Con.of (by decide) (Nat.le_of_ble_eq_true rfl) (fun X hX9 hn9 F E => ?_)
  generalize hT : A 121 = T at h
  have er : ∀ {I1 : Nat → Nat → Int32} {c q : Nat}, FrC I I1 → I1 104 3 = nI q → stk1 T n m (al m) rd p = .error (c, q) → stQ P O I A J pl n sz m al (stk1 T n m (al m) rd p) (some (.int 0)) (mC P O (faI I1 (nI c)) A J) pl := fun {I1 c q} hf h3 he => by
    rw [he]
    exact ⟨rfl, _, A, rfl, hf.tr (fr_fa _ _), fun _ _ => rfl, rfl, rfl, h3⟩
  rw [hT] at E
  refine r_9_readStack_0 F E hP hB (fun z => ?_) (fun z => ?_)
  rotate_left
  · obtain ⟨c, -, e1, e2⟩ := ac_non (lo := 1) (hi := 25) h (by omega) z
    rw [show nuI I 1 25 = faI I (nI c) from e1]
    refine er (FrC.rf I) h.2.2.2.2.2.2.1 ?_
    unfold stk1
    rcases e2 with ⟨e2, rfl⟩ | ⟨e2, e3, rfl⟩
    · rw [if_pos e2]
    · rw [if_neg (fun y => y e2), if_pos (show tkV T n p < 1 ∨ 25 < tkV T n p from e3)]
  obtain ⟨s1, s2, s3, s4, s5, s6, s7⟩ := ac_num (lo := 1) (hi := 25) h (by omega) (by omega) z
  rw [nu_in z]
  have hk : ∀ {x}, x ≤ 25 → nI m * 26 + nI x = nI (26 * m + x) := fun _ => ix_a _ _
  have b1 := hb.1 m (tkN T n p) hm s4 s5
  have c3 : A 133 (nI m * 26 + I 104 6).toNatClampNeg ≤ 0 ↔ rd (26 * m + tkN T n p) = 0 := by
    rw [s6, ix_a, nI_clamp (by omega), b1.1]; exact nI_le0 (by omega)
  have k1 : ∀ {e}, stk1 T n m (al m) rd p = e ↔ (if 0 < rd (26 * m + tkN T n p) then Except.error (3, p) else if m = 1 ∧ tkN T n p < 25 ∧ 0 < rd (25 - tkN T n p) then .error (5, p) else if ¬ (tkS T n (nxP T n p) = 4 ∧ tkV T n (nxP T n p) = 58) then .error (1, nxP T n p) else if ¬ tkS T n (nxP T n (nxP T n p)) = 2 then .error (1, nxP T n (nxP T n p)) else if tkV T n (nxP T n (nxP T n p)) < 1 ∨ 15 < tkV T n (nxP T n (nxP T n p)) then .error (2, nxP T n (nxP T n p)) else if 15 < al m + tkN T n (nxP T n (nxP T n p)) then .error (4, nxP T n (nxP T n p)) else .ok (nxP T n (nxP T n (nxP T n p)), al m + tkN T n (nxP T n (nxP T n p)), va_up rd (26 * m + tkN T n p) (tkN T n (nxP T n (nxP T n p))))) = e := fun {e} => by
    unfold stk1; rw [if_neg (fun y => y s1), if_neg (show ¬ (tkV T n p < 1 ∨ 25 < tkV T n p) from s2)]
  refine r_9_readStack_15 F E hP hB (by rw [s6, ix_a]; exact vp_in_nI (by omega) (by omega)) (fun z3 => ?_) (fun z3 => er (FrC.rf I) h.2.2.2.2.2.2.1 (k1.mpr (by rw [if_pos (by have := (not_congr c3).mp z3; omega)])))
  have r0 := c3.mp z3
  rw [s6]
  have go79 : ¬ (m = 1 ∧ tkN T n p < 25 ∧ 0 < rd (25 - tkN T n p)) → WA X (mC P O I A J) pl 0 0 79 [(0, .ref 106), (1, .int (nI m)), (2, .int (nI (tkN T n p)))] [] := fun c5 => by
    refine r_9_readStack_79 F hP hB (ac_rd h) ?_
    rw [hT]
    have h2 := ac_nx h s7
    have f2 := fr_rg I T
    generalize hI2 : rgI I T = I2 at h2 f2
    have e7 : I2 104 7 = I 104 7 := by rw [← hI2]; exact (rg_78 I T).1
    have e8 : I2 104 8 = I 104 8 := by rw [← hI2]; exact (rg_78 I T).2
    have k2 : ∀ {e}, stk1 T n m (al m) rd p = e ↔ (if ¬ (tkS T n (nxP T n p) = 4 ∧ tkV T n (nxP T n p) = 58) then Except.error (1, nxP T n p) else if ¬ tkS T n (nxP T n (nxP T n p)) = 2 then .error (1, nxP T n (nxP T n p)) else if tkV T n (nxP T n (nxP T n p)) < 1 ∨ 15 < tkV T n (nxP T n (nxP T n p)) then .error (2, nxP T n (nxP T n p)) else if 15 < al m + tkN T n (nxP T n (nxP T n p)) then .error (4, nxP T n (nxP T n p)) else .ok (nxP T n (nxP T n (nxP T n p)), al m + tkN T n (nxP T n (nxP T n p)), va_up rd (26 * m + tkN T n p) (tkN T n (nxP T n (nxP T n p))))) = e := fun {e} => by
      rw [k1, if_neg (by omega), if_neg c5]
    refine r_9_readStack_86 F E hP hB (ac_rd h2) (fun z => ?_) (fun z => ?_)
    rotate_left
    · rw [ps_no z]
      exact er f2 h2.2.2.2.2.2.2.1 (k2.mpr (by rw [if_pos (fun y => z ((ac_sg h2 58).mpr y))]))
    have sg := (ac_sg h2 58).mp z
    rw [ps_in z, hT]
    have h3 := ac_nx h2 (ac_lt h2 (by rw [sg.1]; decide))
    have f3 := f2.tr (fr_rg I2 T)
    generalize hI3 : rgI I2 T = I3 at h3 f3
    have e7 : I3 104 7 = I 104 7 := by rw [← hI3, (rg_78 I2 T).1]; exact e7
    have e8 : I3 104 8 = I 104 8 := by rw [← hI3, (rg_78 I2 T).2]; exact e8
    refine r_9_readStack_98 F E hP hB (fun z => ?_) (fun z => ?_)
    rotate_left
    · obtain ⟨c, -, w1, w2⟩ := ac_non (lo := 1) (hi := 15) h3 (by omega) z
      rw [show nuI I3 1 15 = faI I3 (nI c) from w1]
      refine er f3 h3.2.2.2.2.2.2.1 (k2.mpr ?_)
      rw [if_neg (fun y => y sg)]
      rcases w2 with ⟨w2, rfl⟩ | ⟨w2, w3, rfl⟩
      · rw [if_pos w2]
      · rw [if_neg (fun y => y w2), if_pos (show tkV T n (nxP T n (nxP T n p)) < 1 ∨ 15 < tkV T n (nxP T n (nxP T n p)) from w3)]
    obtain ⟨t1, t2, t3, t4, t5, t6, t7⟩ := ac_num (lo := 1) (hi := 15) h3 (by omega) (by omega) z
    rw [nu_in z]
    have i0 : nI m * 26 + (0 : Int32) = nI (26 * m) := ix_a m 0
    have hal := (hb.2 m hm).2
    have c4 : I3 104 6 ≤ A 133 (nI m * 26 + (0 : Int32)).toNatClampNeg ↔ al m + tkN T n (nxP T n (nxP T n p)) ≤ 15 := by
      rw [t6, i0, nI_clamp (by omega), (hb.2 m hm).1, nI_leI (by omega) (by omega)]; omega
    have v0 : vp_in (nI m * 26 + (0 : Int32)) 52 := by rw [i0]; exact vp_in_nI (by omega) (by omega)
    refine r_9_readStack_113 F E hP hB v0 (fun z4 => ?_) (fun z4 => ?_)
    rotate_left
    · refine er f3 h3.2.2.2.2.2.2.1 (k2.mpr ?_)
      rw [if_neg (fun y => y sg), if_neg (fun y => y t1), if_neg (show ¬ (tkV T n (nxP T n (nxP T n p)) < 1 ∨ 15 < tkV T n (nxP T n (nxP T n p))) from t2), if_pos (by have := (not_congr c4).mp z4; omega)]
    have hle := c4.mp z4
    refine r_9_readStack_141 F E hP hB v0 (by rw [ix_a]; exact vp_in_nI (by omega) (by omega)) (ac_rd h3) ?_
    rw [show (up1 A 133 (tfoR (A 133) (nI m) (nI (tkN T n p)) (I3 104 6))) 121 = T from hT, k2.mpr (by rw [if_neg (fun y => y sg), if_neg (fun y => y t1), if_neg (show ¬ (tkV T n (nxP T n (nxP T n p)) < 1 ∨ 15 < tkV T n (nxP T n (nxP T n p))) from t2), if_neg (by omega)])]
    refine ⟨rfl, _, _, rfl, f3.tr (fr_rg I3 T), fun q hq => up1_p hq, rfl, ?_, (rg_78 _ _).1.trans e7, (rg_78 _ _).2.trans e8, ?_⟩
    · rw [hT]; exact ac_nx h3 t7
    · rw [up1_s, t6]; exact rdB_tfo hb hm s4 s5 r0 hle
  have m1 : nI m = 1 ↔ m = 1 := nI_eqn 1 (by omega) (by omega)
  have k25 : nI (tkN T n p) = 25 ↔ tkN T n p = 25 := nI_eqn 25 (by omega) (by omega)
  have i5 : (0 : Int32) * 26 + (25 - nI (tkN T n p)) = nI (25 - tkN T n p) := by
    rw [show (25 : Int32) - nI (tkN T n p) = nI (25 - tkN T n p) from pk_sub (a := 25) s5]; grind
  have b5 : tkN T n p < 25 → A 133 (25 - tkN T n p) = nI (rd (25 - tkN T n p)) ∧ rd (25 - tkN T n p) ≤ 15 := fun c => by
    have := hb.1 0 (25 - tkN T n p) (by omega) (by omega) (by omega)
    rw [Nat.mul_zero, Nat.zero_add] at this; exact this
  have c5 : tkN T n p < 25 → (A 133 ((0 : Int32) * 26 + (25 - nI (tkN T n p))).toNatClampNeg ≤ 0 ↔ rd (25 - tkN T n p) = 0) := fun c => by
    have := (b5 c).2
    rw [i5, nI_clamp (by omega), (b5 c).1]; exact nI_le0 (by omega)
  have lt25 : ¬ nI (tkN T n p) = 25 → tkN T n p < 25 := fun z => by have := (not_congr k25).mp z; omega
  refine r_9_readStack_44 F E hP hB (fun z => go79 (fun y => z (m1.mpr y.1))) (fun _ z => go79 (fun y => by have := k25.mp z; omega)) (fun _ _ => by rw [i5]; exact vp_in_nI (by omega) (by omega)) (fun _ z1 z2 => go79 (fun y => by have := (c5 (lt25 z1)).mp z2; omega)) (fun z0 z1 z2 => er (FrC.rf I) h.2.2.2.2.2.2.1 (k1.mpr (by rw [if_neg (by omega), if_pos ⟨m1.mp z0, lt25 z1, by have := (not_congr (c5 (lt25 z1))).mp z2; omega⟩])))
