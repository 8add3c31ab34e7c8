def plN : List Nat := ([100] ++ [120] ++ [121] ++ [122] ++ [123] ++ [130] ++ [131] ++ [102] ++ [103] ++ [104] ++ [106] ++ [132] ++ [133] ++ [107] ++ [108] ++ [109] ++ [110] ++ [111] ++ [112] ++ [300] ++ [301] ++ [114] ++ [115] ++ [116] ++ [117] ++ [118] ++ [119] ++ [124] ++ [144] ++ [145] ++ [146] ++ [147] ++ [148] ++ [149] ++ [126] ++ [140] ++ [141] ++ [127] ++ [142] ++ [143])
def IN : Nat → Nat → Int32 := up2 (up2 (up2 (up2 (up2 zI 104 8 (-1)) 114 2 (-1)) 114 9 (-1)) 114 13 1) 130 1 0
set_option maxRecDepth 10000 in
theorem c_11_init (l : Launch) : ConS l 6 yX11_init cX11_init 1 none [.ref 100] (mC (up1 P0 100 (fun _ => none)) zO zI zI zJ) [100] 39 2377 (fun r σ' pl' => r = none ∧ ∃ A' J', σ' = mC P0 zO IN A' J' ∧ pl' = plN ∧ clC P0 zO plN ∧ (∀ q, q ≠ 118 → q ≠ 131 → A' q = fun _ => 0) ∧ rkT (A' 118) ∧ (∀ k, k < 52 → A' 131 k = startB k) ∧ (∀ q, q ≠ 119 → q ≠ 124 → q ≠ 145 → q ≠ 147 → q ≠ 149 → J' q = fun _ => 0) ∧ pwT J') := by
  refine ConS.of (by decide) (Nat.le_of_ble_eq_true rfl) (fun X hX9 hn9 F E S => ?_)
  refine a_aload_n F 0 dX11_init_0 rfl rfl ?_
  refine a_objI F oi_11 oi_i oi_c (by decide) dX11_init_1 (by decide) ?_
  have hC0 : clC (up1 P0 100 (fun _ => none)) zO [100] := fun q hq => by
    have e := List.mem_singleton.mp hq
    subst e
    exact ⟨fun k b _ hb => by rw [up1_s] at hb; exact absurd hb (fun z => nomatch z), fun h16 => absurd h16 (by decide)⟩
  refine a_aload_n F 0 dX11_init_4 rfl rfl ?_
  refine a_newBy (p := 120) F S rfl (by decide) (by decide) hC0 (by show P0 120 = _; exact P0_ho (by decide) (by decide)) cl_11_7 mn_11_9 dX11_init_5 dX11_init_8 dX11_init_9 (by decide) (Nat.le_of_ble_eq_true rfl) (Nat.le_of_ble_eq_true rfl) (hl_r (by decide) hl_nil) (hs_r (by decide) hs_nil) (by decide) ?_
  rw [up1_i0 (f := zI) (p := 120) (r := fun _ => 0) rfl, up1_i0 (f := zI) (p := 121) (r := fun _ => 0) rfl]
  have hC1 := clC.ob hC0 (p := 120) (by decide) (by decide) (by decide) (by decide) (by decide) (by show P0 120 = _; exact P0_ho (by decide) (by decide))
  refine a_putF F hn9 fl_11_10 rfl rfl rfl (fun _ => rfl) (fun _ => rfl) (by decide) rfl dX11_init_12 ?_
  have hC2 := hC1.put (p := 100) (k := 0) (b := 120) (by decide)
  refine a_aload_n F 0 dX11_init_15 rfl rfl ?_
  refine a_newBy (p := 122) F S rfl (by decide) (by decide) hC2 (by show P0 122 = _; exact P0_ho (by decide) (by decide)) cl_11_7 mn_11_9 dX11_init_16 dX11_init_19 dX11_init_20 (by decide) (Nat.le_of_ble_eq_true rfl) (Nat.le_of_ble_eq_true rfl) (hl_r (by decide) hl_nil) (hs_r (by decide) hs_nil) (by decide) ?_
  rw [up1_i0 (f := zI) (p := 122) (r := fun _ => 0) rfl, up1_i0 (f := zI) (p := 123) (r := fun _ => 0) rfl]
  have hC3 := clC.ob hC2 (p := 122) (by decide) (by decide) (by decide) (by decide) (by decide) (by show P0 122 = _; exact P0_ho (by decide) (by decide))
  refine a_putF F hn9 fl_11_16 rfl rfl rfl (fun _ => rfl) (fun _ => rfl) (by decide) rfl dX11_init_23 ?_
  have hC4 := hC3.put (p := 100) (k := 1) (b := 122) (by decide)
  refine a_aload_n F 0 dX11_init_26 rfl rfl ?_
  refine a_newBd (p := 130) F S rfl (by decide) (by decide) hC4 (by show P0 130 = _; exact P0_ho (by decide) (by decide)) cl_11_19 mn_11_21 dX11_init_27 dX11_init_30 dX11_init_31 (by decide) (Nat.le_of_ble_eq_true rfl) (Nat.le_of_ble_eq_true rfl) (hl_r (by decide) hl_nil) (hs_r (by decide) hs_nil) (by decide) ?_
  rw [up1_i0 (f := zI) (p := 130) (r := fun _ => 0) rfl, up1_i0 (f := zI) (p := 131) (r := fun _ => 0) rfl]
  have hC5 := clC.ob hC4 (p := 130) (by decide) (by decide) (by decide) (by decide) (by decide) (by show P0 130 = _; exact P0_ho (by decide) (by decide))
  refine a_putF F hn9 fl_11_22 rfl rfl rfl (fun _ => rfl) (fun _ => rfl) (by decide) rfl dX11_init_34 ?_
  have hC6 := hC5.put (p := 100) (k := 2) (b := 130) (by decide)
  refine a_aload_n F 0 dX11_init_37 rfl rfl ?_
  refine a_new (ci := 3) (p := 102) F (by decide) rfl (hC6.no (by decide)) uw3 cl_11_26 it_3 ii_3 dX11_init_38 (Nat.le_of_ble_eq_true rfl) (Nat.le_of_ble_eq_true rfl) (hl_r (by decide) hl_nil) (hs_r (by decide) hs_nil) ?_
  rw [nwO_C (p := 102) rfl]
  have hC7 := hC6.new (p := 102) (by decide) (by decide)
  refine a_dup F dX11_init_41 rfl ?_
  refine a_callNS (b := 102) (As := []) (st := [.ref 102, .ref 100]) F S (c_3_init (xl X) (P := (up1 (up2 (up2 (up2 (up1 P0 100 (fun _ => none)) 100 0 (some 120)) 100 1 (some 122)) 100 2 (some 130)) 102 (fun _ => none))) (O := zO) zI zI zJ (by decide) (by decide) hC7 ) mn_11_28 rfl im_yX3_init (by decide) rfl dX11_init_42 (by decide) (Nat.le_of_ble_eq_true rfl) (Nat.le_of_ble_eq_true rfl) (hl_r (by decide) hl_nil) (hs_r (by decide) (hs_r (by decide) hs_nil)) ?_
  rintro _ _ _ ⟨rfl, rfl, rfl, hCx⟩ _
  have eP : (up2 (up1 (up2 (up2 (up2 (up1 P0 100 (fun _ => none)) 100 0 (some 120)) 100 1 (some 122)) 100 2 (some 130)) 102 (fun _ => none)) 102 0 (some 103)) = (up2 (up2 (up2 (up1 P0 100 (fun _ => none)) 100 0 (some 120)) 100 1 (some 122)) 100 2 (some 130)) := puts_fin (L := [(0, 103)]) (by show P0 102 = _; exact P0_102)
  rw [eP] at hCx ⊢
  rw [up1_i0 (f := zO) (p := 103) (r := fun _ => none) rfl] at hCx ⊢
  have hC8 := hCx
  clear hCx
  refine a_putF F hn9 fl_11_29 rfl rfl rfl (fun _ => rfl) (fun _ => rfl) (by decide) rfl dX11_init_45 ?_
  have hC9 := hC8.put (p := 100) (k := 3) (b := 102) (by decide)
  refine a_aload_n F 0 dX11_init_48 rfl rfl ?_
  refine a_new (ci := 5) (p := 104) F (by decide) rfl (hC9.no (by decide)) uw5 cl_11_33 it_5 ii_5 dX11_init_49 (Nat.le_of_ble_eq_true rfl) (Nat.le_of_ble_eq_true rfl) (hl_r (by decide) hl_nil) (hs_r (by decide) hs_nil) ?_
  rw [nwO_C (p := 104) rfl]
  have hC10 := hC9.new (p := 104) (by decide) (by decide)
  refine a_dup F dX11_init_52 rfl ?_
  refine a_aload_n F 0 dX11_init_53 rfl rfl ?_
  refine a_getr (b := 120) F fl_11_10 rfl (by decide) rfl rfl dX11_init_54 ?_
  refine a_callI (b := 104) (As := [.ref 120]) (st := [.ref 104, .ref 100]) F (c_5_init (xl X) (P := (up1 (up2 (up2 (up2 (up2 (up1 P0 100 (fun _ => none)) 100 0 (some 120)) 100 1 (some 122)) 100 2 (some 130)) 100 3 (some 102)) 104 (fun _ => none))) (O := zO) zI zI zJ (by decide) (by decide) hC10 ) ml_11_35 rfl im_yX5_init (by decide) rfl dX11_init_57 (by decide) (Nat.le_of_ble_eq_true rfl) (Nat.le_of_ble_eq_true rfl) (hl_r (by decide) hl_nil) (hs_r (by decide) (hs_r (by decide) hs_nil)) ?_
  rintro _ _ _ ⟨rfl, rfl, rfl, hCx⟩ _
  have eP : (up2 (up1 (up2 (up2 (up2 (up2 (up1 P0 100 (fun _ => none)) 100 0 (some 120)) 100 1 (some 122)) 100 2 (some 130)) 100 3 (some 102)) 104 (fun _ => none)) 104 0 (some 120)) = (up2 (up2 (up2 (up2 (up1 P0 100 (fun _ => none)) 100 0 (some 120)) 100 1 (some 122)) 100 2 (some 130)) 100 3 (some 102)) := puts_fin (L := [(0, 120)]) (by show P0 104 = _; exact P0_104)
  rw [eP] at hCx ⊢
  have hC11 := hCx
  clear hCx
  refine a_putF F hn9 fl_11_38 rfl rfl rfl (fun _ => rfl) (fun _ => rfl) (by decide) rfl dX11_init_60 ?_
  have hC12 := hC11.put (p := 100) (k := 4) (b := 104) (by decide)
  refine a_aload_n F 0 dX11_init_63 rfl rfl ?_
  refine a_new (ci := 9) (p := 106) F (by decide) rfl (hC12.no (by decide)) uw9 cl_11_42 it_9 ii_9 dX11_init_64 (Nat.le_of_ble_eq_true rfl) (Nat.le_of_ble_eq_true rfl) (hl_r (by decide) hl_nil) (hs_r (by decide) hs_nil) ?_
  rw [nwO_C (p := 106) rfl]
  have hC13 := hC12.new (p := 106) (by decide) (by decide)
  refine a_dup F dX11_init_67 rfl ?_
  refine a_aload_n F 0 dX11_init_68 rfl rfl ?_
  refine a_getr (b := 104) F fl_11_38 rfl (by decide) rfl rfl dX11_init_69 ?_
  refine a_callIS (b := 106) (As := [.ref 104]) (st := [.ref 106, .ref 100]) F S (c_9_init (xl X) (P := (up1 (up2 (up2 (up2 (up2 (up2 (up1 P0 100 (fun _ => none)) 100 0 (some 120)) 100 1 (some 122)) 100 2 (some 130)) 100 3 (some 102)) 100 4 (some 104)) 106 (fun _ => none))) (O := zO) (up2 zI 104 8 (-1)) zI zJ (by decide) (by decide) (by decide) (by decide) (by decide) (by decide) (by decide) hC13 (by show P0 132 = _; exact P0_ho (by decide) (by decide))) ml_11_44 rfl im_yX9_init (by decide) rfl dX11_init_72 (by decide) (Nat.le_of_ble_eq_true rfl) (Nat.le_of_ble_eq_true rfl) (hl_r (by decide) hl_nil) (hs_r (by decide) (hs_r (by decide) hs_nil)) ?_
  rintro _ _ _ ⟨rfl, rfl, rfl, hCx⟩ _
  have eP : (up2 (up2 (up2 (up2 (up2 (up1 (up2 (up2 (up2 (up2 (up2 (up1 P0 100 (fun _ => none)) 100 0 (some 120)) 100 1 (some 122)) 100 2 (some 130)) 100 3 (some 102)) 100 4 (some 104)) 106 (fun _ => none)) 106 1 (some 132)) 106 2 (some 107)) 106 3 (some 108)) 106 4 (some 109)) 106 0 (some 104)) = (up2 (up2 (up2 (up2 (up2 (up1 P0 100 (fun _ => none)) 100 0 (some 120)) 100 1 (some 122)) 100 2 (some 130)) 100 3 (some 102)) 100 4 (some 104)) := puts_fin (L := [(1, 132), (2, 107), (3, 108), (4, 109), (0, 104)]) (by show P0 106 = _; exact P0_106)
  rw [eP] at hCx ⊢
  rw [up1_i0 (f := (up2 zI 104 8 (-1))) (p := 132) (r := fun _ => 0) rfl]
  rw [up1_i0 (f := zI) (p := 133) (r := fun _ => 0) rfl]
  rw [up1_i0 (f := zI) (p := 107) (r := fun _ => 0) rfl]
  rw [up1_i0 (f := zI) (p := 108) (r := fun _ => 0) rfl]
  rw [up1_i0 (f := zI) (p := 109) (r := fun _ => 0) rfl]
  have hC14 := hCx
  clear hCx
  refine a_putF F hn9 fl_11_47 rfl rfl rfl (fun _ => rfl) (fun _ => rfl) (by decide) rfl dX11_init_75 ?_
  have hC15 := hC14.put (p := 100) (k := 5) (b := 106) (by decide)
  refine a_aload_n F 0 dX11_init_78 rfl rfl ?_
  refine a_new (ci := 6) (p := 110) F (by decide) rfl (hC15.no (by decide)) uw6 cl_11_51 it_6 ii_6 dX11_init_79 (Nat.le_of_ble_eq_true rfl) (Nat.le_of_ble_eq_true rfl) (hl_r (by decide) hl_nil) (hs_r (by decide) hs_nil) ?_
  rw [nwO_C (p := 110) rfl]
  have hC16 := hC15.new (p := 110) (by decide) (by decide)
  refine a_dup F dX11_init_82 rfl ?_
  refine a_aload_n F 0 dX11_init_83 rfl rfl ?_
  refine a_getr (b := 130) F fl_11_22 rfl (by decide) rfl rfl dX11_init_84 ?_
  refine a_callI (b := 110) (As := [.ref 130]) (st := [.ref 110, .ref 100]) F (c_6_init (xl X) (P := (up1 (up2 (up2 (up2 (up2 (up2 (up2 (up1 P0 100 (fun _ => none)) 100 0 (some 120)) 100 1 (some 122)) 100 2 (some 130)) 100 3 (some 102)) 100 4 (some 104)) 100 5 (some 106)) 110 (fun _ => none))) (O := zO) (up2 zI 104 8 (-1)) zI zJ (by decide) (by decide) (by decide) (by decide) (by decide) (by decide) hC16 ) ml_11_53 rfl im_yX6_init (by decide) rfl dX11_init_87 (by decide) (Nat.le_of_ble_eq_true rfl) (Nat.le_of_ble_eq_true rfl) (hl_r (by decide) hl_nil) (hs_r (by decide) (hs_r (by decide) hs_nil)) ?_
  rintro _ _ _ ⟨rfl, rfl, rfl, hCx⟩ _
  have eP : (up2 (up2 (up2 (up2 (up2 (up1 (up2 (up2 (up2 (up2 (up2 (up2 (up1 P0 100 (fun _ => none)) 100 0 (some 120)) 100 1 (some 122)) 100 2 (some 130)) 100 3 (some 102)) 100 4 (some 104)) 100 5 (some 106)) 110 (fun _ => none)) 110 1 (some 111)) 110 2 (some 112)) 110 3 (some 300)) 110 4 (some 301)) 110 0 (some 130)) = (up2 (up2 (up2 (up2 (up2 (up2 (up1 P0 100 (fun _ => none)) 100 0 (some 120)) 100 1 (some 122)) 100 2 (some 130)) 100 3 (some 102)) 100 4 (some 104)) 100 5 (some 106)) := puts_fin (L := [(1, 111), (2, 112), (3, 300), (4, 301), (0, 130)]) (by show P0 110 = _; exact P0_110)
  rw [eP] at hCx ⊢
  rw [up1_i0 (f := zI) (p := 112) (r := fun _ => 0) rfl]
  rw [up1_i0 (f := zI) (p := 301) (r := fun _ => 0) rfl]
  rw [up1_i0 (f := zJ) (p := 111) (r := fun _ => 0) rfl]
  rw [up1_i0 (f := zJ) (p := 300) (r := fun _ => 0) rfl]
  have hC17 := hCx
  clear hCx
  refine a_putF F hn9 fl_11_56 rfl rfl rfl (fun _ => rfl) (fun _ => rfl) (by decide) rfl dX11_init_90 ?_
  have hC18 := hC17.put (p := 100) (k := 6) (b := 110) (by decide)
  refine a_aload_n F 0 dX11_init_93 rfl rfl ?_
  refine a_new (ci := 2) (p := 114) F (by decide) rfl (hC18.no (by decide)) uw2 cl_11_60 it_2 ii_2 dX11_init_94 (Nat.le_of_ble_eq_true rfl) (Nat.le_of_ble_eq_true rfl) (hl_r (by decide) hl_nil) (hs_r (by decide) hs_nil) ?_
  rw [nwO_C (p := 114) rfl]
  have hC19 := hC18.new (p := 114) (by decide) (by decide)
  refine a_dup F dX11_init_97 rfl ?_
  refine a_callN (b := 114) (As := []) (st := [.ref 114, .ref 100]) F S (c_2_init (xl X) (P := (up1 (up2 (up2 (up2 (up2 (up2 (up2 (up2 (up1 P0 100 (fun _ => none)) 100 0 (some 120)) 100 1 (some 122)) 100 2 (some 130)) 100 3 (some 102)) 100 4 (some 104)) 100 5 (some 106)) 100 6 (some 110)) 114 (fun _ => none))) (O := zO) (up2 zI 104 8 (-1)) zI zJ (by decide) (by decide) hC19 ) mn_11_62 rfl im_yX2_init (by decide) rfl dX11_init_98 (by decide) (Nat.le_of_ble_eq_true rfl) (Nat.le_of_ble_eq_true rfl) (hl_r (by decide) hl_nil) (hs_r (by decide) (hs_r (by decide) hs_nil)) ?_
  rintro _ _ _ ⟨rfl, rfl, rfl, hCx⟩ _
  have eP : (up2 (up1 (up2 (up2 (up2 (up2 (up2 (up2 (up2 (up1 P0 100 (fun _ => none)) 100 0 (some 120)) 100 1 (some 122)) 100 2 (some 130)) 100 3 (some 102)) 100 4 (some 104)) 100 5 (some 106)) 100 6 (some 110)) 114 (fun _ => none)) 114 0 (some 115)) = (up2 (up2 (up2 (up2 (up2 (up2 (up2 (up1 P0 100 (fun _ => none)) 100 0 (some 120)) 100 1 (some 122)) 100 2 (some 130)) 100 3 (some 102)) 100 4 (some 104)) 100 5 (some 106)) 100 6 (some 110)) := puts_fin (L := [(0, 115)]) (by show P0 114 = _; exact P0_114)
  rw [eP] at hCx ⊢
  rw [up1_i0 (f := zI) (p := 115) (r := fun _ => 0) rfl]
  have hC20 := hCx
  clear hCx
  refine a_putF F hn9 fl_11_63 rfl rfl rfl (fun _ => rfl) (fun _ => rfl) (by decide) rfl dX11_init_101 ?_
  have hC21 := hC20.put (p := 100) (k := 7) (b := 114) (by decide)
  refine a_aload_n F 0 dX11_init_104 rfl rfl ?_
  refine a_new (ci := 8) (p := 116) F (by decide) rfl (hC21.no (by decide)) uw8 cl_11_67 it_8 ii_8 dX11_init_105 (Nat.le_of_ble_eq_true rfl) (Nat.le_of_ble_eq_true rfl) (hl_r (by decide) hl_nil) (hs_r (by decide) hs_nil) ?_
  rw [nwO_C (p := 116) rfl]
  have hC22 := hC21.new (p := 116) (by decide) (by decide)
  refine a_dup F dX11_init_108 rfl ?_
  refine a_callIS (b := 116) (As := []) (st := [.ref 116, .ref 100]) F S (c_8_init (xl X) (P := (up1 (up2 (up2 (up2 (up2 (up2 (up2 (up2 (up2 (up1 P0 100 (fun _ => none)) 100 0 (some 120)) 100 1 (some 122)) 100 2 (some 130)) 100 3 (some 102)) 100 4 (some 104)) 100 5 (some 106)) 100 6 (some 110)) 100 7 (some 114)) 116 (fun _ => none))) (O := zO) (up2 (up2 (up2 (up2 zI 104 8 (-1)) 114 2 (-1)) 114 9 (-1)) 114 13 1) zI zJ (by decide) (by decide) (by decide) (by decide) (by decide) (by decide) (by decide) (by decide) (by decide) (by decide) (by decide) hC22 (by show P0 144 = _; exact P0_ho (by decide) (by decide)) (by show P0 146 = _; exact P0_ho (by decide) (by decide)) (by show P0 148 = _; exact P0_ho (by decide) (by decide))) ml_11_69 rfl im_yX8_init (by decide) rfl dX11_init_109 (by decide) (Nat.le_of_ble_eq_true rfl) (Nat.le_of_ble_eq_true rfl) (hl_r (by decide) hl_nil) (hs_r (by decide) (hs_r (by decide) hs_nil)) ?_
  rintro _ _ _ ⟨rfl, A8, J8, rfl, rfl, hCx, hA8, hR8, hJ8, hW8⟩ _
  have eP : (up2 (up2 (up2 (up2 (up2 (up2 (up2 (up1 (up2 (up2 (up2 (up2 (up2 (up2 (up2 (up2 (up1 P0 100 (fun _ => none)) 100 0 (some 120)) 100 1 (some 122)) 100 2 (some 130)) 100 3 (some 102)) 100 4 (some 104)) 100 5 (some 106)) 100 6 (some 110)) 100 7 (some 114)) 116 (fun _ => none)) 116 0 (some 117)) 116 1 (some 118)) 116 2 (some 119)) 116 3 (some 124)) 116 4 (some 144)) 116 5 (some 146)) 116 6 (some 148)) = (up2 (up2 (up2 (up2 (up2 (up2 (up2 (up2 (up1 P0 100 (fun _ => none)) 100 0 (some 120)) 100 1 (some 122)) 100 2 (some 130)) 100 3 (some 102)) 100 4 (some 104)) 100 5 (some 106)) 100 6 (some 110)) 100 7 (some 114)) := puts_fin (L := [(0, 117), (1, 118), (2, 119), (3, 124), (4, 144), (5, 146), (6, 148)]) (by show P0 116 = _; exact P0_116)
  rw [eP] at hCx ⊢
  rw [up1_i0 (f := zO) (p := 117) (r := fun _ => none) rfl] at hCx ⊢
  rw [up1_i0 (f := (up2 (up2 (up2 (up2 zI 104 8 (-1)) 114 2 (-1)) 114 9 (-1)) 114 13 1)) (p := 144) (r := fun _ => 0) rfl]
  rw [up1_i0 (f := (up2 (up2 (up2 (up2 zI 104 8 (-1)) 114 2 (-1)) 114 9 (-1)) 114 13 1)) (p := 146) (r := fun _ => 0) rfl]
  rw [up1_i0 (f := (up2 (up2 (up2 (up2 zI 104 8 (-1)) 114 2 (-1)) 114 9 (-1)) 114 13 1)) (p := 148) (r := fun _ => 0) rfl]
  have hC23 := hCx
  clear hCx
  refine a_putF F hn9 fl_11_70 rfl rfl rfl (fun _ => rfl) (fun _ => rfl) (by decide) rfl dX11_init_112 ?_
  have hC24 := hC23.put (p := 100) (k := 8) (b := 116) (by decide)
  have a127 : A8 127 = fun _ => 0 := hA8 127 (by decide)
  have j141 : J8 141 = fun _ => 0 := hJ8 141 (by decide) (by decide) (by decide) (by decide) (by decide)
  have j143 : J8 143 = fun _ => 0 := hJ8 143 (by decide) (by decide) (by decide) (by decide) (by decide)
  refine a_aload_n F 0 dX11_init_115 rfl rfl ?_
  refine a_new (ci := 4) (p := 126) F (by decide) rfl (hC24.no (by decide)) uw4 cl_11_74 it_4 ii_4 dX11_init_116 (Nat.le_of_ble_eq_true rfl) (Nat.le_of_ble_eq_true rfl) (hl_r (by decide) hl_nil) (hs_r (by decide) hs_nil) ?_
  rw [nwO_C (p := 126) rfl]
  have hC25 := hC24.new (p := 126) (by decide) (by decide)
  refine a_dup F dX11_init_119 rfl ?_
  refine a_aload_n F 0 dX11_init_120 rfl rfl ?_
  refine a_getr (b := 122) F fl_11_16 rfl (by decide) rfl rfl dX11_init_121 ?_
  refine a_callIS (b := 126) (As := [.ref 122]) (st := [.ref 126, .ref 100]) F S (c_4_init (xl X) (P := (up1 (up2 (up2 (up2 (up2 (up2 (up2 (up2 (up2 (up2 (up1 P0 100 (fun _ => none)) 100 0 (some 120)) 100 1 (some 122)) 100 2 (some 130)) 100 3 (some 102)) 100 4 (some 104)) 100 5 (some 106)) 100 6 (some 110)) 100 7 (some 114)) 100 8 (some 116)) 126 (fun _ => none))) (O := zO) (up2 (up2 (up2 (up2 zI 104 8 (-1)) 114 2 (-1)) 114 9 (-1)) 114 13 1) A8 J8 (by decide) (by decide) (by decide) (by decide) (by decide) (by decide) (by decide) hC25 (by show P0 140 = _; exact P0_ho (by decide) (by decide)) (by show P0 142 = _; exact P0_ho (by decide) (by decide))) ml_11_76 rfl im_yX4_init (by decide) rfl dX11_init_124 (by decide) (Nat.le_of_ble_eq_true rfl) (Nat.le_of_ble_eq_true rfl) (hl_r (by decide) hl_nil) (hs_r (by decide) (hs_r (by decide) hs_nil)) ?_
  rintro _ _ _ ⟨rfl, rfl, rfl, hCx⟩ _
  have eP : (up2 (up2 (up2 (up2 (up1 (up2 (up2 (up2 (up2 (up2 (up2 (up2 (up2 (up2 (up1 P0 100 (fun _ => none)) 100 0 (some 120)) 100 1 (some 122)) 100 2 (some 130)) 100 3 (some 102)) 100 4 (some 104)) 100 5 (some 106)) 100 6 (some 110)) 100 7 (some 114)) 100 8 (some 116)) 126 (fun _ => none)) 126 1 (some 140)) 126 2 (some 127)) 126 3 (some 142)) 126 0 (some 122)) = (up2 (up2 (up2 (up2 (up2 (up2 (up2 (up2 (up2 (up1 P0 100 (fun _ => none)) 100 0 (some 120)) 100 1 (some 122)) 100 2 (some 130)) 100 3 (some 102)) 100 4 (some 104)) 100 5 (some 106)) 100 6 (some 110)) 100 7 (some 114)) 100 8 (some 116)) := puts_fin (L := [(1, 140), (2, 127), (3, 142), (0, 122)]) (by show P0 126 = _; exact P0_126)
  rw [eP] at hCx ⊢
  rw [up1_i0 (f := (up2 (up2 (up2 (up2 zI 104 8 (-1)) 114 2 (-1)) 114 9 (-1)) 114 13 1)) (p := 140) (r := fun _ => 0) rfl, up1_i0 (f := (up2 (up2 (up2 (up2 zI 104 8 (-1)) 114 2 (-1)) 114 9 (-1)) 114 13 1)) (p := 142) (r := fun _ => 0) rfl, up1_i0 (f := A8) (p := 127) a127, up1_i0 (f := J8) (p := 141) j141, up1_i0 (f := J8) (p := 143) j143]
  have hC26 := hCx
  clear hCx
  refine a_putF F hn9 fl_11_77 rfl rfl rfl (fun _ => rfl) (fun _ => rfl) (by decide) rfl dX11_init_127 ?_
  have hC27 := hC26.put (p := 100) (k := 9) (b := 126) (by decide)
  have eP : (up2 (up2 (up2 (up2 (up2 (up2 (up2 (up2 (up2 (up2 (up1 P0 100 (fun _ => none)) 100 0 (some 120)) 100 1 (some 122)) 100 2 (some 130)) 100 3 (some 102)) 100 4 (some 104)) 100 5 (some 106)) 100 6 (some 110)) 100 7 (some 114)) 100 8 (some 116)) 100 9 (some 126)) = P0 := puts_fin (L := [(0, 120), (1, 122), (2, 130), (3, 102), (4, 104), (5, 106), (6, 110), (7, 114), (8, 116), (9, 126)]) P0_100
  have hC99 := hC27
  rw [eP] at hC99
  show WA X (mC (up2 (up2 (up2 (up2 (up2 (up2 (up2 (up2 (up2 (up2 (up1 P0 100 (fun _ => none)) 100 0 (some 120)) 100 1 (some 122)) 100 2 (some 130)) 100 3 (some 102)) 100 4 (some 104)) 100 5 (some 106)) 100 6 (some 110)) 100 7 (some 114)) 100 8 (some 116)) 100 9 (some 126)) zO (up2 (up2 (up2 (up2 zI 104 8 (-1)) 114 2 (-1)) 114 9 (-1)) 114 13 1) A8 J8) _ _ _ 130 _ _
  rw [eP]
  have hB9 : inB ([100] ++ [120] ++ [121] ++ [122] ++ [123] ++ [130] ++ [131] ++ [102] ++ [103] ++ [104] ++ [106] ++ [132] ++ [133] ++ [107] ++ [108] ++ [109] ++ [110] ++ [111] ++ [112] ++ [300] ++ [301] ++ [114] ++ [115] ++ [116] ++ [117] ++ [118] ++ [119] ++ [124] ++ [144] ++ [145] ++ [146] ++ [147] ++ [148] ++ [149] ++ [126] ++ [140] ++ [141] ++ [127] ++ [142] ++ [143]) := by intro q hq; revert q; decide
  refine a_aload_n F 0 dX11_init_130 rfl rfl ?_
  refine a_getr (b := 130) F fl_11_22 rfl (by decide) rfl rfl dX11_init_131 ?_
  refine a_callVS (b := 130) (As := []) (st := []) (ci := 0) F S (c_0_setUp (xl X) P0_la (up2 (up2 (up2 (up2 zI 104 8 (-1)) 114 2 (-1)) 114 9 (-1)) 114 13 1) A8 J8 hB9 130 rfl (by decide) (by decide)) ml_11_81 im_yX0_setUp se_yX0_setUp (by decide) (by decide) rfl (by decide) rfl rfl dX11_init_134 (by decide) (Nat.le_of_ble_eq_true rfl) (Nat.le_of_ble_eq_true rfl) (hl_r (by decide) hl_nil) hs_nil ?_
  rintro _ _ _ ⟨rfl, rfl, R9, rfl, hR9⟩ _
  exact a_vret F E dX11_init_137 (Nat.le_of_ble_eq_true rfl) (Nat.le_of_ble_eq_true rfl) ⟨rfl, _, J8, rfl, rfl, hC99, fun q h1 h2 => by rw [up1_p h2]; exact hA8 q h1, by rw [up1_p (by decide)]; exact hR8, fun k hk => by rw [up1_s]; exact hR9 k hk, hJ8, hW8⟩
