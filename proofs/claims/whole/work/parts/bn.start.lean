/-! WHAT HOLDS AT THE START -/
theorem tn1 {w : Cond} (h : w ∈ tables_1_1) : w ∈ lw_tbl := List.mem_append_right _ (show w ∈ tables_1 from List.mem_append_left _ h)
theorem tn2 {w : Cond} (h : w ∈ tables_1_2) : w ∈ lw_tbl := List.mem_append_right _ (show w ∈ tables_1 from List.mem_append_right _ (List.mem_append_left _ h))
theorem tn3 {w : Cond} (h : w ∈ tables_1_3) : w ∈ lw_tbl := List.mem_append_right _ (show w ∈ tables_1 from List.mem_append_right _ (List.mem_append_right _ (List.mem_append_left _ h)))
theorem tn4 {w : Cond} (h : w ∈ tables_1_4) : w ∈ lw_tbl := List.mem_append_right _ (show w ∈ tables_1 from List.mem_append_right _ (List.mem_append_right _ (List.mem_append_right _ (List.mem_append_left _ h))))
theorem tn5 {w : Cond} (h : w ∈ tables_1_5) : w ∈ lw_tbl := List.mem_append_right _ (show w ∈ tables_1 from List.mem_append_right _ (List.mem_append_right _ (List.mem_append_right _ (List.mem_append_right _ (List.mem_append_left _ h)))))
theorem tn6 {w : Cond} (h : w ∈ tables_1_6) : w ∈ lw_tbl := List.mem_append_right _ (show w ∈ tables_1 from List.mem_append_right _ (List.mem_append_right _ (List.mem_append_right _ (List.mem_append_right _ (List.mem_append_right _ (List.mem_append_left _ h))))))
theorem tn7 {w : Cond} (h : w ∈ tables_1_7) : w ∈ lw_tbl := List.mem_append_right _ (show w ∈ tables_1 from List.mem_append_right _ (List.mem_append_right _ (List.mem_append_right _ (List.mem_append_right _ (List.mem_append_right _ (List.mem_append_right _ (List.mem_append_left _ h)))))))
theorem tn8 {w : Cond} (h : w ∈ tables_1_8) : w ∈ lw_tbl := List.mem_append_right _ (show w ∈ tables_1 from List.mem_append_right _ (List.mem_append_right _ (List.mem_append_right _ (List.mem_append_right _ (List.mem_append_right _ (List.mem_append_right _ (List.mem_append_right _ (h))))))))
section
variable {args : Array Value} {s : State}
theorem rc_of {t : FieldType} (h : (Cond.arrayClass t).before args s = true) (ho : ∀ C, t ≠ .object C) : ∃ c : ClassId, ArrOfT s c t ∧ va_RA s c t := by
  obtain ⟨c, k, comp, h1, h2, h3⟩ := Cond.arrayClass_spec h
  refine ⟨c, fun N z => ⟨(fun q hq => by cases hq), k, h2, comp, h3⟩, ?_⟩
  cases t <;> first | exact h1 | exact absurd rfl (ho _)
theorem ro_of {C : String} (h : va_AO C s) : ∃ c : ClassId, ArrOfT s c (.object C) ∧ va_RA s c (.object C) := by
  obtain ⟨comp, c, k, h1, h2, h3, h4, h5⟩ := Cond.arrayOver_spec h
  exact ⟨c, fun N z => ⟨(fun q hq => by cases hq), k, h3, comp, h4⟩, k, comp, h3, h4, h1, h5⟩
theorem st_G (hts : ∀ w ∈ lw_tbl, w.before args s = true) : ∀ w ∈ lwG, w.before args s = true := fun w h => hts w (List.mem_filter.mp h).1
theorem st_AO (hts : ∀ w ∈ lw_tbl, w.before args s = true) : va_AO RX0 s ∧ va_AO RX7 s := ⟨va_AO.of (hts (.arrayOver (.object "BearHouse$Board")) (tn1 (List.mem_of_getElem? (i := 73) (by decide +kernel)))), va_AO.of (hts (.arrayOver (.object "BearHouse$Shelf")) (tn2 (List.mem_of_getElem? (i := 10) (by decide +kernel))))⟩
theorem st_K (hts : ∀ w ∈ lw_tbl, w.before args s = true) : ∃ (D : va_G) (cy : Nat → ClassId), va_K D vwCl (tyL cy) s := by
  have hG := st_G hts
  obtain ⟨c0, i0, h0⟩ := u_known (C := RR 0) (T := TT 0) (N := NN 0) (n := NN 0) hG uw0 (hG _ it_0)
  obtain ⟨c1, i1, h1⟩ := u_known (C := RR 1) (T := TT 1) (N := NN 1) (n := NN 1) hG uw1 (hG _ it_1)
  obtain ⟨c2, i2, h2⟩ := u_known (C := RR 2) (T := TT 2) (N := NN 2) (n := NN 2) hG uw2 (hG _ it_2)
  obtain ⟨c3, i3, h3⟩ := u_known (C := RR 3) (T := TT 3) (N := NN 3) (n := NN 3) hG uw3 (hG _ it_3)
  obtain ⟨c4, i4, h4⟩ := u_known (C := RR 4) (T := TT 4) (N := NN 4) (n := NN 4) hG uw4 (hG _ it_4)
  obtain ⟨c5, i5, h5⟩ := u_known (C := RR 5) (T := TT 5) (N := NN 5) (n := NN 5) hG uw5 (hG _ it_5)
  obtain ⟨c6, i6, h6⟩ := u_known (C := RR 6) (T := TT 6) (N := NN 6) (n := NN 6) hG uw6 (hG _ it_6)
  obtain ⟨c7, i7, h7⟩ := u_known (C := RR 7) (T := TT 7) (N := NN 7) (n := NN 7) hG uw7 (hG _ it_7)
  obtain ⟨c8, i8, h8⟩ := u_known (C := RR 8) (T := TT 8) (N := NN 8) (n := NN 8) hG uw8 (hG _ it_8)
  obtain ⟨c9, i9, h9⟩ := u_known (C := RR 9) (T := TT 9) (N := NN 9) (n := NN 9) hG uw9 (hG _ it_9)
  obtain ⟨c10, i10, h10⟩ := u_known (C := RR 10) (T := TT 10) (N := NN 10) (n := NN 10) hG uw10 (hG _ it_10)
  obtain ⟨c11, i11, h11⟩ := u_known (C := RR 11) (T := TT 11) (N := NN 11) (n := NN 11) hG uw11 (hG _ it_11)
  obtain ⟨c12, i12, h12⟩ := u_known (C := RR 12) (T := TT 12) (N := NN 12) (n := NN 12) hG uw12 (hG _ it_12)
  obtain ⟨a13, b13⟩ := rc_of (t := .int) (hts (.arrayClass .int) (tn1 (List.mem_of_getElem? (i := 48) (by decide +kernel)))) (fun C h => by cases h)
  obtain ⟨a14, b14⟩ := rc_of (t := .long) (hts (.arrayClass .long) (tn1 (List.mem_of_getElem? (i := 191) (by decide +kernel)))) (fun C h => by cases h)
  obtain ⟨a15, b15⟩ := rc_of (t := .boolean) (hts (.arrayClass .boolean) (tn1 (List.mem_of_getElem? (i := 154) (by decide +kernel)))) (fun C h => by cases h)
  obtain ⟨a16, b16⟩ := ro_of (st_AO hts).1
  obtain ⟨a17, b17⟩ := ro_of (st_AO hts).2
  refine ⟨(fun k => match k with | 0 => c0 | 1 => c1 | 2 => c2 | 3 => c3 | 4 => c4 | 5 => c5 | 6 => c6 | 7 => c7 | 8 => c8 | 9 => c9 | 10 => c10 | 11 => c11 | _ => c12, fun k => match k with | 0 => i0 | 1 => i1 | 2 => i2 | 3 => i3 | 4 => i4 | 5 => i5 | 6 => i6 | 7 => i7 | 8 => i8 | 9 => i9 | 10 => i10 | 11 => i11 | _ => i12), fun k => match k with | 13 => a13 | 14 => a14 | 15 => a15 | 16 => a16 | _ => a17, ?_, ?_⟩
  · intro k q hq
    match k, hq with
    | 0, hq => cases hq; exact h0
    | 1, hq => cases hq; exact h1
    | 2, hq => cases hq; exact h2
    | 3, hq => cases hq; exact h3
    | 4, hq => cases hq; exact h4
    | 5, hq => cases hq; exact h5
    | 6, hq => cases hq; exact h6
    | 7, hq => cases hq; exact h7
    | 8, hq => cases hq; exact h8
    | 9, hq => cases hq; exact h9
    | 10, hq => cases hq; exact h10
    | 11, hq => cases hq; exact h11
    | 12, hq => cases hq; exact h12
    | k + 13, hq => simp [vwCl] at hq
  · intro k q hq
    match k, hq with
    | 0, hq => cases hq; exact b13
    | 1, hq => cases hq; exact b14
    | 2, hq => cases hq; exact b15
    | 3, hq => cases hq; exact b16
    | 4, hq => cases hq; exact b17
    | k + 5, hq => simp [tyL] at hq
theorem st_nw (hts : ∀ w ∈ lw_tbl, w.before args s = true) : ∀ x ∈ nwL, va_Nw (.methodLinkNest x.1 x.2.1 x.2.2 "BearHouse") s := List.forall_mem_cons.mpr ⟨va_Nw.of rfl (hts (Cond.methodLinkNest "BearHouse" 9 ⟨"BearHouse$Bytes", "<init>", "()V"⟩ "BearHouse") (tn1 (List.mem_of_getElem? (i := 35) (by decide +kernel)))), List.forall_mem_cons.mpr ⟨va_Nw.of rfl (hts (Cond.methodLinkNest "BearHouse" 21 ⟨"BearHouse$Board", "<init>", "()V"⟩ "BearHouse") (tn1 (List.mem_of_getElem? (i := 51) (by decide +kernel)))), List.forall_mem_cons.mpr ⟨va_Nw.of rfl (hts (Cond.methodLinkNest "BearHouse" 28 ⟨"BearHouse$Past", "<init>", "()V"⟩ "BearHouse") (tn1 (List.mem_of_getElem? (i := 68) (by decide +kernel)))), List.forall_mem_cons.mpr ⟨va_Nw.of rfl (hts (Cond.methodLinkNest "BearHouse$Texts" 11 ⟨"BearHouse$Board", "<init>", "()V"⟩ "BearHouse") (tn1 (List.mem_of_getElem? (i := 129) (by decide +kernel)))), List.forall_mem_cons.mpr ⟨va_Nw.of rfl (hts (Cond.methodLinkNest "BearHouse" 62 ⟨"BearHouse$Match", "<init>", "()V"⟩ "BearHouse") (tn1 (List.mem_of_getElem? (i := 194) (by decide +kernel)))), List.forall_mem_cons.mpr ⟨va_Nw.of rfl (hts (Cond.methodLinkNest "BearHouse$Stands" 30 ⟨"BearHouse$Whole", "<init>", "()V"⟩ "BearHouse") (tn2 (List.mem_of_getElem? (i := 13) (by decide +kernel)))), List.forall_mem_cons.mpr ⟨va_Nw.of rfl (hts (Cond.methodLinkNest "BearHouse$Printer" 9 ⟨"BearHouse$Whole", "<init>", "()V"⟩ "BearHouse") (tn2 (List.mem_of_getElem? (i := 73) (by decide +kernel)))), List.forall_mem_cons.mpr ⟨va_Nw.of rfl (hts (Cond.methodLinkNest "BearHouse$Past" 19 ⟨"BearHouse$Board", "<init>", "()V"⟩ "BearHouse") (tn3 (List.mem_of_getElem? (i := 131) (by decide +kernel)))), List.forall_mem_cons.mpr ⟨va_Nw.of rfl (hts (Cond.methodLinkNest "BearHouse" 241 ⟨"BearHouse$Stands", "howMany", "(III)I"⟩ "BearHouse") (tn5 (List.mem_of_getElem? (i := 35) (by decide +kernel)))), List.forall_mem_cons.mpr ⟨va_Nw.of rfl (hts (Cond.methodLinkNest "BearHouse$Stands" 120 ⟨"BearHouse$Shelf", "<init>", "()V"⟩ "BearHouse") (tn5 (List.mem_of_getElem? (i := 136) (by decide +kernel)))), (fun _ h => absurd h List.not_mem_nil)⟩⟩⟩⟩⟩⟩⟩⟩⟩⟩
theorem st_str {k : Nat} {tx : String} (h1 : (Cond.stringRef "BearHouse" k tx).before args s = true) (h2 : (Cond.exactly (.string "BearHouse" k) "java/lang/String").before args s = true) : ∃ sa, vk_R "BearHouse" k tx sa s := by
  obtain ⟨a, c, cA, kA, q1, -⟩ := Cond.exactly_spec h2
  exact ⟨a, vk_R.of h1 q1⟩
theorem st_sx (hts : ∀ w ∈ lw_tbl, w.before args s = true) (hgv : (Jvm.Cond.and given_1 narrow_1).before args s = true) : ∀ x ∈ sxL, ∃ sa, vk_R "BearHouse" x.1 x.2 sa s := List.forall_mem_cons.mpr ⟨st_str (hts (Cond.stringRef "BearHouse" 298 "the TAPE has not so many bytes") (tn3 (List.mem_of_getElem? (i := 8) (by decide +kernel)))) (flat_of_before _ hgv _ (by decide +kernel)), List.forall_mem_cons.mpr ⟨st_str (hts (Cond.stringRef "BearHouse" 101 "a match is under way") (tn3 (List.mem_of_getElem? (i := 44) (by decide +kernel)))) (flat_of_before _ hgv _ (by decide +kernel)), List.forall_mem_cons.mpr ⟨st_str (hts (Cond.stringRef "BearHouse" 315 "no such PLAYER or POINT") (tn3 (List.mem_of_getElem? (i := 156) (by decide +kernel)))) (flat_of_before _ hgv _ (by decide +kernel)), List.forall_mem_cons.mpr ⟨st_str (hts (Cond.stringRef "BearHouse" 151 "no such what") (tn3 (List.mem_of_getElem? (i := 180) (by decide +kernel)))) (flat_of_before _ hgv _ (by decide +kernel)), List.forall_mem_cons.mpr ⟨st_str (hts (Cond.stringRef "BearHouse" 300 "dice are 1 to 6") (tn3 (List.mem_of_getElem? (i := 191) (by decide +kernel)))) (flat_of_before _ hgv _ (by decide +kernel)), List.forall_mem_cons.mpr ⟨st_str (hts (Cond.stringRef "BearHouse" 306 "these dice are not due") (tn3 (List.mem_of_getElem? (i := 204) (by decide +kernel)))) (flat_of_before _ hgv _ (by decide +kernel)), List.forall_mem_cons.mpr ⟨st_str (hts (Cond.stringRef "BearHouse" 310 "no such RESULT") (tn4 (List.mem_of_getElem? (i := 72) (by decide +kernel)))) (flat_of_before _ hgv _ (by decide +kernel)), List.forall_mem_cons.mpr ⟨st_str (hts (Cond.stringRef "BearHouse" 197 "a match is to 0 to 25 POINTS") (tn4 (List.mem_of_getElem? (i := 189) (by decide +kernel)))) (flat_of_before _ hgv _ (by decide +kernel)), List.forall_mem_cons.mpr ⟨st_str (hts (Cond.stringRef "BearHouse" 216 "no dice are due") (tn4 (List.mem_of_getElem? (i := 222) (by decide +kernel)))) (flat_of_before _ hgv _ (by decide +kernel)), List.forall_mem_cons.mpr ⟨st_str (hts (Cond.stringRef "BearHouse" 221 "there is no double") (tn4 (List.mem_of_getElem? (i := 234) (by decide +kernel)))) (flat_of_before _ hgv _ (by decide +kernel)), List.forall_mem_cons.mpr ⟨st_str (hts (Cond.stringRef "BearHouse" 226 "no double is to be answered") (tn5 (List.mem_of_getElem? (i := 2) (by decide +kernel)))) (flat_of_before _ hgv _ (by decide +kernel)), List.forall_mem_cons.mpr ⟨st_str (hts (Cond.stringRef "BearHouse" 234 "no game is over") (tn5 (List.mem_of_getElem? (i := 15) (by decide +kernel)))) (flat_of_before _ hgv _ (by decide +kernel)), List.forall_mem_cons.mpr ⟨st_str (hts (Cond.stringRef "BearHouse" 239 "LEVEL is 90") (tn5 (List.mem_of_getElem? (i := 34) (by decide +kernel)))) (flat_of_before _ hgv _ (by decide +kernel)), List.forall_mem_cons.mpr ⟨st_str (hts (Cond.stringRef "BearHouse" 321 "no STAND") (tn5 (List.mem_of_getElem? (i := 55) (by decide +kernel)))) (flat_of_before _ hgv _ (by decide +kernel)), List.forall_mem_cons.mpr ⟨st_str (hts (Cond.stringRef "BearHouse" 324 "not KNOWN") (tn5 (List.mem_of_getElem? (i := 63) (by decide +kernel)))) (flat_of_before _ hgv _ (by decide +kernel)), List.forall_mem_cons.mpr ⟨st_str (hts (Cond.stringRef "BearHouse" 266 "n is not 0 to 12") (tn5 (List.mem_of_getElem? (i := 195) (by decide +kernel)))) (flat_of_before _ hgv _ (by decide +kernel)), List.forall_mem_cons.mpr ⟨st_str (hts (Cond.stringRef "BearHouse" 281 "it may take more than 12 rolls") (tn5 (List.mem_of_getElem? (i := 210) (by decide +kernel)))) (flat_of_before _ hgv _ (by decide +kernel)), List.forall_mem_cons.mpr ⟨st_str (hts (Cond.stringRef "BearHouse" 285 "both have none left") (tn5 (List.mem_of_getElem? (i := 220) (by decide +kernel)))) (flat_of_before _ hgv _ (by decide +kernel)), (fun _ h => absurd h List.not_mem_nil)⟩⟩⟩⟩⟩⟩⟩⟩⟩⟩⟩⟩⟩⟩⟩⟩⟩⟩
theorem st_nc (hgv : (Jvm.Cond.and given_1 narrow_1).before args s = true) : ∀ x ∈ ncL, va_Nc x.1 x.2 s := List.forall_mem_cons.mpr ⟨va_Nc.of (flat_of_before _ hgv _ (by decide +kernel)), List.forall_mem_cons.mpr ⟨va_Nc.of (flat_of_before _ hgv _ (by decide +kernel)), List.forall_mem_cons.mpr ⟨va_Nc.of (flat_of_before _ hgv _ (by decide +kernel)), List.forall_mem_cons.mpr ⟨va_Nc.of (flat_of_before _ hgv _ (by decide +kernel)), (fun _ h => absurd h List.not_mem_nil)⟩⟩⟩⟩
theorem st_ex (hts : ∀ w ∈ lw_tbl, w.before args s = true) : exW s := List.forall_mem_cons.mpr ⟨va_Nw.of rfl (hts (Cond.castable "java/lang/IllegalArgumentException" "java/lang/IllegalArgumentException") (tn2 (List.mem_of_getElem? (i := 207) (by decide +kernel)))), List.forall_mem_cons.mpr ⟨va_Nw.of rfl (hts (Cond.castable "java/lang/IllegalStateException" "java/lang/IllegalStateException") (tn3 (List.mem_of_getElem? (i := 37) (by decide +kernel)))), List.forall_mem_cons.mpr ⟨va_Nw.of rfl (hts (Cond.castable "java/lang/IndexOutOfBoundsException" "java/lang/IndexOutOfBoundsException") (tn3 (List.mem_of_getElem? (i := 149) (by decide +kernel)))), List.forall_mem_cons.mpr ⟨va_Nw.of rfl (hts (Cond.castable "java/util/NoSuchElementException" "java/util/NoSuchElementException") (tn4 (List.mem_of_getElem? (i := 65) (by decide +kernel)))), List.forall_mem_cons.mpr ⟨va_Nw.of rfl (hts (Cond.castable "java/lang/UnsupportedOperationException" "java/lang/UnsupportedOperationException") (tn5 (List.mem_of_getElem? (i := 213) (by decide +kernel)))), List.forall_mem_cons.mpr ⟨va_Nw.of rfl (hts (Cond.declares ⟨"java/lang/RuntimeException", "<init>", "(Ljava/lang/String;)V"⟩) (tn2 (List.mem_of_getElem? (i := 209) (by decide +kernel)))), List.forall_mem_cons.mpr ⟨va_Nw.of rfl (hts (Cond.declares ⟨"java/lang/Exception", "<init>", "(Ljava/lang/String;)V"⟩) (tn2 (List.mem_of_getElem? (i := 211) (by decide +kernel)))), List.forall_mem_cons.mpr ⟨va_Nw.of rfl (hts (Cond.declares ⟨"java/lang/Throwable", "<init>", "(Ljava/lang/String;)V"⟩) (tn2 (List.mem_of_getElem? (i := 213) (by decide +kernel)))), (fun _ h => absurd h List.not_mem_nil)⟩⟩⟩⟩⟩⟩⟩⟩
theorem st_stPt (hts : ∀ w ∈ lw_tbl, w.before args s = true) (hgv : (Jvm.Cond.and given_1 narrow_1).before args s = true) {A : Nat → Prop} (hA : ∀ a : Nat, a < s.heap.size → ¬ A a) : ∃ t, va_Z RX0 "START_POINTS" "[I" (.ref t) A s s.heap ∧ va_T .int t 4 (fun j => .int (stPt j)) A s s.heap := by
  obtain ⟨t, e, h⟩ := va_Tof (tm := .static "BearHouse$Board" "START_POINTS" "[I") (ty := .int) (N := 4) (f := fun j => .int (stPt j)) (A := A) (by decide) (flat_of_before _ hgv _ (by decide +kernel)) (va_eqt (flat_of_before _ hgv (.eq (.length (.static "BearHouse$Board" "START_POINTS" "[I")) (.int 4)) (by decide +kernel))) (fun j hj => by
    rcases (by omega : j = 0 ∨ j = 1 ∨ j = 2 ∨ j = 3) with rfl | rfl | rfl | rfl
    · exact va_eqt (flat_of_before _ hgv (.eq (.elem (.static "BearHouse$Board" "START_POINTS" "[I") (.int 0)) (.int 24)) (by decide +kernel))
    · exact va_eqt (flat_of_before _ hgv (.eq (.elem (.static "BearHouse$Board" "START_POINTS" "[I") (.int 1)) (.int 13)) (by decide +kernel))
    · exact va_eqt (flat_of_before _ hgv (.eq (.elem (.static "BearHouse$Board" "START_POINTS" "[I") (.int 2)) (.int 8)) (by decide +kernel))
    · exact va_eqt (flat_of_before _ hgv (.eq (.elem (.static "BearHouse$Board" "START_POINTS" "[I") (.int 3)) (.int 6)) (by decide +kernel))
    ) hA
  exact ⟨t, va_Zref (hts (.laysStatic "BearHouse$Board" "START_POINTS" "[I") (tn2 (List.mem_of_getElem? (i := 104) (by decide +kernel)))) (st_G hts _ in_0) e hA, h⟩
theorem st_stMn (hts : ∀ w ∈ lw_tbl, w.before args s = true) (hgv : (Jvm.Cond.and given_1 narrow_1).before args s = true) {A : Nat → Prop} (hA : ∀ a : Nat, a < s.heap.size → ¬ A a) : ∃ t, va_Z RX0 "START_MEN" "[I" (.ref t) A s s.heap ∧ va_T .int t 4 (fun j => .int (stMn j)) A s s.heap := by
  obtain ⟨t, e, h⟩ := va_Tof (tm := .static "BearHouse$Board" "START_MEN" "[I") (ty := .int) (N := 4) (f := fun j => .int (stMn j)) (A := A) (by decide) (flat_of_before _ hgv _ (by decide +kernel)) (va_eqt (flat_of_before _ hgv (.eq (.length (.static "BearHouse$Board" "START_MEN" "[I")) (.int 4)) (by decide +kernel))) (fun j hj => by
    rcases (by omega : j = 0 ∨ j = 1 ∨ j = 2 ∨ j = 3) with rfl | rfl | rfl | rfl
    · exact va_eqt (flat_of_before _ hgv (.eq (.elem (.static "BearHouse$Board" "START_MEN" "[I") (.int 0)) (.int 2)) (by decide +kernel))
    · exact va_eqt (flat_of_before _ hgv (.eq (.elem (.static "BearHouse$Board" "START_MEN" "[I") (.int 1)) (.int 5)) (by decide +kernel))
    · exact va_eqt (flat_of_before _ hgv (.eq (.elem (.static "BearHouse$Board" "START_MEN" "[I") (.int 2)) (.int 3)) (by decide +kernel))
    · exact va_eqt (flat_of_before _ hgv (.eq (.elem (.static "BearHouse$Board" "START_MEN" "[I") (.int 3)) (.int 5)) (by decide +kernel))
    ) hA
  exact ⟨t, va_Zref (hts (.laysStatic "BearHouse$Board" "START_MEN" "[I") (tn2 (List.mem_of_getElem? (i := 106) (by decide +kernel)))) (st_G hts _ in_0) e hA, h⟩
theorem st_SW (hts : ∀ w ∈ lw_tbl, w.before args s = true) (hgv : (Jvm.Cond.and given_1 narrow_1).before args s = true) : SW (fun q => s.heap.size ≤ q) s s.heap := by
  have hA : ∀ a : Nat, a < s.heap.size → ¬ (fun q => s.heap.size ≤ q) a := fun a h z => absurd h (Nat.not_lt.mpr z)
  exact ⟨st_nw hts, st_AO hts, st_stPt hts hgv hA, st_stMn hts hgv hA, ⟨vx_Zqof (hts (.laysStatic "java/lang/Throwable" "UNASSIGNED_STACK" "[Ljava/lang/StackTraceElement;") (tn2 (List.mem_of_getElem? (i := 232) (by decide +kernel)))) (hts (.initialized "java/lang/Throwable") (tn1 (List.mem_of_getElem? (i := 14) (by decide +kernel)))) (flat_of_before _ hgv _ (by decide +kernel)) hA, vx_Zqof (hts (.laysStatic "java/lang/Throwable" "SUPPRESSED_SENTINEL" "Ljava/util/List;") (tn2 (List.mem_of_getElem? (i := 234) (by decide +kernel)))) (hts (.initialized "java/lang/Throwable") (tn1 (List.mem_of_getElem? (i := 14) (by decide +kernel)))) (flat_of_before _ hgv _ (by decide +kernel)) hA⟩, st_sx hts hgv, st_nc hgv⟩
end