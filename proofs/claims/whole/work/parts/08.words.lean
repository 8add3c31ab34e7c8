theorem tm1 {w : Cond} (h : w ∈ tables_1_1) (g : goodWord w = true) : w ∈ lwG := lwG_in (List.mem_append_right _ (show w ∈ tables_1 from List.mem_append_left _ h)) g
theorem tm2 {w : Cond} (h : w ∈ tables_1_2) (g : goodWord w = true) : w ∈ lwG := lwG_in (List.mem_append_right _ (show w ∈ tables_1 from List.mem_append_right _ (List.mem_append_left _ h))) g
theorem tm3 {w : Cond} (h : w ∈ tables_1_3) (g : goodWord w = true) : w ∈ lwG := lwG_in (List.mem_append_right _ (show w ∈ tables_1 from List.mem_append_right _ (List.mem_append_right _ (List.mem_append_left _ h)))) g
theorem tm4 {w : Cond} (h : w ∈ tables_1_4) (g : goodWord w = true) : w ∈ lwG := lwG_in (List.mem_append_right _ (show w ∈ tables_1 from List.mem_append_right _ (List.mem_append_right _ (List.mem_append_right _ (List.mem_append_left _ h))))) g
theorem tm5 {w : Cond} (h : w ∈ tables_1_5) (g : goodWord w = true) : w ∈ lwG := lwG_in (List.mem_append_right _ (show w ∈ tables_1 from List.mem_append_right _ (List.mem_append_right _ (List.mem_append_right _ (List.mem_append_right _ (List.mem_append_left _ h)))))) g
theorem tm6 {w : Cond} (h : w ∈ tables_1_6) (g : goodWord w = true) : w ∈ lwG := lwG_in (List.mem_append_right _ (show w ∈ tables_1 from List.mem_append_right _ (List.mem_append_right _ (List.mem_append_right _ (List.mem_append_right _ (List.mem_append_right _ (List.mem_append_left _ h))))))) g
theorem tm7 {w : Cond} (h : w ∈ tables_1_7) (g : goodWord w = true) : w ∈ lwG := lwG_in (List.mem_append_right _ (show w ∈ tables_1 from List.mem_append_right _ (List.mem_append_right _ (List.mem_append_right _ (List.mem_append_right _ (List.mem_append_right _ (List.mem_append_right _ (List.mem_append_left _ h)))))))) g
theorem tm8 {w : Cond} (h : w ∈ tables_1_8) (g : goodWord w = true) : w ∈ lwG := lwG_in (List.mem_append_right _ (show w ∈ tables_1 from List.mem_append_right _ (List.mem_append_right _ (List.mem_append_right _ (List.mem_append_right _ (List.mem_append_right _ (List.mem_append_right _ (List.mem_append_right _ (h))))))))) g
theorem uw0 : ∀ w ∈ u_ws (RR 0) (TT 0) (NN 0), w ∈ lwG := by
  intro w hw
  obtain ⟨k, hk, rfl⟩ := List.mem_map.mp hw
  have hk := List.mem_range.mp hk
  match k, hk with
  | 0, _ => exact tm1 (List.mem_of_getElem? (i := 61) (by decide +kernel)) (by decide +kernel)
  | 1, _ => exact tm1 (List.mem_of_getElem? (i := 63) (by decide +kernel)) (by decide +kernel)
  | k + 2, h => exact absurd h (by show ¬ k + 2 < 2; omega)
theorem uw1 : ∀ w ∈ u_ws (RR 1) (TT 1) (NN 1), w ∈ lwG := by
  intro w hw
  obtain ⟨k, hk, rfl⟩ := List.mem_map.mp hw
  have hk := List.mem_range.mp hk
  match k, hk with
  | 0, _ => exact tm1 (List.mem_of_getElem? (i := 43) (by decide +kernel)) (by decide +kernel)
  | 1, _ => exact tm1 (List.mem_of_getElem? (i := 45) (by decide +kernel)) (by decide +kernel)
  | k + 2, h => exact absurd h (by show ¬ k + 2 < 2; omega)
theorem uw2 : ∀ w ∈ u_ws (RR 2) (TT 2) (NN 2), w ∈ lwG := by
  intro w hw
  obtain ⟨k, hk, rfl⟩ := List.mem_map.mp hw
  have hk := List.mem_range.mp hk
  match k, hk with
  | 0, _ => exact tm1 (List.mem_of_getElem? (i := 214) (by decide +kernel)) (by decide +kernel)
  | 1, _ => exact tm1 (List.mem_of_getElem? (i := 216) (by decide +kernel)) (by decide +kernel)
  | 2, _ => exact tm1 (List.mem_of_getElem? (i := 218) (by decide +kernel)) (by decide +kernel)
  | 3, _ => exact tm1 (List.mem_of_getElem? (i := 220) (by decide +kernel)) (by decide +kernel)
  | 4, _ => exact tm1 (List.mem_of_getElem? (i := 222) (by decide +kernel)) (by decide +kernel)
  | 5, _ => exact tm1 (List.mem_of_getElem? (i := 224) (by decide +kernel)) (by decide +kernel)
  | 6, _ => exact tm1 (List.mem_of_getElem? (i := 226) (by decide +kernel)) (by decide +kernel)
  | 7, _ => exact tm1 (List.mem_of_getElem? (i := 228) (by decide +kernel)) (by decide +kernel)
  | 8, _ => exact tm1 (List.mem_of_getElem? (i := 230) (by decide +kernel)) (by decide +kernel)
  | 9, _ => exact tm1 (List.mem_of_getElem? (i := 232) (by decide +kernel)) (by decide +kernel)
  | 10, _ => exact tm1 (List.mem_of_getElem? (i := 234) (by decide +kernel)) (by decide +kernel)
  | 11, _ => exact tm1 (List.mem_of_getElem? (i := 236) (by decide +kernel)) (by decide +kernel)
  | 12, _ => exact tm1 (List.mem_of_getElem? (i := 238) (by decide +kernel)) (by decide +kernel)
  | 13, _ => exact tm2 (List.mem_of_getElem? (i := 0) (by decide +kernel)) (by decide +kernel)
  | k + 14, h => exact absurd h (by show ¬ k + 14 < 14; omega)
theorem uw3 : ∀ w ∈ u_ws (RR 3) (TT 3) (NN 3), w ∈ lwG := by
  intro w hw
  obtain ⟨k, hk, rfl⟩ := List.mem_map.mp hw
  have hk := List.mem_range.mp hk
  match k, hk with
  | 0, _ => exact tm1 (List.mem_of_getElem? (i := 77) (by decide +kernel)) (by decide +kernel)
  | 1, _ => exact tm1 (List.mem_of_getElem? (i := 79) (by decide +kernel)) (by decide +kernel)
  | 2, _ => exact tm1 (List.mem_of_getElem? (i := 81) (by decide +kernel)) (by decide +kernel)
  | k + 3, h => exact absurd h (by show ¬ k + 3 < 3; omega)
theorem uw4 : ∀ w ∈ u_ws (RR 4) (TT 4) (NN 4), w ∈ lwG := by
  intro w hw
  obtain ⟨k, hk, rfl⟩ := List.mem_map.mp hw
  have hk := List.mem_range.mp hk
  match k, hk with
  | 0, _ => exact tm2 (List.mem_of_getElem? (i := 79) (by decide +kernel)) (by decide +kernel)
  | 1, _ => exact tm2 (List.mem_of_getElem? (i := 81) (by decide +kernel)) (by decide +kernel)
  | 2, _ => exact tm2 (List.mem_of_getElem? (i := 83) (by decide +kernel)) (by decide +kernel)
  | 3, _ => exact tm2 (List.mem_of_getElem? (i := 85) (by decide +kernel)) (by decide +kernel)
  | k + 4, h => exact absurd h (by show ¬ k + 4 < 4; omega)
theorem uw5 : ∀ w ∈ u_ws (RR 5) (TT 5) (NN 5), w ∈ lwG := by
  intro w hw
  obtain ⟨k, hk, rfl⟩ := List.mem_map.mp hw
  have hk := List.mem_range.mp hk
  match k, hk with
  | 0, _ => exact tm1 (List.mem_of_getElem? (i := 103) (by decide +kernel)) (by decide +kernel)
  | 1, _ => exact tm1 (List.mem_of_getElem? (i := 105) (by decide +kernel)) (by decide +kernel)
  | 2, _ => exact tm1 (List.mem_of_getElem? (i := 107) (by decide +kernel)) (by decide +kernel)
  | 3, _ => exact tm1 (List.mem_of_getElem? (i := 109) (by decide +kernel)) (by decide +kernel)
  | 4, _ => exact tm1 (List.mem_of_getElem? (i := 111) (by decide +kernel)) (by decide +kernel)
  | 5, _ => exact tm1 (List.mem_of_getElem? (i := 113) (by decide +kernel)) (by decide +kernel)
  | 6, _ => exact tm1 (List.mem_of_getElem? (i := 115) (by decide +kernel)) (by decide +kernel)
  | 7, _ => exact tm1 (List.mem_of_getElem? (i := 117) (by decide +kernel)) (by decide +kernel)
  | 8, _ => exact tm1 (List.mem_of_getElem? (i := 119) (by decide +kernel)) (by decide +kernel)
  | k + 9, h => exact absurd h (by show ¬ k + 9 < 9; omega)
theorem uw6 : ∀ w ∈ u_ws (RR 6) (TT 6) (NN 6), w ∈ lwG := by
  intro w hw
  obtain ⟨k, hk, rfl⟩ := List.mem_map.mp hw
  have hk := List.mem_range.mp hk
  match k, hk with
  | 0, _ => exact tm1 (List.mem_of_getElem? (i := 172) (by decide +kernel)) (by decide +kernel)
  | 1, _ => exact tm1 (List.mem_of_getElem? (i := 174) (by decide +kernel)) (by decide +kernel)
  | 2, _ => exact tm1 (List.mem_of_getElem? (i := 176) (by decide +kernel)) (by decide +kernel)
  | 3, _ => exact tm1 (List.mem_of_getElem? (i := 178) (by decide +kernel)) (by decide +kernel)
  | 4, _ => exact tm1 (List.mem_of_getElem? (i := 180) (by decide +kernel)) (by decide +kernel)
  | 5, _ => exact tm1 (List.mem_of_getElem? (i := 182) (by decide +kernel)) (by decide +kernel)
  | 6, _ => exact tm1 (List.mem_of_getElem? (i := 184) (by decide +kernel)) (by decide +kernel)
  | 7, _ => exact tm1 (List.mem_of_getElem? (i := 186) (by decide +kernel)) (by decide +kernel)
  | 8, _ => exact tm1 (List.mem_of_getElem? (i := 188) (by decide +kernel)) (by decide +kernel)
  | k + 9, h => exact absurd h (by show ¬ k + 9 < 9; omega)
theorem uw7 : ∀ w ∈ u_ws (RR 7) (TT 7) (NN 7), w ∈ lwG := by
  intro w hw
  obtain ⟨k, hk, rfl⟩ := List.mem_map.mp hw
  have hk := List.mem_range.mp hk
  match k, hk with
  | 0, _ => exact tm5 (List.mem_of_getElem? (i := 142) (by decide +kernel)) (by decide +kernel)
  | k + 1, h => exact absurd h (by show ¬ k + 1 < 1; omega)
theorem uw8 : ∀ w ∈ u_ws (RR 8) (TT 8) (NN 8), w ∈ lwG := by
  intro w hw
  obtain ⟨k, hk, rfl⟩ := List.mem_map.mp hw
  have hk := List.mem_range.mp hk
  match k, hk with
  | 0, _ => exact tm2 (List.mem_of_getElem? (i := 45) (by decide +kernel)) (by decide +kernel)
  | 1, _ => exact tm2 (List.mem_of_getElem? (i := 47) (by decide +kernel)) (by decide +kernel)
  | 2, _ => exact tm2 (List.mem_of_getElem? (i := 49) (by decide +kernel)) (by decide +kernel)
  | 3, _ => exact tm2 (List.mem_of_getElem? (i := 51) (by decide +kernel)) (by decide +kernel)
  | 4, _ => exact tm2 (List.mem_of_getElem? (i := 53) (by decide +kernel)) (by decide +kernel)
  | 5, _ => exact tm2 (List.mem_of_getElem? (i := 55) (by decide +kernel)) (by decide +kernel)
  | 6, _ => exact tm2 (List.mem_of_getElem? (i := 57) (by decide +kernel)) (by decide +kernel)
  | 7, _ => exact tm2 (List.mem_of_getElem? (i := 59) (by decide +kernel)) (by decide +kernel)
  | 8, _ => exact tm2 (List.mem_of_getElem? (i := 61) (by decide +kernel)) (by decide +kernel)
  | 9, _ => exact tm2 (List.mem_of_getElem? (i := 63) (by decide +kernel)) (by decide +kernel)
  | k + 10, h => exact absurd h (by show ¬ k + 10 < 10; omega)
theorem uw9 : ∀ w ∈ u_ws (RR 9) (TT 9) (NN 9), w ∈ lwG := by
  intro w hw
  obtain ⟨k, hk, rfl⟩ := List.mem_map.mp hw
  have hk := List.mem_range.mp hk
  match k, hk with
  | 0, _ => exact tm1 (List.mem_of_getElem? (i := 141) (by decide +kernel)) (by decide +kernel)
  | 1, _ => exact tm1 (List.mem_of_getElem? (i := 143) (by decide +kernel)) (by decide +kernel)
  | 2, _ => exact tm1 (List.mem_of_getElem? (i := 145) (by decide +kernel)) (by decide +kernel)
  | 3, _ => exact tm1 (List.mem_of_getElem? (i := 147) (by decide +kernel)) (by decide +kernel)
  | 4, _ => exact tm1 (List.mem_of_getElem? (i := 149) (by decide +kernel)) (by decide +kernel)
  | 5, _ => exact tm1 (List.mem_of_getElem? (i := 151) (by decide +kernel)) (by decide +kernel)
  | k + 6, h => exact absurd h (by show ¬ k + 6 < 6; omega)
theorem uw10 : ∀ w ∈ u_ws (RR 10) (TT 10) (NN 10), w ∈ lwG := by
  intro w hw
  obtain ⟨k, hk, rfl⟩ := List.mem_map.mp hw
  have hk := List.mem_range.mp hk
  match k, hk with
  | 0, _ => exact tm2 (List.mem_of_getElem? (i := 19) (by decide +kernel)) (by decide +kernel)
  | k + 1, h => exact absurd h (by show ¬ k + 1 < 1; omega)
theorem uw11 : ∀ w ∈ u_ws (RR 11) (TT 11) (NN 11), w ∈ lwG := by
  intro w hw
  obtain ⟨k, hk, rfl⟩ := List.mem_map.mp hw
  have hk := List.mem_range.mp hk
  match k, hk with
  | 0, _ => exact tm2 (List.mem_of_getElem? (i := 122) (by decide +kernel)) (by decide +kernel)
  | 1, _ => exact tm2 (List.mem_of_getElem? (i := 124) (by decide +kernel)) (by decide +kernel)
  | 2, _ => exact tm2 (List.mem_of_getElem? (i := 126) (by decide +kernel)) (by decide +kernel)
  | 3, _ => exact tm2 (List.mem_of_getElem? (i := 128) (by decide +kernel)) (by decide +kernel)
  | 4, _ => exact tm2 (List.mem_of_getElem? (i := 130) (by decide +kernel)) (by decide +kernel)
  | 5, _ => exact tm2 (List.mem_of_getElem? (i := 132) (by decide +kernel)) (by decide +kernel)
  | 6, _ => exact tm2 (List.mem_of_getElem? (i := 134) (by decide +kernel)) (by decide +kernel)
  | 7, _ => exact tm2 (List.mem_of_getElem? (i := 136) (by decide +kernel)) (by decide +kernel)
  | 8, _ => exact tm2 (List.mem_of_getElem? (i := 138) (by decide +kernel)) (by decide +kernel)
  | 9, _ => exact tm2 (List.mem_of_getElem? (i := 140) (by decide +kernel)) (by decide +kernel)
  | 10, _ => exact tm2 (List.mem_of_getElem? (i := 142) (by decide +kernel)) (by decide +kernel)
  | k + 11, h => exact absurd h (by show ¬ k + 11 < 11; omega)
theorem uw12 : ∀ w ∈ u_ws (RR 12) (TT 12) (NN 12), w ∈ lwG := by
  intro w hw
  obtain ⟨k, hk, rfl⟩ := List.mem_map.mp hw
  have hk := List.mem_range.mp hk
  match k, hk with
  | 0, _ => exact tm6 (List.mem_of_getElem? (i := 87) (by decide +kernel)) (by decide +kernel)
  | 1, _ => exact tm6 (List.mem_of_getElem? (i := 89) (by decide +kernel)) (by decide +kernel)
  | 2, _ => exact tm6 (List.mem_of_getElem? (i := 91) (by decide +kernel)) (by decide +kernel)
  | 3, _ => exact tm6 (List.mem_of_getElem? (i := 93) (by decide +kernel)) (by decide +kernel)
  | 4, _ => exact tm6 (List.mem_of_getElem? (i := 95) (by decide +kernel)) (by decide +kernel)
  | 5, _ => exact tm6 (List.mem_of_getElem? (i := 97) (by decide +kernel)) (by decide +kernel)
  | 6, _ => exact tm6 (List.mem_of_getElem? (i := 99) (by decide +kernel)) (by decide +kernel)
  | 7, _ => exact tm6 (List.mem_of_getElem? (i := 101) (by decide +kernel)) (by decide +kernel)
  | 8, _ => exact tm6 (List.mem_of_getElem? (i := 103) (by decide +kernel)) (by decide +kernel)
  | 9, _ => exact tm6 (List.mem_of_getElem? (i := 105) (by decide +kernel)) (by decide +kernel)
  | 10, _ => exact tm6 (List.mem_of_getElem? (i := 107) (by decide +kernel)) (by decide +kernel)
  | 11, _ => exact tm6 (List.mem_of_getElem? (i := 109) (by decide +kernel)) (by decide +kernel)
  | 12, _ => exact tm6 (List.mem_of_getElem? (i := 111) (by decide +kernel)) (by decide +kernel)
  | 13, _ => exact tm6 (List.mem_of_getElem? (i := 113) (by decide +kernel)) (by decide +kernel)
  | 14, _ => exact tm6 (List.mem_of_getElem? (i := 115) (by decide +kernel)) (by decide +kernel)
  | 15, _ => exact tm6 (List.mem_of_getElem? (i := 117) (by decide +kernel)) (by decide +kernel)
  | 16, _ => exact tm6 (List.mem_of_getElem? (i := 119) (by decide +kernel)) (by decide +kernel)
  | 17, _ => exact tm6 (List.mem_of_getElem? (i := 121) (by decide +kernel)) (by decide +kernel)
  | 18, _ => exact tm6 (List.mem_of_getElem? (i := 123) (by decide +kernel)) (by decide +kernel)
  | 19, _ => exact tm6 (List.mem_of_getElem? (i := 125) (by decide +kernel)) (by decide +kernel)
  | 20, _ => exact tm6 (List.mem_of_getElem? (i := 127) (by decide +kernel)) (by decide +kernel)
  | 21, _ => exact tm6 (List.mem_of_getElem? (i := 129) (by decide +kernel)) (by decide +kernel)
  | 22, _ => exact tm6 (List.mem_of_getElem? (i := 131) (by decide +kernel)) (by decide +kernel)
  | 23, _ => exact tm6 (List.mem_of_getElem? (i := 133) (by decide +kernel)) (by decide +kernel)
  | 24, _ => exact tm6 (List.mem_of_getElem? (i := 135) (by decide +kernel)) (by decide +kernel)
  | 25, _ => exact tm6 (List.mem_of_getElem? (i := 137) (by decide +kernel)) (by decide +kernel)
  | 26, _ => exact tm6 (List.mem_of_getElem? (i := 139) (by decide +kernel)) (by decide +kernel)
  | 27, _ => exact tm6 (List.mem_of_getElem? (i := 141) (by decide +kernel)) (by decide +kernel)
  | 28, _ => exact tm6 (List.mem_of_getElem? (i := 143) (by decide +kernel)) (by decide +kernel)
  | 29, _ => exact tm6 (List.mem_of_getElem? (i := 145) (by decide +kernel)) (by decide +kernel)
  | 30, _ => exact tm6 (List.mem_of_getElem? (i := 147) (by decide +kernel)) (by decide +kernel)
  | 31, _ => exact tm6 (List.mem_of_getElem? (i := 149) (by decide +kernel)) (by decide +kernel)
  | 32, _ => exact tm6 (List.mem_of_getElem? (i := 151) (by decide +kernel)) (by decide +kernel)
  | 33, _ => exact tm6 (List.mem_of_getElem? (i := 153) (by decide +kernel)) (by decide +kernel)
  | 34, _ => exact tm6 (List.mem_of_getElem? (i := 155) (by decide +kernel)) (by decide +kernel)
  | 35, _ => exact tm6 (List.mem_of_getElem? (i := 157) (by decide +kernel)) (by decide +kernel)
  | 36, _ => exact tm6 (List.mem_of_getElem? (i := 159) (by decide +kernel)) (by decide +kernel)
  | 37, _ => exact tm6 (List.mem_of_getElem? (i := 161) (by decide +kernel)) (by decide +kernel)
  | 38, _ => exact tm6 (List.mem_of_getElem? (i := 163) (by decide +kernel)) (by decide +kernel)
  | 39, _ => exact tm6 (List.mem_of_getElem? (i := 165) (by decide +kernel)) (by decide +kernel)
  | 40, _ => exact tm6 (List.mem_of_getElem? (i := 167) (by decide +kernel)) (by decide +kernel)
  | 41, _ => exact tm6 (List.mem_of_getElem? (i := 169) (by decide +kernel)) (by decide +kernel)
  | 42, _ => exact tm6 (List.mem_of_getElem? (i := 171) (by decide +kernel)) (by decide +kernel)
  | 43, _ => exact tm6 (List.mem_of_getElem? (i := 173) (by decide +kernel)) (by decide +kernel)
  | 44, _ => exact tm6 (List.mem_of_getElem? (i := 175) (by decide +kernel)) (by decide +kernel)
  | 45, _ => exact tm6 (List.mem_of_getElem? (i := 177) (by decide +kernel)) (by decide +kernel)
  | 46, _ => exact tm6 (List.mem_of_getElem? (i := 179) (by decide +kernel)) (by decide +kernel)
  | 47, _ => exact tm6 (List.mem_of_getElem? (i := 181) (by decide +kernel)) (by decide +kernel)
  | 48, _ => exact tm6 (List.mem_of_getElem? (i := 183) (by decide +kernel)) (by decide +kernel)
  | 49, _ => exact tm6 (List.mem_of_getElem? (i := 185) (by decide +kernel)) (by decide +kernel)
  | 50, _ => exact tm6 (List.mem_of_getElem? (i := 187) (by decide +kernel)) (by decide +kernel)
  | 51, _ => exact tm6 (List.mem_of_getElem? (i := 189) (by decide +kernel)) (by decide +kernel)
  | 52, _ => exact tm6 (List.mem_of_getElem? (i := 191) (by decide +kernel)) (by decide +kernel)
  | 53, _ => exact tm6 (List.mem_of_getElem? (i := 193) (by decide +kernel)) (by decide +kernel)
  | 54, _ => exact tm6 (List.mem_of_getElem? (i := 195) (by decide +kernel)) (by decide +kernel)
  | 55, _ => exact tm6 (List.mem_of_getElem? (i := 197) (by decide +kernel)) (by decide +kernel)
  | 56, _ => exact tm6 (List.mem_of_getElem? (i := 199) (by decide +kernel)) (by decide +kernel)
  | 57, _ => exact tm6 (List.mem_of_getElem? (i := 201) (by decide +kernel)) (by decide +kernel)
  | 58, _ => exact tm6 (List.mem_of_getElem? (i := 203) (by decide +kernel)) (by decide +kernel)
  | 59, _ => exact tm6 (List.mem_of_getElem? (i := 205) (by decide +kernel)) (by decide +kernel)
  | 60, _ => exact tm6 (List.mem_of_getElem? (i := 207) (by decide +kernel)) (by decide +kernel)
  | 61, _ => exact tm6 (List.mem_of_getElem? (i := 209) (by decide +kernel)) (by decide +kernel)
  | 62, _ => exact tm6 (List.mem_of_getElem? (i := 211) (by decide +kernel)) (by decide +kernel)
  | 63, _ => exact tm6 (List.mem_of_getElem? (i := 213) (by decide +kernel)) (by decide +kernel)
  | 64, _ => exact tm6 (List.mem_of_getElem? (i := 215) (by decide +kernel)) (by decide +kernel)
  | 65, _ => exact tm6 (List.mem_of_getElem? (i := 217) (by decide +kernel)) (by decide +kernel)
  | 66, _ => exact tm6 (List.mem_of_getElem? (i := 219) (by decide +kernel)) (by decide +kernel)
  | 67, _ => exact tm6 (List.mem_of_getElem? (i := 221) (by decide +kernel)) (by decide +kernel)
  | 68, _ => exact tm6 (List.mem_of_getElem? (i := 223) (by decide +kernel)) (by decide +kernel)
  | 69, _ => exact tm6 (List.mem_of_getElem? (i := 225) (by decide +kernel)) (by decide +kernel)
  | 70, _ => exact tm6 (List.mem_of_getElem? (i := 227) (by decide +kernel)) (by decide +kernel)
  | 71, _ => exact tm6 (List.mem_of_getElem? (i := 229) (by decide +kernel)) (by decide +kernel)
  | 72, _ => exact tm6 (List.mem_of_getElem? (i := 231) (by decide +kernel)) (by decide +kernel)
  | 73, _ => exact tm6 (List.mem_of_getElem? (i := 233) (by decide +kernel)) (by decide +kernel)
  | k + 74, h => exact absurd h (by show ¬ k + 74 < 74; omega)
theorem in_0 : Cond.initialized RX0 ∈ lwG := tm1 (List.mem_of_getElem? (i := 3) (by decide +kernel)) (by decide +kernel)
theorem in_1 : Cond.initialized RX1 ∈ lwG := tm1 (List.mem_of_getElem? (i := 2) (by decide +kernel)) (by decide +kernel)
theorem in_2 : Cond.initialized RX2 ∈ lwG := tm1 (List.mem_of_getElem? (i := 8) (by decide +kernel)) (by decide +kernel)
theorem in_3 : Cond.initialized RX3 ∈ lwG := tm1 (List.mem_of_getElem? (i := 4) (by decide +kernel)) (by decide +kernel)
theorem in_4 : Cond.initialized RX4 ∈ lwG := tm1 (List.mem_of_getElem? (i := 12) (by decide +kernel)) (by decide +kernel)
theorem in_5 : Cond.initialized RX5 ∈ lwG := tm1 (List.mem_of_getElem? (i := 5) (by decide +kernel)) (by decide +kernel)
theorem in_6 : Cond.initialized RX6 ∈ lwG := tm1 (List.mem_of_getElem? (i := 7) (by decide +kernel)) (by decide +kernel)
theorem in_7 : Cond.initialized RX7 ∈ lwG := tm1 (List.mem_of_getElem? (i := 23) (by decide +kernel)) (by decide +kernel)
theorem in_8 : Cond.initialized RX8 ∈ lwG := tm1 (List.mem_of_getElem? (i := 9) (by decide +kernel)) (by decide +kernel)
theorem in_9 : Cond.initialized RX9 ∈ lwG := tm1 (List.mem_of_getElem? (i := 6) (by decide +kernel)) (by decide +kernel)
theorem in_10 : Cond.initialized RX10 ∈ lwG := tm1 (List.mem_of_getElem? (i := 10) (by decide +kernel)) (by decide +kernel)
theorem in_11 : Cond.initialized RX11 ∈ lwG := tm1 (List.mem_of_getElem? (i := 1) (by decide +kernel)) (by decide +kernel)
theorem in_12 : Cond.initialized RX12 ∈ lwG := tm1 (List.mem_of_getElem? (i := 13) (by decide +kernel)) (by decide +kernel)
theorem in_J9 : Cond.initialized RJ9 ∈ lwG := tm1 (List.mem_of_getElem? (i := 20) (by decide +kernel)) (by decide +kernel)
theorem in_J10 : Cond.initialized RJ10 ∈ lwG := tm1 (List.mem_of_getElem? (i := 19) (by decide +kernel)) (by decide +kernel)
theorem in_J7 : Cond.initialized RJ7 ∈ lwG := tm1 (List.mem_of_getElem? (i := 11) (by decide +kernel)) (by decide +kernel)
theorem in_L : Cond.initialized RL ∈ lwG := tm1 (List.mem_of_getElem? (i := 0) (by decide +kernel)) (by decide +kernel)
