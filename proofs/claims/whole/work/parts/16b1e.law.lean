set_option maxRecDepth 20000 in
theorem wsL_law_r37_in : ∀ w ∈ wsL_law_r37, w ∈ lw_tbl := List.forall_mem_cons.mpr ⟨(lt_4 _ (List.mem_of_getElem? (i := 41) (by decide +kernel))), List.forall_mem_cons.mpr ⟨(lt_p _ (List.mem_of_getElem? (i := 16) (by decide +kernel))), List.forall_mem_cons.mpr ⟨(lt_4 _ (List.mem_of_getElem? (i := 42) (by decide +kernel))), List.forall_mem_cons.mpr ⟨(lt_4 _ (List.mem_of_getElem? (i := 43) (by decide +kernel))), List.forall_mem_cons.mpr ⟨(lt_4 _ (List.mem_of_getElem? (i := 44) (by decide +kernel))), List.forall_mem_cons.mpr ⟨(lt_4 _ (List.mem_of_getElem? (i := 45) (by decide +kernel))), List.forall_mem_cons.mpr ⟨(lt_4 _ (List.mem_of_getElem? (i := 46) (by decide +kernel))), List.forall_mem_cons.mpr ⟨(lt_4 _ (List.mem_of_getElem? (i := 47) (by decide +kernel))), List.forall_mem_cons.mpr ⟨(lt_4 _ (List.mem_of_getElem? (i := 48) (by decide +kernel))), List.forall_mem_cons.mpr ⟨(lt_4 _ (List.mem_of_getElem? (i := 49) (by decide +kernel))), List.forall_mem_cons.mpr ⟨(lt_4 _ (List.mem_of_getElem? (i := 50) (by decide +kernel))), List.forall_mem_cons.mpr ⟨(lt_5 _ (List.mem_of_getElem? (i := 154) (by decide +kernel))), List.forall_mem_cons.mpr ⟨(lt_5 _ (List.mem_of_getElem? (i := 155) (by decide +kernel))), List.forall_mem_cons.mpr ⟨(lt_5 _ (List.mem_of_getElem? (i := 156) (by decide +kernel))), List.forall_mem_cons.mpr ⟨(lt_5 _ (List.mem_of_getElem? (i := 157) (by decide +kernel))), List.forall_mem_cons.mpr ⟨(lt_5 _ (List.mem_of_getElem? (i := 158) (by decide +kernel))), List.forall_mem_cons.mpr ⟨(lt_5 _ (List.mem_of_getElem? (i := 159) (by decide +kernel))), List.forall_mem_cons.mpr ⟨(lt_4 _ (List.mem_of_getElem? (i := 51) (by decide +kernel))), List.forall_mem_cons.mpr ⟨(lt_4 _ (List.mem_of_getElem? (i := 52) (by decide +kernel))), List.forall_mem_cons.mpr ⟨(lt_4 _ (List.mem_of_getElem? (i := 53) (by decide +kernel))), List.forall_mem_cons.mpr ⟨(lt_4 _ (List.mem_of_getElem? (i := 54) (by decide +kernel))), List.forall_mem_cons.mpr ⟨(lt_4 _ (List.mem_of_getElem? (i := 55) (by decide +kernel))), List.forall_mem_cons.mpr ⟨(lt_4 _ (List.mem_of_getElem? (i := 56) (by decide +kernel))), List.forall_mem_cons.mpr ⟨(lt_4 _ (List.mem_of_getElem? (i := 57) (by decide +kernel))), fun _ h => absurd h List.not_mem_nil⟩⟩⟩⟩⟩⟩⟩⟩⟩⟩⟩⟩⟩⟩⟩⟩⟩⟩⟩⟩⟩⟩⟩⟩
set_option maxRecDepth 20000 in
theorem wsL_law_r38_in : ∀ w ∈ wsL_law_r38, w ∈ lw_tbl := List.forall_mem_cons.mpr ⟨(lt_4 _ (List.mem_of_getElem? (i := 58) (by decide +kernel))), List.forall_mem_cons.mpr ⟨(lt_1 _ (List.mem_of_getElem? (i := 221) (by decide +kernel))), List.forall_mem_cons.mpr ⟨(lt_4 _ (List.mem_of_getElem? (i := 59) (by decide +kernel))), List.forall_mem_cons.mpr ⟨(lt_4 _ (List.mem_of_getElem? (i := 60) (by decide +kernel))), List.forall_mem_cons.mpr ⟨(lt_4 _ (List.mem_of_getElem? (i := 61) (by decide +kernel))), List.forall_mem_cons.mpr ⟨(lt_4 _ (List.mem_of_getElem? (i := 62) (by decide +kernel))), List.forall_mem_cons.mpr ⟨(lt_4 _ (List.mem_of_getElem? (i := 64) (by decide +kernel))), List.forall_mem_cons.mpr ⟨(lt_p _ (List.mem_of_getElem? (i := 17) (by decide +kernel))), List.forall_mem_cons.mpr ⟨(lt_4 _ (List.mem_of_getElem? (i := 65) (by decide +kernel))), List.forall_mem_cons.mpr ⟨(lt_4 _ (List.mem_of_getElem? (i := 66) (by decide +kernel))), List.forall_mem_cons.mpr ⟨(lt_4 _ (List.mem_of_getElem? (i := 67) (by decide +kernel))), List.forall_mem_cons.mpr ⟨(lt_4 _ (List.mem_of_getElem? (i := 68) (by decide +kernel))), List.forall_mem_cons.mpr ⟨(lt_4 _ (List.mem_of_getElem? (i := 69) (by decide +kernel))), List.forall_mem_cons.mpr ⟨(lt_4 _ (List.mem_of_getElem? (i := 70) (by decide +kernel))), List.forall_mem_cons.mpr ⟨(lt_4 _ (List.mem_of_getElem? (i := 72) (by decide +kernel))), List.forall_mem_cons.mpr ⟨(lt_p _ (List.mem_of_getElem? (i := 18) (by decide +kernel))), List.forall_mem_cons.mpr ⟨(lt_4 _ (List.mem_of_getElem? (i := 73) (by decide +kernel))), List.forall_mem_cons.mpr ⟨(lt_4 _ (List.mem_of_getElem? (i := 74) (by decide +kernel))), List.forall_mem_cons.mpr ⟨(lt_4 _ (List.mem_of_getElem? (i := 75) (by decide +kernel))), List.forall_mem_cons.mpr ⟨(lt_4 _ (List.mem_of_getElem? (i := 76) (by decide +kernel))), List.forall_mem_cons.mpr ⟨(lt_4 _ (List.mem_of_getElem? (i := 77) (by decide +kernel))), List.forall_mem_cons.mpr ⟨(lt_4 _ (List.mem_of_getElem? (i := 78) (by decide +kernel))), List.forall_mem_cons.mpr ⟨(lt_4 _ (List.mem_of_getElem? (i := 79) (by decide +kernel))), List.forall_mem_cons.mpr ⟨(lt_4 _ (List.mem_of_getElem? (i := 80) (by decide +kernel))), fun _ h => absurd h List.not_mem_nil⟩⟩⟩⟩⟩⟩⟩⟩⟩⟩⟩⟩⟩⟩⟩⟩⟩⟩⟩⟩⟩⟩⟩⟩
set_option maxRecDepth 20000 in
theorem wsL_law_r39_in : ∀ w ∈ wsL_law_r39, w ∈ lw_tbl := List.forall_mem_cons.mpr ⟨(lt_4 _ (List.mem_of_getElem? (i := 81) (by decide +kernel))), List.forall_mem_cons.mpr ⟨(lt_4 _ (List.mem_of_getElem? (i := 82) (by decide +kernel))), List.forall_mem_cons.mpr ⟨(lt_4 _ (List.mem_of_getElem? (i := 83) (by decide +kernel))), List.forall_mem_cons.mpr ⟨(lt_4 _ (List.mem_of_getElem? (i := 84) (by decide +kernel))), List.forall_mem_cons.mpr ⟨(lt_4 _ (List.mem_of_getElem? (i := 85) (by decide +kernel))), List.forall_mem_cons.mpr ⟨(lt_4 _ (List.mem_of_getElem? (i := 86) (by decide +kernel))), List.forall_mem_cons.mpr ⟨(lt_4 _ (List.mem_of_getElem? (i := 87) (by decide +kernel))), List.forall_mem_cons.mpr ⟨(lt_4 _ (List.mem_of_getElem? (i := 88) (by decide +kernel))), List.forall_mem_cons.mpr ⟨(lt_4 _ (List.mem_of_getElem? (i := 89) (by decide +kernel))), List.forall_mem_cons.mpr ⟨(lt_4 _ (List.mem_of_getElem? (i := 90) (by decide +kernel))), List.forall_mem_cons.mpr ⟨(lt_5 _ (List.mem_of_getElem? (i := 160) (by decide +kernel))), List.forall_mem_cons.mpr ⟨(lt_5 _ (List.mem_of_getElem? (i := 161) (by decide +kernel))), List.forall_mem_cons.mpr ⟨(lt_5 _ (List.mem_of_getElem? (i := 162) (by decide +kernel))), List.forall_mem_cons.mpr ⟨(lt_5 _ (List.mem_of_getElem? (i := 163) (by decide +kernel))), List.forall_mem_cons.mpr ⟨(lt_5 _ (List.mem_of_getElem? (i := 164) (by decide +kernel))), List.forall_mem_cons.mpr ⟨(lt_5 _ (List.mem_of_getElem? (i := 165) (by decide +kernel))), List.forall_mem_cons.mpr ⟨(lt_5 _ (List.mem_of_getElem? (i := 166) (by decide +kernel))), List.forall_mem_cons.mpr ⟨(lt_5 _ (List.mem_of_getElem? (i := 167) (by decide +kernel))), List.forall_mem_cons.mpr ⟨(lt_4 _ (List.mem_of_getElem? (i := 91) (by decide +kernel))), List.forall_mem_cons.mpr ⟨(lt_4 _ (List.mem_of_getElem? (i := 92) (by decide +kernel))), List.forall_mem_cons.mpr ⟨(lt_4 _ (List.mem_of_getElem? (i := 93) (by decide +kernel))), List.forall_mem_cons.mpr ⟨(lt_4 _ (List.mem_of_getElem? (i := 94) (by decide +kernel))), List.forall_mem_cons.mpr ⟨(lt_5 _ (List.mem_of_getElem? (i := 168) (by decide +kernel))), List.forall_mem_cons.mpr ⟨(lt_5 _ (List.mem_of_getElem? (i := 169) (by decide +kernel))), fun _ h => absurd h List.not_mem_nil⟩⟩⟩⟩⟩⟩⟩⟩⟩⟩⟩⟩⟩⟩⟩⟩⟩⟩⟩⟩⟩⟩⟩⟩
set_option maxRecDepth 20000 in
theorem wsL_law_r40_in : ∀ w ∈ wsL_law_r40, w ∈ lw_tbl := List.forall_mem_cons.mpr ⟨(lt_5 _ (List.mem_of_getElem? (i := 170) (by decide +kernel))), List.forall_mem_cons.mpr ⟨(lt_5 _ (List.mem_of_getElem? (i := 171) (by decide +kernel))), List.forall_mem_cons.mpr ⟨(lt_4 _ (List.mem_of_getElem? (i := 95) (by decide +kernel))), List.forall_mem_cons.mpr ⟨(lt_4 _ (List.mem_of_getElem? (i := 96) (by decide +kernel))), List.forall_mem_cons.mpr ⟨(lt_4 _ (List.mem_of_getElem? (i := 97) (by decide +kernel))), List.forall_mem_cons.mpr ⟨(lt_4 _ (List.mem_of_getElem? (i := 98) (by decide +kernel))), List.forall_mem_cons.mpr ⟨(lt_5 _ (List.mem_of_getElem? (i := 172) (by decide +kernel))), List.forall_mem_cons.mpr ⟨(lt_5 _ (List.mem_of_getElem? (i := 173) (by decide +kernel))), List.forall_mem_cons.mpr ⟨(lt_5 _ (List.mem_of_getElem? (i := 174) (by decide +kernel))), List.forall_mem_cons.mpr ⟨(lt_5 _ (List.mem_of_getElem? (i := 175) (by decide +kernel))), List.forall_mem_cons.mpr ⟨(lt_4 _ (List.mem_of_getElem? (i := 99) (by decide +kernel))), List.forall_mem_cons.mpr ⟨(lt_4 _ (List.mem_of_getElem? (i := 100) (by decide +kernel))), List.forall_mem_cons.mpr ⟨(lt_4 _ (List.mem_of_getElem? (i := 101) (by decide +kernel))), List.forall_mem_cons.mpr ⟨(lt_4 _ (List.mem_of_getElem? (i := 102) (by decide +kernel))), List.forall_mem_cons.mpr ⟨(lt_4 _ (List.mem_of_getElem? (i := 103) (by decide +kernel))), List.forall_mem_cons.mpr ⟨(lt_4 _ (List.mem_of_getElem? (i := 104) (by decide +kernel))), List.forall_mem_cons.mpr ⟨(lt_4 _ (List.mem_of_getElem? (i := 105) (by decide +kernel))), List.forall_mem_cons.mpr ⟨(lt_4 _ (List.mem_of_getElem? (i := 106) (by decide +kernel))), List.forall_mem_cons.mpr ⟨(lt_4 _ (List.mem_of_getElem? (i := 107) (by decide +kernel))), List.forall_mem_cons.mpr ⟨(lt_5 _ (List.mem_of_getElem? (i := 176) (by decide +kernel))), List.forall_mem_cons.mpr ⟨(lt_5 _ (List.mem_of_getElem? (i := 177) (by decide +kernel))), List.forall_mem_cons.mpr ⟨(lt_5 _ (List.mem_of_getElem? (i := 178) (by decide +kernel))), List.forall_mem_cons.mpr ⟨(lt_5 _ (List.mem_of_getElem? (i := 179) (by decide +kernel))), fun _ h => absurd h List.not_mem_nil⟩⟩⟩⟩⟩⟩⟩⟩⟩⟩⟩⟩⟩⟩⟩⟩⟩⟩⟩⟩⟩⟩⟩
set_option maxRecDepth 20000 in
theorem wsX90_tin : ∀ w ∈ wsX90, w ∈ lw_tbl := by
  intro w hw
  obtain ⟨k, hk, rfl⟩ := List.mem_map.mp hw
  have hk := List.mem_range.mp hk
  rcases (show k = 0 ∨ k = 1 ∨ k = 2 ∨ k = 3 ∨ k = 4 ∨ k = 5 ∨ k = 6 ∨ k = 7 ∨ k = 8 ∨ k = 9 by omega) with rfl | rfl | rfl | rfl | rfl | rfl | rfl | rfl | rfl | rfl
  · exact (lt_2 _ (List.mem_of_getElem? (i := 142) (by decide +kernel)))
  · exact (lt_2 _ (List.mem_of_getElem? (i := 144) (by decide +kernel)))
  · exact (lt_2 _ (List.mem_of_getElem? (i := 146) (by decide +kernel)))
  · exact (lt_2 _ (List.mem_of_getElem? (i := 148) (by decide +kernel)))
  · exact (lt_2 _ (List.mem_of_getElem? (i := 150) (by decide +kernel)))
  · exact (lt_2 _ (List.mem_of_getElem? (i := 152) (by decide +kernel)))
  · exact (lt_2 _ (List.mem_of_getElem? (i := 154) (by decide +kernel)))
  · exact (lt_2 _ (List.mem_of_getElem? (i := 156) (by decide +kernel)))
  · exact (lt_2 _ (List.mem_of_getElem? (i := 158) (by decide +kernel)))
  · exact (lt_2 _ (List.mem_of_getElem? (i := 160) (by decide +kernel)))
set_option maxRecDepth 20000 in
theorem wsX100_tin : ∀ w ∈ wsX100, w ∈ lw_tbl := by
  intro w hw
  obtain ⟨k, hk, rfl⟩ := List.mem_map.mp hw
  have hk := List.mem_range.mp hk
  rcases (show k = 0 ∨ k = 1 ∨ k = 2 ∨ k = 3 ∨ k = 4 ∨ k = 5 ∨ k = 6 ∨ k = 7 ∨ k = 8 ∨ k = 9 ∨ k = 10 ∨ k = 11 ∨ k = 12 ∨ k = 13 ∨ k = 14 ∨ k = 15 ∨ k = 16 ∨ k = 17 ∨ k = 18 ∨ k = 19 ∨ k = 20 ∨ k = 21 ∨ k = 22 ∨ k = 23 ∨ k = 24 by omega) with rfl | rfl | rfl | rfl | rfl | rfl | rfl | rfl | rfl | rfl | rfl | rfl | rfl | rfl | rfl | rfl | rfl | rfl | rfl | rfl | rfl | rfl | rfl | rfl | rfl
  · exact (lt_4 _ (List.mem_of_getElem? (i := 158) (by decide +kernel)))
  · exact (lt_4 _ (List.mem_of_getElem? (i := 160) (by decide +kernel)))
  · exact (lt_4 _ (List.mem_of_getElem? (i := 162) (by decide +kernel)))
  · exact (lt_4 _ (List.mem_of_getElem? (i := 164) (by decide +kernel)))
  · exact (lt_4 _ (List.mem_of_getElem? (i := 166) (by decide +kernel)))
  · exact (lt_4 _ (List.mem_of_getElem? (i := 168) (by decide +kernel)))
  · exact (lt_4 _ (List.mem_of_getElem? (i := 170) (by decide +kernel)))
  · exact (lt_4 _ (List.mem_of_getElem? (i := 172) (by decide +kernel)))
  · exact (lt_4 _ (List.mem_of_getElem? (i := 174) (by decide +kernel)))
  · exact (lt_4 _ (List.mem_of_getElem? (i := 176) (by decide +kernel)))
  · exact (lt_4 _ (List.mem_of_getElem? (i := 178) (by decide +kernel)))
  · exact (lt_4 _ (List.mem_of_getElem? (i := 180) (by decide +kernel)))
  · exact (lt_4 _ (List.mem_of_getElem? (i := 182) (by decide +kernel)))
  · exact (lt_4 _ (List.mem_of_getElem? (i := 184) (by decide +kernel)))
  · exact (lt_4 _ (List.mem_of_getElem? (i := 186) (by decide +kernel)))
  · exact (lt_4 _ (List.mem_of_getElem? (i := 188) (by decide +kernel)))
  · exact (lt_4 _ (List.mem_of_getElem? (i := 190) (by decide +kernel)))
  · exact (lt_4 _ (List.mem_of_getElem? (i := 192) (by decide +kernel)))
  · exact (lt_4 _ (List.mem_of_getElem? (i := 194) (by decide +kernel)))
  · exact (lt_4 _ (List.mem_of_getElem? (i := 196) (by decide +kernel)))
  · exact (lt_4 _ (List.mem_of_getElem? (i := 198) (by decide +kernel)))
  · exact (lt_4 _ (List.mem_of_getElem? (i := 200) (by decide +kernel)))
  · exact (lt_4 _ (List.mem_of_getElem? (i := 202) (by decide +kernel)))
  · exact (lt_4 _ (List.mem_of_getElem? (i := 204) (by decide +kernel)))
  · exact (lt_4 _ (List.mem_of_getElem? (i := 206) (by decide +kernel)))
set_option maxRecDepth 20000 in
theorem wsX40_tin : ∀ w ∈ wsX40, w ∈ lw_tbl := by
  intro w hw
  obtain ⟨k, hk, rfl⟩ := List.mem_map.mp hw
  have hk := List.mem_range.mp hk
  rcases (show k = 0 ∨ k = 1 ∨ k = 2 by omega) with rfl | rfl | rfl
  · exact (lt_1 _ (List.mem_of_getElem? (i := 36) (by decide +kernel)))
  · exact (lt_1 _ (List.mem_of_getElem? (i := 38) (by decide +kernel)))
  · exact (lt_1 _ (List.mem_of_getElem? (i := 40) (by decide +kernel)))
set_option maxRecDepth 20000 in
theorem wsX20_tin : ∀ w ∈ wsX20, w ∈ lw_tbl := by
  intro w hw
  obtain ⟨k, hk, rfl⟩ := List.mem_map.mp hw
  have hk := List.mem_range.mp hk
  rcases (show k = 0 ∨ k = 1 ∨ k = 2 ∨ k = 3 ∨ k = 4 ∨ k = 5 ∨ k = 6 ∨ k = 7 ∨ k = 8 by omega) with rfl | rfl | rfl | rfl | rfl | rfl | rfl | rfl | rfl
  · exact (lt_1 _ (List.mem_of_getElem? (i := 60) (by decide +kernel)))
  · exact (lt_1 _ (List.mem_of_getElem? (i := 62) (by decide +kernel)))
  · exact (lt_1 _ (List.mem_of_getElem? (i := 64) (by decide +kernel)))
  · exact (lt_1 _ (List.mem_of_getElem? (i := 66) (by decide +kernel)))
  · exact (lt_1 _ (List.mem_of_getElem? (i := 68) (by decide +kernel)))
  · exact (lt_1 _ (List.mem_of_getElem? (i := 70) (by decide +kernel)))
  · exact (lt_1 _ (List.mem_of_getElem? (i := 72) (by decide +kernel)))
  · exact (lt_1 _ (List.mem_of_getElem? (i := 74) (by decide +kernel)))
  · exact (lt_1 _ (List.mem_of_getElem? (i := 76) (by decide +kernel)))
set_option maxRecDepth 20000 in
theorem wsX10_tin : ∀ w ∈ wsX10, w ∈ lw_tbl := by
  intro w hw
  obtain ⟨k, hk, rfl⟩ := List.mem_map.mp hw
  have hk := List.mem_range.mp hk
  rcases (show k = 0 ∨ k = 1 ∨ k = 2 ∨ k = 3 ∨ k = 4 ∨ k = 5 ∨ k = 6 ∨ k = 7 by omega) with rfl | rfl | rfl | rfl | rfl | rfl | rfl | rfl
  · exact (lt_1 _ (List.mem_of_getElem? (i := 116) (by decide +kernel)))
  · exact (lt_1 _ (List.mem_of_getElem? (i := 118) (by decide +kernel)))
  · exact (lt_1 _ (List.mem_of_getElem? (i := 120) (by decide +kernel)))
  · exact (lt_1 _ (List.mem_of_getElem? (i := 122) (by decide +kernel)))
  · exact (lt_1 _ (List.mem_of_getElem? (i := 124) (by decide +kernel)))
  · exact (lt_1 _ (List.mem_of_getElem? (i := 126) (by decide +kernel)))
  · exact (lt_1 _ (List.mem_of_getElem? (i := 128) (by decide +kernel)))
  · exact (lt_1 _ (List.mem_of_getElem? (i := 130) (by decide +kernel)))
