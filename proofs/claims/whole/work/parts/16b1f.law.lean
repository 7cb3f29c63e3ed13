set_option maxRecDepth 20000 in
theorem wsX30_tin : ∀ w ∈ wsX30, w ∈ lw_tbl := by
  intro w hw
  obtain ⟨k, hk, rfl⟩ := List.mem_map.mp hw
  have hk := List.mem_range.mp hk
  rcases (show k = 0 ∨ k = 1 ∨ k = 2 by omega) with rfl | rfl | rfl
  · exact (lt_1 _ (List.mem_of_getElem? (i := 148) (by decide +kernel)))
  · exact (lt_1 _ (List.mem_of_getElem? (i := 150) (by decide +kernel)))
  · exact (lt_1 _ (List.mem_of_getElem? (i := 152) (by decide +kernel)))
set_option maxRecDepth 20000 in
theorem wsX50_tin : ∀ w ∈ wsX50, w ∈ lw_tbl := by
  intro w hw
  obtain ⟨k, hk, rfl⟩ := List.mem_map.mp hw
  have hk := List.mem_range.mp hk
  rcases (show k = 0 ∨ k = 1 ∨ k = 2 ∨ k = 3 by omega) with rfl | rfl | rfl | rfl
  · exact (lt_1 _ (List.mem_of_getElem? (i := 167) (by decide +kernel)))
  · exact (lt_1 _ (List.mem_of_getElem? (i := 169) (by decide +kernel)))
  · exact (lt_1 _ (List.mem_of_getElem? (i := 171) (by decide +kernel)))
  · exact (lt_1 _ (List.mem_of_getElem? (i := 173) (by decide +kernel)))
set_option maxRecDepth 20000 in
theorem wsX70_tin : ∀ w ∈ wsX70, w ∈ lw_tbl := by
  intro w hw
  obtain ⟨k, hk, rfl⟩ := List.mem_map.mp hw
  have hk := List.mem_range.mp hk
  rcases (show k = 0 ∨ k = 1 ∨ k = 2 by omega) with rfl | rfl | rfl
  · exact (lt_1 _ (List.mem_of_getElem? (i := 187) (by decide +kernel)))
  · exact (lt_1 _ (List.mem_of_getElem? (i := 189) (by decide +kernel)))
  · exact (lt_1 _ (List.mem_of_getElem? (i := 191) (by decide +kernel)))
set_option maxRecDepth 20000 in
theorem wsX00_tin : ∀ w ∈ wsX00, w ∈ lw_tbl := by
  intro w hw
  obtain ⟨k, hk, rfl⟩ := List.mem_map.mp hw
  have hk := List.mem_range.mp hk
  rcases (show k = 0 ∨ k = 1 ∨ k = 2 by omega) with rfl | rfl | rfl
  · exact (lt_1 _ (List.mem_of_getElem? (i := 205) (by decide +kernel)))
  · exact (lt_1 _ (List.mem_of_getElem? (i := 207) (by decide +kernel)))
  · exact (lt_1 _ (List.mem_of_getElem? (i := 209) (by decide +kernel)))
set_option maxRecDepth 20000 in
theorem wsX80_tin : ∀ w ∈ wsX80, w ∈ lw_tbl := by
  intro w hw
  obtain ⟨k, hk, rfl⟩ := List.mem_map.mp hw
  have hk := List.mem_range.mp hk
  rcases (show k = 0 ∨ k = 1 by omega) with rfl | rfl
  · exact (lt_1 _ (List.mem_of_getElem? (i := 222) (by decide +kernel)))
  · exact (lt_1 _ (List.mem_of_getElem? (i := 224) (by decide +kernel)))
set_option maxRecDepth 20000 in
theorem wsX60_tin : ∀ w ∈ wsX60, w ∈ lw_tbl := by
  intro w hw
  obtain ⟨k, hk, rfl⟩ := List.mem_map.mp hw
  have hk := List.mem_range.mp hk
  rcases (show k = 0 ∨ k = 1 ∨ k = 2 ∨ k = 3 ∨ k = 4 by omega) with rfl | rfl | rfl | rfl | rfl
  · exact (lt_1 _ (List.mem_of_getElem? (i := 97) (by decide +kernel)))
  · exact (lt_1 _ (List.mem_of_getElem? (i := 99) (by decide +kernel)))
  · exact (lt_1 _ (List.mem_of_getElem? (i := 101) (by decide +kernel)))
  · exact (lt_1 _ (List.mem_of_getElem? (i := 103) (by decide +kernel)))
  · exact (lt_1 _ (List.mem_of_getElem? (i := 105) (by decide +kernel)))
