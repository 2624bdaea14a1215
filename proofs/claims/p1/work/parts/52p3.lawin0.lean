theorem wsL_law0_wsX80 : ∀ w ∈ wsX80, w ∈ lw_tbl := by decide +kernel
theorem wsL_law0_wsX100 : ∀ w ∈ wsX100, w ∈ lw_tbl := by decide +kernel
theorem wsL_law0_wsX30 : ∀ w ∈ wsX30, w ∈ lw_tbl := by decide +kernel
theorem wsL_law0_wsX60 : ∀ w ∈ wsX60, w ∈ lw_tbl := by decide +kernel
theorem wsL_law0_wsX40 : ∀ w ∈ wsX40, w ∈ lw_tbl := by decide +kernel
theorem wsL_law0_wsX10 : ∀ w ∈ wsX10, w ∈ lw_tbl := by decide +kernel
theorem wsL_law0_wsX00 : ∀ w ∈ wsX00, w ∈ lw_tbl := by decide +kernel
theorem wsL_law0_wsX20 : ∀ w ∈ wsX20, w ∈ lw_tbl := by decide +kernel
theorem wsL_law0_wsX70 : ∀ w ∈ wsX70, w ∈ lw_tbl := by decide +kernel
theorem wsL_law0_wsX50 : ∀ w ∈ wsX50, w ∈ lw_tbl := by decide +kernel
theorem wsL_law0_wsX90 : ∀ w ∈ wsX90, w ∈ lw_tbl := by decide +kernel
theorem wsL_law_in0 : ∀ w ∈ wsL_law0, w ∈ lw_tbl := by
  intro w h
  rcases List.mem_append.mp h with h | h
  rotate_left
  · exact absurd h List.not_mem_nil
  rcases List.mem_append.mp h with h | h
  rotate_left
  · exact wsL_law0_wsX90 w h
  rcases List.mem_append.mp h with h | h
  rotate_left
  · exact wsL_law0_wsX50 w h
  rcases List.mem_append.mp h with h | h
  rotate_left
  · exact wsL_law0_wsX70 w h
  rcases List.mem_append.mp h with h | h
  rotate_left
  · exact wsL_law0_wsX20 w h
  rcases List.mem_append.mp h with h | h
  rotate_left
  · exact wsL_law0_wsX00 w h
  rcases List.mem_append.mp h with h | h
  rotate_left
  · exact wsL_law0_wsX10 w h
  rcases List.mem_append.mp h with h | h
  rotate_left
  · exact wsL_law0_wsX40 w h
  rcases List.mem_append.mp h with h | h
  rotate_left
  · exact wsL_law0_wsX60 w h
  rcases List.mem_append.mp h with h | h
  rotate_left
  · exact wsL_law0_wsX30 w h
  rcases List.mem_append.mp h with h | h
  rotate_left
  · exact wsL_law0_wsX100 w h
  rcases List.mem_append.mp h with h | h
  rotate_left
  · exact wsL_law0_wsX80 w h
  rcases List.mem_append.mp h with h | h
  · exact wsL_law0_i1 w h
  rcases List.mem_append.mp h with h | h
  · exact wsL_law0_i2 w h
  rcases List.mem_append.mp h with h | h
  · exact wsL_law0_i3 w h
  rcases List.mem_append.mp h with h | h
  · exact wsL_law0_i4 w h
  rcases List.mem_append.mp h with h | h
  · exact wsL_law0_i5 w h
  rcases List.mem_append.mp h with h | h
  · exact wsL_law0_i6 w h
  rcases List.mem_append.mp h with h | h
  · exact wsL_law0_i7 w h
  rcases List.mem_append.mp h with h | h
  · exact wsL_law0_i8 w h
  rcases List.mem_append.mp h with h | h
  · exact wsL_law0_i9 w h
  rcases List.mem_append.mp h with h | h
  · exact wsL_law0_i10 w h
  rcases List.mem_append.mp h with h | h
  · exact wsL_law0_i11 w h
  rcases List.mem_append.mp h with h | h
  · exact wsL_law0_i12 w h
  rcases List.mem_append.mp h with h | h
  · exact wsL_law0_i13 w h
  rcases List.mem_append.mp h with h | h
  · exact wsL_law0_i14 w h
  rcases List.mem_append.mp h with h | h
  · exact wsL_law0_i15 w h
  rcases List.mem_append.mp h with h | h
  · exact wsL_law0_i16 w h
  rcases List.mem_append.mp h with h | h
  · exact wsL_law0_i17 w h
  rcases List.mem_append.mp h with h | h
  · exact wsL_law0_i18 w h
  rcases List.mem_append.mp h with h | h
  · exact wsL_law0_i19 w h
  rcases List.mem_append.mp h with h | h
  · exact wsL_law0_i20 w h
  rcases List.mem_append.mp h with h | h
  · exact wsL_law0_i21 w h
  rcases List.mem_append.mp h with h | h
  · exact wsL_law0_i22 w h
  rcases List.mem_append.mp h with h | h
  · exact wsL_law0_i23 w h
  rcases List.mem_append.mp h with h | h
  · exact wsL_law0_i24 w h
  rcases List.mem_append.mp h with h | h
  · exact wsL_law0_i25 w h
  rcases List.mem_append.mp h with h | h
  · exact wsL_law0_i26 w h
  rcases List.mem_append.mp h with h | h
  · exact wsL_law0_i27 w h
  rcases List.mem_append.mp h with h | h
  · exact wsL_law0_i28 w h
  rcases List.mem_append.mp h with h | h
  · exact wsL_law0_i29 w h
  rcases List.mem_append.mp h with h | h
  · exact wsL_law0_i30 w h
  rcases List.mem_append.mp h with h | h
  · exact wsL_law0_i31 w h
  rcases List.mem_append.mp h with h | h
  · exact wsL_law0_i32 w h
  exact wsL_law0_i33 w h
