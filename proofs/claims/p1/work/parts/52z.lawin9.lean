theorem wsL_law_x0 : ∀ w ∈ (vx_atS RX8 78 "java/lang/IllegalArgumentException" ["java/lang/RuntimeException", "java/lang/Exception"]).filter goodWord, w ∈ lw_tbl := by decide +kernel
theorem wsL_law_x1 : ∀ w ∈ (vx_atS RX8 138 "java/lang/IllegalStateException" ["java/lang/RuntimeException", "java/lang/Exception"]).filter goodWord, w ∈ lw_tbl := by decide +kernel
theorem wsL_law_x2 : ∀ w ∈ (vx_atS RX8 308 "java/lang/IndexOutOfBoundsException" ["java/lang/RuntimeException", "java/lang/Exception"]).filter goodWord, w ∈ lw_tbl := by decide +kernel
theorem wsL_law_in : ∀ w ∈ wsL_law, w ∈ lw_tbl := fun w h => (List.mem_append.mp h).elim (fun h => (List.mem_append.mp h).elim (fun h => (List.mem_append.mp h).elim (fun h => wsL_law_in0 w h) (fun h => wsL_law_x0 w h)) (fun h => wsL_law_x1 w h)) (fun h => wsL_law_x2 w h)
theorem inlX0 : ∀ w ∈ wsX00, w ∈ wsL_law := fun _ h => List.mem_append_left _ (List.mem_append_left _ (List.mem_append_left _ (List.mem_append_left _ (List.mem_append_left _ (List.mem_append_left _ (List.mem_append_left _ (List.mem_append_left _ (List.mem_append_right _ h))))))))
theorem inX0 : ∀ w ∈ wsX00, w ∈ lw_tbl := fun w h => wsL_law_in w (inlX0 w h)
theorem inlX1 : ∀ w ∈ wsX10, w ∈ wsL_law := fun _ h => List.mem_append_left _ (List.mem_append_left _ (List.mem_append_left _ (List.mem_append_left _ (List.mem_append_left _ (List.mem_append_left _ (List.mem_append_left _ (List.mem_append_left _ (List.mem_append_left _ (List.mem_append_right _ h)))))))))
theorem inX1 : ∀ w ∈ wsX10, w ∈ lw_tbl := fun w h => wsL_law_in w (inlX1 w h)
theorem inlX2 : ∀ w ∈ wsX20, w ∈ wsL_law := fun _ h => List.mem_append_left _ (List.mem_append_left _ (List.mem_append_left _ (List.mem_append_left _ (List.mem_append_left _ (List.mem_append_left _ (List.mem_append_left _ (List.mem_append_right _ h)))))))
theorem inX2 : ∀ w ∈ wsX20, w ∈ lw_tbl := fun w h => wsL_law_in w (inlX2 w h)
theorem inlX3 : ∀ w ∈ wsX30, w ∈ wsL_law := fun _ h => List.mem_append_left _ (List.mem_append_left _ (List.mem_append_left _ (List.mem_append_left _ (List.mem_append_left _ (List.mem_append_left _ (List.mem_append_left _ (List.mem_append_left _ (List.mem_append_left _ (List.mem_append_left _ (List.mem_append_left _ (List.mem_append_left _ (List.mem_append_right _ h))))))))))))
theorem inX3 : ∀ w ∈ wsX30, w ∈ lw_tbl := fun w h => wsL_law_in w (inlX3 w h)
theorem inlX4 : ∀ w ∈ wsX40, w ∈ wsL_law := fun _ h => List.mem_append_left _ (List.mem_append_left _ (List.mem_append_left _ (List.mem_append_left _ (List.mem_append_left _ (List.mem_append_left _ (List.mem_append_left _ (List.mem_append_left _ (List.mem_append_left _ (List.mem_append_left _ (List.mem_append_right _ h))))))))))
theorem inX4 : ∀ w ∈ wsX40, w ∈ lw_tbl := fun w h => wsL_law_in w (inlX4 w h)
theorem inlX5 : ∀ w ∈ wsX50, w ∈ wsL_law := fun _ h => List.mem_append_left _ (List.mem_append_left _ (List.mem_append_left _ (List.mem_append_left _ (List.mem_append_left _ (List.mem_append_right _ h)))))
theorem inX5 : ∀ w ∈ wsX50, w ∈ lw_tbl := fun w h => wsL_law_in w (inlX5 w h)
theorem inlX6 : ∀ w ∈ wsX60, w ∈ wsL_law := fun _ h => List.mem_append_left _ (List.mem_append_left _ (List.mem_append_left _ (List.mem_append_left _ (List.mem_append_left _ (List.mem_append_left _ (List.mem_append_left _ (List.mem_append_left _ (List.mem_append_left _ (List.mem_append_left _ (List.mem_append_left _ (List.mem_append_right _ h)))))))))))
theorem inX6 : ∀ w ∈ wsX60, w ∈ lw_tbl := fun w h => wsL_law_in w (inlX6 w h)
theorem inlX7 : ∀ w ∈ wsX70, w ∈ wsL_law := fun _ h => List.mem_append_left _ (List.mem_append_left _ (List.mem_append_left _ (List.mem_append_left _ (List.mem_append_left _ (List.mem_append_left _ (List.mem_append_right _ h))))))
theorem inX7 : ∀ w ∈ wsX70, w ∈ lw_tbl := fun w h => wsL_law_in w (inlX7 w h)
theorem inlX8 : ∀ w ∈ wsX80, w ∈ wsL_law := fun _ h => List.mem_append_left _ (List.mem_append_left _ (List.mem_append_left _ (List.mem_append_left _ (List.mem_append_left _ (List.mem_append_left _ (List.mem_append_left _ (List.mem_append_left _ (List.mem_append_left _ (List.mem_append_left _ (List.mem_append_left _ (List.mem_append_left _ (List.mem_append_left _ (List.mem_append_left _ (List.mem_append_right _ h))))))))))))))
theorem inX8 : ∀ w ∈ wsX80, w ∈ lw_tbl := fun w h => wsL_law_in w (inlX8 w h)
theorem inlX9 : ∀ w ∈ wsX90, w ∈ wsL_law := fun _ h => List.mem_append_left _ (List.mem_append_left _ (List.mem_append_left _ (List.mem_append_left _ (List.mem_append_right _ h))))
theorem inX9 : ∀ w ∈ wsX90, w ∈ lw_tbl := fun w h => wsL_law_in w (inlX9 w h)
theorem inlX10 : ∀ w ∈ wsX100, w ∈ wsL_law := fun _ h => List.mem_append_left _ (List.mem_append_left _ (List.mem_append_left _ (List.mem_append_left _ (List.mem_append_left _ (List.mem_append_left _ (List.mem_append_left _ (List.mem_append_left _ (List.mem_append_left _ (List.mem_append_left _ (List.mem_append_left _ (List.mem_append_left _ (List.mem_append_left _ (List.mem_append_right _ h)))))))))))))
theorem inX10 : ∀ w ∈ wsX100, w ∈ lw_tbl := fun w h => wsL_law_in w (inlX10 w h)
theorem inJ9 : ∀ w ∈ wsJ90, w ∈ lw_tbl := by decide +kernel
theorem inJ0 : ∀ w ∈ wsJ00, w ∈ lw_tbl := by decide +kernel
theorem inJ10 : ∀ w ∈ wsJ100, w ∈ lw_tbl := by decide +kernel
set_option maxRecDepth 20000 in
theorem gL_law_X8_init : GoodIn wsL_law (wsX8_init) := ggL_law_X8_init
set_option maxRecDepth 20000 in
theorem gL_law_X10_init : GoodIn wsL_law (wsX10_init) := ggL_law_X10_init
set_option maxRecDepth 20000 in
theorem gL_law_L_block : GoodIn wsL_law (va_wsS RL 90 yL_block wsL_block) := goodIn_app (goodIn_of _ (by decide +kernel)) ggL_law_L_block
set_option maxRecDepth 20000 in
theorem gL_law_X10_block : GoodIn wsL_law (wsV RL 95 RX10 yX10_block wsX10_block) := goodIn_app (goodIn_of _ (by decide +kernel)) ggL_law_X10_block
set_option maxRecDepth 20000 in
theorem gL_law_X10_thrown : GoodIn wsL_law (wsV RL 96 RX10 yX10_thrown wsX10_thrown) := goodIn_app (goodIn_of _ (by decide +kernel)) ggL_law_X10_thrown
set_option maxRecDepth 20000 in
theorem gL_law_L_face : GoodIn wsL_law (va_wsS RL 100 yL_face wsL_face) := goodIn_app (goodIn_of _ (by decide +kernel)) ggL_law_L_face
set_option maxRecDepth 20000 in
theorem gL_law_X10_face : GoodIn wsL_law (wsV RL 103 RX10 yX10_face wsX10_face) := goodIn_app (goodIn_of _ (by decide +kernel)) ggL_law_X10_face
set_option maxRecDepth 20000 in
theorem gL_law_L_well : GoodIn wsL_law (va_wsS RL 104 yL_well wsL_well) := goodIn_app (goodIn_of _ (by decide +kernel)) ggL_law_L_well
set_option maxRecDepth 20000 in
theorem gL_law_X10_well : GoodIn wsL_law (wsV RL 107 RX10 yX10_well wsX10_well) := goodIn_app (goodIn_of _ (by decide +kernel)) ggL_law_X10_well
set_option maxRecDepth 20000 in
theorem gL_law_L_spring : GoodIn wsL_law (va_wsS RL 108 yL_spring wsL_spring) := goodIn_app (goodIn_of _ (by decide +kernel)) ggL_law_L_spring
set_option maxRecDepth 20000 in
theorem gL_law_X10_spring : GoodIn wsL_law (wsV RL 110 RX10 yX10_spring wsX10_spring) := goodIn_app (goodIn_of _ (by decide +kernel)) ggL_law_X10_spring
set_option maxRecDepth 20000 in
theorem gL_law_L_valve : GoodIn wsL_law (va_wsS RL 111 yL_valve wsL_valve) := goodIn_app (goodIn_of _ (by decide +kernel)) ggL_law_L_valve
set_option maxRecDepth 20000 in
theorem gL_law_X10_valve : GoodIn wsL_law (wsV RL 114 RX10 yX10_valve wsX10_valve) := goodIn_app (goodIn_of _ (by decide +kernel)) ggL_law_X10_valve
set_option maxRecDepth 20000 in
theorem gL_law_L_trace : GoodIn wsL_law (va_wsS RL 115 yL_trace wsL_trace) := goodIn_app (goodIn_of _ (by decide +kernel)) ggL_law_L_trace
set_option maxRecDepth 20000 in
theorem gL_law_X10_trace : GoodIn wsL_law (wsV RL 117 RX10 yX10_trace wsX10_trace) := goodIn_app (goodIn_of _ (by decide +kernel)) ggL_law_X10_trace
set_option maxRecDepth 20000 in
theorem gL_law_L_clean : GoodIn wsL_law (va_wsS RL 118 yL_clean wsL_clean) := goodIn_app (goodIn_of _ (by decide +kernel)) ggL_law_L_clean
set_option maxRecDepth 20000 in
theorem gL_law_X10_clean : GoodIn wsL_law (wsV RL 121 RX10 yX10_clean wsX10_clean) := goodIn_app (goodIn_of _ (by decide +kernel)) ggL_law_X10_clean
set_option maxRecDepth 20000 in
theorem gL_law_L_turbine : GoodIn wsL_law (va_wsS RL 122 yL_turbine wsL_turbine) := goodIn_app (goodIn_of _ (by decide +kernel)) ggL_law_L_turbine
set_option maxRecDepth 20000 in
theorem gL_law_X10_turbine : GoodIn wsL_law (wsV RL 124 RX10 yX10_turbine wsX10_turbine) := goodIn_app (goodIn_of _ (by decide +kernel)) ggL_law_X10_turbine
set_option maxRecDepth 20000 in
theorem gL_law_L_town : GoodIn wsL_law (va_wsS RL 125 yL_town wsL_town) := goodIn_app (goodIn_of _ (by decide +kernel)) ggL_law_L_town
set_option maxRecDepth 20000 in
theorem gL_law_X10_town : GoodIn wsL_law (wsV RL 127 RX10 yX10_town wsX10_town) := goodIn_app (goodIn_of _ (by decide +kernel)) ggL_law_X10_town
set_option maxRecDepth 20000 in
theorem gL_law_L_run : GoodIn wsL_law (va_wsS RL 128 yL_run wsL_run) := goodIn_app (goodIn_of _ (by decide +kernel)) ggL_law_L_run
set_option maxRecDepth 20000 in
theorem gL_law_X10_run : GoodIn wsL_law (wsV RL 130 RX10 yX10_run wsX10_run) := goodIn_app (goodIn_of _ (by decide +kernel)) ggL_law_X10_run
set_option maxRecDepth 20000 in
theorem gL_law_L_ofBlock : GoodIn wsL_law (va_wsS RL 131 yL_ofBlock wsL_ofBlock) := goodIn_app (goodIn_of _ (by decide +kernel)) ggL_law_L_ofBlock
set_option maxRecDepth 20000 in
theorem gL_law_X10_ofBlock : GoodIn wsL_law (wsV RL 133 RX10 yX10_ofBlock wsX10_ofBlock) := goodIn_app (goodIn_of _ (by decide +kernel)) ggL_law_X10_ofBlock
set_option maxRecDepth 20000 in
theorem gL_law_L_ofWell : GoodIn wsL_law (va_wsS RL 134 yL_ofWell wsL_ofWell) := goodIn_app (goodIn_of _ (by decide +kernel)) ggL_law_L_ofWell
set_option maxRecDepth 20000 in
theorem gL_law_X10_ofWell : GoodIn wsL_law (wsV RL 136 RX10 yX10_ofWell wsX10_ofWell) := goodIn_app (goodIn_of _ (by decide +kernel)) ggL_law_X10_ofWell
set_option maxRecDepth 20000 in
theorem gL_law_L_ofSpring : GoodIn wsL_law (va_wsS RL 137 yL_ofSpring wsL_ofSpring) := goodIn_app (goodIn_of _ (by decide +kernel)) ggL_law_L_ofSpring
set_option maxRecDepth 20000 in
theorem gL_law_X10_ofSpring : GoodIn wsL_law (wsV RL 139 RX10 yX10_ofSpring wsX10_ofSpring) := goodIn_app (goodIn_of _ (by decide +kernel)) ggL_law_X10_ofSpring
set_option maxRecDepth 20000 in
theorem gL_law_L_ofFace : GoodIn wsL_law (va_wsS RL 140 yL_ofFace wsL_ofFace) := goodIn_app (goodIn_of _ (by decide +kernel)) ggL_law_L_ofFace
set_option maxRecDepth 20000 in
theorem gL_law_X10_ofFace : GoodIn wsL_law (wsV RL 142 RX10 yX10_ofFace wsX10_ofFace) := goodIn_app (goodIn_of _ (by decide +kernel)) ggL_law_X10_ofFace
set_option maxRecDepth 20000 in
theorem gL_law_L_pond : GoodIn wsL_law (va_wsS RL 143 yL_pond wsL_pond) := goodIn_app (goodIn_of _ (by decide +kernel)) ggL_law_L_pond
set_option maxRecDepth 20000 in
theorem gL_law_X10_pond : GoodIn wsL_law (wsV RL 145 RX10 yX10_pond wsX10_pond) := goodIn_app (goodIn_of _ (by decide +kernel)) ggL_law_X10_pond
set_option maxRecDepth 20000 in
theorem gL_law_L_ofOwner : GoodIn wsL_law (va_wsS RL 146 yL_ofOwner wsL_ofOwner) := goodIn_app (goodIn_of _ (by decide +kernel)) ggL_law_L_ofOwner
set_option maxRecDepth 20000 in
theorem gL_law_X10_ofOwner : GoodIn wsL_law (wsV RL 148 RX10 yX10_ofOwner wsX10_ofOwner) := goodIn_app (goodIn_of _ (by decide +kernel)) ggL_law_X10_ofOwner
set_option maxRecDepth 20000 in
theorem gL_law_L_mass : GoodIn wsL_law (va_wsS RL 149 yL_mass wsL_mass) := goodIn_app (goodIn_of _ (by decide +kernel)) ggL_law_L_mass
set_option maxRecDepth 20000 in
theorem gL_law_X10_mass : GoodIn wsL_law (wsV RL 151 RX10 yX10_mass wsX10_mass) := goodIn_app (goodIn_of _ (by decide +kernel)) ggL_law_X10_mass
set_option maxRecDepth 20000 in
theorem gL_law_X8_isClosed : GoodIn wsL_law (wsV RL 152 RX8 yX8_isClosed wsX8_isClosed) := goodIn_app (goodIn_of _ (by decide +kernel)) ggL_law_X8_isClosed
set_option maxRecDepth 20000 in
theorem gL_law_X10_isClosed : GoodIn wsL_law (wsV RL 156 RX10 yX10_isClosed wsX10_isClosed) := goodIn_app (goodIn_of _ (by decide +kernel)) ggL_law_X10_isClosed
set_option maxRecDepth 20000 in
theorem gL_law_L_many : GoodIn wsL_law (va_wsS RL 157 yL_many wsL_many) := goodIn_app (goodIn_of _ (by decide +kernel)) ggL_law_L_many
set_option maxRecDepth 20000 in
theorem gL_law_X10_many : GoodIn wsL_law (wsV RL 159 RX10 yX10_many wsX10_many) := goodIn_app (goodIn_of _ (by decide +kernel)) ggL_law_X10_many
set_option maxRecDepth 20000 in
theorem gL_law_X8_meanWarmth : GoodIn wsL_law (wsV RL 160 RX8 yX8_meanWarmth wsX8_meanWarmth) := goodIn_app (goodIn_of _ (by decide +kernel)) ggL_law_X8_meanWarmth
set_option maxRecDepth 20000 in
theorem gL_law_X10_meanWarmth : GoodIn wsL_law (wsV RL 164 RX10 yX10_meanWarmth wsX10_meanWarmth) := goodIn_app (goodIn_of _ (by decide +kernel)) ggL_law_X10_meanWarmth
set_option maxRecDepth 20000 in
theorem gL_law_L_wouldGive : GoodIn wsL_law (va_wsS RL 165 yL_wouldGive wsL_wouldGive) := goodIn_app (goodIn_of _ (by decide +kernel)) ggL_law_L_wouldGive
set_option maxRecDepth 20000 in
theorem gL_law_X10_wouldGive : GoodIn wsL_law (wsV RL 167 RX10 yX10_wouldGive wsX10_wouldGive) := goodIn_app (goodIn_of _ (by decide +kernel)) ggL_law_X10_wouldGive
set_option maxRecDepth 20000 in
theorem gL_law_L_coldIn : GoodIn wsL_law (va_wsS RL 168 yL_coldIn wsL_coldIn) := goodIn_app (goodIn_of _ (by decide +kernel)) ggL_law_L_coldIn
set_option maxRecDepth 20000 in
theorem gL_law_X10_coldIn : GoodIn wsL_law (wsV RL 170 RX10 yX10_coldIn wsX10_coldIn) := goodIn_app (goodIn_of _ (by decide +kernel)) ggL_law_X10_coldIn
set_option maxRecDepth 20000 in
theorem gL_law_L_causedBy : GoodIn wsL_law (va_wsS RL 171 yL_causedBy wsL_causedBy) := goodIn_app (goodIn_of _ (by decide +kernel)) ggL_law_L_causedBy
set_option maxRecDepth 20000 in
theorem gL_law_X10_causedBy : GoodIn wsL_law (wsV RL 173 RX10 yX10_causedBy wsX10_causedBy) := goodIn_app (goodIn_of _ (by decide +kernel)) ggL_law_X10_causedBy
set_option maxRecDepth 20000 in
theorem gL_law_L_bestValves : GoodIn wsL_law (va_wsS RL 174 yL_bestValves wsL_bestValves) := goodIn_app (goodIn_of _ (by decide +kernel)) ggL_law_L_bestValves
set_option maxRecDepth 20000 in
theorem gL_law_X10_bestValves : GoodIn wsL_law (wsV RL 176 RX10 yX10_bestValves wsX10_bestValves) := goodIn_app (goodIn_of _ (by decide +kernel)) ggL_law_X10_bestValves
set_option maxRecDepth 20000 in
theorem gL_law_X8_digest : GoodIn wsL_law (wsV RL 177 RX8 yX8_digest wsX8_digest) := goodIn_app (goodIn_of _ (by decide +kernel)) ggL_law_X8_digest
set_option maxRecDepth 20000 in
theorem gL_law_X10_digest : GoodIn wsL_law (wsV RL 181 RX10 yX10_digest wsX10_digest) := goodIn_app (goodIn_of _ (by decide +kernel)) ggL_law_X10_digest

