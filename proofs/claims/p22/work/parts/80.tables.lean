set_option maxRecDepth 20000 in
theorem wsL_law0_r1_in : ∀ w ∈ wsL_law0_r1, w ∈ lw_tbl := fun w h => (goodIn_p wsL_law0_r1 [29, 32, 67] (by decide +kernel) (by decide +kernel) w h).1
set_option maxRecDepth 20000 in
theorem wsL_law0_r2_in : ∀ w ∈ wsL_law0_r2, w ∈ lw_tbl := fun w h => (goodIn_p wsL_law0_r2 [84, 88, 70, 75] (by decide +kernel) (by decide +kernel) w h).1
set_option maxRecDepth 20000 in
theorem wsL_law0_r3_a : ∀ w ∈ ([Cond.static yL_acts] : List Cond), w ∈ lw_tbl := fun w h => (goodIn_p [Cond.static yL_acts] [] (by decide +kernel) (by decide +kernel) w h).1
set_option maxRecDepth 20000 in
theorem wsL_law0_r3_c : ∀ w ∈ ([Cond.constant RL 21 (-1000003), Cond.constant RL 18 (-1000002), Cond.constant RL 107 (-100000), Cond.constant RL 134 (100000), Cond.constant RL 137 (100001), Cond.methodLink RL 126 yL_addMeasure, Cond.static yL_addMeasure, Cond.codeWith yL_addMeasure cL_addMeasure 3 (some .int) [(0, 5, 6, 16), (0, 5, 10, 19)], Cond.classLink RL 16 "java/lang/IllegalArgumentException", Cond.classLink RL 19 "java/lang/IllegalStateException", Cond.methodLink RL 10 yX4_addMeasure, Cond.instanceMethod yX4_addMeasure, Cond.selects RX4 yX4_addMeasure yX4_addMeasure, Cond.code yX4_addMeasure cX4_addMeasure 2 (some .int), Cond.fieldLink RX4 31 "BuildingPoints" "pointCount" "I", Cond.instantiable RX1 8, Cond.initialized RX1, Cond.methodLink RX4 27 yX4_requireWithin, Cond.static yX4_requireWithin, Cond.code yX4_requireWithin cX4_requireWithin 3 none, Cond.classLink RX4 152 "java/lang/IllegalArgumentException", Cond.initialized "java/lang/IllegalArgumentException"] : List Cond), w ∈ lw_tbl := fun w h => (goodIn_p [Cond.constant RL 21 (-1000003), Cond.constant RL 18 (-1000002), Cond.constant RL 107 (-100000), Cond.constant RL 134 (100000), Cond.constant RL 137 (100001), Cond.methodLink RL 126 yL_addMeasure, Cond.static yL_addMeasure, Cond.codeWith yL_addMeasure cL_addMeasure 3 (some .int) [(0, 5, 6, 16), (0, 5, 10, 19)], Cond.classLink RL 16 "java/lang/IllegalArgumentException", Cond.classLink RL 19 "java/lang/IllegalStateException", Cond.methodLink RL 10 yX4_addMeasure, Cond.instanceMethod yX4_addMeasure, Cond.selects RX4 yX4_addMeasure yX4_addMeasure, Cond.code yX4_addMeasure cX4_addMeasure 2 (some .int), Cond.fieldLink RX4 31 "BuildingPoints" "pointCount" "I", Cond.instantiable RX1 8, Cond.initialized RX1, Cond.methodLink RX4 27 yX4_requireWithin, Cond.static yX4_requireWithin, Cond.code yX4_requireWithin cX4_requireWithin 3 none, Cond.classLink RX4 152 "java/lang/IllegalArgumentException", Cond.initialized "java/lang/IllegalArgumentException"] [294, 202] (by decide +kernel) (by decide +kernel) w h).1
set_option maxRecDepth 20000 in
theorem wsL_law0_r3_b : Cond.code yL_acts cL_acts 20 (some .boolean) ∈ lw_tbl := List.mem_of_getElem? (i := 285) rfl
theorem wsL_law0_r3_in : ∀ w ∈ wsL_law0_r3, w ∈ lw_tbl := fun w h => by
  have h2 : w ∈ ([Cond.static yL_acts] : List Cond) ++ Cond.code yL_acts cL_acts 20 (some .boolean) :: [Cond.constant RL 21 (-1000003), Cond.constant RL 18 (-1000002), Cond.constant RL 107 (-100000), Cond.constant RL 134 (100000), Cond.constant RL 137 (100001), Cond.methodLink RL 126 yL_addMeasure, Cond.static yL_addMeasure, Cond.codeWith yL_addMeasure cL_addMeasure 3 (some .int) [(0, 5, 6, 16), (0, 5, 10, 19)], Cond.classLink RL 16 "java/lang/IllegalArgumentException", Cond.classLink RL 19 "java/lang/IllegalStateException", Cond.methodLink RL 10 yX4_addMeasure, Cond.instanceMethod yX4_addMeasure, Cond.selects RX4 yX4_addMeasure yX4_addMeasure, Cond.code yX4_addMeasure cX4_addMeasure 2 (some .int), Cond.fieldLink RX4 31 "BuildingPoints" "pointCount" "I", Cond.instantiable RX1 8, Cond.initialized RX1, Cond.methodLink RX4 27 yX4_requireWithin, Cond.static yX4_requireWithin, Cond.code yX4_requireWithin cX4_requireWithin 3 none, Cond.classLink RX4 152 "java/lang/IllegalArgumentException", Cond.initialized "java/lang/IllegalArgumentException"] := h
  refine (List.mem_append.mp h2).elim (wsL_law0_r3_a w) (fun h3 => (List.mem_cons.mp h3).elim (fun e => ?_) (wsL_law0_r3_c w))
  rw [e]; exact wsL_law0_r3_b
set_option maxRecDepth 20000 in
theorem wsL_law0_r4_in : ∀ w ∈ wsL_law0_r4, w ∈ lw_tbl := fun w h => (goodIn_p wsL_law0_r4 [297, 317, 321] (by decide +kernel) (by decide +kernel) w h).1
set_option maxRecDepth 20000 in
theorem wsL_law0_r5_in : ∀ w ∈ wsL_law0_r5, w ∈ lw_tbl := fun w h => (goodIn_p wsL_law0_r5 [359, 362, 191, 199] (by decide +kernel) (by decide +kernel) w h).1
set_option maxRecDepth 20000 in
theorem wsL_law0_r6_in : ∀ w ∈ wsL_law0_r6, w ∈ lw_tbl := fun w h => (goodIn_p wsL_law0_r6 [180, 184, 369, 372] (by decide +kernel) (by decide +kernel) w h).1
set_option maxRecDepth 20000 in
theorem wsL_law0_r7_in : ∀ w ∈ wsL_law0_r7, w ∈ lw_tbl := fun w h => (goodIn_p wsL_law0_r7 [377, 383, 387, 172, 392, 396] (by decide +kernel) (by decide +kernel) w h).1
set_option maxRecDepth 20000 in
theorem wsL_law0_r8_in : ∀ w ∈ wsL_law0_r8, w ∈ lw_tbl := fun w h => (goodIn_p wsL_law0_r8 [400, 403, 407] (by decide +kernel) (by decide +kernel) w h).1
set_option maxRecDepth 20000 in
theorem wsL_law0_r9_in : ∀ w ∈ wsL_law0_r9, w ∈ lw_tbl := fun w h => (goodIn_p wsL_law0_r9 [168, 415, 420] (by decide +kernel) (by decide +kernel) w h).1
set_option maxRecDepth 20000 in
theorem wsL_law0_r10_in : ∀ w ∈ wsL_law0_r10, w ∈ lw_tbl := fun w h => (goodIn_p wsL_law0_r10 [245, 230, 238, 226] (by decide +kernel) (by decide +kernel) w h).1
set_option maxRecDepth 20000 in
theorem wsL_law0_r11_in : ∀ w ∈ wsL_law0_r11, w ∈ lw_tbl := fun w h => (goodIn_p wsL_law0_r11 [453, 461, 465] (by decide +kernel) (by decide +kernel) w h).1
set_option maxRecDepth 20000 in
theorem wsL_law0_r12_in : ∀ w ∈ wsL_law0_r12, w ∈ lw_tbl := fun w h => (goodIn_p wsL_law0_r12 [471, 515] (by decide +kernel) (by decide +kernel) w h).1
set_option maxRecDepth 20000 in
theorem wsL_law0_r13_in : ∀ w ∈ wsL_law0_r13, w ∈ lw_tbl := fun w h => (goodIn_p wsL_law0_r13 [266, 518, 522, 526, 530, 272] (by decide +kernel) (by decide +kernel) w h).1
set_option maxRecDepth 20000 in
theorem wsL_law0_r14_in : ∀ w ∈ wsL_law0_r14, w ∈ lw_tbl := fun w h => (goodIn_p wsL_law0_r14 [276, 280, 537, 262] (by decide +kernel) (by decide +kernel) w h).1
set_option maxRecDepth 20000 in
theorem wsL_law0_r15_in : ∀ w ∈ wsL_law0_r15, w ∈ lw_tbl := fun w h => (goodIn_p wsL_law0_r15 [540, 547, 552, 556, 560] (by decide +kernel) (by decide +kernel) w h).1
set_option maxRecDepth 20000 in
theorem wsL_law0_r16_in : ∀ w ∈ wsL_law0_r16, w ∈ lw_tbl := fun w h => (goodIn_p wsL_law0_r16 [564, 248, 251, 255, 160] (by decide +kernel) (by decide +kernel) w h).1
set_option maxRecDepth 20000 in
theorem wsX40_in0 : ∀ w ∈ wsX40, w ∈ lw_tbl := by decide +kernel
set_option maxRecDepth 20000 in
theorem wsX10_in0 : ∀ w ∈ wsX10, w ∈ lw_tbl := by decide +kernel
set_option maxRecDepth 20000 in
theorem wsX30_in0 : ∀ w ∈ wsX30, w ∈ lw_tbl := by decide +kernel
set_option maxRecDepth 20000 in
theorem wsX20_in0 : ∀ w ∈ wsX20, w ∈ lw_tbl := by decide +kernel
set_option maxRecDepth 20000 in
theorem wsX00_in0 : ∀ w ∈ wsX00, w ∈ lw_tbl := by decide +kernel
theorem wsL_law_in0 : ∀ w ∈ wsL_law0, w ∈ lw_tbl := fun w h => by
  unfold wsL_law0 at h
  refine (List.mem_append.mp h).elim (fun h => ?_) (fun h => absurd h List.not_mem_nil)
  refine (List.mem_append.mp h).elim (fun h => ?_) (wsX00_in0 w)
  refine (List.mem_append.mp h).elim (fun h => ?_) (wsX20_in0 w)
  refine (List.mem_append.mp h).elim (fun h => ?_) (wsX30_in0 w)
  refine (List.mem_append.mp h).elim (fun h => ?_) (wsX10_in0 w)
  refine (List.mem_append.mp h).elim (fun h => ?_) (wsX40_in0 w)
  refine (List.mem_append.mp h).elim (wsL_law0_r1_in w) (fun h => ?_)
  refine (List.mem_append.mp h).elim (wsL_law0_r2_in w) (fun h => ?_)
  refine (List.mem_append.mp h).elim (wsL_law0_r3_in w) (fun h => ?_)
  refine (List.mem_append.mp h).elim (wsL_law0_r4_in w) (fun h => ?_)
  refine (List.mem_append.mp h).elim (wsL_law0_r5_in w) (fun h => ?_)
  refine (List.mem_append.mp h).elim (wsL_law0_r6_in w) (fun h => ?_)
  refine (List.mem_append.mp h).elim (wsL_law0_r7_in w) (fun h => ?_)
  refine (List.mem_append.mp h).elim (wsL_law0_r8_in w) (fun h => ?_)
  refine (List.mem_append.mp h).elim (wsL_law0_r9_in w) (fun h => ?_)
  refine (List.mem_append.mp h).elim (wsL_law0_r10_in w) (fun h => ?_)
  refine (List.mem_append.mp h).elim (wsL_law0_r11_in w) (fun h => ?_)
  refine (List.mem_append.mp h).elim (wsL_law0_r12_in w) (fun h => ?_)
  refine (List.mem_append.mp h).elim (wsL_law0_r13_in w) (fun h => ?_)
  refine (List.mem_append.mp h).elim (wsL_law0_r14_in w) (fun h => ?_)
  refine (List.mem_append.mp h).elim (wsL_law0_r15_in w) (fun h => ?_)
  exact wsL_law0_r16_in w h
theorem wsL_law_x0 : ∀ w ∈ (vx_atS RX4 177 "java/lang/IndexOutOfBoundsException" ["java/lang/RuntimeException", "java/lang/Exception"]).filter goodWord, w ∈ lw_tbl := by decide +kernel
theorem wsL_law_x1 : ∀ w ∈ (vx_atS RX4 156 "java/lang/IllegalArgumentException" ["java/lang/RuntimeException", "java/lang/Exception"]).filter goodWord, w ∈ lw_tbl := by decide +kernel
theorem wsL_law_x2 : ∀ w ∈ (vx_atS RX4 58 "java/lang/IllegalStateException" ["java/lang/RuntimeException", "java/lang/Exception"]).filter goodWord, w ∈ lw_tbl := by decide +kernel
theorem wsL_law_in : ∀ w ∈ wsL_law, w ∈ lw_tbl := fun w h => (List.mem_append.mp h).elim (fun h => (List.mem_append.mp h).elim (fun h => (List.mem_append.mp h).elim (fun h => wsL_law_in0 w h) (fun h => wsL_law_x0 w h)) (fun h => wsL_law_x1 w h)) (fun h => wsL_law_x2 w h)
theorem inlX0 : ∀ w ∈ wsX00, w ∈ wsL_law := fun _ h => List.mem_append_left _ (List.mem_append_left _ (List.mem_append_left _ (List.mem_append_left _ (List.mem_append_right _ h))))
theorem inX0 : ∀ w ∈ wsX00, w ∈ lw_tbl := fun w h => wsL_law_in w (inlX0 w h)
theorem inlX1 : ∀ w ∈ wsX10, w ∈ wsL_law := fun _ h => List.mem_append_left _ (List.mem_append_left _ (List.mem_append_left _ (List.mem_append_left _ (List.mem_append_left _ (List.mem_append_left _ (List.mem_append_left _ (List.mem_append_right _ h)))))))
theorem inX1 : ∀ w ∈ wsX10, w ∈ lw_tbl := fun w h => wsL_law_in w (inlX1 w h)
theorem inlX2 : ∀ w ∈ wsX20, w ∈ wsL_law := fun _ h => List.mem_append_left _ (List.mem_append_left _ (List.mem_append_left _ (List.mem_append_left _ (List.mem_append_left _ (List.mem_append_right _ h)))))
theorem inX2 : ∀ w ∈ wsX20, w ∈ lw_tbl := fun w h => wsL_law_in w (inlX2 w h)
theorem inlX3 : ∀ w ∈ wsX30, w ∈ wsL_law := fun _ h => List.mem_append_left _ (List.mem_append_left _ (List.mem_append_left _ (List.mem_append_left _ (List.mem_append_left _ (List.mem_append_left _ (List.mem_append_right _ h))))))
theorem inX3 : ∀ w ∈ wsX30, w ∈ lw_tbl := fun w h => wsL_law_in w (inlX3 w h)
theorem inlX4 : ∀ w ∈ wsX40, w ∈ wsL_law := fun _ h => List.mem_append_left _ (List.mem_append_left _ (List.mem_append_left _ (List.mem_append_left _ (List.mem_append_left _ (List.mem_append_left _ (List.mem_append_left _ (List.mem_append_left _ (List.mem_append_right _ h))))))))
theorem inX4 : ∀ w ∈ wsX40, w ∈ lw_tbl := fun w h => wsL_law_in w (inlX4 w h)
theorem inX5 : ∀ w ∈ wsX50, w ∈ lw_tbl := by decide +kernel
theorem inJx145de : ∀ w ∈ wsJx145de0, w ∈ lw_tbl := by decide +kernel
theorem inJ9 : ∀ w ∈ wsJ90, w ∈ lw_tbl := by decide +kernel
theorem inJ0 : ∀ w ∈ wsJ00, w ∈ lw_tbl := by decide +kernel
theorem inJ7 : ∀ w ∈ wsJ70, w ∈ lw_tbl := by decide +kernel
