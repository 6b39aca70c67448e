theorem ggL_passes_L_pass : GoodIn wsL_passes wsL_pass := goodIn_ca (goodIn_ca (goodIn_ca (goodIn_ca (goodIn_ca (goodIn_ca (goodIn_ca (goodIn_ca ggL_passes_L_pass_q1 (goodIn_app ggL_passes_L_pass_q2 (goodIn_app ggL_passes_L_pass_q3 (goodIn_app ggL_passes_L_pass_q4 (goodIn_app ggL_passes_L_pass_q5 (ggL_passes_L_pass_q6)))))) ggL_passes_L_pass_wsX40) ggL_passes_L_pass_wsX10) ggL_passes_L_pass_wsX30) ggL_passes_L_pass_wsX20) ggL_passes_L_pass_wsX00) (goodIn_sub (fun _ h => List.mem_cons_of_mem _ (List.mem_append_left _ (List.mem_append_right _ h))) (by decide +kernel))) (goodIn_sub (fun _ h => List.mem_cons_of_mem _ (List.mem_append_right _ h)) (by decide +kernel))
set_option maxRecDepth 20000 in
theorem gL_passes_L_pass : GoodIn wsL_passes (va_wsS RL 118 yL_pass wsL_pass) := goodIn_app (goodIn_of _ (by decide +kernel)) ggL_passes_L_pass
set_option maxRecDepth 20000 in
theorem ggL_writes_L_value : GoodIn wsL_writes wsL_value := goodIn_ca (goodIn_r _ [6, 7, 8, 9, 10, 11, 12, 13, 14, 15, 16, 17, 18, 19, 20, 21, 134, 135, 136, 137, 138, 139, 140, 141, 142, 143, 144, 145, 146, 147, 148, 149] (by decide +kernel) (by decide +kernel)) (goodIn_sub (fun _ h => List.mem_cons_of_mem _ (List.mem_append_left _ (List.mem_append_left _ (List.mem_append_right _ h)))) (by decide +kernel))
set_option maxRecDepth 20000 in
theorem gL_writes_L_value : GoodIn wsL_writes (va_wsS RL 87 yL_value wsL_value) := goodIn_app (goodIn_of _ (by decide +kernel)) ggL_writes_L_value
set_option maxRecDepth 20000 in
theorem ggL_writes_L_changes : GoodIn wsL_writes wsL_changes := goodIn_ca (goodIn_r _ [24, 7, 8, 25, 26, 27, 12, 28, 29, 15, 16, 17, 18, 19, 20, 21, 134, 135, 136, 137, 138, 139, 140, 141, 142, 143, 144, 145, 146, 147, 148, 149] (by decide +kernel) (by decide +kernel)) (goodIn_sub (fun _ h => List.mem_cons_of_mem _ (List.mem_append_left _ (List.mem_append_left _ (List.mem_append_right _ h)))) (by decide +kernel))
set_option maxRecDepth 20000 in
theorem gL_writes_L_changes : GoodIn wsL_writes (va_wsS RL 96 yL_changes wsL_changes) := goodIn_app (goodIn_of _ (by decide +kernel)) ggL_writes_L_changes
set_option maxRecDepth 20000 in
theorem ggL_writes_L_command : GoodIn wsL_writes wsL_command := goodIn_ca (goodIn_ca (goodIn_r _ [32, 7, 33, 8, 34, 35, 36, 37, 12, 38, 39, 15, 16, 17, 18, 19, 20, 21, 40, 41, 42, 43, 44, 134, 135, 136, 137, 138, 139, 140, 141, 142, 143, 144, 145, 146, 147, 148, 149] (by decide +kernel) (by decide +kernel)) (goodIn_sub (fun _ h => List.mem_cons_of_mem _ (List.mem_append_left _ (List.mem_append_left _ (List.mem_append_right _ h)))) (by decide +kernel))) (goodIn_sub (fun _ h => List.mem_cons_of_mem _ (List.mem_append_left _ (List.mem_append_right _ h))) (by decide +kernel))
set_option maxRecDepth 20000 in
theorem gL_writes_L_command : GoodIn wsL_writes (va_wsS RL 98 yL_command wsL_command) := goodIn_app (goodIn_of _ (by decide +kernel)) ggL_writes_L_command
set_option maxRecDepth 20000 in
theorem ggL_writes_L_held : GoodIn wsL_writes wsL_held := goodIn_ca (goodIn_r _ [47, 7, 8, 48, 49, 50, 12, 51, 52, 53, 15, 16, 17, 18, 19, 20, 21, 54, 55, 56, 57, 58, 59, 134, 135, 136, 137, 138, 139, 140, 141, 142, 143, 144, 145, 146, 147, 148, 149] (by decide +kernel) (by decide +kernel)) (goodIn_sub (fun _ h => List.mem_cons_of_mem _ (List.mem_append_left _ (List.mem_append_left _ (List.mem_append_right _ h)))) (by decide +kernel))
set_option maxRecDepth 20000 in
theorem gL_writes_L_held : GoodIn wsL_writes (va_wsS RL 94 yL_held wsL_held) := goodIn_app (goodIn_of _ (by decide +kernel)) ggL_writes_L_held
set_option maxRecDepth 20000 in
set_option maxRecDepth 20000 in
theorem ggL_writes_L_write_q1b : GoodIn wsL_writes wsL_write_r1 := goodIn_r _ [7, 33, 63, 8, 34, 1, 64, 65, 66, 12, 67, 68, 69, 14, 15, 16, 17, 18, 19, 20, 21, 40, 41, 42] (by decide +kernel) (by decide +kernel)
theorem ggL_writes_L_write_q1 : GoodIn wsL_writes (.codeWith yL_write cL_write 5 (some .int) [(0, 7, 8, 30), (0, 7, 13, 16), (0, 7, 18, 19)] :: wsL_write_r1) := fun w h => (List.mem_cons.mp h).elim (fun e => by subst e; exact ⟨List.mem_of_getElem? (i := 62) rfl, good_of_word rfl⟩) (ggL_writes_L_write_q1b w)
set_option maxRecDepth 20000 in
theorem ggL_writes_L_write_q2 : GoodIn wsL_writes wsL_write_r2 := goodIn_r _ [43, 44, 70, 71, 72, 73, 74, 75, 76, 57, 77, 78, 79, 54, 55, 56, 58, 59, 80, 81, 82, 83, 39, 53] (by decide +kernel) (by decide +kernel)
set_option maxRecDepth 20000 in
theorem ggL_writes_L_write_q3 : GoodIn wsL_writes wsL_write_r3 := goodIn_r _ [84, 85, 86, 87, 88, 89, 90, 91, 92, 93, 94, 95, 96, 97, 98, 99, 100, 101, 102, 103, 104, 105, 106, 107] (by decide +kernel) (by decide +kernel)
set_option maxRecDepth 20000 in
theorem ggL_writes_L_write_q4 : GoodIn wsL_writes wsL_write_r4 := goodIn_r _ [108, 109, 110, 111, 112, 113, 114, 115, 116, 117, 118, 119, 120, 121, 122, 123, 124, 125] (by decide +kernel) (by decide +kernel)
set_option maxRecDepth 20000 in
theorem ggL_writes_L_write_wsX10 : GoodIn wsL_writes wsX10 := goodIn_r _ [134, 135, 136, 137, 138, 139, 140, 141] (by decide +kernel) (by decide +kernel)
set_option maxRecDepth 20000 in
theorem ggL_writes_L_write_wsX40 : GoodIn wsL_writes wsX40 := goodIn_r _ [142, 143, 144, 145, 146, 147, 148, 149] (by decide +kernel) (by decide +kernel)
set_option maxRecDepth 20000 in
theorem ggL_writes_L_write_wsX30 : GoodIn wsL_writes wsX30 := goodIn_r _ [150, 151, 152, 153, 154, 155] (by decide +kernel) (by decide +kernel)
theorem ggL_writes_L_write : GoodIn wsL_writes wsL_write := goodIn_ca (goodIn_ca (goodIn_ca (goodIn_ca (goodIn_ca (goodIn_ca (goodIn_ca ggL_writes_L_write_q1 (goodIn_app ggL_writes_L_write_q2 (goodIn_app ggL_writes_L_write_q3 (ggL_writes_L_write_q4)))) ggL_writes_L_write_wsX10) ggL_writes_L_write_wsX40) ggL_writes_L_write_wsX30) (goodIn_sub (fun _ h => List.mem_cons_of_mem _ (List.mem_append_right _ h)) (by decide +kernel))) (goodIn_sub (fun _ h => List.mem_cons_of_mem _ (List.mem_append_left _ (List.mem_append_left _ (List.mem_append_right _ h)))) (by decide +kernel))) (goodIn_sub (fun _ h => List.mem_cons_of_mem _ (List.mem_append_left _ (List.mem_append_right _ h))) (by decide +kernel))
set_option maxRecDepth 20000 in
theorem gL_writes_L_write : GoodIn wsL_writes (va_wsS RL 120 yL_write wsL_write) := goodIn_app (goodIn_of _ (by decide +kernel)) ggL_writes_L_write
set_option maxRecDepth 20000 in
theorem ggL_writes_L_standing : GoodIn wsL_writes wsL_standing := goodIn_ca (goodIn_r _ [128, 7, 8, 129, 130, 131, 12, 132, 15, 16, 17, 18, 19, 20, 21, 133, 91, 92, 57, 93, 88, 94, 142, 143, 144, 145, 146, 147, 148, 149, 134, 135, 136, 137, 138, 139, 140, 141] (by decide +kernel) (by decide +kernel)) (goodIn_sub (fun _ h => List.mem_cons_of_mem _ (List.mem_append_left _ (List.mem_append_left _ (List.mem_append_right _ h)))) (by decide +kernel))
set_option maxRecDepth 20000 in
theorem gL_writes_L_standing : GoodIn wsL_writes (va_wsS RL 92 yL_standing wsL_standing) := goodIn_app (goodIn_of _ (by decide +kernel)) ggL_writes_L_standing
set_option maxRecDepth 20000 in
theorem ggL_acts_L_low : GoodIn wsL_acts wsL_low := goodIn_r _ [10, 11] (by decide +kernel) (by decide +kernel)
set_option maxRecDepth 20000 in
theorem gL_acts_L_low : GoodIn wsL_acts (va_wsS RL 123 yL_low wsL_low) := goodIn_app (goodIn_of _ (by decide +kernel)) ggL_acts_L_low
set_option maxRecDepth 20000 in
theorem ggL_acts_L_addMeasure : GoodIn wsL_acts wsL_addMeasure := goodIn_ca (goodIn_ca (goodIn_r _ [14, 15, 16, 2, 1, 17, 18, 19, 20, 21, 22, 23, 24, 25, 26, 27, 28, 29, 30, 31, 32, 33, 34, 35, 36, 37, 38, 39, 40, 41, 42, 43, 44, 45, 46, 47, 48, 49, 50, 51, 52, 53, 54, 55, 56, 351, 352, 353, 354, 355, 356, 357, 358, 359, 360, 361, 362, 363, 364, 365, 366] (by decide +kernel) (by decide +kernel)) (goodIn_sub (fun _ h => List.mem_cons_of_mem _ (List.mem_append_left _ (List.mem_append_left _ (List.mem_append_right _ h)))) (by decide +kernel))) (goodIn_sub (fun _ h => List.mem_cons_of_mem _ (List.mem_append_left _ (List.mem_append_right _ h))) (by decide +kernel))
set_option maxRecDepth 20000 in
theorem gL_acts_L_addMeasure : GoodIn wsL_acts (va_wsS RL 126 yL_addMeasure wsL_addMeasure) := goodIn_app (goodIn_of _ (by decide +kernel)) ggL_acts_L_addMeasure
set_option maxRecDepth 20000 in
theorem ggL_acts_L_addSwitch : GoodIn wsL_acts wsL_addSwitch := goodIn_ca (goodIn_ca (goodIn_r _ [59, 15, 16, 2, 1, 60, 61, 62, 20, 63, 22, 23, 24, 25, 26, 27, 28, 29, 30, 31, 32, 33, 34, 35, 36, 37, 38, 39, 40, 41, 42, 43, 44, 45, 46, 47, 48, 49, 50, 51, 52, 53, 54, 55, 56, 351, 352, 353, 354, 355, 356, 357, 358, 359, 360, 361, 362, 363, 364, 365, 366] (by decide +kernel) (by decide +kernel)) (goodIn_sub (fun _ h => List.mem_cons_of_mem _ (List.mem_append_left _ (List.mem_append_left _ (List.mem_append_right _ h)))) (by decide +kernel))) (goodIn_sub (fun _ h => List.mem_cons_of_mem _ (List.mem_append_left _ (List.mem_append_right _ h))) (by decide +kernel))
set_option maxRecDepth 20000 in
theorem gL_acts_L_addSwitch : GoodIn wsL_acts (va_wsS RL 128 yL_addSwitch wsL_addSwitch) := goodIn_app (goodIn_of _ (by decide +kernel)) ggL_acts_L_addSwitch
set_option maxRecDepth 20000 in
set_option maxRecDepth 20000 in
theorem ggL_acts_L_writes_q1b : GoodIn wsL_acts wsL_writes_r1 := goodIn_r _ [1, 3, 67, 68, 9, 69, 70, 4, 71, 72, 73, 20, 74, 75, 76, 77, 78, 79, 80, 81, 23, 82, 83, 84] (by decide +kernel) (by decide +kernel)
theorem ggL_acts_L_writes_q1 : GoodIn wsL_acts (.code yL_writes cL_writes 14 (some .boolean) :: wsL_writes_r1) := fun w h => (List.mem_cons.mp h).elim (fun e => by subst e; exact ⟨List.mem_of_getElem? (i := 66) rfl, good_of_word rfl⟩) (ggL_acts_L_writes_q1b w)
set_option maxRecDepth 20000 in
theorem ggL_acts_L_writes_q2 : GoodIn wsL_acts wsL_writes_r2 := goodIn_r _ [85, 86, 87, 88, 89, 90, 91, 92, 15, 2, 93, 94, 95, 96, 97, 27, 28, 29, 30, 31, 98, 99, 100, 101] (by decide +kernel) (by decide +kernel)
set_option maxRecDepth 20000 in
theorem ggL_acts_L_writes_q3 : GoodIn wsL_acts wsL_writes_r3 := goodIn_r _ [102, 103, 104, 105, 106, 107, 108, 109, 26, 110, 51, 111, 112, 113, 16, 114, 115, 116, 117, 35, 36, 118, 119, 120] (by decide +kernel) (by decide +kernel)
set_option maxRecDepth 20000 in
theorem ggL_acts_L_writes_q4 : GoodIn wsL_acts wsL_writes_r4 := goodIn_r _ [121, 122, 123, 124, 125, 43, 44, 126, 127, 128, 129, 130, 131, 132, 133, 48, 45, 134, 135, 136, 137, 49, 138, 139] (by decide +kernel) (by decide +kernel)
set_option maxRecDepth 20000 in
theorem ggL_acts_L_writes_q5 : GoodIn wsL_acts wsL_writes_r5 := goodIn_r _ [140, 141, 50, 52, 46, 142, 143, 144, 145, 146, 147, 148, 149, 150, 151, 152, 153, 154, 155, 156, 157, 158, 159, 160] (by decide +kernel) (by decide +kernel)
set_option maxRecDepth 20000 in
theorem ggL_acts_L_writes_q6 : GoodIn wsL_acts wsL_writes_r6 := goodIn_r _ [161, 162, 163, 164, 165, 166, 167, 168, 169, 170, 171, 172, 173] (by decide +kernel) (by decide +kernel)
set_option maxRecDepth 20000 in
theorem ggL_acts_L_writes_wsX10 : GoodIn wsL_acts wsX10 := goodIn_r _ [359, 360, 361, 362, 363, 364, 365, 366] (by decide +kernel) (by decide +kernel)
set_option maxRecDepth 20000 in
theorem ggL_acts_L_writes_wsX40 : GoodIn wsL_acts wsX40 := goodIn_r _ [351, 352, 353, 354, 355, 356, 357, 358] (by decide +kernel) (by decide +kernel)
set_option maxRecDepth 20000 in
theorem ggL_acts_L_writes_wsX30 : GoodIn wsL_acts wsX30 := goodIn_r _ [367, 368, 369, 370, 371, 372] (by decide +kernel) (by decide +kernel)
theorem ggL_acts_L_writes : GoodIn wsL_acts wsL_writes := goodIn_ca (goodIn_ca (goodIn_ca (goodIn_ca (goodIn_ca (goodIn_ca (goodIn_ca ggL_acts_L_writes_q1 (goodIn_app ggL_acts_L_writes_q2 (goodIn_app ggL_acts_L_writes_q3 (goodIn_app ggL_acts_L_writes_q4 (goodIn_app ggL_acts_L_writes_q5 (ggL_acts_L_writes_q6)))))) ggL_acts_L_writes_wsX10) ggL_acts_L_writes_wsX40) ggL_acts_L_writes_wsX30) (goodIn_sub (fun _ h => List.mem_cons_of_mem _ (List.mem_append_right _ h)) (by decide +kernel))) (goodIn_sub (fun _ h => List.mem_cons_of_mem _ (List.mem_append_left _ (List.mem_append_left _ (List.mem_append_right _ h)))) (by decide +kernel))) (goodIn_sub (fun _ h => List.mem_cons_of_mem _ (List.mem_append_left _ (List.mem_append_right _ h))) (by decide +kernel))
set_option maxRecDepth 20000 in
theorem gL_acts_L_writes : GoodIn wsL_acts (va_wsS RL 130 yL_writes wsL_writes) := goodIn_app (goodIn_of _ (by decide +kernel)) ggL_acts_L_writes
set_option maxRecDepth 20000 in
set_option maxRecDepth 20000 in
theorem ggL_acts_L_write_q1b : GoodIn wsL_acts wsL_write_r1 := goodIn_r _ [70, 15, 16, 4, 2, 1, 114, 115, 116, 20, 117, 35, 36, 75, 76, 77, 78, 79, 80, 81, 23, 27, 28, 29] (by decide +kernel) (by decide +kernel)
theorem ggL_acts_L_write_q1 : GoodIn wsL_acts (.codeWith yL_write cL_write 5 (some .int) [(0, 7, 8, 30), (0, 7, 13, 16), (0, 7, 18, 19)] :: wsL_write_r1) := fun w h => (List.mem_cons.mp h).elim (fun e => by subst e; exact ⟨List.mem_of_getElem? (i := 113) rfl, good_of_word rfl⟩) (ggL_acts_L_write_q1b w)
set_option maxRecDepth 20000 in
theorem ggL_acts_L_write_q2 : GoodIn wsL_acts wsL_write_r2 := goodIn_r _ [30, 31, 118, 119, 120, 121, 122, 123, 124, 26, 125, 43, 44, 107, 108, 109, 110, 51, 126, 127, 128, 129, 97, 106] (by decide +kernel) (by decide +kernel)
set_option maxRecDepth 20000 in
theorem ggL_acts_L_write_q3 : GoodIn wsL_acts wsL_write_r3 := goodIn_r _ [130, 131, 132, 133, 48, 45, 134, 135, 136, 137, 49, 138, 139, 140, 141, 50, 52, 46, 142, 143, 144, 145, 146, 147] (by decide +kernel) (by decide +kernel)
set_option maxRecDepth 20000 in
theorem ggL_acts_L_write_q4 : GoodIn wsL_acts wsL_write_r4 := goodIn_r _ [148, 149, 150, 151, 152, 153, 154, 155, 156, 157, 158, 159, 160, 161, 162, 163, 164, 165] (by decide +kernel) (by decide +kernel)
set_option maxRecDepth 20000 in
theorem ggL_acts_L_write_wsX10 : GoodIn wsL_acts wsX10 := goodIn_r _ [359, 360, 361, 362, 363, 364, 365, 366] (by decide +kernel) (by decide +kernel)
set_option maxRecDepth 20000 in
theorem ggL_acts_L_write_wsX40 : GoodIn wsL_acts wsX40 := goodIn_r _ [351, 352, 353, 354, 355, 356, 357, 358] (by decide +kernel) (by decide +kernel)
set_option maxRecDepth 20000 in
theorem ggL_acts_L_write_wsX30 : GoodIn wsL_acts wsX30 := goodIn_r _ [367, 368, 369, 370, 371, 372] (by decide +kernel) (by decide +kernel)
theorem ggL_acts_L_write : GoodIn wsL_acts wsL_write := goodIn_ca (goodIn_ca (goodIn_ca (goodIn_ca (goodIn_ca (goodIn_ca (goodIn_ca ggL_acts_L_write_q1 (goodIn_app ggL_acts_L_write_q2 (goodIn_app ggL_acts_L_write_q3 (ggL_acts_L_write_q4)))) ggL_acts_L_write_wsX10) ggL_acts_L_write_wsX40) ggL_acts_L_write_wsX30) (goodIn_sub (fun _ h => List.mem_cons_of_mem _ (List.mem_append_left _ (List.mem_append_right _ h))) (by decide +kernel))) (goodIn_sub (fun _ h => List.mem_cons_of_mem _ (List.mem_append_right _ h)) (by decide +kernel))) (goodIn_sub (fun _ h => List.mem_cons_of_mem _ (List.mem_append_left _ (List.mem_append_left _ (List.mem_append_right _ h)))) (by decide +kernel))
set_option maxRecDepth 20000 in
theorem gL_acts_L_write : GoodIn wsL_acts (va_wsS RL 120 yL_write wsL_write) := goodIn_app (goodIn_of _ (by decide +kernel)) ggL_acts_L_write
set_option maxRecDepth 20000 in
theorem ggL_acts_X4_clock : GoodIn wsL_acts wsX4_clock := goodIn_r _ [177, 106, 351, 352, 353, 354, 355, 356, 357, 358] (by decide +kernel) (by decide +kernel)
set_option maxRecDepth 20000 in
theorem gL_acts_X4_clock : GoodIn wsL_acts (wsV RL 81 RX4 yX4_clock wsX4_clock) := goodIn_app (goodIn_of _ (by decide +kernel)) ggL_acts_X4_clock
set_option maxRecDepth 20000 in
theorem ggL_acts_L_subscribe : GoodIn wsL_acts wsL_subscribe := goodIn_ca (goodIn_ca (goodIn_ca (goodIn_r _ [180, 70, 15, 16, 4, 2, 1, 181, 182, 183, 20, 184, 185, 186, 146, 187, 188, 153, 106, 76, 77, 78, 79, 80, 81, 23, 27, 28, 29, 30, 31, 32, 33, 34, 35, 36, 189, 190, 191, 192, 41, 42, 193, 160, 194, 195, 155, 165, 196, 351, 352, 353, 354, 355, 356, 357, 358, 367, 368, 369, 370, 371, 372, 359, 360, 361, 362, 363, 364, 365, 366] (by decide +kernel) (by decide +kernel)) (goodIn_sub (fun _ h => List.mem_cons_of_mem _ (List.mem_append_right _ h)) (by decide +kernel))) (goodIn_sub (fun _ h => List.mem_cons_of_mem _ (List.mem_append_left _ (List.mem_append_left _ (List.mem_append_right _ h)))) (by decide +kernel))) (goodIn_sub (fun _ h => List.mem_cons_of_mem _ (List.mem_append_left _ (List.mem_append_right _ h))) (by decide +kernel))
set_option maxRecDepth 20000 in
theorem gL_acts_L_subscribe : GoodIn wsL_acts (va_wsS RL 135 yL_subscribe wsL_subscribe) := goodIn_app (goodIn_of _ (by decide +kernel)) ggL_acts_L_subscribe
set_option maxRecDepth 20000 in
theorem ggL_acts_L_reported : GoodIn wsL_acts wsL_reported := goodIn_ca (goodIn_r _ [199, 70, 4, 200, 201, 202, 20, 203, 204, 205, 206, 207, 208, 80, 81, 146, 367, 368, 369, 370, 371, 372, 351, 352, 353, 354, 355, 356, 357, 358] (by decide +kernel) (by decide +kernel)) (goodIn_sub (fun _ h => List.mem_cons_of_mem _ (List.mem_append_right _ h)) (by decide +kernel))
set_option maxRecDepth 20000 in
theorem gL_acts_L_reported : GoodIn wsL_acts (va_wsS RL 105 yL_reported wsL_reported) := goodIn_app (goodIn_of _ (by decide +kernel)) ggL_acts_L_reported
set_option maxRecDepth 20000 in
theorem ggL_acts_L_value : GoodIn wsL_acts wsL_value := goodIn_ca (goodIn_r _ [69, 70, 4, 71, 72, 73, 20, 74, 75, 76, 77, 78, 79, 80, 81, 23, 359, 360, 361, 362, 363, 364, 365, 366, 351, 352, 353, 354, 355, 356, 357, 358] (by decide +kernel) (by decide +kernel)) (goodIn_sub (fun _ h => List.mem_cons_of_mem _ (List.mem_append_right _ h)) (by decide +kernel))
set_option maxRecDepth 20000 in
theorem gL_acts_L_value : GoodIn wsL_acts (va_wsS RL 87 yL_value wsL_value) := goodIn_app (goodIn_of _ (by decide +kernel)) ggL_acts_L_value
set_option maxRecDepth 20000 in
theorem ggL_acts_L_reports : GoodIn wsL_acts wsL_reports := goodIn_ca (goodIn_r _ [211, 70, 4, 212, 213, 214, 20, 215, 216, 205, 206, 207, 208, 80, 81, 146, 367, 368, 369, 370, 371, 372, 351, 352, 353, 354, 355, 356, 357, 358] (by decide +kernel) (by decide +kernel)) (goodIn_sub (fun _ h => List.mem_cons_of_mem _ (List.mem_append_right _ h)) (by decide +kernel))
set_option maxRecDepth 20000 in
theorem gL_acts_L_reports : GoodIn wsL_acts (va_wsS RL 103 yL_reports wsL_reports) := goodIn_app (goodIn_of _ (by decide +kernel)) ggL_acts_L_reports
set_option maxRecDepth 20000 in
theorem ggL_acts_L_goesOn : GoodIn wsL_acts wsL_goesOn := goodIn_ca (goodIn_r _ [219, 70, 4, 220, 221, 222, 20, 223, 147, 205, 206, 207, 208, 80, 81, 146, 367, 368, 369, 370, 371, 372, 351, 352, 353, 354, 355, 356, 357, 358] (by decide +kernel) (by decide +kernel)) (goodIn_sub (fun _ h => List.mem_cons_of_mem _ (List.mem_append_right _ h)) (by decide +kernel))
set_option maxRecDepth 20000 in
theorem gL_acts_L_goesOn : GoodIn wsL_acts (va_wsS RL 101 yL_goesOn wsL_goesOn) := goodIn_app (goodIn_of _ (by decide +kernel)) ggL_acts_L_goesOn
set_option maxRecDepth 20000 in
theorem ggL_acts_L_end : GoodIn wsL_acts wsL_end := goodIn_ca (goodIn_ca (goodIn_r _ [226, 70, 16, 4, 1, 227, 228, 229, 20, 230, 35, 36, 147, 205, 206, 207, 208, 80, 81, 146, 367, 368, 369, 370, 371, 372, 351, 352, 353, 354, 355, 356, 357, 358] (by decide +kernel) (by decide +kernel)) (goodIn_sub (fun _ h => List.mem_cons_of_mem _ (List.mem_append_left _ (List.mem_append_right _ h))) (by decide +kernel))) (goodIn_sub (fun _ h => List.mem_cons_of_mem _ (List.mem_append_right _ h)) (by decide +kernel))
set_option maxRecDepth 20000 in
theorem gL_acts_L_end : GoodIn wsL_acts (va_wsS RL 138 yL_end wsL_end) := goodIn_app (goodIn_of _ (by decide +kernel)) ggL_acts_L_end
set_option maxRecDepth 20000 in
theorem ggL_acts_L_command : GoodIn wsL_acts wsL_command := goodIn_ca (goodIn_ca (goodIn_r _ [92, 70, 15, 4, 2, 93, 94, 95, 20, 96, 97, 76, 77, 78, 79, 80, 81, 23, 27, 28, 29, 30, 31, 359, 360, 361, 362, 363, 364, 365, 366, 351, 352, 353, 354, 355, 356, 357, 358] (by decide +kernel) (by decide +kernel)) (goodIn_sub (fun _ h => List.mem_cons_of_mem _ (List.mem_append_right _ h)) (by decide +kernel))) (goodIn_sub (fun _ h => List.mem_cons_of_mem _ (List.mem_append_left _ (List.mem_append_left _ (List.mem_append_right _ h)))) (by decide +kernel))
set_option maxRecDepth 20000 in
theorem gL_acts_L_command : GoodIn wsL_acts (va_wsS RL 98 yL_command wsL_command) := goodIn_app (goodIn_of _ (by decide +kernel)) ggL_acts_L_command
set_option maxRecDepth 20000 in
theorem ggL_acts_L_addSchedule : GoodIn wsL_acts wsL_addSchedule := goodIn_ca (goodIn_ca (goodIn_ca (goodIn_r _ [233, 70, 15, 16, 4, 2, 1, 234, 235, 236, 20, 237, 238, 239, 240, 241, 242, 76, 77, 78, 79, 80, 81, 23, 27, 28, 29, 30, 31, 32, 33, 34, 35, 36, 243, 244, 245, 246, 41, 42, 247, 248, 249, 250, 251, 252, 253, 254, 255, 256, 257, 258, 259, 47, 260, 261, 262, 263, 351, 352, 353, 354, 355, 356, 357, 358, 373, 374, 375, 376, 377, 378, 379, 380, 381] (by decide +kernel) (by decide +kernel)) (goodIn_sub (fun _ h => List.mem_cons_of_mem _ (List.mem_append_right _ h)) (by decide +kernel))) (goodIn_sub (fun _ h => List.mem_cons_of_mem _ (List.mem_append_left _ (List.mem_append_left _ (List.mem_append_right _ h)))) (by decide +kernel))) (goodIn_sub (fun _ h => List.mem_cons_of_mem _ (List.mem_append_left _ (List.mem_append_right _ h))) (by decide +kernel))
set_option maxRecDepth 20000 in
theorem gL_acts_L_addSchedule : GoodIn wsL_acts (va_wsS RL 140 yL_addSchedule wsL_addSchedule) := goodIn_app (goodIn_of _ (by decide +kernel)) ggL_acts_L_addSchedule
set_option maxRecDepth 20000 in
set_option maxRecDepth 20000 in
theorem ggL_acts_L_once_q1b : GoodIn wsL_acts wsL_once_r1 := goodIn_r _ [70, 15, 16, 4, 2, 1, 267, 268, 269, 20, 270, 271, 272, 273, 274, 275, 276, 80, 81, 239, 27, 28, 29, 30] (by decide +kernel) (by decide +kernel)
theorem ggL_acts_L_once_q1 : GoodIn wsL_acts (.codeWith yL_once cL_once 6 (some .int) [(0, 9, 10, 30), (0, 9, 15, 16), (0, 9, 20, 19)] :: wsL_once_r1) := fun w h => (List.mem_cons.mp h).elim (fun e => by subst e; exact ⟨List.mem_of_getElem? (i := 266) rfl, good_of_word rfl⟩) (ggL_acts_L_once_q1b w)
set_option maxRecDepth 20000 in
theorem ggL_acts_L_once_q2 : GoodIn wsL_acts wsL_once_r2 := goodIn_r _ [31, 277, 278, 279, 280, 118, 119, 120, 121, 122, 123, 124, 26, 125, 43, 44, 281, 282, 283, 242, 284, 252, 285, 253] (by decide +kernel) (by decide +kernel)
set_option maxRecDepth 20000 in
theorem ggL_acts_L_once_q3 : GoodIn wsL_acts wsL_once_r3 := goodIn_r _ [32, 33, 34, 35, 36, 286, 287, 288, 251, 289, 263, 260, 261, 262, 290, 291, 292, 293, 106, 294, 295, 296, 297, 298] (by decide +kernel) (by decide +kernel)
set_option maxRecDepth 20000 in
theorem ggL_acts_L_once_q4 : GoodIn wsL_acts wsL_once_r4 := goodIn_r _ [299, 300, 301, 302, 303, 304, 305, 306, 307, 126, 127, 128, 129, 97, 75, 130, 131, 132, 133, 48, 45, 134, 135, 136] (by decide +kernel) (by decide +kernel)
set_option maxRecDepth 20000 in
theorem ggL_acts_L_once_q5 : GoodIn wsL_acts wsL_once_r5 := goodIn_r _ [137, 49, 138, 139, 140, 141, 50, 52, 46, 51, 142, 143, 144, 145, 146, 147, 148, 149, 150, 151, 152, 153, 154, 155] (by decide +kernel) (by decide +kernel)
set_option maxRecDepth 20000 in
theorem ggL_acts_L_once_q6 : GoodIn wsL_acts wsL_once_r6 := goodIn_r _ [156, 157, 158, 159, 160, 161, 162, 163, 164, 165] (by decide +kernel) (by decide +kernel)
set_option maxRecDepth 20000 in
theorem ggL_acts_L_once_wsX20 : GoodIn wsL_acts wsX20 := goodIn_r _ [373, 374, 375, 376, 377] (by decide +kernel) (by decide +kernel)
set_option maxRecDepth 20000 in
theorem ggL_acts_L_once_wsX40 : GoodIn wsL_acts wsX40 := goodIn_r _ [351, 352, 353, 354, 355, 356, 357, 358] (by decide +kernel) (by decide +kernel)
set_option maxRecDepth 20000 in
theorem ggL_acts_L_once_wsX10 : GoodIn wsL_acts wsX10 := goodIn_r _ [359, 360, 361, 362, 363, 364, 365, 366] (by decide +kernel) (by decide +kernel)
set_option maxRecDepth 20000 in
theorem ggL_acts_L_once_wsX00 : GoodIn wsL_acts wsX00 := goodIn_r _ [378, 379, 380, 381] (by decide +kernel) (by decide +kernel)
set_option maxRecDepth 20000 in
theorem ggL_acts_L_once_wsX30 : GoodIn wsL_acts wsX30 := goodIn_r _ [367, 368, 369, 370, 371, 372] (by decide +kernel) (by decide +kernel)
theorem ggL_acts_L_once : GoodIn wsL_acts wsL_once := goodIn_ca (goodIn_ca (goodIn_ca (goodIn_ca (goodIn_ca (goodIn_ca (goodIn_ca (goodIn_ca (goodIn_ca ggL_acts_L_once_q1 (goodIn_app ggL_acts_L_once_q2 (goodIn_app ggL_acts_L_once_q3 (goodIn_app ggL_acts_L_once_q4 (goodIn_app ggL_acts_L_once_q5 (ggL_acts_L_once_q6)))))) ggL_acts_L_once_wsX20) ggL_acts_L_once_wsX40) ggL_acts_L_once_wsX10) ggL_acts_L_once_wsX00) ggL_acts_L_once_wsX30) (goodIn_sub (fun _ h => List.mem_cons_of_mem _ (List.mem_append_right _ h)) (by decide +kernel))) (goodIn_sub (fun _ h => List.mem_cons_of_mem _ (List.mem_append_left _ (List.mem_append_left _ (List.mem_append_right _ h)))) (by decide +kernel))) (goodIn_sub (fun _ h => List.mem_cons_of_mem _ (List.mem_append_left _ (List.mem_append_right _ h))) (by decide +kernel))
set_option maxRecDepth 20000 in
theorem gL_acts_L_once : GoodIn wsL_acts (va_wsS RL 142 yL_once wsL_once) := goodIn_app (goodIn_of _ (by decide +kernel)) ggL_acts_L_once
set_option maxRecDepth 20000 in
set_option maxRecDepth 20000 in
theorem ggL_acts_L_weekly_q1b : GoodIn wsL_acts wsL_weekly_r1 := goodIn_r _ [70, 15, 16, 4, 2, 1, 311, 312, 313, 20, 314, 315, 272, 273, 274, 275, 276, 80, 81, 239, 27, 28, 29, 30] (by decide +kernel) (by decide +kernel)
theorem ggL_acts_L_weekly_q1 : GoodIn wsL_acts (.codeWith yL_weekly cL_weekly 6 (some .int) [(0, 9, 10, 30), (0, 9, 15, 16), (0, 9, 20, 19)] :: wsL_weekly_r1) := fun w h => (List.mem_cons.mp h).elim (fun e => by subst e; exact ⟨List.mem_of_getElem? (i := 310) rfl, good_of_word rfl⟩) (ggL_acts_L_weekly_q1b w)
set_option maxRecDepth 20000 in
theorem ggL_acts_L_weekly_q2 : GoodIn wsL_acts wsL_weekly_r2 := goodIn_r _ [31, 277, 278, 279, 280, 118, 119, 120, 121, 122, 123, 124, 26, 125, 43, 44, 281, 282, 283, 242, 284, 252, 285, 253] (by decide +kernel) (by decide +kernel)
set_option maxRecDepth 20000 in
theorem ggL_acts_L_weekly_q3 : GoodIn wsL_acts wsL_weekly_r3 := goodIn_r _ [32, 33, 34, 35, 36, 286, 287, 288, 251, 289, 263, 260, 261, 262, 290, 291, 292, 293, 106, 294, 295, 296, 297, 298] (by decide +kernel) (by decide +kernel)
set_option maxRecDepth 20000 in
theorem ggL_acts_L_weekly_q4 : GoodIn wsL_acts wsL_weekly_r4 := goodIn_r _ [299, 300, 301, 302, 303, 304, 305, 306, 307, 126, 127, 128, 129, 97, 75, 130, 131, 132, 133, 48, 45, 134, 135, 136] (by decide +kernel) (by decide +kernel)
set_option maxRecDepth 20000 in
theorem ggL_acts_L_weekly_q5 : GoodIn wsL_acts wsL_weekly_r5 := goodIn_r _ [137, 49, 138, 139, 140, 141, 50, 52, 46, 51, 142, 143, 144, 145, 146, 147, 148, 149, 150, 151, 152, 153, 154, 155] (by decide +kernel) (by decide +kernel)
set_option maxRecDepth 20000 in
theorem ggL_acts_L_weekly_q6 : GoodIn wsL_acts wsL_weekly_r6 := goodIn_r _ [156, 157, 158, 159, 160, 161, 162, 163, 164, 165] (by decide +kernel) (by decide +kernel)
set_option maxRecDepth 20000 in
theorem ggL_acts_L_weekly_wsX20 : GoodIn wsL_acts wsX20 := goodIn_r _ [373, 374, 375, 376, 377] (by decide +kernel) (by decide +kernel)
set_option maxRecDepth 20000 in
theorem ggL_acts_L_weekly_wsX40 : GoodIn wsL_acts wsX40 := goodIn_r _ [351, 352, 353, 354, 355, 356, 357, 358] (by decide +kernel) (by decide +kernel)
set_option maxRecDepth 20000 in
theorem ggL_acts_L_weekly_wsX10 : GoodIn wsL_acts wsX10 := goodIn_r _ [359, 360, 361, 362, 363, 364, 365, 366] (by decide +kernel) (by decide +kernel)
set_option maxRecDepth 20000 in
theorem ggL_acts_L_weekly_wsX00 : GoodIn wsL_acts wsX00 := goodIn_r _ [378, 379, 380, 381] (by decide +kernel) (by decide +kernel)
set_option maxRecDepth 20000 in
theorem ggL_acts_L_weekly_wsX30 : GoodIn wsL_acts wsX30 := goodIn_r _ [367, 368, 369, 370, 371, 372] (by decide +kernel) (by decide +kernel)
theorem ggL_acts_L_weekly : GoodIn wsL_acts wsL_weekly := goodIn_ca (goodIn_ca (goodIn_ca (goodIn_ca (goodIn_ca (goodIn_ca (goodIn_ca (goodIn_ca (goodIn_ca ggL_acts_L_weekly_q1 (goodIn_app ggL_acts_L_weekly_q2 (goodIn_app ggL_acts_L_weekly_q3 (goodIn_app ggL_acts_L_weekly_q4 (goodIn_app ggL_acts_L_weekly_q5 (ggL_acts_L_weekly_q6)))))) ggL_acts_L_weekly_wsX20) ggL_acts_L_weekly_wsX40) ggL_acts_L_weekly_wsX10) ggL_acts_L_weekly_wsX00) ggL_acts_L_weekly_wsX30) (goodIn_sub (fun _ h => List.mem_cons_of_mem _ (List.mem_append_right _ h)) (by decide +kernel))) (goodIn_sub (fun _ h => List.mem_cons_of_mem _ (List.mem_append_left _ (List.mem_append_left _ (List.mem_append_right _ h)))) (by decide +kernel))) (goodIn_sub (fun _ h => List.mem_cons_of_mem _ (List.mem_append_left _ (List.mem_append_right _ h))) (by decide +kernel))
set_option maxRecDepth 20000 in
theorem gL_acts_L_weekly : GoodIn wsL_acts (va_wsS RL 145 yL_weekly wsL_weekly) := goodIn_app (goodIn_of _ (by decide +kernel)) ggL_acts_L_weekly
set_option maxRecDepth 20000 in
theorem ggL_acts_L_tells : GoodIn wsL_acts wsL_tells := goodIn_ca (goodIn_ca (goodIn_r _ [318, 70, 15, 4, 2, 319, 320, 321, 20, 322, 323, 273, 274, 275, 276, 80, 81, 239, 27, 28, 29, 30, 31, 295, 296, 297, 242, 298, 253, 252, 299, 300, 301, 251, 302, 263, 260, 303, 304, 305, 306, 307, 261, 262, 351, 352, 353, 354, 355, 356, 357, 358, 373, 374, 375, 376, 377, 378, 379, 380, 381] (by decide +kernel) (by decide +kernel)) (goodIn_sub (fun _ h => List.mem_cons_of_mem _ (List.mem_append_right _ h)) (by decide +kernel))) (goodIn_sub (fun _ h => List.mem_cons_of_mem _ (List.mem_append_left _ (List.mem_append_left _ (List.mem_append_right _ h)))) (by decide +kernel))
set_option maxRecDepth 20000 in
theorem gL_acts_L_tells : GoodIn wsL_acts (va_wsS RL 115 yL_tells wsL_tells) := goodIn_app (goodIn_of _ (by decide +kernel)) ggL_acts_L_tells
set_option maxRecDepth 20000 in
set_option maxRecDepth 20000 in
theorem ggL_acts_L_passes_q1b : GoodIn wsL_acts wsL_passes_r1 := goodIn_r _ [47, 2, 209, 210, 9, 211, 70, 4, 212, 213, 214, 20, 215, 216, 205, 206, 207, 208, 80, 81, 146, 98, 99, 100] (by decide +kernel) (by decide +kernel)
theorem ggL_acts_L_passes_q1 : GoodIn wsL_acts (.code yL_passes cL_passes 14 (some .boolean) :: wsL_passes_r1) := fun w h => (List.mem_cons.mp h).elim (fun e => by subst e; exact ⟨List.mem_of_getElem? (i := 326) rfl, good_of_word rfl⟩) (ggL_acts_L_passes_q1b w)
set_option maxRecDepth 20000 in
theorem ggL_acts_L_passes_q2 : GoodIn wsL_acts wsL_passes_r2 := goodIn_r _ [101, 102, 103, 104, 105, 106, 76, 77, 78, 79, 23, 107, 108, 109, 26, 110, 51, 82, 83, 84, 85, 86, 87, 88] (by decide +kernel) (by decide +kernel)
set_option maxRecDepth 20000 in
theorem ggL_acts_L_passes_q3 : GoodIn wsL_acts wsL_passes_r3 := goodIn_r _ [89, 327, 328, 329, 15, 16, 1, 330, 331, 332, 333, 35, 36, 323, 149, 27, 28, 29, 30, 31, 334, 335, 336, 337] (by decide +kernel) (by decide +kernel)
set_option maxRecDepth 20000 in
theorem ggL_acts_L_passes_q4 : GoodIn wsL_acts wsL_passes_r4 := goodIn_r _ [338, 339, 340, 341, 121, 126, 127, 128, 129, 97, 75, 130, 131, 132, 133, 48, 45, 134, 135, 136, 137, 49, 138, 139] (by decide +kernel) (by decide +kernel)
set_option maxRecDepth 20000 in
theorem ggL_acts_L_passes_q5 : GoodIn wsL_acts wsL_passes_r5 := goodIn_r _ [140, 141, 50, 52, 46, 142, 143, 144, 145, 147, 148, 150, 151, 152, 153, 154, 155, 156, 157, 158, 159, 160, 161, 162] (by decide +kernel) (by decide +kernel)
set_option maxRecDepth 20000 in
theorem ggL_acts_L_passes_q6 : GoodIn wsL_acts wsL_passes_r6 := goodIn_r _ [163, 164, 165, 342, 343, 344, 345, 346, 347, 348, 349, 350, 239, 290, 291, 292, 293, 272, 280, 294, 295, 296, 297, 242] (by decide +kernel) (by decide +kernel)
set_option maxRecDepth 20000 in
theorem ggL_acts_L_passes_q7 : GoodIn wsL_acts wsL_passes_r7 := goodIn_r _ [298, 253, 252, 299, 300, 301, 251, 302, 263, 260, 303, 304, 305, 306, 307, 261, 262] (by decide +kernel) (by decide +kernel)
set_option maxRecDepth 20000 in
theorem ggL_acts_L_passes_wsX30 : GoodIn wsL_acts wsX30 := goodIn_r _ [367, 368, 369, 370, 371, 372] (by decide +kernel) (by decide +kernel)
set_option maxRecDepth 20000 in
theorem ggL_acts_L_passes_wsX40 : GoodIn wsL_acts wsX40 := goodIn_r _ [351, 352, 353, 354, 355, 356, 357, 358] (by decide +kernel) (by decide +kernel)
set_option maxRecDepth 20000 in
theorem ggL_acts_L_passes_wsX10 : GoodIn wsL_acts wsX10 := goodIn_r _ [359, 360, 361, 362, 363, 364, 365, 366] (by decide +kernel) (by decide +kernel)
set_option maxRecDepth 20000 in
theorem ggL_acts_L_passes_wsX20 : GoodIn wsL_acts wsX20 := goodIn_r _ [373, 374, 375, 376, 377] (by decide +kernel) (by decide +kernel)
set_option maxRecDepth 20000 in
theorem ggL_acts_L_passes_wsX00 : GoodIn wsL_acts wsX00 := goodIn_r _ [378, 379, 380, 381] (by decide +kernel) (by decide +kernel)
theorem ggL_acts_L_passes : GoodIn wsL_acts wsL_passes := goodIn_ca (goodIn_ca (goodIn_ca (goodIn_ca (goodIn_ca (goodIn_ca (goodIn_ca (goodIn_ca (goodIn_ca ggL_acts_L_passes_q1 (goodIn_app ggL_acts_L_passes_q2 (goodIn_app ggL_acts_L_passes_q3 (goodIn_app ggL_acts_L_passes_q4 (goodIn_app ggL_acts_L_passes_q5 (goodIn_app ggL_acts_L_passes_q6 (ggL_acts_L_passes_q7))))))) ggL_acts_L_passes_wsX30) ggL_acts_L_passes_wsX40) ggL_acts_L_passes_wsX10) ggL_acts_L_passes_wsX20) ggL_acts_L_passes_wsX00) (goodIn_sub (fun _ h => List.mem_cons_of_mem _ (List.mem_append_right _ h)) (by decide +kernel))) (goodIn_sub (fun _ h => List.mem_cons_of_mem _ (List.mem_append_left _ (List.mem_append_right _ h))) (by decide +kernel))) (goodIn_sub (fun _ h => List.mem_cons_of_mem _ (List.mem_append_left _ (List.mem_append_left _ (List.mem_append_right _ h)))) (by decide +kernel))
set_option maxRecDepth 20000 in
theorem gL_acts_L_passes : GoodIn wsL_acts (va_wsS RL 147 yL_passes wsL_passes) := goodIn_app (goodIn_of _ (by decide +kernel)) ggL_acts_L_passes
set_option maxRecDepth 20000 in
theorem ggL_law_X4_init : GoodIn wsL_law wsX4_init := goodIn_r _ [7, 8, 9, 10, 11, 12, 13, 14, 15, 16, 378, 379, 380, 381, 382, 383, 384, 385] (by decide +kernel) (by decide +kernel)
set_option maxRecDepth 20000 in
theorem gL_law_X4_init : GoodIn wsL_law (wsX4_init) := ggL_law_X4_init
set_option maxRecDepth 20000 in
theorem ggL_law_X4_clock : GoodIn wsL_law wsX4_clock := goodIn_r _ [20, 21, 378, 379, 380, 381, 382, 383, 384, 385] (by decide +kernel) (by decide +kernel)
set_option maxRecDepth 20000 in
theorem gL_law_X4_clock : GoodIn wsL_law (wsV RL 81 RX4 yX4_clock wsX4_clock) := goodIn_app (goodIn_of _ (by decide +kernel)) ggL_law_X4_clock
set_option maxRecDepth 20000 in
theorem ggL_law_L_value : GoodIn wsL_law wsL_value := goodIn_ca (goodIn_r _ [25, 26, 4, 27, 28, 29, 2, 30, 31, 32, 33, 34, 35, 36, 37, 12, 386, 387, 388, 389, 390, 391, 392, 393, 378, 379, 380, 381, 382, 383, 384, 385] (by decide +kernel) (by decide +kernel)) (goodIn_sub (fun _ h => List.mem_append_left _ (List.mem_append_left _ (List.mem_append_right _ h))) (by decide +kernel))
set_option maxRecDepth 20000 in
theorem gL_law_L_value : GoodIn wsL_law (va_wsS RL 87 yL_value wsL_value) := goodIn_app (goodIn_of _ (by decide +kernel)) ggL_law_L_value
set_option maxRecDepth 20000 in
theorem ggL_law_L_at : GoodIn wsL_law wsL_at := goodIn_r _ [40, 41, 42] (by decide +kernel) (by decide +kernel)
set_option maxRecDepth 20000 in
theorem gL_law_L_at : GoodIn wsL_law (va_wsS RL 152 yL_at wsL_at) := goodIn_app (goodIn_of _ (by decide +kernel)) ggL_law_L_at
set_option maxRecDepth 20000 in
theorem ggL_law_L_low : GoodIn wsL_law wsL_low := goodIn_r _ [45, 46] (by decide +kernel) (by decide +kernel)
set_option maxRecDepth 20000 in
theorem gL_law_L_low : GoodIn wsL_law (va_wsS RL 123 yL_low wsL_low) := goodIn_app (goodIn_of _ (by decide +kernel)) ggL_law_L_low
set_option maxRecDepth 20000 in
set_option maxRecDepth 20000 in
theorem ggL_law_L_acts_q1b : GoodIn wsL_law wsL_acts_r1 := goodIn_r _ [50, 51, 52, 4, 53, 54, 43, 44, 24, 45, 46, 55, 56, 57, 58, 59, 60, 61, 62, 2, 63, 64, 12, 11] (by decide +kernel) (by decide +kernel)
theorem ggL_law_L_acts_q1 : GoodIn wsL_law (.code yL_acts cL_acts 20 (some .boolean) :: wsL_acts_r1) := fun w h => (List.mem_cons.mp h).elim (fun e => by subst e; exact ⟨List.mem_of_getElem? (i := 49) rfl, good_of_word rfl⟩) (ggL_law_L_acts_q1b w)
set_option maxRecDepth 20000 in
theorem ggL_law_L_acts_q2 : GoodIn wsL_law wsL_acts_r2 := goodIn_r _ [65, 66, 67, 68, 69, 70, 71, 72, 73, 74, 75, 76, 77, 78, 79, 80, 9, 10, 81, 82, 83, 84, 3, 85] (by decide +kernel) (by decide +kernel)
set_option maxRecDepth 20000 in
theorem ggL_law_L_acts_q3 : GoodIn wsL_law wsL_acts_r3 := goodIn_r _ [86, 87, 88, 89, 90, 91, 92, 93, 94, 95, 96, 97, 98, 99, 100, 101, 102, 103, 22, 23, 25, 26, 27, 28] (by decide +kernel) (by decide +kernel)
set_option maxRecDepth 20000 in
theorem ggL_law_L_acts_q4 : GoodIn wsL_law wsL_acts_r4 := goodIn_r _ [29, 30, 31, 32, 33, 34, 35, 36, 37, 104, 105, 106, 107, 108, 109, 110, 111, 112, 113, 114, 115, 116, 117, 118] (by decide +kernel) (by decide +kernel)
set_option maxRecDepth 20000 in
theorem ggL_law_L_acts_q5 : GoodIn wsL_law wsL_acts_r5 := goodIn_r _ [119, 120, 121, 122, 123, 124, 125, 126, 127, 21, 128, 129, 130, 131, 132, 133, 134, 135, 136, 137, 138, 139, 140, 141] (by decide +kernel) (by decide +kernel)
set_option maxRecDepth 20000 in
theorem ggL_law_L_acts_q6 : GoodIn wsL_law wsL_acts_r6 := goodIn_r _ [142, 143, 144, 145, 146, 147, 148, 149, 150, 151, 152, 153, 154, 155, 156, 157, 158, 159, 160, 161, 162, 163, 164, 165] (by decide +kernel) (by decide +kernel)
set_option maxRecDepth 20000 in
theorem ggL_law_L_acts_q7 : GoodIn wsL_law wsL_acts_r7 := goodIn_r _ [166, 14, 167, 168, 169, 170, 171, 172, 173, 174, 175, 176, 177, 178, 179, 180, 181, 182, 183, 184, 185, 186, 187, 188] (by decide +kernel) (by decide +kernel)
set_option maxRecDepth 20000 in
theorem ggL_law_L_acts_q8 : GoodIn wsL_law wsL_acts_r8 := goodIn_r _ [189, 190, 191, 192, 193, 17, 18, 19, 20, 194, 195, 196, 197, 198, 199, 200, 201, 202, 13, 203, 204, 205, 206, 207] (by decide +kernel) (by decide +kernel)
set_option maxRecDepth 20000 in
theorem ggL_law_L_acts_q9 : GoodIn wsL_law wsL_acts_r9 := goodIn_r _ [208, 209, 210, 211, 212, 213, 214, 215, 216, 217, 218, 219, 220, 221, 222, 223, 224, 225, 226, 227, 228, 229, 230, 231] (by decide +kernel) (by decide +kernel)
set_option maxRecDepth 20000 in
theorem ggL_law_L_acts_q10 : GoodIn wsL_law wsL_acts_r10 := goodIn_r _ [232, 233, 234, 235, 236, 237, 238, 239, 240, 241, 242, 243, 244, 245, 246, 247, 248, 249, 250, 251, 252, 253, 16, 15] (by decide +kernel) (by decide +kernel)
set_option maxRecDepth 20000 in
theorem ggL_law_L_acts_q11 : GoodIn wsL_law wsL_acts_r11 := goodIn_r _ [254, 255, 256, 257, 258, 259, 260, 261, 262, 263, 264, 265, 266, 267, 268, 269, 270, 271, 272, 273, 274, 275, 276, 277] (by decide +kernel) (by decide +kernel)
set_option maxRecDepth 20000 in
theorem ggL_law_L_acts_q12 : GoodIn wsL_law wsL_acts_r12 := goodIn_r _ [278, 279, 280, 281, 282, 283, 284, 285, 286, 287, 288, 289, 290, 291, 292, 293, 294, 295, 296, 297, 298, 299, 300, 301] (by decide +kernel) (by decide +kernel)
set_option maxRecDepth 20000 in
theorem ggL_law_L_acts_q13 : GoodIn wsL_law wsL_acts_r13 := goodIn_r _ [302, 303, 304, 305, 306, 307, 308, 309, 310, 311, 312, 313, 314, 315, 316, 317, 318, 319, 320, 321, 322, 323, 324, 325] (by decide +kernel) (by decide +kernel)
set_option maxRecDepth 20000 in
theorem ggL_law_L_acts_q14 : GoodIn wsL_law wsL_acts_r14 := goodIn_r _ [326, 327, 328, 329, 330, 331, 332, 333, 334, 335, 336, 337, 338, 339, 340, 341, 342, 343, 344, 345, 346, 347, 348, 349] (by decide +kernel) (by decide +kernel)
set_option maxRecDepth 20000 in
theorem ggL_law_L_acts_q15 : GoodIn wsL_law wsL_acts_r15 := goodIn_r _ [350, 351, 352, 353, 354, 355, 356, 357, 358, 359, 360, 361, 362, 363] (by decide +kernel) (by decide +kernel)
set_option maxRecDepth 20000 in
theorem ggL_law_L_acts_wsX40 : GoodIn wsL_law wsX40 := goodIn_r _ [378, 379, 380, 381, 382, 383, 384, 385] (by decide +kernel) (by decide +kernel)
set_option maxRecDepth 20000 in
theorem ggL_law_L_acts_wsX10 : GoodIn wsL_law wsX10 := goodIn_r _ [386, 387, 388, 389, 390, 391, 392, 393] (by decide +kernel) (by decide +kernel)
set_option maxRecDepth 20000 in
theorem ggL_law_L_acts_wsX30 : GoodIn wsL_law wsX30 := goodIn_r _ [394, 395, 396, 397, 398, 399] (by decide +kernel) (by decide +kernel)
set_option maxRecDepth 20000 in
theorem ggL_law_L_acts_wsX20 : GoodIn wsL_law wsX20 := goodIn_r _ [400, 401, 402, 403, 404] (by decide +kernel) (by decide +kernel)
set_option maxRecDepth 20000 in
theorem ggL_law_L_acts_wsX00 : GoodIn wsL_law wsX00 := goodIn_r _ [405, 406, 407, 408] (by decide +kernel) (by decide +kernel)
theorem ggL_law_L_acts : GoodIn wsL_law wsL_acts := goodIn_ca (goodIn_ca (goodIn_ca (goodIn_ca (goodIn_ca (goodIn_ca (goodIn_ca (goodIn_ca (goodIn_ca ggL_law_L_acts_q1 (goodIn_app ggL_law_L_acts_q2 (goodIn_app ggL_law_L_acts_q3 (goodIn_app ggL_law_L_acts_q4 (goodIn_app ggL_law_L_acts_q5 (goodIn_app ggL_law_L_acts_q6 (goodIn_app ggL_law_L_acts_q7 (goodIn_app ggL_law_L_acts_q8 (goodIn_app ggL_law_L_acts_q9 (goodIn_app ggL_law_L_acts_q10 (goodIn_app ggL_law_L_acts_q11 (goodIn_app ggL_law_L_acts_q12 (goodIn_app ggL_law_L_acts_q13 (goodIn_app ggL_law_L_acts_q14 (ggL_law_L_acts_q15))))))))))))))) ggL_law_L_acts_wsX40) ggL_law_L_acts_wsX10) ggL_law_L_acts_wsX30) ggL_law_L_acts_wsX20) ggL_law_L_acts_wsX00) (goodIn_sub (fun _ h => List.mem_append_left _ (List.mem_append_right _ h)) (by decide +kernel))) (goodIn_sub (fun _ h => List.mem_append_right _ h) (by decide +kernel))) (goodIn_sub (fun _ h => List.mem_append_left _ (List.mem_append_left _ (List.mem_append_right _ h))) (by decide +kernel))
set_option maxRecDepth 20000 in
theorem gL_law_L_acts : GoodIn wsL_law (va_wsS RL 156 yL_acts wsL_acts) := goodIn_app (goodIn_of _ (by decide +kernel)) ggL_law_L_acts
set_option maxRecDepth 20000 in
set_option maxRecDepth 20000 in
theorem ggL_law_L_isSo_q1b : GoodIn wsL_law wsL_isSo_r1 := goodIn_r _ [52, 4, 367, 51, 368, 369, 24, 370, 112, 113, 114, 26, 58, 115, 116, 117, 2, 118, 119, 32, 33, 34, 35, 36] (by decide +kernel) (by decide +kernel)
theorem ggL_law_L_isSo_q1 : GoodIn wsL_law (.code yL_isSo cL_isSo 7 (some .boolean) :: wsL_isSo_r1) := fun w h => (List.mem_cons.mp h).elim (fun e => by subst e; exact ⟨List.mem_of_getElem? (i := 366) rfl, good_of_word rfl⟩) (ggL_law_L_isSo_q1b w)
set_option maxRecDepth 20000 in
theorem ggL_law_L_isSo_q2 : GoodIn wsL_law wsL_isSo_r2 := goodIn_r _ [37, 12, 67, 68, 69, 70, 71, 22, 23, 25, 27, 28, 29, 30, 31, 120, 121, 122, 123, 124, 125, 126, 127, 21] (by decide +kernel) (by decide +kernel)
set_option maxRecDepth 20000 in
theorem ggL_law_L_isSo_q3 : GoodIn wsL_law wsL_isSo_r3 := goodIn_r _ [128, 129, 130, 66, 131, 88, 186, 187, 188, 189, 190, 191, 192, 193, 156, 157, 158, 85, 86, 104, 105, 106, 107, 108] (by decide +kernel) (by decide +kernel)
set_option maxRecDepth 20000 in
theorem ggL_law_L_isSo_q4 : GoodIn wsL_law wsL_isSo_r4 := goodIn_r _ [109, 110, 111, 371, 372, 373, 212, 213, 214, 215, 216, 217, 218, 219, 220, 221, 222, 223, 14, 232, 233, 234, 235, 236] (by decide +kernel) (by decide +kernel)
set_option maxRecDepth 20000 in
theorem ggL_law_L_isSo_q5 : GoodIn wsL_law wsL_isSo_r5 := goodIn_r _ [237, 238, 167, 17, 18, 19, 20, 224, 225, 226, 227, 228, 229, 230, 231, 329, 330, 331, 332, 333, 334, 335, 336, 286] (by decide +kernel) (by decide +kernel)
set_option maxRecDepth 20000 in
theorem ggL_law_L_isSo_q6 : GoodIn wsL_law wsL_isSo_r6 := goodIn_r _ [287, 288, 289, 16, 308, 309, 310, 255, 311, 266, 265, 312, 313, 314, 264, 315, 276, 273, 316, 317, 318, 319, 320, 274] (by decide +kernel) (by decide +kernel)
set_option maxRecDepth 20000 in
theorem ggL_law_L_isSo_q7 : GoodIn wsL_law wsL_isSo_r7 := goodIn_r _ [275] (by decide +kernel) (by decide +kernel)
set_option maxRecDepth 20000 in
theorem ggL_law_L_isSo_wsX10 : GoodIn wsL_law wsX10 := goodIn_r _ [386, 387, 388, 389, 390, 391, 392, 393] (by decide +kernel) (by decide +kernel)
set_option maxRecDepth 20000 in
theorem ggL_law_L_isSo_wsX40 : GoodIn wsL_law wsX40 := goodIn_r _ [378, 379, 380, 381, 382, 383, 384, 385] (by decide +kernel) (by decide +kernel)
set_option maxRecDepth 20000 in
theorem ggL_law_L_isSo_wsX30 : GoodIn wsL_law wsX30 := goodIn_r _ [394, 395, 396, 397, 398, 399] (by decide +kernel) (by decide +kernel)
set_option maxRecDepth 20000 in
theorem ggL_law_L_isSo_wsX20 : GoodIn wsL_law wsX20 := goodIn_r _ [400, 401, 402, 403, 404] (by decide +kernel) (by decide +kernel)
set_option maxRecDepth 20000 in
theorem ggL_law_L_isSo_wsX00 : GoodIn wsL_law wsX00 := goodIn_r _ [405, 406, 407, 408] (by decide +kernel) (by decide +kernel)
theorem ggL_law_L_isSo : GoodIn wsL_law wsL_isSo := goodIn_ca (goodIn_ca (goodIn_ca (goodIn_ca (goodIn_ca (goodIn_ca (goodIn_ca (goodIn_ca ggL_law_L_isSo_q1 (goodIn_app ggL_law_L_isSo_q2 (goodIn_app ggL_law_L_isSo_q3 (goodIn_app ggL_law_L_isSo_q4 (goodIn_app ggL_law_L_isSo_q5 (goodIn_app ggL_law_L_isSo_q6 (ggL_law_L_isSo_q7))))))) ggL_law_L_isSo_wsX10) ggL_law_L_isSo_wsX40) ggL_law_L_isSo_wsX30) ggL_law_L_isSo_wsX20) ggL_law_L_isSo_wsX00) (goodIn_sub (fun _ h => List.mem_append_left _ (List.mem_append_left _ (List.mem_append_right _ h))) (by decide +kernel))) (goodIn_sub (fun _ h => List.mem_append_left _ (List.mem_append_right _ h)) (by decide +kernel))
set_option maxRecDepth 20000 in
theorem gL_law_L_isSo : GoodIn wsL_law (va_wsS RL 160 yL_isSo wsL_isSo) := goodIn_app (goodIn_of _ (by decide +kernel)) ggL_law_L_isSo
set_option maxRecDepth 20000 in
set_option maxRecDepth 20000 in
theorem ggL_law_L_print_q1b : GoodIn wsL_law wsL_print_r1 := goodIn_r _ [377, 17, 18, 19, 2, 20, 21, 22, 23, 24, 25, 26, 4, 27, 28, 29, 30, 31, 32, 33, 34, 35, 36, 37] (by decide +kernel) (by decide +kernel)
theorem ggL_law_L_print_q1 : GoodIn wsL_law (.code yL_print cL_print 6 (some .long) :: wsL_print_r1) := fun w h => (List.mem_cons.mp h).elim (fun e => by subst e; exact ⟨List.mem_of_getElem? (i := 376) rfl, good_of_word rfl⟩) (ggL_law_L_print_q1b w)
set_option maxRecDepth 20000 in
theorem ggL_law_L_print_q2 : GoodIn wsL_law wsL_print_r2 := goodIn_r _ [12, 186, 187, 188, 189, 190, 191, 192, 193, 156, 157, 66, 158, 85, 86, 120, 121, 122, 123, 124, 125, 126, 127, 128] (by decide +kernel) (by decide +kernel)
set_option maxRecDepth 20000 in
theorem ggL_law_L_print_q3 : GoodIn wsL_law wsL_print_r3 := goodIn_r _ [129, 130, 131, 88, 104, 105, 106, 107, 108, 109, 110, 111, 112, 113, 114, 58, 51, 115, 116, 117, 118, 119, 67, 68] (by decide +kernel) (by decide +kernel)
set_option maxRecDepth 20000 in
theorem ggL_law_L_print_q4 : GoodIn wsL_law wsL_print_r4 := goodIn_r _ [69, 70, 71, 232, 233, 234, 235, 236, 237, 238, 167, 220, 221, 222, 223, 14, 224, 225, 226, 227, 228, 229, 230, 231] (by decide +kernel) (by decide +kernel)
set_option maxRecDepth 20000 in
theorem ggL_law_L_print_q5 : GoodIn wsL_law wsL_print_r5 := goodIn_r _ [212, 213, 214, 215, 216, 217, 218, 219] (by decide +kernel) (by decide +kernel)
set_option maxRecDepth 20000 in
theorem ggL_law_L_print_wsX40 : GoodIn wsL_law wsX40 := goodIn_r _ [378, 379, 380, 381, 382, 383, 384, 385] (by decide +kernel) (by decide +kernel)
set_option maxRecDepth 20000 in
theorem ggL_law_L_print_wsX10 : GoodIn wsL_law wsX10 := goodIn_r _ [386, 387, 388, 389, 390, 391, 392, 393] (by decide +kernel) (by decide +kernel)
set_option maxRecDepth 20000 in
theorem ggL_law_L_print_wsX30 : GoodIn wsL_law wsX30 := goodIn_r _ [394, 395, 396, 397, 398, 399] (by decide +kernel) (by decide +kernel)
theorem ggL_law_L_print : GoodIn wsL_law wsL_print := goodIn_ca (goodIn_ca (goodIn_ca (goodIn_ca (goodIn_ca (goodIn_ca ggL_law_L_print_q1 (goodIn_app ggL_law_L_print_q2 (goodIn_app ggL_law_L_print_q3 (goodIn_app ggL_law_L_print_q4 (ggL_law_L_print_q5))))) ggL_law_L_print_wsX40) ggL_law_L_print_wsX10) ggL_law_L_print_wsX30) (goodIn_sub (fun _ h => List.mem_append_left _ (List.mem_append_left _ (List.mem_append_right _ h))) (by decide +kernel))) (goodIn_sub (fun _ h => List.mem_append_left _ (List.mem_append_right _ h)) (by decide +kernel))
set_option maxRecDepth 20000 in
theorem gL_law_L_print : GoodIn wsL_law (va_wsS RL 164 yL_print wsL_print) := goodIn_app (goodIn_of _ (by decide +kernel)) ggL_law_L_print
