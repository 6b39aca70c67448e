set_option maxRecDepth 20000 in
theorem gX4_passMinute_X4_followSchedules : GoodIn wsX4_passMinute (wsV RX4 209 RX4 yX4_followSchedules wsX4_followSchedules) := goodIn_app (goodIn_of _ (by decide +kernel)) ggX4_passMinute_X4_followSchedules
set_option maxRecDepth 20000 in
theorem ggX4_releaseHeldCommands_X1_isHeld : GoodIn wsX4_releaseHeldCommands wsX1_isHeld := goodIn_r _ [9, 10, 68, 69, 70, 71, 72, 73, 74, 75] (by decide +kernel) (by decide +kernel)
set_option maxRecDepth 20000 in
theorem gX4_releaseHeldCommands_X1_isHeld : GoodIn wsX4_releaseHeldCommands (wsV RX4 50 RX1 yX1_isHeld wsX1_isHeld) := goodIn_app (goodIn_of _ (by decide +kernel)) ggX4_releaseHeldCommands_X1_isHeld
set_option maxRecDepth 20000 in
theorem ggX4_releaseHeldCommands_X4_put : GoodIn wsX4_releaseHeldCommands wsX4_put := goodIn_r _ [15, 16, 17, 3, 18, 19, 20, 8, 21, 22, 23, 24, 25, 26, 27, 28, 29, 30, 31, 32, 33, 34, 35, 10, 36, 37, 38, 14, 39, 40, 41, 42, 43, 44, 45, 46, 47, 48, 49, 50, 51, 52, 53, 54, 55, 56, 57, 58, 59, 68, 69, 70, 71, 72, 73, 74, 75, 60, 61, 62, 63, 64, 65, 66, 67, 76, 77, 78, 79, 80, 81] (by decide +kernel) (by decide +kernel)
set_option maxRecDepth 20000 in
theorem gX4_releaseHeldCommands_X4_put : GoodIn wsX4_releaseHeldCommands (wsV RX4 61 RX4 yX4_put wsX4_put) := goodIn_app (goodIn_of _ (by decide +kernel)) ggX4_releaseHeldCommands_X4_put
set_option maxRecDepth 20000 in
set_option maxRecDepth 20000 in
theorem ggX4_followSchedules_X4_follow_q1b : GoodIn wsX4_followSchedules wsX4_follow_r1 := goodIn_r _ [7, 8, 9, 10, 11, 12, 13, 14, 15, 16, 17, 18, 19, 20, 21, 22, 23, 24, 25, 26, 27, 28, 29, 30] (by decide +kernel) (by decide +kernel)
theorem ggX4_followSchedules_X4_follow_q1 : GoodIn wsX4_followSchedules (.code yX4_follow cX4_follow 3 none :: wsX4_follow_r1) := fun w h => (List.mem_cons.mp h).elim (fun e => by subst e; exact ⟨List.mem_of_getElem? (i := 6) rfl, good_of_word rfl⟩) (ggX4_followSchedules_X4_follow_q1b w)
set_option maxRecDepth 20000 in
theorem ggX4_followSchedules_X4_follow_q2 : GoodIn wsX4_followSchedules wsX4_follow_r2 := goodIn_r _ [31, 32, 33, 34, 5, 35, 36, 37, 38, 39, 40, 41, 42, 43, 44, 45, 46, 47, 48, 49, 50, 51, 52, 53] (by decide +kernel) (by decide +kernel)
set_option maxRecDepth 20000 in
theorem ggX4_followSchedules_X4_follow_q3 : GoodIn wsX4_followSchedules wsX4_follow_r3 := goodIn_r _ [54, 55, 56, 57, 58, 59, 60, 61, 62, 63, 64, 65, 66, 67, 68, 69, 70, 71, 72, 73, 74, 75, 76, 77] (by decide +kernel) (by decide +kernel)
set_option maxRecDepth 20000 in
theorem ggX4_followSchedules_X4_follow_q4 : GoodIn wsX4_followSchedules wsX4_follow_r4 := goodIn_r _ [78, 79, 80, 81] (by decide +kernel) (by decide +kernel)
set_option maxRecDepth 20000 in
theorem ggX4_followSchedules_X4_follow_wsX40 : GoodIn wsX4_followSchedules wsX40 := goodIn_r _ [82, 83, 84, 85, 86, 87, 88, 89] (by decide +kernel) (by decide +kernel)
set_option maxRecDepth 20000 in
theorem ggX4_followSchedules_X4_follow_wsX20 : GoodIn wsX4_followSchedules wsX20 := goodIn_r _ [90, 91, 92, 93, 94] (by decide +kernel) (by decide +kernel)
set_option maxRecDepth 20000 in
theorem ggX4_followSchedules_X4_follow_wsX00 : GoodIn wsX4_followSchedules wsX00 := goodIn_r _ [95, 96, 97, 98] (by decide +kernel) (by decide +kernel)
set_option maxRecDepth 20000 in
theorem ggX4_followSchedules_X4_follow_wsX10 : GoodIn wsX4_followSchedules wsX10 := goodIn_r _ [99, 100, 101, 102, 103, 104, 105, 106] (by decide +kernel) (by decide +kernel)
set_option maxRecDepth 20000 in
theorem ggX4_followSchedules_X4_follow_wsX30 : GoodIn wsX4_followSchedules wsX30 := goodIn_r _ [107, 108, 109, 110, 111, 112] (by decide +kernel) (by decide +kernel)
theorem ggX4_followSchedules_X4_follow : GoodIn wsX4_followSchedules wsX4_follow := goodIn_ca (goodIn_ca (goodIn_ca (goodIn_ca (goodIn_ca (goodIn_ca ggX4_followSchedules_X4_follow_q1 (goodIn_app ggX4_followSchedules_X4_follow_q2 (goodIn_app ggX4_followSchedules_X4_follow_q3 (ggX4_followSchedules_X4_follow_q4)))) ggX4_followSchedules_X4_follow_wsX40) ggX4_followSchedules_X4_follow_wsX20) ggX4_followSchedules_X4_follow_wsX00) ggX4_followSchedules_X4_follow_wsX10) ggX4_followSchedules_X4_follow_wsX30
set_option maxRecDepth 20000 in
theorem gX4_followSchedules_X4_follow : GoodIn wsX4_followSchedules (wsV RX4 129 RX4 yX4_follow wsX4_follow) := goodIn_app (goodIn_of _ (by decide +kernel)) ggX4_followSchedules_X4_follow
set_option maxRecDepth 20000 in
theorem ggL_addMeasure_X4_addMeasure : GoodIn wsL_addMeasure wsX4_addMeasure := goodIn_ca (goodIn_ca (goodIn_r _ [9, 10, 11, 12, 13, 14, 15, 16, 8, 17, 18, 19, 20, 21, 22, 23, 24, 25, 26, 27, 28, 29, 30, 31, 32, 33, 34, 35, 36, 37, 38, 39, 40, 41, 42, 43, 44, 45, 46, 47, 48, 49, 50, 51, 52, 53, 54, 55, 56, 57, 58, 59, 60] (by decide +kernel) (by decide +kernel)) (goodIn_sub (fun _ h => List.mem_cons_of_mem _ (List.mem_append_left _ (List.mem_append_right _ h))) (by decide +kernel))) (goodIn_sub (fun _ h => List.mem_cons_of_mem _ (List.mem_append_right _ h)) (by decide +kernel))
set_option maxRecDepth 20000 in
theorem gL_addMeasure_X4_addMeasure : GoodIn wsL_addMeasure (wsV RL 10 RX4 yX4_addMeasure wsX4_addMeasure) := goodIn_app (goodIn_of _ (by decide +kernel)) ggL_addMeasure_X4_addMeasure
set_option maxRecDepth 20000 in
theorem ggL_addSwitch_X4_addSwitch : GoodIn wsL_addSwitch wsX4_addSwitch := goodIn_ca (goodIn_ca (goodIn_r _ [9, 10, 11, 12, 13, 14, 15, 16, 8, 17, 18, 19, 20, 21, 22, 23, 24, 25, 26, 27, 28, 29, 30, 31, 32, 33, 34, 35, 36, 37, 38, 39, 40, 41, 42, 43, 44, 45, 46, 47, 48, 49, 50, 51, 52, 53, 54, 55, 56, 57, 58, 59, 60] (by decide +kernel) (by decide +kernel)) (goodIn_sub (fun _ h => List.mem_cons_of_mem _ (List.mem_append_left _ (List.mem_append_right _ h))) (by decide +kernel))) (goodIn_sub (fun _ h => List.mem_cons_of_mem _ (List.mem_append_right _ h)) (by decide +kernel))
set_option maxRecDepth 20000 in
theorem gL_addSwitch_X4_addSwitch : GoodIn wsL_addSwitch (wsV RL 22 RX4 yX4_addSwitch wsX4_addSwitch) := goodIn_app (goodIn_of _ (by decide +kernel)) ggL_addSwitch_X4_addSwitch
set_option maxRecDepth 20000 in
set_option maxRecDepth 20000 in
theorem ggL_write_X4_write_q1b : GoodIn wsL_write wsX4_write_r1 := goodIn_r _ [12, 13, 14, 15, 16, 17, 10, 18, 19, 20, 21, 22, 23, 24, 25, 26, 27, 28, 29, 30, 31, 32, 33, 34] (by decide +kernel) (by decide +kernel)
theorem ggL_write_X4_write_q1 : GoodIn wsL_write (.code yX4_write cX4_write 5 (some .int) :: wsX4_write_r1) := fun w h => (List.mem_cons.mp h).elim (fun e => by subst e; exact ⟨List.mem_of_getElem? (i := 11) rfl, good_of_word rfl⟩) (ggL_write_X4_write_q1b w)
set_option maxRecDepth 20000 in
theorem ggL_write_X4_write_q2 : GoodIn wsL_write wsX4_write_r2 := goodIn_r _ [35, 36, 37, 38, 39, 40, 41, 42, 43, 44, 45, 46, 47, 48, 49, 50, 51, 52, 53, 54, 55, 56, 57, 58] (by decide +kernel) (by decide +kernel)
set_option maxRecDepth 20000 in
theorem ggL_write_X4_write_q3 : GoodIn wsL_write wsX4_write_r3 := goodIn_r _ [59, 60, 61, 62, 63, 64, 65, 66, 67, 68, 69, 70, 71, 72, 73, 74, 75, 76, 77, 78, 79, 80, 81, 82] (by decide +kernel) (by decide +kernel)
set_option maxRecDepth 20000 in
theorem ggL_write_X4_write_q4 : GoodIn wsL_write wsX4_write_r4 := goodIn_r _ [83, 84, 85, 86, 87, 88, 89, 90] (by decide +kernel) (by decide +kernel)
set_option maxRecDepth 20000 in
theorem ggL_write_X4_write_wsX10 : GoodIn wsL_write wsX10 := goodIn_r _ [91, 92, 93, 94, 95, 96, 97, 98] (by decide +kernel) (by decide +kernel)
set_option maxRecDepth 20000 in
theorem ggL_write_X4_write_wsX40 : GoodIn wsL_write wsX40 := goodIn_r _ [99, 100, 101, 102, 103, 104, 105, 106] (by decide +kernel) (by decide +kernel)
set_option maxRecDepth 20000 in
theorem ggL_write_X4_write_wsX30 : GoodIn wsL_write wsX30 := goodIn_r _ [107, 108, 109, 110, 111, 112] (by decide +kernel) (by decide +kernel)
theorem ggL_write_X4_write : GoodIn wsL_write wsX4_write := goodIn_ca (goodIn_ca (goodIn_ca (goodIn_ca (goodIn_ca (goodIn_ca (goodIn_ca ggL_write_X4_write_q1 (goodIn_app ggL_write_X4_write_q2 (goodIn_app ggL_write_X4_write_q3 (ggL_write_X4_write_q4)))) ggL_write_X4_write_wsX10) ggL_write_X4_write_wsX40) ggL_write_X4_write_wsX30) (goodIn_sub (fun _ h => List.mem_cons_of_mem _ (List.mem_append_left _ (List.mem_append_left _ (List.mem_append_right _ h)))) (by decide +kernel))) (goodIn_sub (fun _ h => List.mem_cons_of_mem _ (List.mem_append_left _ (List.mem_append_right _ h))) (by decide +kernel))) (goodIn_sub (fun _ h => List.mem_cons_of_mem _ (List.mem_append_right _ h)) (by decide +kernel))
set_option maxRecDepth 20000 in
theorem gL_write_X4_write : GoodIn wsL_write (wsV RL 26 RX4 yX4_write wsX4_write) := goodIn_app (goodIn_of _ (by decide +kernel)) ggL_write_X4_write
set_option maxRecDepth 20000 in
theorem ggL_value_X4_value : GoodIn wsL_value wsX4_value := goodIn_ca (goodIn_r _ [7, 8, 9, 10, 11, 6, 12, 13, 14, 15, 16, 17, 18, 19, 20, 21, 22, 23, 24, 25, 26, 27, 28, 29, 30, 31] (by decide +kernel) (by decide +kernel)) (goodIn_sub (fun _ h => List.mem_cons_of_mem _ (List.mem_append_right _ h)) (by decide +kernel))
set_option maxRecDepth 20000 in
theorem gL_value_X4_value : GoodIn wsL_value (wsV RL 33 RX4 yX4_value wsX4_value) := goodIn_app (goodIn_of _ (by decide +kernel)) ggL_value_X4_value
set_option maxRecDepth 20000 in
theorem ggL_command_X4_command : GoodIn wsL_command wsX4_command := goodIn_ca (goodIn_ca (goodIn_r _ [9, 10, 11, 12, 13, 8, 14, 15, 16, 17, 18, 19, 20, 21, 22, 23, 24, 25, 26, 27, 28, 29, 30, 31, 32, 33, 34, 35, 36, 37, 38] (by decide +kernel) (by decide +kernel)) (goodIn_sub (fun _ h => List.mem_cons_of_mem _ (List.mem_append_left _ (List.mem_append_right _ h))) (by decide +kernel))) (goodIn_sub (fun _ h => List.mem_cons_of_mem _ (List.mem_append_right _ h)) (by decide +kernel))
set_option maxRecDepth 20000 in
theorem gL_command_X4_command : GoodIn wsL_command (wsV RL 36 RX4 yX4_command wsX4_command) := goodIn_app (goodIn_of _ (by decide +kernel)) ggL_command_X4_command
set_option maxRecDepth 20000 in
theorem ggL_standing_X4_standing : GoodIn wsL_standing wsX4_standing := goodIn_ca (goodIn_r _ [7, 8, 9, 10, 6, 11, 12, 13, 14, 15, 16, 17, 18, 19, 20, 21, 22, 23, 24, 25, 26, 27, 28, 29, 30, 31, 32, 33, 34, 35, 36, 37] (by decide +kernel) (by decide +kernel)) (goodIn_sub (fun _ h => List.mem_cons_of_mem _ (List.mem_append_right _ h)) (by decide +kernel))
set_option maxRecDepth 20000 in
theorem gL_standing_X4_standing : GoodIn wsL_standing (wsV RL 39 RX4 yX4_standing wsX4_standing) := goodIn_app (goodIn_of _ (by decide +kernel)) ggL_standing_X4_standing
set_option maxRecDepth 20000 in
theorem ggL_held_X4_held : GoodIn wsL_held wsX4_held := goodIn_ca (goodIn_r _ [7, 8, 9, 10, 11, 12, 6, 13, 14, 15, 16, 17, 18, 19, 20, 21, 22, 23, 24, 25, 26, 27, 28, 29, 30, 31, 32, 33, 34, 35, 36, 37, 38] (by decide +kernel) (by decide +kernel)) (goodIn_sub (fun _ h => List.mem_cons_of_mem _ (List.mem_append_right _ h)) (by decide +kernel))
set_option maxRecDepth 20000 in
theorem gL_held_X4_held : GoodIn wsL_held (wsV RL 42 RX4 yX4_held wsX4_held) := goodIn_app (goodIn_of _ (by decide +kernel)) ggL_held_X4_held
set_option maxRecDepth 20000 in
theorem ggL_changes_X4_changes : GoodIn wsL_changes wsX4_changes := goodIn_ca (goodIn_r _ [7, 8, 9, 10, 11, 6, 12, 13, 14, 15, 16, 17, 18, 19, 20, 21, 22, 23, 24, 25, 26, 27, 28, 29, 30, 31] (by decide +kernel) (by decide +kernel)) (goodIn_sub (fun _ h => List.mem_cons_of_mem _ (List.mem_append_right _ h)) (by decide +kernel))
set_option maxRecDepth 20000 in
theorem gL_changes_X4_changes : GoodIn wsL_changes (wsV RL 45 RX4 yX4_changes wsX4_changes) := goodIn_app (goodIn_of _ (by decide +kernel)) ggL_changes_X4_changes
set_option maxRecDepth 20000 in
theorem ggL_subscribe_X4_subscribe : GoodIn wsL_subscribe wsX4_subscribe := goodIn_ca (goodIn_ca (goodIn_ca (goodIn_r _ [11, 12, 13, 14, 15, 16, 17, 18, 19, 20, 21, 10, 22, 23, 24, 25, 26, 27, 28, 29, 30, 31, 32, 33, 34, 35, 36, 37, 38, 39, 40, 41, 42, 43, 44, 45, 46, 47, 48, 49, 50, 51, 52, 53, 54, 55, 56, 57, 58, 59, 60, 61, 62, 63, 64, 65, 66, 67, 68, 69, 70] (by decide +kernel) (by decide +kernel)) (goodIn_sub (fun _ h => List.mem_cons_of_mem _ (List.mem_append_left _ (List.mem_append_left _ (List.mem_append_right _ h)))) (by decide +kernel))) (goodIn_sub (fun _ h => List.mem_cons_of_mem _ (List.mem_append_left _ (List.mem_append_right _ h))) (by decide +kernel))) (goodIn_sub (fun _ h => List.mem_cons_of_mem _ (List.mem_append_right _ h)) (by decide +kernel))
set_option maxRecDepth 20000 in
theorem gL_subscribe_X4_subscribe : GoodIn wsL_subscribe (wsV RL 48 RX4 yX4_subscribe wsX4_subscribe) := goodIn_app (goodIn_of _ (by decide +kernel)) ggL_subscribe_X4_subscribe
set_option maxRecDepth 20000 in
theorem ggL_end_X4_end : GoodIn wsL_end wsX4_end := goodIn_ca (goodIn_ca (goodIn_r _ [9, 10, 11, 12, 13, 14, 15, 8, 16, 17, 18, 19, 20, 21, 22, 23, 24, 25, 26, 27, 28, 29, 30, 31, 32, 33] (by decide +kernel) (by decide +kernel)) (goodIn_sub (fun _ h => List.mem_cons_of_mem _ (List.mem_append_left _ (List.mem_append_right _ h))) (by decide +kernel))) (goodIn_sub (fun _ h => List.mem_cons_of_mem _ (List.mem_append_right _ h)) (by decide +kernel))
set_option maxRecDepth 20000 in
theorem gL_end_X4_end : GoodIn wsL_end (wsV RL 51 RX4 yX4_end wsX4_end) := goodIn_app (goodIn_of _ (by decide +kernel)) ggL_end_X4_end
set_option maxRecDepth 20000 in
theorem ggL_goesOn_X4_goesOn : GoodIn wsL_goesOn wsX4_goesOn := goodIn_ca (goodIn_r _ [7, 8, 9, 10, 11, 6, 12, 13, 14, 15, 16, 17, 18, 19, 20, 21, 22, 23, 24, 25, 26, 27, 28, 29] (by decide +kernel) (by decide +kernel)) (goodIn_sub (fun _ h => List.mem_cons_of_mem _ (List.mem_append_right _ h)) (by decide +kernel))
set_option maxRecDepth 20000 in
theorem gL_goesOn_X4_goesOn : GoodIn wsL_goesOn (wsV RL 55 RX4 yX4_goesOn wsX4_goesOn) := goodIn_app (goodIn_of _ (by decide +kernel)) ggL_goesOn_X4_goesOn
set_option maxRecDepth 20000 in
theorem ggL_reports_X4_reports : GoodIn wsL_reports wsX4_reports := goodIn_ca (goodIn_r _ [7, 8, 9, 10, 11, 6, 12, 13, 14, 15, 16, 17, 18, 19, 20, 21, 22, 23, 24, 25, 26, 27, 28, 29] (by decide +kernel) (by decide +kernel)) (goodIn_sub (fun _ h => List.mem_cons_of_mem _ (List.mem_append_right _ h)) (by decide +kernel))
set_option maxRecDepth 20000 in
theorem gL_reports_X4_reports : GoodIn wsL_reports (wsV RL 59 RX4 yX4_reports wsX4_reports) := goodIn_app (goodIn_of _ (by decide +kernel)) ggL_reports_X4_reports
set_option maxRecDepth 20000 in
theorem ggL_reported_X4_reported : GoodIn wsL_reported wsX4_reported := goodIn_ca (goodIn_r _ [7, 8, 9, 10, 11, 6, 12, 13, 14, 15, 16, 17, 18, 19, 20, 21, 22, 23, 24, 25, 26, 27, 28, 29] (by decide +kernel) (by decide +kernel)) (goodIn_sub (fun _ h => List.mem_cons_of_mem _ (List.mem_append_right _ h)) (by decide +kernel))
set_option maxRecDepth 20000 in
theorem gL_reported_X4_reported : GoodIn wsL_reported (wsV RL 62 RX4 yX4_reported wsX4_reported) := goodIn_app (goodIn_of _ (by decide +kernel)) ggL_reported_X4_reported
set_option maxRecDepth 20000 in
theorem ggL_addSchedule_X4_addSchedule : GoodIn wsL_addSchedule wsX4_addSchedule := goodIn_ca (goodIn_ca (goodIn_ca (goodIn_r _ [11, 12, 13, 14, 15, 16, 17, 18, 19, 10, 20, 21, 22, 23, 24, 25, 26, 27, 28, 29, 30, 31, 32, 33, 34, 35, 36, 37, 38, 39, 40, 41, 42, 43, 44, 45, 46, 47, 48, 49, 50, 51, 52, 53, 54, 55, 56, 57, 58, 59, 60, 61, 62, 63, 64, 65, 66, 67, 68, 69, 70, 71, 72, 73, 74] (by decide +kernel) (by decide +kernel)) (goodIn_sub (fun _ h => List.mem_cons_of_mem _ (List.mem_append_left _ (List.mem_append_left _ (List.mem_append_right _ h)))) (by decide +kernel))) (goodIn_sub (fun _ h => List.mem_cons_of_mem _ (List.mem_append_left _ (List.mem_append_right _ h))) (by decide +kernel))) (goodIn_sub (fun _ h => List.mem_cons_of_mem _ (List.mem_append_right _ h)) (by decide +kernel))
set_option maxRecDepth 20000 in
theorem gL_addSchedule_X4_addSchedule : GoodIn wsL_addSchedule (wsV RL 65 RX4 yX4_addSchedule wsX4_addSchedule) := goodIn_app (goodIn_of _ (by decide +kernel)) ggL_addSchedule_X4_addSchedule
set_option maxRecDepth 20000 in
set_option maxRecDepth 20000 in
theorem ggL_weekly_X4_weekly_q1b : GoodIn wsL_weekly wsX4_weekly_r1 := goodIn_r _ [12, 13, 14, 15, 16, 10, 17, 18, 19, 20, 21, 22, 23, 24, 25, 26, 27, 28, 29, 30, 31, 32, 33, 34] (by decide +kernel) (by decide +kernel)
theorem ggL_weekly_X4_weekly_q1 : GoodIn wsL_weekly (.code yX4_weekly cX4_weekly 6 (some .int) :: wsX4_weekly_r1) := fun w h => (List.mem_cons.mp h).elim (fun e => by subst e; exact ⟨List.mem_of_getElem? (i := 11) rfl, good_of_word rfl⟩) (ggL_weekly_X4_weekly_q1b w)
set_option maxRecDepth 20000 in
theorem ggL_weekly_X4_weekly_q2 : GoodIn wsL_weekly wsX4_weekly_r2 := goodIn_r _ [35, 36, 37, 38, 39, 40, 41, 42, 43, 44, 45, 46, 47, 48, 49, 50, 51, 52, 53, 54, 55, 56, 57, 58] (by decide +kernel) (by decide +kernel)
set_option maxRecDepth 20000 in
theorem ggL_weekly_X4_weekly_q3 : GoodIn wsL_weekly wsX4_weekly_r3 := goodIn_r _ [59, 60, 61, 62, 63, 64, 65, 66, 67, 68, 69, 70, 71, 72, 73, 74, 75, 76, 77, 78, 79, 80, 81, 82] (by decide +kernel) (by decide +kernel)
set_option maxRecDepth 20000 in
theorem ggL_weekly_X4_weekly_q4 : GoodIn wsL_weekly wsX4_weekly_r4 := goodIn_r _ [83, 84, 85, 86, 87, 88, 89, 90, 91, 92, 93, 94, 95, 96, 97, 98, 99, 100, 101, 102, 103, 104, 105, 106] (by decide +kernel) (by decide +kernel)
set_option maxRecDepth 20000 in
theorem ggL_weekly_X4_weekly_q5 : GoodIn wsL_weekly wsX4_weekly_r5 := goodIn_r _ [107, 108, 109, 110, 111, 112, 113, 114, 115, 116, 117, 118, 119, 120, 121, 122, 123, 124, 125, 126, 127, 128, 129, 130] (by decide +kernel) (by decide +kernel)
set_option maxRecDepth 20000 in
theorem ggL_weekly_X4_weekly_wsX20 : GoodIn wsL_weekly wsX20 := goodIn_r _ [131, 132, 133, 134, 135] (by decide +kernel) (by decide +kernel)
set_option maxRecDepth 20000 in
theorem ggL_weekly_X4_weekly_wsX40 : GoodIn wsL_weekly wsX40 := goodIn_r _ [136, 137, 138, 139, 140, 141, 142, 143] (by decide +kernel) (by decide +kernel)
set_option maxRecDepth 20000 in
theorem ggL_weekly_X4_weekly_wsX10 : GoodIn wsL_weekly wsX10 := goodIn_r _ [144, 145, 146, 147, 148, 149, 150, 151] (by decide +kernel) (by decide +kernel)
set_option maxRecDepth 20000 in
theorem ggL_weekly_X4_weekly_wsX00 : GoodIn wsL_weekly wsX00 := goodIn_r _ [152, 153, 154, 155] (by decide +kernel) (by decide +kernel)
set_option maxRecDepth 20000 in
theorem ggL_weekly_X4_weekly_wsX30 : GoodIn wsL_weekly wsX30 := goodIn_r _ [156, 157, 158, 159, 160, 161] (by decide +kernel) (by decide +kernel)
theorem ggL_weekly_X4_weekly : GoodIn wsL_weekly wsX4_weekly := goodIn_ca (goodIn_ca (goodIn_ca (goodIn_ca (goodIn_ca (goodIn_ca (goodIn_ca (goodIn_ca (goodIn_ca ggL_weekly_X4_weekly_q1 (goodIn_app ggL_weekly_X4_weekly_q2 (goodIn_app ggL_weekly_X4_weekly_q3 (goodIn_app ggL_weekly_X4_weekly_q4 (ggL_weekly_X4_weekly_q5))))) ggL_weekly_X4_weekly_wsX20) ggL_weekly_X4_weekly_wsX40) ggL_weekly_X4_weekly_wsX10) ggL_weekly_X4_weekly_wsX00) ggL_weekly_X4_weekly_wsX30) (goodIn_sub (fun _ h => List.mem_cons_of_mem _ (List.mem_append_left _ (List.mem_append_left _ (List.mem_append_right _ h)))) (by decide +kernel))) (goodIn_sub (fun _ h => List.mem_cons_of_mem _ (List.mem_append_left _ (List.mem_append_right _ h))) (by decide +kernel))) (goodIn_sub (fun _ h => List.mem_cons_of_mem _ (List.mem_append_right _ h)) (by decide +kernel))
set_option maxRecDepth 20000 in
theorem gL_weekly_X4_weekly : GoodIn wsL_weekly (wsV RL 68 RX4 yX4_weekly wsX4_weekly) := goodIn_app (goodIn_of _ (by decide +kernel)) ggL_weekly_X4_weekly
set_option maxRecDepth 20000 in
set_option maxRecDepth 20000 in
theorem ggL_once_X4_once_q1b : GoodIn wsL_once wsX4_once_r1 := goodIn_r _ [12, 13, 14, 15, 16, 10, 17, 18, 19, 20, 21, 22, 23, 24, 25, 26, 27, 28, 29, 30, 31, 32, 33, 34] (by decide +kernel) (by decide +kernel)
theorem ggL_once_X4_once_q1 : GoodIn wsL_once (.code yX4_once cX4_once 6 (some .int) :: wsX4_once_r1) := fun w h => (List.mem_cons.mp h).elim (fun e => by subst e; exact ⟨List.mem_of_getElem? (i := 11) rfl, good_of_word rfl⟩) (ggL_once_X4_once_q1b w)
set_option maxRecDepth 20000 in
theorem ggL_once_X4_once_q2 : GoodIn wsL_once wsX4_once_r2 := goodIn_r _ [35, 36, 37, 38, 39, 40, 41, 42, 43, 44, 45, 46, 47, 48, 49, 50, 51, 52, 53, 54, 55, 56, 57, 58] (by decide +kernel) (by decide +kernel)
set_option maxRecDepth 20000 in
theorem ggL_once_X4_once_q3 : GoodIn wsL_once wsX4_once_r3 := goodIn_r _ [59, 60, 61, 62, 63, 64, 65, 66, 67, 68, 69, 70, 71, 72, 73, 74, 75, 76, 77, 78, 79, 80, 81, 82] (by decide +kernel) (by decide +kernel)
set_option maxRecDepth 20000 in
theorem ggL_once_X4_once_q4 : GoodIn wsL_once wsX4_once_r4 := goodIn_r _ [83, 84, 85, 86, 87, 88, 89, 90, 91, 92, 93, 94, 95, 96, 97, 98, 99, 100, 101, 102, 103, 104, 105, 106] (by decide +kernel) (by decide +kernel)
set_option maxRecDepth 20000 in
theorem ggL_once_X4_once_q5 : GoodIn wsL_once wsX4_once_r5 := goodIn_r _ [107, 108, 109, 110, 111, 112, 113, 114, 115, 116, 117, 118, 119, 120, 121, 122, 123, 124, 125, 126, 127, 128, 129, 130] (by decide +kernel) (by decide +kernel)
set_option maxRecDepth 20000 in
theorem ggL_once_X4_once_wsX20 : GoodIn wsL_once wsX20 := goodIn_r _ [131, 132, 133, 134, 135] (by decide +kernel) (by decide +kernel)
set_option maxRecDepth 20000 in
theorem ggL_once_X4_once_wsX40 : GoodIn wsL_once wsX40 := goodIn_r _ [136, 137, 138, 139, 140, 141, 142, 143] (by decide +kernel) (by decide +kernel)
set_option maxRecDepth 20000 in
theorem ggL_once_X4_once_wsX10 : GoodIn wsL_once wsX10 := goodIn_r _ [144, 145, 146, 147, 148, 149, 150, 151] (by decide +kernel) (by decide +kernel)
set_option maxRecDepth 20000 in
theorem ggL_once_X4_once_wsX00 : GoodIn wsL_once wsX00 := goodIn_r _ [152, 153, 154, 155] (by decide +kernel) (by decide +kernel)
set_option maxRecDepth 20000 in
theorem ggL_once_X4_once_wsX30 : GoodIn wsL_once wsX30 := goodIn_r _ [156, 157, 158, 159, 160, 161] (by decide +kernel) (by decide +kernel)
theorem ggL_once_X4_once : GoodIn wsL_once wsX4_once := goodIn_ca (goodIn_ca (goodIn_ca (goodIn_ca (goodIn_ca (goodIn_ca (goodIn_ca (goodIn_ca (goodIn_ca ggL_once_X4_once_q1 (goodIn_app ggL_once_X4_once_q2 (goodIn_app ggL_once_X4_once_q3 (goodIn_app ggL_once_X4_once_q4 (ggL_once_X4_once_q5))))) ggL_once_X4_once_wsX20) ggL_once_X4_once_wsX40) ggL_once_X4_once_wsX10) ggL_once_X4_once_wsX00) ggL_once_X4_once_wsX30) (goodIn_sub (fun _ h => List.mem_cons_of_mem _ (List.mem_append_left _ (List.mem_append_left _ (List.mem_append_right _ h)))) (by decide +kernel))) (goodIn_sub (fun _ h => List.mem_cons_of_mem _ (List.mem_append_left _ (List.mem_append_right _ h))) (by decide +kernel))) (goodIn_sub (fun _ h => List.mem_cons_of_mem _ (List.mem_append_right _ h)) (by decide +kernel))
set_option maxRecDepth 20000 in
theorem gL_once_X4_once : GoodIn wsL_once (wsV RL 72 RX4 yX4_once wsX4_once) := goodIn_app (goodIn_of _ (by decide +kernel)) ggL_once_X4_once
set_option maxRecDepth 20000 in
theorem ggL_tells_X4_tells : GoodIn wsL_tells wsX4_tells := goodIn_ca (goodIn_ca (goodIn_r _ [9, 10, 11, 12, 13, 8, 14, 15, 16, 17, 18, 19, 20, 21, 22, 23, 24, 25, 26, 27, 28, 29, 30, 31, 32, 33, 34, 35, 36, 37, 38, 39, 40, 41, 42, 43, 44, 45, 46, 47, 48, 49, 50, 51, 52, 53, 54, 55, 56, 57, 58, 59, 60] (by decide +kernel) (by decide +kernel)) (goodIn_sub (fun _ h => List.mem_cons_of_mem _ (List.mem_append_left _ (List.mem_append_right _ h))) (by decide +kernel))) (goodIn_sub (fun _ h => List.mem_cons_of_mem _ (List.mem_append_right _ h)) (by decide +kernel))
set_option maxRecDepth 20000 in
theorem gL_tells_X4_tells : GoodIn wsL_tells (wsV RL 75 RX4 yX4_tells wsX4_tells) := goodIn_app (goodIn_of _ (by decide +kernel)) ggL_tells_X4_tells
set_option maxRecDepth 20000 in
set_option maxRecDepth 20000 in
theorem ggL_pass_X4_pass_q1b : GoodIn wsL_pass wsX4_pass_r1 := goodIn_r _ [10, 11, 12, 13, 14, 15, 16, 8, 17, 18, 19, 20, 21, 22, 23, 24, 25, 26, 27, 28, 29, 30, 31, 32] (by decide +kernel) (by decide +kernel)
theorem ggL_pass_X4_pass_q1 : GoodIn wsL_pass (.code yX4_pass cX4_pass 4 (some .int) :: wsX4_pass_r1) := fun w h => (List.mem_cons.mp h).elim (fun e => by subst e; exact ⟨List.mem_of_getElem? (i := 9) rfl, good_of_word rfl⟩) (ggL_pass_X4_pass_q1b w)
set_option maxRecDepth 20000 in
theorem ggL_pass_X4_pass_q2 : GoodIn wsL_pass wsX4_pass_r2 := goodIn_r _ [33, 34, 35, 36, 37, 38, 39, 40, 41, 42, 43, 44, 45, 46, 47, 48, 49, 50, 51, 52, 53, 54, 55, 56] (by decide +kernel) (by decide +kernel)
set_option maxRecDepth 20000 in
theorem ggL_pass_X4_pass_q3 : GoodIn wsL_pass wsX4_pass_r3 := goodIn_r _ [57, 58, 59, 60, 61, 62, 63, 64, 65, 66, 67, 68, 69, 70, 71, 72, 73, 74, 75, 76, 77, 78, 79, 80] (by decide +kernel) (by decide +kernel)
set_option maxRecDepth 20000 in
theorem ggL_pass_X4_pass_q4 : GoodIn wsL_pass wsX4_pass_r4 := goodIn_r _ [81, 82, 83, 84, 85, 86, 87, 88, 89, 90, 91, 92, 93, 94, 95, 96, 97, 98, 99, 100, 101, 102, 103, 104] (by decide +kernel) (by decide +kernel)
set_option maxRecDepth 20000 in
theorem ggL_pass_X4_pass_q5 : GoodIn wsL_pass wsX4_pass_r5 := goodIn_r _ [105, 106, 107, 108, 109, 110, 111, 112, 113, 114, 115, 116, 117, 118, 119, 120, 121] (by decide +kernel) (by decide +kernel)
set_option maxRecDepth 20000 in
theorem ggL_pass_X4_pass_wsX40 : GoodIn wsL_pass wsX40 := goodIn_r _ [122, 123, 124, 125, 126, 127, 128, 129] (by decide +kernel) (by decide +kernel)
set_option maxRecDepth 20000 in
theorem ggL_pass_X4_pass_wsX10 : GoodIn wsL_pass wsX10 := goodIn_r _ [130, 131, 132, 133, 134, 135, 136, 137] (by decide +kernel) (by decide +kernel)
set_option maxRecDepth 20000 in
theorem ggL_pass_X4_pass_wsX30 : GoodIn wsL_pass wsX30 := goodIn_r _ [138, 139, 140, 141, 142, 143] (by decide +kernel) (by decide +kernel)
set_option maxRecDepth 20000 in
theorem ggL_pass_X4_pass_wsX20 : GoodIn wsL_pass wsX20 := goodIn_r _ [144, 145, 146, 147, 148] (by decide +kernel) (by decide +kernel)
set_option maxRecDepth 20000 in
theorem ggL_pass_X4_pass_wsX00 : GoodIn wsL_pass wsX00 := goodIn_r _ [149, 150, 151, 152] (by decide +kernel) (by decide +kernel)
theorem ggL_pass_X4_pass : GoodIn wsL_pass wsX4_pass := goodIn_ca (goodIn_ca (goodIn_ca (goodIn_ca (goodIn_ca (goodIn_ca (goodIn_ca (goodIn_ca ggL_pass_X4_pass_q1 (goodIn_app ggL_pass_X4_pass_q2 (goodIn_app ggL_pass_X4_pass_q3 (goodIn_app ggL_pass_X4_pass_q4 (ggL_pass_X4_pass_q5))))) ggL_pass_X4_pass_wsX40) ggL_pass_X4_pass_wsX10) ggL_pass_X4_pass_wsX30) ggL_pass_X4_pass_wsX20) ggL_pass_X4_pass_wsX00) (goodIn_sub (fun _ h => List.mem_cons_of_mem _ (List.mem_append_left _ (List.mem_append_right _ h))) (by decide +kernel))) (goodIn_sub (fun _ h => List.mem_cons_of_mem _ (List.mem_append_right _ h)) (by decide +kernel))
set_option maxRecDepth 20000 in
theorem gL_pass_X4_pass : GoodIn wsL_pass (wsV RL 78 RX4 yX4_pass wsX4_pass) := goodIn_app (goodIn_of _ (by decide +kernel)) ggL_pass_X4_pass
set_option maxRecDepth 20000 in
theorem ggL_print_X4_clock : GoodIn wsL_print wsX4_clock := goodIn_r _ [6, 7, 105, 106, 107, 108, 109, 110, 111, 112] (by decide +kernel) (by decide +kernel)
set_option maxRecDepth 20000 in
theorem gL_print_X4_clock : GoodIn wsL_print (wsV RL 81 RX4 yX4_clock wsX4_clock) := goodIn_app (goodIn_of _ (by decide +kernel)) ggL_print_X4_clock
set_option maxRecDepth 20000 in
theorem ggL_print_L_value : GoodIn wsL_print wsL_value := goodIn_ca (goodIn_r _ [11, 12, 13, 14, 15, 16, 5, 17, 18, 19, 20, 21, 22, 23, 24, 25, 113, 114, 115, 116, 117, 118, 119, 120, 105, 106, 107, 108, 109, 110, 111, 112] (by decide +kernel) (by decide +kernel)) (goodIn_sub (fun _ h => List.mem_cons_of_mem _ (List.mem_append_left _ (List.mem_append_right _ h))) (by decide +kernel))
set_option maxRecDepth 20000 in
theorem gL_print_L_value : GoodIn wsL_print (va_wsS RL 87 yL_value wsL_value) := goodIn_app (goodIn_of _ (by decide +kernel)) ggL_print_L_value
set_option maxRecDepth 20000 in
theorem ggL_print_L_standing : GoodIn wsL_print wsL_standing := goodIn_ca (goodIn_r _ [28, 12, 13, 29, 30, 31, 5, 32, 19, 20, 21, 22, 23, 24, 25, 33, 34, 35, 36, 37, 38, 39, 105, 106, 107, 108, 109, 110, 111, 112, 113, 114, 115, 116, 117, 118, 119, 120] (by decide +kernel) (by decide +kernel)) (goodIn_sub (fun _ h => List.mem_cons_of_mem _ (List.mem_append_left _ (List.mem_append_right _ h))) (by decide +kernel))
set_option maxRecDepth 20000 in
theorem gL_print_L_standing : GoodIn wsL_print (va_wsS RL 92 yL_standing wsL_standing) := goodIn_app (goodIn_of _ (by decide +kernel)) ggL_print_L_standing
set_option maxRecDepth 20000 in
theorem ggL_print_L_held : GoodIn wsL_print wsL_held := goodIn_ca (goodIn_r _ [42, 12, 13, 43, 44, 45, 5, 46, 47, 7, 19, 20, 21, 22, 23, 24, 25, 48, 49, 50, 36, 51, 52, 113, 114, 115, 116, 117, 118, 119, 120, 105, 106, 107, 108, 109, 110, 111, 112] (by decide +kernel) (by decide +kernel)) (goodIn_sub (fun _ h => List.mem_cons_of_mem _ (List.mem_append_left _ (List.mem_append_right _ h))) (by decide +kernel))
set_option maxRecDepth 20000 in
theorem gL_print_L_held : GoodIn wsL_print (va_wsS RL 94 yL_held wsL_held) := goodIn_app (goodIn_of _ (by decide +kernel)) ggL_print_L_held
set_option maxRecDepth 20000 in
theorem ggL_print_L_changes : GoodIn wsL_print wsL_changes := goodIn_ca (goodIn_r _ [55, 12, 13, 56, 57, 58, 5, 59, 60, 19, 20, 21, 22, 23, 24, 25, 113, 114, 115, 116, 117, 118, 119, 120, 105, 106, 107, 108, 109, 110, 111, 112] (by decide +kernel) (by decide +kernel)) (goodIn_sub (fun _ h => List.mem_cons_of_mem _ (List.mem_append_left _ (List.mem_append_right _ h))) (by decide +kernel))
set_option maxRecDepth 20000 in
theorem gL_print_L_changes : GoodIn wsL_print (va_wsS RL 96 yL_changes wsL_changes) := goodIn_app (goodIn_of _ (by decide +kernel)) ggL_print_L_changes
set_option maxRecDepth 20000 in
theorem ggL_print_L_command : GoodIn wsL_print wsL_command := goodIn_ca (goodIn_ca (goodIn_r _ [63, 12, 64, 13, 65, 66, 67, 68, 5, 69, 70, 19, 20, 21, 22, 23, 24, 25, 71, 72, 73, 74, 75, 113, 114, 115, 116, 117, 118, 119, 120, 105, 106, 107, 108, 109, 110, 111, 112] (by decide +kernel) (by decide +kernel)) (goodIn_sub (fun _ h => List.mem_cons_of_mem _ (List.mem_append_left _ (List.mem_append_right _ h))) (by decide +kernel))) (goodIn_sub (fun _ h => List.mem_cons_of_mem _ (List.mem_append_right _ h)) (by decide +kernel))
set_option maxRecDepth 20000 in
theorem gL_print_L_command : GoodIn wsL_print (va_wsS RL 98 yL_command wsL_command) := goodIn_app (goodIn_of _ (by decide +kernel)) ggL_print_L_command
set_option maxRecDepth 20000 in
theorem ggL_print_L_goesOn : GoodIn wsL_print wsL_goesOn := goodIn_ca (goodIn_r _ [78, 12, 13, 79, 80, 81, 5, 82, 83, 84, 85, 86, 87, 23, 24, 88, 121, 122, 123, 124, 125, 126, 105, 106, 107, 108, 109, 110, 111, 112] (by decide +kernel) (by decide +kernel)) (goodIn_sub (fun _ h => List.mem_cons_of_mem _ (List.mem_append_left _ (List.mem_append_right _ h))) (by decide +kernel))
set_option maxRecDepth 20000 in
theorem gL_print_L_goesOn : GoodIn wsL_print (va_wsS RL 101 yL_goesOn wsL_goesOn) := goodIn_app (goodIn_of _ (by decide +kernel)) ggL_print_L_goesOn
set_option maxRecDepth 20000 in
theorem ggL_print_L_reports : GoodIn wsL_print wsL_reports := goodIn_ca (goodIn_r _ [91, 12, 13, 92, 93, 94, 5, 95, 96, 84, 85, 86, 87, 23, 24, 88, 121, 122, 123, 124, 125, 126, 105, 106, 107, 108, 109, 110, 111, 112] (by decide +kernel) (by decide +kernel)) (goodIn_sub (fun _ h => List.mem_cons_of_mem _ (List.mem_append_left _ (List.mem_append_right _ h))) (by decide +kernel))
set_option maxRecDepth 20000 in
theorem gL_print_L_reports : GoodIn wsL_print (va_wsS RL 103 yL_reports wsL_reports) := goodIn_app (goodIn_of _ (by decide +kernel)) ggL_print_L_reports
set_option maxRecDepth 20000 in
theorem ggL_print_L_reported : GoodIn wsL_print wsL_reported := goodIn_ca (goodIn_r _ [99, 12, 13, 100, 101, 102, 5, 103, 104, 84, 85, 86, 87, 23, 24, 88, 121, 122, 123, 124, 125, 126, 105, 106, 107, 108, 109, 110, 111, 112] (by decide +kernel) (by decide +kernel)) (goodIn_sub (fun _ h => List.mem_cons_of_mem _ (List.mem_append_left _ (List.mem_append_right _ h))) (by decide +kernel))
set_option maxRecDepth 20000 in
theorem gL_print_L_reported : GoodIn wsL_print (va_wsS RL 105 yL_reported wsL_reported) := goodIn_app (goodIn_of _ (by decide +kernel)) ggL_print_L_reported
set_option maxRecDepth 20000 in
theorem ggL_point_L_command : GoodIn wsL_point wsL_command := goodIn_ca (goodIn_ca (goodIn_r _ [6, 7, 8, 9, 2, 10, 11, 12, 13, 14, 15, 16, 17, 18, 19, 20, 21, 22, 23, 24, 25, 26, 27, 72, 73, 74, 75, 76, 77, 78, 79, 80, 81, 82, 83, 84, 85, 86, 87] (by decide +kernel) (by decide +kernel)) (goodIn_sub (fun _ h => List.mem_cons_of_mem _ (List.mem_append_left _ (List.mem_append_right _ h))) (by decide +kernel))) (goodIn_sub (fun _ h => List.mem_cons_of_mem _ (List.mem_append_right _ h)) (by decide +kernel))
set_option maxRecDepth 20000 in
theorem gL_point_L_command : GoodIn wsL_point (va_wsS RL 98 yL_command wsL_command) := goodIn_app (goodIn_of _ (by decide +kernel)) ggL_point_L_command
set_option maxRecDepth 20000 in
theorem ggL_point_L_value : GoodIn wsL_point wsL_value := goodIn_ca (goodIn_r _ [30, 7, 9, 31, 32, 33, 13, 34, 35, 16, 17, 18, 19, 20, 21, 22, 72, 73, 74, 75, 76, 77, 78, 79, 80, 81, 82, 83, 84, 85, 86, 87] (by decide +kernel) (by decide +kernel)) (goodIn_sub (fun _ h => List.mem_cons_of_mem _ (List.mem_append_left _ (List.mem_append_right _ h))) (by decide +kernel))
set_option maxRecDepth 20000 in
theorem gL_point_L_value : GoodIn wsL_point (va_wsS RL 87 yL_value wsL_value) := goodIn_app (goodIn_of _ (by decide +kernel)) ggL_point_L_value
set_option maxRecDepth 20000 in
theorem ggL_point_L_held : GoodIn wsL_point wsL_held := goodIn_ca (goodIn_r _ [38, 7, 9, 39, 40, 41, 13, 42, 43, 44, 16, 17, 18, 19, 20, 21, 22, 45, 46, 47, 48, 49, 50, 72, 73, 74, 75, 76, 77, 78, 79, 80, 81, 82, 83, 84, 85, 86, 87] (by decide +kernel) (by decide +kernel)) (goodIn_sub (fun _ h => List.mem_cons_of_mem _ (List.mem_append_left _ (List.mem_append_right _ h))) (by decide +kernel))
set_option maxRecDepth 20000 in
theorem gL_point_L_held : GoodIn wsL_point (va_wsS RL 94 yL_held wsL_held) := goodIn_app (goodIn_of _ (by decide +kernel)) ggL_point_L_held
set_option maxRecDepth 20000 in
theorem ggL_point_L_standing : GoodIn wsL_point wsL_standing := goodIn_ca (goodIn_r _ [53, 7, 9, 54, 55, 56, 13, 57, 16, 17, 18, 19, 20, 21, 22, 58, 59, 60, 48, 61, 62, 63, 80, 81, 82, 83, 84, 85, 86, 87, 72, 73, 74, 75, 76, 77, 78, 79] (by decide +kernel) (by decide +kernel)) (goodIn_sub (fun _ h => List.mem_cons_of_mem _ (List.mem_append_left _ (List.mem_append_right _ h))) (by decide +kernel))
set_option maxRecDepth 20000 in
theorem gL_point_L_standing : GoodIn wsL_point (va_wsS RL 92 yL_standing wsL_standing) := goodIn_app (goodIn_of _ (by decide +kernel)) ggL_point_L_standing
set_option maxRecDepth 20000 in
theorem ggL_point_L_changes : GoodIn wsL_point wsL_changes := goodIn_ca (goodIn_r _ [66, 7, 9, 67, 68, 69, 13, 70, 71, 16, 17, 18, 19, 20, 21, 22, 72, 73, 74, 75, 76, 77, 78, 79, 80, 81, 82, 83, 84, 85, 86, 87] (by decide +kernel) (by decide +kernel)) (goodIn_sub (fun _ h => List.mem_cons_of_mem _ (List.mem_append_left _ (List.mem_append_right _ h))) (by decide +kernel))
set_option maxRecDepth 20000 in
theorem gL_point_L_changes : GoodIn wsL_point (va_wsS RL 96 yL_changes wsL_changes) := goodIn_app (goodIn_of _ (by decide +kernel)) ggL_point_L_changes
set_option maxRecDepth 20000 in
theorem ggL_subscription_L_value : GoodIn wsL_subscription wsL_value := goodIn_ca (goodIn_r _ [4, 5, 6, 7, 8, 9, 10, 11, 12, 13, 14, 15, 16, 17, 18, 19, 62, 63, 64, 65, 66, 67, 68, 69, 70, 71, 72, 73, 74, 75, 76, 77] (by decide +kernel) (by decide +kernel)) (goodIn_sub (fun _ h => List.mem_cons_of_mem _ (List.mem_append_right _ h)) (by decide +kernel))
set_option maxRecDepth 20000 in
theorem gL_subscription_L_value : GoodIn wsL_subscription (va_wsS RL 87 yL_value wsL_value) := goodIn_app (goodIn_of _ (by decide +kernel)) ggL_subscription_L_value
set_option maxRecDepth 20000 in
theorem ggL_subscription_L_reported : GoodIn wsL_subscription wsL_reported := goodIn_ca (goodIn_r _ [22, 5, 6, 23, 24, 25, 10, 26, 27, 28, 29, 30, 31, 17, 18, 32, 78, 79, 80, 81, 82, 83, 70, 71, 72, 73, 74, 75, 76, 77] (by decide +kernel) (by decide +kernel)) (goodIn_sub (fun _ h => List.mem_cons_of_mem _ (List.mem_append_right _ h)) (by decide +kernel))
set_option maxRecDepth 20000 in
theorem gL_subscription_L_reported : GoodIn wsL_subscription (va_wsS RL 105 yL_reported wsL_reported) := goodIn_app (goodIn_of _ (by decide +kernel)) ggL_subscription_L_reported
set_option maxRecDepth 20000 in
theorem ggL_subscription_L_goesOn : GoodIn wsL_subscription wsL_goesOn := goodIn_ca (goodIn_r _ [35, 5, 6, 36, 37, 38, 10, 39, 40, 28, 29, 30, 31, 17, 18, 32, 78, 79, 80, 81, 82, 83, 70, 71, 72, 73, 74, 75, 76, 77] (by decide +kernel) (by decide +kernel)) (goodIn_sub (fun _ h => List.mem_cons_of_mem _ (List.mem_append_right _ h)) (by decide +kernel))
set_option maxRecDepth 20000 in
theorem gL_subscription_L_goesOn : GoodIn wsL_subscription (va_wsS RL 101 yL_goesOn wsL_goesOn) := goodIn_app (goodIn_of _ (by decide +kernel)) ggL_subscription_L_goesOn
set_option maxRecDepth 20000 in
theorem ggL_subscription_X4_clock : GoodIn wsL_subscription wsX4_clock := goodIn_r _ [44, 45, 70, 71, 72, 73, 74, 75, 76, 77] (by decide +kernel) (by decide +kernel)
set_option maxRecDepth 20000 in
theorem gL_subscription_X4_clock : GoodIn wsL_subscription (wsV RL 81 RX4 yX4_clock wsX4_clock) := goodIn_app (goodIn_of _ (by decide +kernel)) ggL_subscription_X4_clock
set_option maxRecDepth 20000 in
theorem ggL_subscription_L_reports : GoodIn wsL_subscription wsL_reports := goodIn_ca (goodIn_r _ [48, 5, 6, 49, 50, 51, 10, 52, 53, 28, 29, 30, 31, 17, 18, 32, 78, 79, 80, 81, 82, 83, 70, 71, 72, 73, 74, 75, 76, 77] (by decide +kernel) (by decide +kernel)) (goodIn_sub (fun _ h => List.mem_cons_of_mem _ (List.mem_append_right _ h)) (by decide +kernel))
set_option maxRecDepth 20000 in
theorem gL_subscription_L_reports : GoodIn wsL_subscription (va_wsS RL 103 yL_reports wsL_reports) := goodIn_app (goodIn_of _ (by decide +kernel)) ggL_subscription_L_reports
set_option maxRecDepth 20000 in
theorem ggL_subscription_L_changes : GoodIn wsL_subscription wsL_changes := goodIn_ca (goodIn_r _ [56, 5, 6, 57, 58, 59, 10, 60, 61, 13, 14, 15, 16, 17, 18, 19, 62, 63, 64, 65, 66, 67, 68, 69, 70, 71, 72, 73, 74, 75, 76, 77] (by decide +kernel) (by decide +kernel)) (goodIn_sub (fun _ h => List.mem_cons_of_mem _ (List.mem_append_right _ h)) (by decide +kernel))
set_option maxRecDepth 20000 in
theorem gL_subscription_L_changes : GoodIn wsL_subscription (va_wsS RL 96 yL_changes wsL_changes) := goodIn_app (goodIn_of _ (by decide +kernel)) ggL_subscription_L_changes
set_option maxRecDepth 20000 in
theorem ggL_isSo_L_point : GoodIn wsL_isSo wsL_point := goodIn_ca (goodIn_ca (goodIn_r _ [8, 1, 4, 9, 10, 7, 11, 12, 13, 2, 14, 15, 16, 17, 18, 19, 20, 21, 22, 23, 24, 25, 26, 27, 28, 29, 30, 31, 32, 33, 34, 35, 36, 37, 38, 39, 40, 41, 42, 43, 44, 45, 46, 47, 48, 49, 50, 51, 52, 53, 54, 55, 56, 57, 58, 59, 60, 61, 62, 63, 64, 65, 66, 67, 68, 69, 70, 71, 72, 73, 74, 75, 146, 147, 148, 149, 150, 151, 152, 153, 154, 155, 156, 157, 158, 159, 160, 161] (by decide +kernel) (by decide +kernel)) (goodIn_sub (fun _ h => List.mem_cons_of_mem _ (List.mem_append_left _ (List.mem_append_right _ h))) (by decide +kernel))) (goodIn_sub (fun _ h => List.mem_cons_of_mem _ (List.mem_append_right _ h)) (by decide +kernel))
set_option maxRecDepth 20000 in
theorem gL_isSo_L_point : GoodIn wsL_isSo (va_wsS RL 108 yL_point wsL_point) := goodIn_app (goodIn_of _ (by decide +kernel)) ggL_isSo_L_point
set_option maxRecDepth 20000 in
theorem ggL_isSo_L_subscription : GoodIn wsL_isSo wsL_subscription := goodIn_ca (goodIn_r _ [78, 32, 33, 7, 34, 12, 2, 35, 36, 37, 17, 38, 39, 20, 21, 22, 23, 24, 25, 26, 79, 80, 81, 82, 83, 84, 85, 86, 87, 88, 89, 90, 91, 92, 93, 94, 95, 96, 97, 98, 99, 100, 101, 102, 103, 48, 104, 105, 106, 107, 108, 109, 110, 111, 68, 69, 70, 71, 72, 73, 74, 75, 146, 147, 148, 149, 150, 151, 152, 153, 154, 155, 156, 157, 158, 159, 160, 161, 162, 163, 164, 165, 166, 167] (by decide +kernel) (by decide +kernel)) (goodIn_sub (fun _ h => List.mem_cons_of_mem _ (List.mem_append_left _ (List.mem_append_right _ h))) (by decide +kernel))
set_option maxRecDepth 20000 in
theorem gL_isSo_L_subscription : GoodIn wsL_isSo (va_wsS RL 112 yL_subscription wsL_subscription) := goodIn_app (goodIn_of _ (by decide +kernel)) ggL_isSo_L_subscription
set_option maxRecDepth 20000 in
theorem ggL_isSo_X4_clock : GoodIn wsL_isSo wsX4_clock := goodIn_r _ [103, 48, 154, 155, 156, 157, 158, 159, 160, 161] (by decide +kernel) (by decide +kernel)
set_option maxRecDepth 20000 in
theorem gL_isSo_X4_clock : GoodIn wsL_isSo (wsV RL 81 RX4 yX4_clock wsX4_clock) := goodIn_app (goodIn_of _ (by decide +kernel)) ggL_isSo_X4_clock
set_option maxRecDepth 20000 in
theorem ggL_isSo_L_tells : GoodIn wsL_isSo wsL_tells := goodIn_ca (goodIn_ca (goodIn_r _ [114, 12, 13, 2, 4, 115, 116, 117, 17, 118, 119, 120, 121, 122, 123, 24, 25, 124, 27, 28, 29, 30, 31, 125, 126, 127, 128, 129, 130, 131, 132, 133, 134, 135, 136, 137, 138, 139, 140, 141, 142, 143, 144, 145, 154, 155, 156, 157, 158, 159, 160, 161, 168, 169, 170, 171, 172, 173, 174, 175, 176] (by decide +kernel) (by decide +kernel)) (goodIn_sub (fun _ h => List.mem_cons_of_mem _ (List.mem_append_left _ (List.mem_append_right _ h))) (by decide +kernel))) (goodIn_sub (fun _ h => List.mem_cons_of_mem _ (List.mem_append_right _ h)) (by decide +kernel))
set_option maxRecDepth 20000 in
theorem gL_isSo_L_tells : GoodIn wsL_isSo (va_wsS RL 115 yL_tells wsL_tells) := goodIn_app (goodIn_of _ (by decide +kernel)) ggL_isSo_L_tells
set_option maxRecDepth 20000 in
theorem ggL_isSo_L_command : GoodIn wsL_isSo wsL_command := goodIn_ca (goodIn_ca (goodIn_r _ [11, 12, 13, 2, 4, 14, 15, 16, 17, 18, 19, 20, 21, 22, 23, 24, 25, 26, 27, 28, 29, 30, 31, 146, 147, 148, 149, 150, 151, 152, 153, 154, 155, 156, 157, 158, 159, 160, 161] (by decide +kernel) (by decide +kernel)) (goodIn_sub (fun _ h => List.mem_cons_of_mem _ (List.mem_append_left _ (List.mem_append_right _ h))) (by decide +kernel))) (goodIn_sub (fun _ h => List.mem_cons_of_mem _ (List.mem_append_right _ h)) (by decide +kernel))
set_option maxRecDepth 20000 in
theorem gL_isSo_L_command : GoodIn wsL_isSo (va_wsS RL 98 yL_command wsL_command) := goodIn_app (goodIn_of _ (by decide +kernel)) ggL_isSo_L_command
set_option maxRecDepth 20000 in
theorem ggL_isSo_L_value : GoodIn wsL_isSo wsL_value := goodIn_ca (goodIn_r _ [34, 12, 2, 35, 36, 37, 17, 38, 39, 20, 21, 22, 23, 24, 25, 26, 146, 147, 148, 149, 150, 151, 152, 153, 154, 155, 156, 157, 158, 159, 160, 161] (by decide +kernel) (by decide +kernel)) (goodIn_sub (fun _ h => List.mem_cons_of_mem _ (List.mem_append_left _ (List.mem_append_right _ h))) (by decide +kernel))
set_option maxRecDepth 20000 in
theorem gL_isSo_L_value : GoodIn wsL_isSo (va_wsS RL 87 yL_value wsL_value) := goodIn_app (goodIn_of _ (by decide +kernel)) ggL_isSo_L_value
set_option maxRecDepth 20000 in
theorem ggL_isSo_L_held : GoodIn wsL_isSo wsL_held := goodIn_ca (goodIn_r _ [42, 12, 2, 43, 44, 45, 17, 46, 47, 48, 20, 21, 22, 23, 24, 25, 26, 49, 50, 51, 52, 53, 54, 146, 147, 148, 149, 150, 151, 152, 153, 154, 155, 156, 157, 158, 159, 160, 161] (by decide +kernel) (by decide +kernel)) (goodIn_sub (fun _ h => List.mem_cons_of_mem _ (List.mem_append_left _ (List.mem_append_right _ h))) (by decide +kernel))
set_option maxRecDepth 20000 in
theorem gL_isSo_L_held : GoodIn wsL_isSo (va_wsS RL 94 yL_held wsL_held) := goodIn_app (goodIn_of _ (by decide +kernel)) ggL_isSo_L_held
set_option maxRecDepth 20000 in
theorem ggL_isSo_L_standing : GoodIn wsL_isSo wsL_standing := goodIn_ca (goodIn_r _ [57, 12, 2, 58, 59, 60, 17, 61, 20, 21, 22, 23, 24, 25, 26, 62, 63, 64, 52, 65, 66, 67, 154, 155, 156, 157, 158, 159, 160, 161, 146, 147, 148, 149, 150, 151, 152, 153] (by decide +kernel) (by decide +kernel)) (goodIn_sub (fun _ h => List.mem_cons_of_mem _ (List.mem_append_left _ (List.mem_append_right _ h))) (by decide +kernel))
set_option maxRecDepth 20000 in
theorem gL_isSo_L_standing : GoodIn wsL_isSo (va_wsS RL 92 yL_standing wsL_standing) := goodIn_app (goodIn_of _ (by decide +kernel)) ggL_isSo_L_standing
set_option maxRecDepth 20000 in
theorem ggL_isSo_L_goesOn : GoodIn wsL_isSo wsL_goesOn := goodIn_ca (goodIn_r _ [94, 12, 2, 95, 96, 97, 17, 98, 99, 87, 88, 89, 90, 24, 25, 91, 162, 163, 164, 165, 166, 167, 154, 155, 156, 157, 158, 159, 160, 161] (by decide +kernel) (by decide +kernel)) (goodIn_sub (fun _ h => List.mem_cons_of_mem _ (List.mem_append_left _ (List.mem_append_right _ h))) (by decide +kernel))
set_option maxRecDepth 20000 in
theorem gL_isSo_L_goesOn : GoodIn wsL_isSo (va_wsS RL 101 yL_goesOn wsL_goesOn) := goodIn_app (goodIn_of _ (by decide +kernel)) ggL_isSo_L_goesOn
set_option maxRecDepth 20000 in
theorem ggL_isSo_L_reports : GoodIn wsL_isSo wsL_reports := goodIn_ca (goodIn_r _ [106, 12, 2, 107, 108, 109, 17, 110, 111, 87, 88, 89, 90, 24, 25, 91, 162, 163, 164, 165, 166, 167, 154, 155, 156, 157, 158, 159, 160, 161] (by decide +kernel) (by decide +kernel)) (goodIn_sub (fun _ h => List.mem_cons_of_mem _ (List.mem_append_left _ (List.mem_append_right _ h))) (by decide +kernel))
set_option maxRecDepth 20000 in
theorem gL_isSo_L_reports : GoodIn wsL_isSo (va_wsS RL 103 yL_reports wsL_reports) := goodIn_app (goodIn_of _ (by decide +kernel)) ggL_isSo_L_reports
set_option maxRecDepth 20000 in
theorem ggL_passes_L_reports : GoodIn wsL_passes wsL_reports := goodIn_ca (goodIn_r _ [6, 7, 8, 9, 10, 11, 12, 13, 14, 15, 16, 17, 18, 19, 20, 21, 162, 163, 164, 165, 166, 167, 168, 169, 170, 171, 172, 173, 174, 175] (by decide +kernel) (by decide +kernel)) (goodIn_sub (fun _ h => List.mem_cons_of_mem _ (List.mem_append_left _ (List.mem_append_left _ (List.mem_append_right _ h)))) (by decide +kernel))
set_option maxRecDepth 20000 in
theorem gL_passes_L_reports : GoodIn wsL_passes (va_wsS RL 103 yL_reports wsL_reports) := goodIn_app (goodIn_of _ (by decide +kernel)) ggL_passes_L_reports
set_option maxRecDepth 20000 in
theorem ggL_passes_L_held : GoodIn wsL_passes wsL_held := goodIn_ca (goodIn_r _ [24, 7, 8, 25, 26, 27, 12, 28, 29, 30, 31, 32, 33, 34, 19, 20, 35, 36, 37, 38, 39, 40, 41, 176, 177, 178, 179, 180, 181, 182, 183, 168, 169, 170, 171, 172, 173, 174, 175] (by decide +kernel) (by decide +kernel)) (goodIn_sub (fun _ h => List.mem_cons_of_mem _ (List.mem_append_left _ (List.mem_append_left _ (List.mem_append_right _ h)))) (by decide +kernel))
set_option maxRecDepth 20000 in
theorem gL_passes_L_held : GoodIn wsL_passes (va_wsS RL 94 yL_held wsL_held) := goodIn_app (goodIn_of _ (by decide +kernel)) ggL_passes_L_held
set_option maxRecDepth 20000 in
theorem ggL_passes_L_changes : GoodIn wsL_passes wsL_changes := goodIn_ca (goodIn_r _ [44, 7, 8, 45, 46, 47, 12, 48, 49, 31, 32, 33, 34, 19, 20, 35, 176, 177, 178, 179, 180, 181, 182, 183, 168, 169, 170, 171, 172, 173, 174, 175] (by decide +kernel) (by decide +kernel)) (goodIn_sub (fun _ h => List.mem_cons_of_mem _ (List.mem_append_left _ (List.mem_append_left _ (List.mem_append_right _ h)))) (by decide +kernel))
set_option maxRecDepth 20000 in
theorem gL_passes_L_changes : GoodIn wsL_passes (va_wsS RL 96 yL_changes wsL_changes) := goodIn_app (goodIn_of _ (by decide +kernel)) ggL_passes_L_changes
set_option maxRecDepth 20000 in
set_option maxRecDepth 20000 in
theorem ggL_passes_L_pass_q1b : GoodIn wsL_passes wsL_pass_r1 := goodIn_r _ [53, 54, 2, 55, 56, 57, 58, 12, 59, 60, 61, 62, 30, 63, 64, 65, 66, 67, 68, 69, 70, 71, 72, 73] (by decide +kernel) (by decide +kernel)
theorem ggL_passes_L_pass_q1 : GoodIn wsL_passes (.codeWith yL_pass cL_pass 3 (some .int) [(0, 5, 6, 16), (0, 5, 10, 19)] :: wsL_pass_r1) := fun w h => (List.mem_cons.mp h).elim (fun e => by subst e; exact ⟨List.mem_of_getElem? (i := 52) rfl, good_of_word rfl⟩) (ggL_passes_L_pass_q1b w)
set_option maxRecDepth 20000 in
theorem ggL_passes_L_pass_q2 : GoodIn wsL_passes wsL_pass_r2 := goodIn_r _ [74, 75, 76, 35, 29, 77, 36, 37, 38, 39, 40, 41, 78, 79, 80, 81, 82, 83, 84, 85, 86, 87, 88, 89] (by decide +kernel) (by decide +kernel)
set_option maxRecDepth 20000 in
theorem ggL_passes_L_pass_q3 : GoodIn wsL_passes wsL_pass_r3 := goodIn_r _ [90, 91, 92, 93, 94, 95, 96, 97, 98, 99, 100, 101, 102, 103, 104, 105, 21, 106, 107, 108, 109, 110, 111, 112] (by decide +kernel) (by decide +kernel)
set_option maxRecDepth 20000 in
theorem ggL_passes_L_pass_q4 : GoodIn wsL_passes wsL_pass_r4 := goodIn_r _ [113, 114, 115, 116, 117, 118, 119, 120, 121, 122, 123, 124, 125, 126, 127, 128, 129, 130, 131, 132, 133, 134, 135, 136] (by decide +kernel) (by decide +kernel)
set_option maxRecDepth 20000 in
theorem ggL_passes_L_pass_q5 : GoodIn wsL_passes wsL_pass_r5 := goodIn_r _ [137, 138, 139, 140, 141, 142, 143, 144, 145, 146, 147, 148, 149, 150, 151, 152, 153, 154, 155, 156, 157, 158, 159, 160] (by decide +kernel) (by decide +kernel)
set_option maxRecDepth 20000 in
theorem ggL_passes_L_pass_q6 : GoodIn wsL_passes wsL_pass_r6 := goodIn_r _ [161] (by decide +kernel) (by decide +kernel)
set_option maxRecDepth 20000 in
theorem ggL_passes_L_pass_wsX40 : GoodIn wsL_passes wsX40 := goodIn_r _ [168, 169, 170, 171, 172, 173, 174, 175] (by decide +kernel) (by decide +kernel)
set_option maxRecDepth 20000 in
theorem ggL_passes_L_pass_wsX10 : GoodIn wsL_passes wsX10 := goodIn_r _ [176, 177, 178, 179, 180, 181, 182, 183] (by decide +kernel) (by decide +kernel)
set_option maxRecDepth 20000 in
theorem ggL_passes_L_pass_wsX30 : GoodIn wsL_passes wsX30 := goodIn_r _ [162, 163, 164, 165, 166, 167] (by decide +kernel) (by decide +kernel)
set_option maxRecDepth 20000 in
theorem ggL_passes_L_pass_wsX20 : GoodIn wsL_passes wsX20 := goodIn_r _ [184, 185, 186, 187, 188] (by decide +kernel) (by decide +kernel)
set_option maxRecDepth 20000 in
theorem ggL_passes_L_pass_wsX00 : GoodIn wsL_passes wsX00 := goodIn_r _ [189, 190, 191, 192] (by decide +kernel) (by decide +kernel)
