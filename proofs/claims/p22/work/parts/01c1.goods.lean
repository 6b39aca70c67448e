set_option maxRecDepth 20000 in
theorem ggX1_init_J7_fill_53178 : GoodIn wsX1_init wsJ7_fill_53178 := goodIn_r _ [17] (by decide +kernel) (by decide +kernel)
set_option maxRecDepth 20000 in
theorem gX1_init_J7_fill_53178 : GoodIn wsX1_init (va_wsS RX1 29 yJ7_fill_53178 wsJ7_fill_53178) := goodIn_app (goodIn_of _ (by decide +kernel)) ggX1_init_J7_fill_53178
set_option maxRecDepth 20000 in
theorem ggX1_dueValue_X1_lowestCommanded : GoodIn wsX1_dueValue wsX1_lowestCommanded := goodIn_r _ [7, 1, 8, 9, 10, 11, 12, 13, 14, 15, 16] (by decide +kernel) (by decide +kernel)
set_option maxRecDepth 20000 in
theorem gX1_dueValue_X1_lowestCommanded : GoodIn wsX1_dueValue (wsV RX1 44 RX1 yX1_lowestCommanded wsX1_lowestCommanded) := goodIn_app (goodIn_of _ (by decide +kernel)) ggX1_dueValue_X1_lowestCommanded
set_option maxRecDepth 20000 in
theorem ggX2_init_X0_init : GoodIn wsX2_init wsX0_init := goodIn_r _ [15, 16, 2, 3, 17, 18, 19, 20, 21, 27, 28, 29, 30] (by decide +kernel) (by decide +kernel)
set_option maxRecDepth 20000 in
theorem gX2_init_X0_init : GoodIn wsX2_init (wsX0_init) := ggX2_init_X0_init
set_option maxRecDepth 20000 in
theorem ggX2_toldAt_X0_hasDay : GoodIn wsX2_toldAt wsX0_hasDay := goodIn_r _ [7, 8, 9, 22, 23, 24, 25] (by decide +kernel) (by decide +kernel)
set_option maxRecDepth 20000 in
theorem gX2_toldAt_X0_hasDay : GoodIn wsX2_toldAt (wsV RX2 36 RX0 yX0_hasDay wsX0_hasDay) := goodIn_app (goodIn_of _ (by decide +kernel)) ggX2_toldAt_X0_hasDay
set_option maxRecDepth 20000 in
theorem ggX2_toldAt_X0_latest : GoodIn wsX2_toldAt wsX0_latest := goodIn_r _ [13, 14, 8, 9, 15, 16, 22, 23, 24, 25] (by decide +kernel) (by decide +kernel)
set_option maxRecDepth 20000 in
theorem gX2_toldAt_X0_latest : GoodIn wsX2_toldAt (wsV RX2 40 RX0 yX0_latest wsX0_latest) := goodIn_app (goodIn_of _ (by decide +kernel)) ggX2_toldAt_X0_latest
set_option maxRecDepth 20000 in
theorem ggX4_addMeasure_X4_requireWithin : GoodIn wsX4_addMeasure wsX4_requireWithin := goodIn_ca (goodIn_r _ [9, 10, 11] (by decide +kernel) (by decide +kernel)) (goodIn_sub (fun _ h => List.mem_cons_of_mem _ (List.mem_append_left _ (List.mem_append_right _ h))) (by decide +kernel))
set_option maxRecDepth 20000 in
theorem gX4_addMeasure_X4_requireWithin : GoodIn wsX4_addMeasure (va_wsS RX4 27 yX4_requireWithin wsX4_requireWithin) := goodIn_app (goodIn_of _ (by decide +kernel)) ggX4_addMeasure_X4_requireWithin
set_option maxRecDepth 20000 in
theorem ggX4_addMeasure_X4_requireRoom : GoodIn wsX4_addMeasure wsX4_requireRoom := goodIn_ca (goodIn_r _ [14, 15, 16] (by decide +kernel) (by decide +kernel)) (goodIn_sub (fun _ h => List.mem_cons_of_mem _ (List.mem_append_right _ h)) (by decide +kernel))
set_option maxRecDepth 20000 in
theorem gX4_addMeasure_X4_requireRoom : GoodIn wsX4_addMeasure (va_wsS RX4 35 yX4_requireRoom wsX4_requireRoom) := goodIn_app (goodIn_of _ (by decide +kernel)) ggX4_addMeasure_X4_requireRoom
set_option maxRecDepth 20000 in
theorem ggX4_addMeasure_X1_init : GoodIn wsX4_addMeasure wsX1_init := goodIn_r _ [19, 20, 21, 22, 23, 24, 25, 26, 27, 28, 29, 30, 31, 32, 33, 34, 35, 36, 45, 46, 47, 48, 49, 50, 51, 52] (by decide +kernel) (by decide +kernel)
set_option maxRecDepth 20000 in
theorem gX4_addMeasure_X1_init : GoodIn wsX4_addMeasure (wsX1_init) := ggX4_addMeasure_X1_init
set_option maxRecDepth 20000 in
theorem ggX4_addSwitch_X4_requireWithin : GoodIn wsX4_addSwitch wsX4_requireWithin := goodIn_ca (goodIn_r _ [9, 10, 11] (by decide +kernel) (by decide +kernel)) (goodIn_sub (fun _ h => List.mem_cons_of_mem _ (List.mem_append_left _ (List.mem_append_right _ h))) (by decide +kernel))
set_option maxRecDepth 20000 in
theorem gX4_addSwitch_X4_requireWithin : GoodIn wsX4_addSwitch (va_wsS RX4 27 yX4_requireWithin wsX4_requireWithin) := goodIn_app (goodIn_of _ (by decide +kernel)) ggX4_addSwitch_X4_requireWithin
set_option maxRecDepth 20000 in
theorem ggX4_addSwitch_X4_requireRoom : GoodIn wsX4_addSwitch wsX4_requireRoom := goodIn_ca (goodIn_r _ [14, 15, 16] (by decide +kernel) (by decide +kernel)) (goodIn_sub (fun _ h => List.mem_cons_of_mem _ (List.mem_append_right _ h)) (by decide +kernel))
set_option maxRecDepth 20000 in
theorem gX4_addSwitch_X4_requireRoom : GoodIn wsX4_addSwitch (va_wsS RX4 35 yX4_requireRoom wsX4_requireRoom) := goodIn_app (goodIn_of _ (by decide +kernel)) ggX4_addSwitch_X4_requireRoom
set_option maxRecDepth 20000 in
theorem ggX4_addSwitch_X1_init : GoodIn wsX4_addSwitch wsX1_init := goodIn_r _ [19, 20, 21, 22, 23, 24, 25, 26, 27, 28, 29, 30, 31, 32, 33, 34, 35, 36, 45, 46, 47, 48, 49, 50, 51, 52] (by decide +kernel) (by decide +kernel)
set_option maxRecDepth 20000 in
theorem gX4_addSwitch_X1_init : GoodIn wsX4_addSwitch (wsX1_init) := ggX4_addSwitch_X1_init
set_option maxRecDepth 20000 in
theorem ggX4_write_X4_pointAt : GoodIn wsX4_write wsX4_pointAt := goodIn_ca (goodIn_r _ [8, 9, 10, 11, 89, 90, 91, 92, 93, 94, 95, 96] (by decide +kernel) (by decide +kernel)) (goodIn_sub (fun _ h => List.mem_cons_of_mem _ (List.mem_append_left _ (List.mem_append_right _ h))) (by decide +kernel))
set_option maxRecDepth 20000 in
theorem gX4_write_X4_pointAt : GoodIn wsX4_write (wsV RX4 42 RX4 yX4_pointAt wsX4_pointAt) := goodIn_app (goodIn_of _ (by decide +kernel)) ggX4_write_X4_pointAt
set_option maxRecDepth 20000 in
theorem ggX4_write_X4_requireWithin : GoodIn wsX4_write wsX4_requireWithin := goodIn_ca (goodIn_r _ [14, 15, 16] (by decide +kernel) (by decide +kernel)) (goodIn_sub (fun _ h => List.mem_cons_of_mem _ (List.mem_append_right _ h)) (by decide +kernel))
set_option maxRecDepth 20000 in
theorem gX4_write_X4_requireWithin : GoodIn wsX4_write (va_wsS RX4 27 yX4_requireWithin wsX4_requireWithin) := goodIn_app (goodIn_of _ (by decide +kernel)) ggX4_write_X4_requireWithin
set_option maxRecDepth 20000 in
theorem ggX4_write_X4_requireCommand : GoodIn wsX4_write wsX4_requireCommand := goodIn_ca (goodIn_r _ [19, 15, 16, 20, 21, 22, 23, 24, 25, 26, 27, 81, 82, 83, 84, 85, 86, 87, 88] (by decide +kernel) (by decide +kernel)) (goodIn_sub (fun _ h => List.mem_cons_of_mem _ (List.mem_append_right _ h)) (by decide +kernel))
set_option maxRecDepth 20000 in
theorem gX4_write_X4_requireCommand : GoodIn wsX4_write (va_wsS RX4 46 yX4_requireCommand wsX4_requireCommand) := goodIn_app (goodIn_of _ (by decide +kernel)) ggX4_write_X4_requireCommand
set_option maxRecDepth 20000 in
theorem ggX4_write_X1_isHeld : GoodIn wsX4_write wsX1_isHeld := goodIn_r _ [31, 32, 81, 82, 83, 84, 85, 86, 87, 88] (by decide +kernel) (by decide +kernel)
set_option maxRecDepth 20000 in
theorem gX4_write_X1_isHeld : GoodIn wsX4_write (wsV RX4 50 RX1 yX1_isHeld wsX1_isHeld) := goodIn_app (goodIn_of _ (by decide +kernel)) ggX4_write_X1_isHeld
set_option maxRecDepth 20000 in
theorem ggX4_write_X4_put : GoodIn wsX4_write wsX4_put := goodIn_r _ [36, 37, 3, 38, 39, 40, 41, 24, 42, 43, 44, 45, 46, 47, 48, 49, 50, 51, 52, 53, 54, 55, 56, 32, 57, 58, 59, 7, 60, 61, 62, 63, 64, 65, 66, 67, 68, 69, 70, 71, 72, 73, 74, 75, 76, 77, 78, 79, 80, 81, 82, 83, 84, 85, 86, 87, 88, 89, 90, 91, 92, 93, 94, 95, 96, 97, 98, 99, 100, 101, 102] (by decide +kernel) (by decide +kernel)
set_option maxRecDepth 20000 in
theorem gX4_write_X4_put : GoodIn wsX4_write (wsV RX4 61 RX4 yX4_put wsX4_put) := goodIn_app (goodIn_of _ (by decide +kernel)) ggX4_write_X4_put
set_option maxRecDepth 20000 in
theorem ggX4_value_X4_pointAt : GoodIn wsX4_value wsX4_pointAt := goodIn_ca (goodIn_r _ [6, 7, 8, 9, 18, 19, 20, 21, 22, 23, 24, 25] (by decide +kernel) (by decide +kernel)) (goodIn_sub (fun _ h => List.mem_cons_of_mem _ (List.mem_append_right _ h)) (by decide +kernel))
set_option maxRecDepth 20000 in
theorem gX4_value_X4_pointAt : GoodIn wsX4_value (wsV RX4 42 RX4 yX4_pointAt wsX4_pointAt) := goodIn_app (goodIn_of _ (by decide +kernel)) ggX4_value_X4_pointAt
set_option maxRecDepth 20000 in
theorem ggX4_command_X4_pointAt : GoodIn wsX4_command wsX4_pointAt := goodIn_ca (goodIn_r _ [6, 7, 8, 9, 23, 24, 25, 26, 27, 28, 29, 30] (by decide +kernel) (by decide +kernel)) (goodIn_sub (fun _ h => List.mem_cons_of_mem _ (List.mem_append_left _ (List.mem_append_right _ h))) (by decide +kernel))
set_option maxRecDepth 20000 in
theorem gX4_command_X4_pointAt : GoodIn wsX4_command (wsV RX4 42 RX4 yX4_pointAt wsX4_pointAt) := goodIn_app (goodIn_of _ (by decide +kernel)) ggX4_command_X4_pointAt
set_option maxRecDepth 20000 in
theorem ggX4_command_X4_requireWithin : GoodIn wsX4_command wsX4_requireWithin := goodIn_ca (goodIn_r _ [12, 13, 14] (by decide +kernel) (by decide +kernel)) (goodIn_sub (fun _ h => List.mem_cons_of_mem _ (List.mem_append_right _ h)) (by decide +kernel))
set_option maxRecDepth 20000 in
theorem gX4_command_X4_requireWithin : GoodIn wsX4_command (va_wsS RX4 27 yX4_requireWithin wsX4_requireWithin) := goodIn_app (goodIn_of _ (by decide +kernel)) ggX4_command_X4_requireWithin
set_option maxRecDepth 20000 in
theorem ggX4_standing_X4_pointAt : GoodIn wsX4_standing wsX4_pointAt := goodIn_ca (goodIn_r _ [5, 6, 7, 8, 16, 17, 18, 19, 20, 21, 22, 23] (by decide +kernel) (by decide +kernel)) (goodIn_sub (fun _ h => List.mem_cons_of_mem _ (List.mem_append_right _ h)) (by decide +kernel))
set_option maxRecDepth 20000 in
theorem gX4_standing_X4_pointAt : GoodIn wsX4_standing (wsV RX4 42 RX4 yX4_pointAt wsX4_pointAt) := goodIn_app (goodIn_of _ (by decide +kernel)) ggX4_standing_X4_pointAt
set_option maxRecDepth 20000 in
theorem ggX4_standing_X1_lowestCommanded : GoodIn wsX4_standing wsX1_lowestCommanded := goodIn_r _ [13, 14, 15, 24, 25, 26, 27, 28, 29, 30, 31] (by decide +kernel) (by decide +kernel)
set_option maxRecDepth 20000 in
theorem gX4_standing_X1_lowestCommanded : GoodIn wsX4_standing (wsV RX4 72 RX1 yX1_lowestCommanded wsX1_lowestCommanded) := goodIn_app (goodIn_of _ (by decide +kernel)) ggX4_standing_X1_lowestCommanded
set_option maxRecDepth 20000 in
theorem ggX4_held_X4_pointAt : GoodIn wsX4_held wsX4_pointAt := goodIn_ca (goodIn_r _ [7, 8, 9, 10, 25, 26, 27, 28, 29, 30, 31, 32] (by decide +kernel) (by decide +kernel)) (goodIn_sub (fun _ h => List.mem_cons_of_mem _ (List.mem_append_right _ h)) (by decide +kernel))
set_option maxRecDepth 20000 in
theorem gX4_held_X4_pointAt : GoodIn wsX4_held (wsV RX4 42 RX4 yX4_pointAt wsX4_pointAt) := goodIn_app (goodIn_of _ (by decide +kernel)) ggX4_held_X4_pointAt
set_option maxRecDepth 20000 in
theorem ggX4_held_X1_isHeld : GoodIn wsX4_held wsX1_isHeld := goodIn_r _ [15, 16, 17, 18, 19, 20, 21, 22, 23, 24] (by decide +kernel) (by decide +kernel)
set_option maxRecDepth 20000 in
theorem gX4_held_X1_isHeld : GoodIn wsX4_held (wsV RX4 50 RX1 yX1_isHeld wsX1_isHeld) := goodIn_app (goodIn_of _ (by decide +kernel)) ggX4_held_X1_isHeld
set_option maxRecDepth 20000 in
theorem ggX4_changes_X4_pointAt : GoodIn wsX4_changes wsX4_pointAt := goodIn_ca (goodIn_r _ [6, 7, 8, 9, 18, 19, 20, 21, 22, 23, 24, 25] (by decide +kernel) (by decide +kernel)) (goodIn_sub (fun _ h => List.mem_cons_of_mem _ (List.mem_append_right _ h)) (by decide +kernel))
set_option maxRecDepth 20000 in
theorem gX4_changes_X4_pointAt : GoodIn wsX4_changes (wsV RX4 42 RX4 yX4_pointAt wsX4_pointAt) := goodIn_app (goodIn_of _ (by decide +kernel)) ggX4_changes_X4_pointAt
set_option maxRecDepth 20000 in
theorem ggX4_subscribe_X4_pointAt : GoodIn wsX4_subscribe wsX4_pointAt := goodIn_ca (goodIn_r _ [12, 13, 14, 15, 39, 40, 41, 42, 43, 44, 45, 46] (by decide +kernel) (by decide +kernel)) (goodIn_sub (fun _ h => List.mem_cons_of_mem _ (List.mem_append_left _ (List.mem_append_left _ (List.mem_append_right _ h)))) (by decide +kernel))
set_option maxRecDepth 20000 in
theorem gX4_subscribe_X4_pointAt : GoodIn wsX4_subscribe (wsV RX4 42 RX4 yX4_pointAt wsX4_pointAt) := goodIn_app (goodIn_of _ (by decide +kernel)) ggX4_subscribe_X4_pointAt
set_option maxRecDepth 20000 in
theorem ggX4_subscribe_X4_requireWithin : GoodIn wsX4_subscribe wsX4_requireWithin := goodIn_ca (goodIn_r _ [18, 19, 20] (by decide +kernel) (by decide +kernel)) (goodIn_sub (fun _ h => List.mem_cons_of_mem _ (List.mem_append_left _ (List.mem_append_right _ h))) (by decide +kernel))
set_option maxRecDepth 20000 in
theorem gX4_subscribe_X4_requireWithin : GoodIn wsX4_subscribe (va_wsS RX4 27 yX4_requireWithin wsX4_requireWithin) := goodIn_app (goodIn_of _ (by decide +kernel)) ggX4_subscribe_X4_requireWithin
set_option maxRecDepth 20000 in
theorem ggX4_subscribe_X4_requireRoom : GoodIn wsX4_subscribe wsX4_requireRoom := goodIn_ca (goodIn_r _ [23, 24, 25] (by decide +kernel) (by decide +kernel)) (goodIn_sub (fun _ h => List.mem_cons_of_mem _ (List.mem_append_right _ h)) (by decide +kernel))
set_option maxRecDepth 20000 in
theorem gX4_subscribe_X4_requireRoom : GoodIn wsX4_subscribe (va_wsS RX4 35 yX4_requireRoom wsX4_requireRoom) := goodIn_app (goodIn_of _ (by decide +kernel)) ggX4_subscribe_X4_requireRoom
set_option maxRecDepth 20000 in
theorem ggX4_subscribe_X3_init : GoodIn wsX4_subscribe wsX3_init := goodIn_r _ [28, 29, 30, 31, 32, 33, 34, 35, 36, 37, 38, 47, 48, 49, 50, 51, 52, 53, 54, 55, 56, 57, 58, 59, 60] (by decide +kernel) (by decide +kernel)
set_option maxRecDepth 20000 in
theorem gX4_subscribe_X3_init : GoodIn wsX4_subscribe (wsX3_init) := ggX4_subscribe_X3_init
set_option maxRecDepth 20000 in
theorem ggX4_end_X4_subscriptionAt : GoodIn wsX4_end wsX4_subscriptionAt := goodIn_ca (goodIn_r _ [8, 9, 10, 11, 18, 19, 20, 21, 22, 23, 24, 25] (by decide +kernel) (by decide +kernel)) (goodIn_sub (fun _ h => List.mem_cons_of_mem _ (List.mem_append_right _ h)) (by decide +kernel))
set_option maxRecDepth 20000 in
theorem gX4_end_X4_subscriptionAt : GoodIn wsX4_end (wsV RX4 91 RX4 yX4_subscriptionAt wsX4_subscriptionAt) := goodIn_app (goodIn_of _ (by decide +kernel)) ggX4_end_X4_subscriptionAt
set_option maxRecDepth 20000 in
theorem ggX4_goesOn_X4_subscriptionAt : GoodIn wsX4_goesOn wsX4_subscriptionAt := goodIn_ca (goodIn_r _ [6, 7, 8, 9, 16, 17, 18, 19, 20, 21, 22, 23] (by decide +kernel) (by decide +kernel)) (goodIn_sub (fun _ h => List.mem_cons_of_mem _ (List.mem_append_right _ h)) (by decide +kernel))
set_option maxRecDepth 20000 in
theorem gX4_goesOn_X4_subscriptionAt : GoodIn wsX4_goesOn (wsV RX4 91 RX4 yX4_subscriptionAt wsX4_subscriptionAt) := goodIn_app (goodIn_of _ (by decide +kernel)) ggX4_goesOn_X4_subscriptionAt
set_option maxRecDepth 20000 in
theorem ggX4_reports_X4_subscriptionAt : GoodIn wsX4_reports wsX4_subscriptionAt := goodIn_ca (goodIn_r _ [6, 7, 8, 9, 16, 17, 18, 19, 20, 21, 22, 23] (by decide +kernel) (by decide +kernel)) (goodIn_sub (fun _ h => List.mem_cons_of_mem _ (List.mem_append_right _ h)) (by decide +kernel))
set_option maxRecDepth 20000 in
theorem gX4_reports_X4_subscriptionAt : GoodIn wsX4_reports (wsV RX4 91 RX4 yX4_subscriptionAt wsX4_subscriptionAt) := goodIn_app (goodIn_of _ (by decide +kernel)) ggX4_reports_X4_subscriptionAt
set_option maxRecDepth 20000 in
theorem ggX4_reported_X4_subscriptionAt : GoodIn wsX4_reported wsX4_subscriptionAt := goodIn_ca (goodIn_r _ [6, 7, 8, 9, 16, 17, 18, 19, 20, 21, 22, 23] (by decide +kernel) (by decide +kernel)) (goodIn_sub (fun _ h => List.mem_cons_of_mem _ (List.mem_append_right _ h)) (by decide +kernel))
set_option maxRecDepth 20000 in
theorem gX4_reported_X4_subscriptionAt : GoodIn wsX4_reported (wsV RX4 91 RX4 yX4_subscriptionAt wsX4_subscriptionAt) := goodIn_app (goodIn_of _ (by decide +kernel)) ggX4_reported_X4_subscriptionAt
set_option maxRecDepth 20000 in
theorem ggX4_addSchedule_X4_pointAt : GoodIn wsX4_addSchedule wsX4_pointAt := goodIn_ca (goodIn_r _ [10, 11, 12, 13, 48, 49, 50, 51, 52, 53, 54, 55] (by decide +kernel) (by decide +kernel)) (goodIn_sub (fun _ h => List.mem_cons_of_mem _ (List.mem_append_left _ (List.mem_append_left _ (List.mem_append_right _ h)))) (by decide +kernel))
set_option maxRecDepth 20000 in
theorem gX4_addSchedule_X4_pointAt : GoodIn wsX4_addSchedule (wsV RX4 42 RX4 yX4_pointAt wsX4_pointAt) := goodIn_app (goodIn_of _ (by decide +kernel)) ggX4_addSchedule_X4_pointAt
set_option maxRecDepth 20000 in
theorem ggX4_addSchedule_X4_requireWithin : GoodIn wsX4_addSchedule wsX4_requireWithin := goodIn_ca (goodIn_r _ [16, 17, 18] (by decide +kernel) (by decide +kernel)) (goodIn_sub (fun _ h => List.mem_cons_of_mem _ (List.mem_append_left _ (List.mem_append_right _ h))) (by decide +kernel))
set_option maxRecDepth 20000 in
theorem gX4_addSchedule_X4_requireWithin : GoodIn wsX4_addSchedule (va_wsS RX4 27 yX4_requireWithin wsX4_requireWithin) := goodIn_app (goodIn_of _ (by decide +kernel)) ggX4_addSchedule_X4_requireWithin
set_option maxRecDepth 20000 in
theorem ggX4_addSchedule_X4_requireRoom : GoodIn wsX4_addSchedule wsX4_requireRoom := goodIn_ca (goodIn_r _ [21, 22, 23] (by decide +kernel) (by decide +kernel)) (goodIn_sub (fun _ h => List.mem_cons_of_mem _ (List.mem_append_right _ h)) (by decide +kernel))
set_option maxRecDepth 20000 in
theorem gX4_addSchedule_X4_requireRoom : GoodIn wsX4_addSchedule (va_wsS RX4 35 yX4_requireRoom wsX4_requireRoom) := goodIn_app (goodIn_of _ (by decide +kernel)) ggX4_addSchedule_X4_requireRoom
set_option maxRecDepth 20000 in
theorem ggX4_addSchedule_X2_init : GoodIn wsX4_addSchedule wsX2_init := goodIn_r _ [26, 27, 28, 29, 30, 31, 32, 33, 34, 35, 36, 37, 38, 39, 40, 41, 42, 43, 44, 45, 46, 47, 56, 57, 58, 59, 60, 61, 62, 63, 64] (by decide +kernel) (by decide +kernel)
set_option maxRecDepth 20000 in
theorem gX4_addSchedule_X2_init : GoodIn wsX4_addSchedule (wsX2_init) := ggX4_addSchedule_X2_init
set_option maxRecDepth 20000 in
theorem ggX4_weekly_X4_scheduleAt : GoodIn wsX4_weekly wsX4_scheduleAt := goodIn_ca (goodIn_r _ [7, 8, 9, 10, 126, 127, 128, 129, 130, 131, 132, 133] (by decide +kernel) (by decide +kernel)) (goodIn_sub (fun _ h => List.mem_cons_of_mem _ (List.mem_append_left _ (List.mem_append_left _ (List.mem_append_right _ h)))) (by decide +kernel))
set_option maxRecDepth 20000 in
theorem gX4_weekly_X4_scheduleAt : GoodIn wsX4_weekly (wsV RX4 112 RX4 yX4_scheduleAt wsX4_scheduleAt) := goodIn_app (goodIn_of _ (by decide +kernel)) ggX4_weekly_X4_scheduleAt
set_option maxRecDepth 20000 in
theorem ggX4_weekly_X4_requireWithin : GoodIn wsX4_weekly wsX4_requireWithin := goodIn_ca (goodIn_r _ [13, 14, 15] (by decide +kernel) (by decide +kernel)) (goodIn_sub (fun _ h => List.mem_cons_of_mem _ (List.mem_append_left _ (List.mem_append_right _ h))) (by decide +kernel))
set_option maxRecDepth 20000 in
theorem gX4_weekly_X4_requireWithin : GoodIn wsX4_weekly (va_wsS RX4 27 yX4_requireWithin wsX4_requireWithin) := goodIn_app (goodIn_of _ (by decide +kernel)) ggX4_weekly_X4_requireWithin
set_option maxRecDepth 20000 in
theorem ggX4_weekly_X4_requireEntry : GoodIn wsX4_weekly wsX4_requireEntry := goodIn_ca (goodIn_ca (goodIn_r _ [18, 19, 11, 12, 6, 13, 14, 15, 20, 21, 22, 23, 24, 25, 26, 27, 28, 29, 30, 31, 32, 33, 34, 35, 36, 37, 38, 39, 40, 41, 42, 43, 121, 122, 123, 124, 125, 134, 135, 136, 137, 138, 139, 140, 141, 142, 143, 144, 145] (by decide +kernel) (by decide +kernel)) (goodIn_sub (fun _ h => List.mem_cons_of_mem _ (List.mem_append_left _ (List.mem_append_right _ h))) (by decide +kernel))) (goodIn_sub (fun _ h => List.mem_cons_of_mem _ (List.mem_append_right _ h)) (by decide +kernel))
set_option maxRecDepth 20000 in
theorem gX4_weekly_X4_requireEntry : GoodIn wsX4_weekly (va_wsS RX4 116 yX4_requireEntry wsX4_requireEntry) := goodIn_app (goodIn_of _ (by decide +kernel)) ggX4_weekly_X4_requireEntry
set_option maxRecDepth 20000 in
theorem ggX4_weekly_X0_add : GoodIn wsX4_weekly wsX0_add := goodIn_r _ [48, 49, 50, 51, 52, 142, 143, 144, 145] (by decide +kernel) (by decide +kernel)
set_option maxRecDepth 20000 in
theorem gX4_weekly_X0_add : GoodIn wsX4_weekly (wsV RX4 124 RX0 yX0_add wsX0_add) := goodIn_app (goodIn_of _ (by decide +kernel)) ggX4_weekly_X0_add
set_option maxRecDepth 20000 in
set_option maxRecDepth 20000 in
theorem ggX4_weekly_X4_follow_q1b : GoodIn wsX4_weekly wsX4_follow_r1 := goodIn_r _ [57, 2, 19, 58, 59, 60, 61, 34, 62, 38, 36, 63, 64, 65, 47, 66, 49, 50, 67, 68, 69, 70, 71, 51] (by decide +kernel) (by decide +kernel)
theorem ggX4_weekly_X4_follow_q1 : GoodIn wsX4_weekly (.code yX4_follow cX4_follow 3 none :: wsX4_follow_r1) := fun w h => (List.mem_cons.mp h).elim (fun e => by subst e; exact ⟨List.mem_of_getElem? (i := 56) rfl, good_of_word rfl⟩) (ggX4_weekly_X4_follow_q1b w)
set_option maxRecDepth 20000 in
theorem ggX4_weekly_X4_follow_q2 : GoodIn wsX4_weekly wsX4_follow_r2 := goodIn_r _ [52, 72, 73, 74, 6, 75, 76, 77, 78, 79, 80, 27, 81, 82, 83, 84, 85, 86, 87, 88, 89, 90, 91, 92] (by decide +kernel) (by decide +kernel)
set_option maxRecDepth 20000 in
theorem ggX4_weekly_X4_follow_q3 : GoodIn wsX4_weekly wsX4_follow_r3 := goodIn_r _ [93, 94, 95, 96, 97, 98, 99, 100, 101, 102, 103, 104, 105, 106, 107, 108, 109, 110, 111, 112, 113, 114, 115, 116] (by decide +kernel) (by decide +kernel)
set_option maxRecDepth 20000 in
theorem ggX4_weekly_X4_follow_q4 : GoodIn wsX4_weekly wsX4_follow_r4 := goodIn_r _ [117, 118, 119, 120] (by decide +kernel) (by decide +kernel)
set_option maxRecDepth 20000 in
theorem ggX4_weekly_X4_follow_wsX40 : GoodIn wsX4_weekly wsX40 := goodIn_r _ [126, 127, 128, 129, 130, 131, 132, 133] (by decide +kernel) (by decide +kernel)
set_option maxRecDepth 20000 in
theorem ggX4_weekly_X4_follow_wsX20 : GoodIn wsX4_weekly wsX20 := goodIn_r _ [121, 122, 123, 124, 125] (by decide +kernel) (by decide +kernel)
set_option maxRecDepth 20000 in
theorem ggX4_weekly_X4_follow_wsX00 : GoodIn wsX4_weekly wsX00 := goodIn_r _ [142, 143, 144, 145] (by decide +kernel) (by decide +kernel)
set_option maxRecDepth 20000 in
theorem ggX4_weekly_X4_follow_wsX10 : GoodIn wsX4_weekly wsX10 := goodIn_r _ [134, 135, 136, 137, 138, 139, 140, 141] (by decide +kernel) (by decide +kernel)
set_option maxRecDepth 20000 in
theorem ggX4_weekly_X4_follow_wsX30 : GoodIn wsX4_weekly wsX30 := goodIn_r _ [146, 147, 148, 149, 150, 151] (by decide +kernel) (by decide +kernel)
theorem ggX4_weekly_X4_follow : GoodIn wsX4_weekly wsX4_follow := goodIn_ca (goodIn_ca (goodIn_ca (goodIn_ca (goodIn_ca (goodIn_ca ggX4_weekly_X4_follow_q1 (goodIn_app ggX4_weekly_X4_follow_q2 (goodIn_app ggX4_weekly_X4_follow_q3 (ggX4_weekly_X4_follow_q4)))) ggX4_weekly_X4_follow_wsX40) ggX4_weekly_X4_follow_wsX20) ggX4_weekly_X4_follow_wsX00) ggX4_weekly_X4_follow_wsX10) ggX4_weekly_X4_follow_wsX30
set_option maxRecDepth 20000 in
theorem gX4_weekly_X4_follow : GoodIn wsX4_weekly (wsV RX4 129 RX4 yX4_follow wsX4_follow) := goodIn_app (goodIn_of _ (by decide +kernel)) ggX4_weekly_X4_follow
set_option maxRecDepth 20000 in
theorem ggX4_once_X4_scheduleAt : GoodIn wsX4_once wsX4_scheduleAt := goodIn_ca (goodIn_r _ [7, 8, 9, 10, 126, 127, 128, 129, 130, 131, 132, 133] (by decide +kernel) (by decide +kernel)) (goodIn_sub (fun _ h => List.mem_cons_of_mem _ (List.mem_append_left _ (List.mem_append_left _ (List.mem_append_right _ h)))) (by decide +kernel))
set_option maxRecDepth 20000 in
theorem gX4_once_X4_scheduleAt : GoodIn wsX4_once (wsV RX4 112 RX4 yX4_scheduleAt wsX4_scheduleAt) := goodIn_app (goodIn_of _ (by decide +kernel)) ggX4_once_X4_scheduleAt
set_option maxRecDepth 20000 in
theorem ggX4_once_X4_requireWithin : GoodIn wsX4_once wsX4_requireWithin := goodIn_ca (goodIn_r _ [13, 14, 15] (by decide +kernel) (by decide +kernel)) (goodIn_sub (fun _ h => List.mem_cons_of_mem _ (List.mem_append_left _ (List.mem_append_right _ h))) (by decide +kernel))
set_option maxRecDepth 20000 in
theorem gX4_once_X4_requireWithin : GoodIn wsX4_once (va_wsS RX4 27 yX4_requireWithin wsX4_requireWithin) := goodIn_app (goodIn_of _ (by decide +kernel)) ggX4_once_X4_requireWithin
set_option maxRecDepth 20000 in
theorem ggX4_once_X4_requireEntry : GoodIn wsX4_once wsX4_requireEntry := goodIn_ca (goodIn_ca (goodIn_r _ [18, 19, 11, 12, 6, 13, 14, 15, 20, 21, 22, 23, 24, 25, 26, 27, 28, 29, 30, 31, 32, 33, 34, 35, 36, 37, 38, 39, 40, 41, 42, 43, 121, 122, 123, 124, 125, 134, 135, 136, 137, 138, 139, 140, 141, 142, 143, 144, 145] (by decide +kernel) (by decide +kernel)) (goodIn_sub (fun _ h => List.mem_cons_of_mem _ (List.mem_append_left _ (List.mem_append_right _ h))) (by decide +kernel))) (goodIn_sub (fun _ h => List.mem_cons_of_mem _ (List.mem_append_right _ h)) (by decide +kernel))
set_option maxRecDepth 20000 in
theorem gX4_once_X4_requireEntry : GoodIn wsX4_once (va_wsS RX4 116 yX4_requireEntry wsX4_requireEntry) := goodIn_app (goodIn_of _ (by decide +kernel)) ggX4_once_X4_requireEntry
set_option maxRecDepth 20000 in
theorem ggX4_once_X0_add : GoodIn wsX4_once wsX0_add := goodIn_r _ [48, 49, 50, 51, 52, 142, 143, 144, 145] (by decide +kernel) (by decide +kernel)
set_option maxRecDepth 20000 in
theorem gX4_once_X0_add : GoodIn wsX4_once (wsV RX4 124 RX0 yX0_add wsX0_add) := goodIn_app (goodIn_of _ (by decide +kernel)) ggX4_once_X0_add
set_option maxRecDepth 20000 in
set_option maxRecDepth 20000 in
theorem ggX4_once_X4_follow_q1b : GoodIn wsX4_once wsX4_follow_r1 := goodIn_r _ [57, 2, 19, 58, 59, 60, 61, 34, 62, 38, 36, 63, 64, 65, 47, 66, 49, 50, 67, 68, 69, 70, 71, 51] (by decide +kernel) (by decide +kernel)
theorem ggX4_once_X4_follow_q1 : GoodIn wsX4_once (.code yX4_follow cX4_follow 3 none :: wsX4_follow_r1) := fun w h => (List.mem_cons.mp h).elim (fun e => by subst e; exact ⟨List.mem_of_getElem? (i := 56) rfl, good_of_word rfl⟩) (ggX4_once_X4_follow_q1b w)
set_option maxRecDepth 20000 in
theorem ggX4_once_X4_follow_q2 : GoodIn wsX4_once wsX4_follow_r2 := goodIn_r _ [52, 72, 73, 74, 6, 75, 76, 77, 78, 79, 80, 27, 81, 82, 83, 84, 85, 86, 87, 88, 89, 90, 91, 92] (by decide +kernel) (by decide +kernel)
set_option maxRecDepth 20000 in
theorem ggX4_once_X4_follow_q3 : GoodIn wsX4_once wsX4_follow_r3 := goodIn_r _ [93, 94, 95, 96, 97, 98, 99, 100, 101, 102, 103, 104, 105, 106, 107, 108, 109, 110, 111, 112, 113, 114, 115, 116] (by decide +kernel) (by decide +kernel)
set_option maxRecDepth 20000 in
theorem ggX4_once_X4_follow_q4 : GoodIn wsX4_once wsX4_follow_r4 := goodIn_r _ [117, 118, 119, 120] (by decide +kernel) (by decide +kernel)
set_option maxRecDepth 20000 in
theorem ggX4_once_X4_follow_wsX40 : GoodIn wsX4_once wsX40 := goodIn_r _ [126, 127, 128, 129, 130, 131, 132, 133] (by decide +kernel) (by decide +kernel)
set_option maxRecDepth 20000 in
theorem ggX4_once_X4_follow_wsX20 : GoodIn wsX4_once wsX20 := goodIn_r _ [121, 122, 123, 124, 125] (by decide +kernel) (by decide +kernel)
set_option maxRecDepth 20000 in
theorem ggX4_once_X4_follow_wsX00 : GoodIn wsX4_once wsX00 := goodIn_r _ [142, 143, 144, 145] (by decide +kernel) (by decide +kernel)
set_option maxRecDepth 20000 in
theorem ggX4_once_X4_follow_wsX10 : GoodIn wsX4_once wsX10 := goodIn_r _ [134, 135, 136, 137, 138, 139, 140, 141] (by decide +kernel) (by decide +kernel)
set_option maxRecDepth 20000 in
theorem ggX4_once_X4_follow_wsX30 : GoodIn wsX4_once wsX30 := goodIn_r _ [146, 147, 148, 149, 150, 151] (by decide +kernel) (by decide +kernel)
theorem ggX4_once_X4_follow : GoodIn wsX4_once wsX4_follow := goodIn_ca (goodIn_ca (goodIn_ca (goodIn_ca (goodIn_ca (goodIn_ca ggX4_once_X4_follow_q1 (goodIn_app ggX4_once_X4_follow_q2 (goodIn_app ggX4_once_X4_follow_q3 (ggX4_once_X4_follow_q4)))) ggX4_once_X4_follow_wsX40) ggX4_once_X4_follow_wsX20) ggX4_once_X4_follow_wsX00) ggX4_once_X4_follow_wsX10) ggX4_once_X4_follow_wsX30
set_option maxRecDepth 20000 in
theorem gX4_once_X4_follow : GoodIn wsX4_once (wsV RX4 129 RX4 yX4_follow wsX4_follow) := goodIn_app (goodIn_of _ (by decide +kernel)) ggX4_once_X4_follow
set_option maxRecDepth 20000 in
theorem ggX4_tells_X4_scheduleAt : GoodIn wsX4_tells wsX4_scheduleAt := goodIn_ca (goodIn_r _ [6, 7, 8, 9, 36, 37, 38, 39, 40, 41, 42, 43] (by decide +kernel) (by decide +kernel)) (goodIn_sub (fun _ h => List.mem_cons_of_mem _ (List.mem_append_left _ (List.mem_append_right _ h))) (by decide +kernel))
set_option maxRecDepth 20000 in
theorem gX4_tells_X4_scheduleAt : GoodIn wsX4_tells (wsV RX4 112 RX4 yX4_scheduleAt wsX4_scheduleAt) := goodIn_app (goodIn_of _ (by decide +kernel)) ggX4_tells_X4_scheduleAt
set_option maxRecDepth 20000 in
theorem ggX4_tells_X4_requireWithin : GoodIn wsX4_tells wsX4_requireWithin := goodIn_ca (goodIn_r _ [12, 13, 14] (by decide +kernel) (by decide +kernel)) (goodIn_sub (fun _ h => List.mem_cons_of_mem _ (List.mem_append_right _ h)) (by decide +kernel))
set_option maxRecDepth 20000 in
theorem gX4_tells_X4_requireWithin : GoodIn wsX4_tells (va_wsS RX4 27 yX4_requireWithin wsX4_requireWithin) := goodIn_app (goodIn_of _ (by decide +kernel)) ggX4_tells_X4_requireWithin
set_option maxRecDepth 20000 in
theorem ggX4_tells_X2_toldAt : GoodIn wsX4_tells wsX2_toldAt := goodIn_r _ [19, 20, 21, 22, 23, 24, 25, 26, 27, 28, 29, 30, 31, 32, 33, 34, 35, 44, 45, 46, 47, 48, 49, 50, 51, 52] (by decide +kernel) (by decide +kernel)
set_option maxRecDepth 20000 in
theorem gX4_tells_X2_toldAt : GoodIn wsX4_tells (wsV RX4 140 RX2 yX2_toldAt wsX2_toldAt) := goodIn_app (goodIn_of _ (by decide +kernel)) ggX4_tells_X2_toldAt
set_option maxRecDepth 20000 in
theorem ggX4_pass_X4_requireWithin : GoodIn wsX4_pass wsX4_requireWithin := goodIn_ca (goodIn_r _ [9, 10, 11] (by decide +kernel) (by decide +kernel)) (goodIn_sub (fun _ h => List.mem_cons_of_mem _ (List.mem_append_right _ h)) (by decide +kernel))
set_option maxRecDepth 20000 in
theorem gX4_pass_X4_requireWithin : GoodIn wsX4_pass (va_wsS RX4 27 yX4_requireWithin wsX4_requireWithin) := goodIn_app (goodIn_of _ (by decide +kernel)) ggX4_pass_X4_requireWithin
set_option maxRecDepth 20000 in
set_option maxRecDepth 20000 in
theorem ggX4_pass_X4_passMinute_q1b : GoodIn wsX4_pass wsX4_passMinute_r1 := goodIn_r _ [4, 16, 17, 18, 8, 19, 20, 21, 22, 23, 24, 25, 26, 27, 28, 29, 30, 31, 32, 33, 34, 35, 36, 37] (by decide +kernel) (by decide +kernel)
theorem ggX4_pass_X4_passMinute_q1 : GoodIn wsX4_pass (.code yX4_passMinute cX4_passMinute 1 none :: wsX4_passMinute_r1) := fun w h => (List.mem_cons.mp h).elim (fun e => by subst e; exact ⟨List.mem_of_getElem? (i := 15) rfl, good_of_word rfl⟩) (ggX4_pass_X4_passMinute_q1b w)
set_option maxRecDepth 20000 in
theorem ggX4_pass_X4_passMinute_q2 : GoodIn wsX4_pass wsX4_passMinute_r2 := goodIn_r _ [38, 39, 40, 41, 42, 43, 44, 45, 46, 47, 48, 49, 50, 51, 52, 53, 54, 55, 56, 57, 58, 59, 5, 60] (by decide +kernel) (by decide +kernel)
set_option maxRecDepth 20000 in
theorem ggX4_pass_X4_passMinute_q3 : GoodIn wsX4_pass wsX4_passMinute_r3 := goodIn_r _ [61, 62, 63, 64, 65, 66, 67, 68, 69, 70, 71, 72, 73, 74, 75, 76, 77, 78, 79, 80, 81, 82, 83, 84] (by decide +kernel) (by decide +kernel)
set_option maxRecDepth 20000 in
theorem ggX4_pass_X4_passMinute_q4 : GoodIn wsX4_pass wsX4_passMinute_r4 := goodIn_r _ [85, 86, 87, 88, 89, 90, 91, 92, 93, 94, 95, 96, 97, 98, 99, 100, 101, 102, 103, 104, 105, 106, 107, 108] (by decide +kernel) (by decide +kernel)
set_option maxRecDepth 20000 in
theorem ggX4_pass_X4_passMinute_q5 : GoodIn wsX4_pass wsX4_passMinute_r5 := goodIn_r _ [109, 110, 111, 112, 113] (by decide +kernel) (by decide +kernel)
set_option maxRecDepth 20000 in
theorem ggX4_pass_X4_passMinute_wsX40 : GoodIn wsX4_pass wsX40 := goodIn_r _ [114, 115, 116, 117, 118, 119, 120, 121] (by decide +kernel) (by decide +kernel)
set_option maxRecDepth 20000 in
theorem ggX4_pass_X4_passMinute_wsX10 : GoodIn wsX4_pass wsX10 := goodIn_r _ [122, 123, 124, 125, 126, 127, 128, 129] (by decide +kernel) (by decide +kernel)
set_option maxRecDepth 20000 in
theorem ggX4_pass_X4_passMinute_wsX30 : GoodIn wsX4_pass wsX30 := goodIn_r _ [130, 131, 132, 133, 134, 135] (by decide +kernel) (by decide +kernel)
set_option maxRecDepth 20000 in
theorem ggX4_pass_X4_passMinute_wsX20 : GoodIn wsX4_pass wsX20 := goodIn_r _ [136, 137, 138, 139, 140] (by decide +kernel) (by decide +kernel)
set_option maxRecDepth 20000 in
theorem ggX4_pass_X4_passMinute_wsX00 : GoodIn wsX4_pass wsX00 := goodIn_r _ [141, 142, 143, 144] (by decide +kernel) (by decide +kernel)
theorem ggX4_pass_X4_passMinute : GoodIn wsX4_pass wsX4_passMinute := goodIn_ca (goodIn_ca (goodIn_ca (goodIn_ca (goodIn_ca (goodIn_ca ggX4_pass_X4_passMinute_q1 (goodIn_app ggX4_pass_X4_passMinute_q2 (goodIn_app ggX4_pass_X4_passMinute_q3 (goodIn_app ggX4_pass_X4_passMinute_q4 (ggX4_pass_X4_passMinute_q5))))) ggX4_pass_X4_passMinute_wsX40) ggX4_pass_X4_passMinute_wsX10) ggX4_pass_X4_passMinute_wsX30) ggX4_pass_X4_passMinute_wsX20) ggX4_pass_X4_passMinute_wsX00
set_option maxRecDepth 20000 in
theorem gX4_pass_X4_passMinute : GoodIn wsX4_pass (wsV RX4 149 RX4 yX4_passMinute wsX4_passMinute) := goodIn_app (goodIn_of _ (by decide +kernel)) ggX4_pass_X4_passMinute
set_option maxRecDepth 20000 in
theorem ggX4_requireCommand_X1_canHave : GoodIn wsX4_requireCommand wsX1_canHave := goodIn_r _ [8, 9, 10, 11, 12, 13, 14, 15, 16, 17, 18] (by decide +kernel) (by decide +kernel)
set_option maxRecDepth 20000 in
theorem gX4_requireCommand_X1_canHave : GoodIn wsX4_requireCommand (wsV RX4 158 RX1 yX1_canHave wsX1_canHave) := goodIn_app (goodIn_of _ (by decide +kernel)) ggX4_requireCommand_X1_canHave
set_option maxRecDepth 20000 in
theorem ggX4_requireEntry_X4_requireWithin : GoodIn wsX4_requireEntry wsX4_requireWithin := goodIn_ca (goodIn_r _ [5, 6, 7] (by decide +kernel) (by decide +kernel)) (goodIn_sub (fun _ h => List.mem_cons_of_mem _ (List.mem_append_left _ (List.mem_append_right _ h))) (by decide +kernel))
set_option maxRecDepth 20000 in
theorem gX4_requireEntry_X4_requireWithin : GoodIn wsX4_requireEntry (va_wsS RX4 27 yX4_requireWithin wsX4_requireWithin) := goodIn_app (goodIn_of _ (by decide +kernel)) ggX4_requireEntry_X4_requireWithin
set_option maxRecDepth 20000 in
theorem ggX4_requireEntry_X4_requireCommand : GoodIn wsX4_requireEntry wsX4_requireCommand := goodIn_ca (goodIn_r _ [10, 6, 7, 11, 12, 13, 14, 15, 16, 17, 18, 37, 38, 39, 40, 41, 42, 43, 44] (by decide +kernel) (by decide +kernel)) (goodIn_sub (fun _ h => List.mem_cons_of_mem _ (List.mem_append_left _ (List.mem_append_right _ h))) (by decide +kernel))
set_option maxRecDepth 20000 in
theorem gX4_requireEntry_X4_requireCommand : GoodIn wsX4_requireEntry (va_wsS RX4 46 yX4_requireCommand wsX4_requireCommand) := goodIn_app (goodIn_of _ (by decide +kernel)) ggX4_requireEntry_X4_requireCommand
set_option maxRecDepth 20000 in
theorem ggX4_requireEntry_X2_entryCount : GoodIn wsX4_requireEntry wsX2_entryCount := goodIn_r _ [23, 24, 25, 26, 32, 33, 34, 35, 36, 45, 46, 47, 48] (by decide +kernel) (by decide +kernel)
set_option maxRecDepth 20000 in
theorem gX4_requireEntry_X2_entryCount : GoodIn wsX4_requireEntry (wsV RX4 170 RX2 yX2_entryCount wsX2_entryCount) := goodIn_app (goodIn_of _ (by decide +kernel)) ggX4_requireEntry_X2_entryCount
set_option maxRecDepth 20000 in
theorem ggX4_requireEntry_X4_requireRoom : GoodIn wsX4_requireEntry wsX4_requireRoom := goodIn_ca (goodIn_r _ [29, 30, 31] (by decide +kernel) (by decide +kernel)) (goodIn_sub (fun _ h => List.mem_cons_of_mem _ (List.mem_append_right _ h)) (by decide +kernel))
set_option maxRecDepth 20000 in
theorem gX4_requireEntry_X4_requireRoom : GoodIn wsX4_requireEntry (va_wsS RX4 35 yX4_requireRoom wsX4_requireRoom) := goodIn_app (goodIn_of _ (by decide +kernel)) ggX4_requireEntry_X4_requireRoom
set_option maxRecDepth 20000 in
theorem ggX4_put_X1_dueValue : GoodIn wsX4_put wsX1_dueValue := goodIn_r _ [8, 9, 10, 11, 12, 13, 7, 14, 15, 49, 50, 51, 52, 53, 54, 55, 56] (by decide +kernel) (by decide +kernel)
set_option maxRecDepth 20000 in
theorem gX4_put_X1_dueValue : GoodIn wsX4_put (wsV RX4 182 RX1 yX1_dueValue wsX1_dueValue) := goodIn_app (goodIn_of _ (by decide +kernel)) ggX4_put_X1_dueValue
set_option maxRecDepth 20000 in
theorem ggX4_put_X1_change : GoodIn wsX4_put wsX1_change := goodIn_r _ [19, 20, 21, 22, 9, 23, 49, 50, 51, 52, 53, 54, 55, 56] (by decide +kernel) (by decide +kernel)
set_option maxRecDepth 20000 in
theorem gX4_put_X1_change : GoodIn wsX4_put (wsV RX4 185 RX1 yX1_change wsX1_change) := goodIn_app (goodIn_of _ (by decide +kernel)) ggX4_put_X1_change
set_option maxRecDepth 20000 in
theorem ggX4_put_X4_reportChange : GoodIn wsX4_put wsX4_reportChange := goodIn_r _ [28, 29, 30, 31, 2, 32, 33, 34, 35, 36, 37, 38, 39, 40, 41, 42, 43, 44, 45, 46, 47, 48, 57, 58, 59, 60, 61, 62, 63, 64, 65, 66, 67, 68, 69, 70, 49, 50, 51, 52, 53, 54, 55, 56] (by decide +kernel) (by decide +kernel)
set_option maxRecDepth 20000 in
theorem gX4_put_X4_reportChange : GoodIn wsX4_put (wsV RX4 188 RX4 yX4_reportChange wsX4_reportChange) := goodIn_app (goodIn_of _ (by decide +kernel)) ggX4_put_X4_reportChange
set_option maxRecDepth 20000 in
theorem ggX4_reportChange_X3_isFarFrom : GoodIn wsX4_reportChange wsX3_isFarFrom := goodIn_r _ [10, 11, 12, 13, 14, 15, 16, 30, 31, 32, 33, 34, 35] (by decide +kernel) (by decide +kernel)
set_option maxRecDepth 20000 in
theorem gX4_reportChange_X3_isFarFrom : GoodIn wsX4_reportChange (wsV RX4 193 RX3 yX3_isFarFrom wsX3_isFarFrom) := goodIn_app (goodIn_of _ (by decide +kernel)) ggX4_reportChange_X3_isFarFrom
set_option maxRecDepth 20000 in
theorem ggX4_reportChange_X3_report : GoodIn wsX4_reportChange wsX3_report := goodIn_r _ [20, 11, 21, 30, 31, 32, 33, 34, 35] (by decide +kernel) (by decide +kernel)
set_option maxRecDepth 20000 in
theorem gX4_reportChange_X3_report : GoodIn wsX4_reportChange (wsV RX4 196 RX3 yX3_report wsX3_report) := goodIn_app (goodIn_of _ (by decide +kernel)) ggX4_reportChange_X3_report
set_option maxRecDepth 20000 in
theorem ggX4_follow_X2_toldAt : GoodIn wsX4_follow wsX2_toldAt := goodIn_r _ [9, 10, 11, 12, 13, 14, 15, 16, 17, 18, 19, 20, 21, 22, 23, 24, 25, 85, 86, 87, 88, 89, 90, 91, 92, 93] (by decide +kernel) (by decide +kernel)
set_option maxRecDepth 20000 in
theorem gX4_follow_X2_toldAt : GoodIn wsX4_follow (wsV RX4 140 RX2 yX2_toldAt wsX2_toldAt) := goodIn_app (goodIn_of _ (by decide +kernel)) ggX4_follow_X2_toldAt
set_option maxRecDepth 20000 in
theorem ggX4_follow_X4_put : GoodIn wsX4_follow wsX4_put := goodIn_r _ [30, 31, 32, 1, 33, 34, 35, 36, 37, 38, 39, 40, 41, 42, 43, 44, 45, 46, 47, 48, 49, 50, 51, 52, 53, 54, 55, 29, 56, 57, 58, 59, 60, 61, 62, 63, 64, 65, 66, 67, 68, 69, 70, 71, 72, 73, 74, 75, 76, 94, 95, 96, 97, 98, 99, 100, 101, 77, 78, 79, 80, 81, 82, 83, 84, 102, 103, 104, 105, 106, 107] (by decide +kernel) (by decide +kernel)
set_option maxRecDepth 20000 in
theorem gX4_follow_X4_put : GoodIn wsX4_follow (wsV RX4 61 RX4 yX4_put wsX4_put) := goodIn_app (goodIn_of _ (by decide +kernel)) ggX4_follow_X4_put
set_option maxRecDepth 20000 in
theorem ggX4_passMinute_X4_releaseHeldCommands : GoodIn wsX4_passMinute wsX4_releaseHeldCommands := goodIn_r _ [6, 7, 8, 1, 9, 10, 11, 12, 13, 14, 15, 16, 17, 18, 5, 19, 20, 21, 22, 23, 24, 25, 26, 27, 28, 29, 30, 31, 32, 33, 34, 35, 36, 37, 38, 39, 40, 41, 42, 43, 44, 45, 46, 47, 48, 49, 50, 51, 52, 53, 54, 55, 56, 57, 58, 59, 60, 61, 62, 63, 102, 103, 104, 105, 106, 107, 108, 109, 110, 111, 112, 113, 114, 115, 116, 117, 118, 119, 120, 121, 122, 123] (by decide +kernel) (by decide +kernel)
set_option maxRecDepth 20000 in
theorem gX4_passMinute_X4_releaseHeldCommands : GoodIn wsX4_passMinute (wsV RX4 203 RX4 yX4_releaseHeldCommands wsX4_releaseHeldCommands) := goodIn_app (goodIn_of _ (by decide +kernel)) ggX4_passMinute_X4_releaseHeldCommands
set_option maxRecDepth 20000 in
theorem ggX4_passMinute_X4_endOldSubscriptions : GoodIn wsX4_passMinute wsX4_endOldSubscriptions := goodIn_r _ [67, 44, 68, 1, 45, 102, 103, 104, 105, 106, 107, 108, 109, 118, 119, 120, 121, 122, 123] (by decide +kernel) (by decide +kernel)
set_option maxRecDepth 20000 in
theorem gX4_passMinute_X4_endOldSubscriptions : GoodIn wsX4_passMinute (wsV RX4 206 RX4 yX4_endOldSubscriptions wsX4_endOldSubscriptions) := goodIn_app (goodIn_of _ (by decide +kernel)) ggX4_passMinute_X4_endOldSubscriptions
set_option maxRecDepth 20000 in
set_option maxRecDepth 20000 in
theorem ggX4_passMinute_X4_followSchedules_q1b : GoodIn wsX4_passMinute wsX4_followSchedules_r1 := goodIn_r _ [73, 74, 75, 76, 5, 77, 1, 78, 79, 80, 81, 82, 83, 84, 85, 86, 87, 88, 89, 90, 91, 92, 93, 94] (by decide +kernel) (by decide +kernel)
theorem ggX4_passMinute_X4_followSchedules_q1 : GoodIn wsX4_passMinute (.code yX4_followSchedules cX4_followSchedules 5 none :: wsX4_followSchedules_r1) := fun w h => (List.mem_cons.mp h).elim (fun e => by subst e; exact ⟨List.mem_of_getElem? (i := 72) rfl, good_of_word rfl⟩) (ggX4_passMinute_X4_followSchedules_q1b w)
set_option maxRecDepth 20000 in
theorem ggX4_passMinute_X4_followSchedules_q2 : GoodIn wsX4_passMinute wsX4_followSchedules_r2 := goodIn_r _ [95, 96, 97, 98, 99, 100, 101, 16, 17, 18, 19, 20, 21, 22, 23, 24, 13, 25, 26, 27, 28, 29, 30, 31] (by decide +kernel) (by decide +kernel)
set_option maxRecDepth 20000 in
theorem ggX4_passMinute_X4_followSchedules_q3 : GoodIn wsX4_passMinute wsX4_followSchedules_r3 := goodIn_r _ [32, 33, 34, 35, 36, 37, 38, 39, 15, 40, 41, 42, 43, 44, 45, 46, 47, 48, 49, 50, 51, 52, 53, 54] (by decide +kernel) (by decide +kernel)
set_option maxRecDepth 20000 in
theorem ggX4_passMinute_X4_followSchedules_q4 : GoodIn wsX4_passMinute wsX4_followSchedules_r4 := goodIn_r _ [55, 56, 57, 58, 59, 60, 61, 62, 63] (by decide +kernel) (by decide +kernel)
set_option maxRecDepth 20000 in
theorem ggX4_passMinute_X4_followSchedules_wsX40 : GoodIn wsX4_passMinute wsX40 := goodIn_r _ [102, 103, 104, 105, 106, 107, 108, 109] (by decide +kernel) (by decide +kernel)
set_option maxRecDepth 20000 in
theorem ggX4_passMinute_X4_followSchedules_wsX20 : GoodIn wsX4_passMinute wsX20 := goodIn_r _ [124, 125, 126, 127, 128] (by decide +kernel) (by decide +kernel)
set_option maxRecDepth 20000 in
theorem ggX4_passMinute_X4_followSchedules_wsX00 : GoodIn wsX4_passMinute wsX00 := goodIn_r _ [129, 130, 131, 132] (by decide +kernel) (by decide +kernel)
set_option maxRecDepth 20000 in
theorem ggX4_passMinute_X4_followSchedules_wsX10 : GoodIn wsX4_passMinute wsX10 := goodIn_r _ [110, 111, 112, 113, 114, 115, 116, 117] (by decide +kernel) (by decide +kernel)
set_option maxRecDepth 20000 in
theorem ggX4_passMinute_X4_followSchedules_wsX30 : GoodIn wsX4_passMinute wsX30 := goodIn_r _ [118, 119, 120, 121, 122, 123] (by decide +kernel) (by decide +kernel)
theorem ggX4_passMinute_X4_followSchedules : GoodIn wsX4_passMinute wsX4_followSchedules := goodIn_ca (goodIn_ca (goodIn_ca (goodIn_ca (goodIn_ca (goodIn_ca ggX4_passMinute_X4_followSchedules_q1 (goodIn_app ggX4_passMinute_X4_followSchedules_q2 (goodIn_app ggX4_passMinute_X4_followSchedules_q3 (ggX4_passMinute_X4_followSchedules_q4)))) ggX4_passMinute_X4_followSchedules_wsX40) ggX4_passMinute_X4_followSchedules_wsX20) ggX4_passMinute_X4_followSchedules_wsX00) ggX4_passMinute_X4_followSchedules_wsX10) ggX4_passMinute_X4_followSchedules_wsX30
