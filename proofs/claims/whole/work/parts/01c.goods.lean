set_option maxRecDepth 20000 in
theorem ggX1_init_J7_fill_53178 : GoodIn wsX1_init wsJ7_fill_53178 := goodIn_r _ [17] (by decide +kernel) (by decide +kernel)
set_option maxRecDepth 20000 in
theorem gX1_init_J7_fill_53178 : GoodIn wsX1_init (va_wsS RX1 29 yJ7_fill_53178 wsJ7_fill_53178) := goodIn_app (goodIn_of _ (by decide +kernel)) ggX1_init_J7_fill_53178
set_option maxRecDepth 20000 in
theorem ggX1_dueValue_X1_lowestCommanded : GoodIn wsX1_dueValue wsX1_lowestCommanded := goodIn_r _ [7, 1, 8, 9, 10, 11, 12, 13, 14, 15, 16] (by decide +kernel) (by decide +kernel)
set_option maxRecDepth 20000 in
theorem gX1_dueValue_X1_lowestCommanded : GoodIn wsX1_dueValue (wsV RX1 44 RX1 yX1_lowestCommanded wsX1_lowestCommanded) := goodIn_app (goodIn_of _ (by decide +kernel)) ggX1_dueValue_X1_lowestCommanded
set_option maxRecDepth 20000 in
theorem ggX2_init_X0_init : GoodIn wsX2_init wsX0_init := goodIn_r _ [15, 16, 2, 3, 17, 18, 19, 20, 21, 27, 28, 29, 30] (by decide +kernel) (by decide +kernel)
set_option maxRecDepth 20000 in
theorem gX2_init_X0_init : GoodIn wsX2_init (wsX0_init) := ggX2_init_X0_init
set_option maxRecDepth 20000 in
theorem ggX2_toldAt_X0_hasDay : GoodIn wsX2_toldAt wsX0_hasDay := goodIn_r _ [7, 8, 9, 22, 23, 24, 25] (by decide +kernel) (by decide +kernel)
set_option maxRecDepth 20000 in
theorem gX2_toldAt_X0_hasDay : GoodIn wsX2_toldAt (wsV RX2 36 RX0 yX0_hasDay wsX0_hasDay) := goodIn_app (goodIn_of _ (by decide +kernel)) ggX2_toldAt_X0_hasDay
set_option maxRecDepth 20000 in
theorem ggX2_toldAt_X0_latest : GoodIn wsX2_toldAt wsX0_latest := goodIn_r _ [13, 14, 8, 9, 15, 16, 22, 23, 24, 25] (by decide +kernel) (by decide +kernel)
set_option maxRecDepth 20000 in
theorem gX2_toldAt_X0_latest : GoodIn wsX2_toldAt (wsV RX2 40 RX0 yX0_latest wsX0_latest) := goodIn_app (goodIn_of _ (by decide +kernel)) ggX2_toldAt_X0_latest
set_option maxRecDepth 20000 in
theorem ggX4_addMeasure_X4_requireWithin : GoodIn wsX4_addMeasure wsX4_requireWithin := goodIn_ca (goodIn_r _ [9, 10, 11] (by decide +kernel) (by decide +kernel)) (goodIn_sub (fun _ h => List.mem_cons_of_mem _ (List.mem_append_left _ (List.mem_append_right _ h))) (by decide +kernel))
set_option maxRecDepth 20000 in
theorem gX4_addMeasure_X4_requireWithin : GoodIn wsX4_addMeasure (va_wsS RX4 27 yX4_requireWithin wsX4_requireWithin) := goodIn_app (goodIn_of _ (by decide +kernel)) ggX4_addMeasure_X4_requireWithin
set_option maxRecDepth 20000 in
theorem ggX4_addMeasure_X4_requireRoom : GoodIn wsX4_addMeasure wsX4_requireRoom := goodIn_ca (goodIn_r _ [14, 15, 16] (by decide +kernel) (by decide +kernel)) (goodIn_sub (fun _ h => List.mem_cons_of_mem _ (List.mem_append_right _ h)) (by decide +kernel))
set_option maxRecDepth 20000 in
theorem gX4_addMeasure_X4_requireRoom : GoodIn wsX4_addMeasure (va_wsS RX4 35 yX4_requireRoom wsX4_requireRoom) := goodIn_app (goodIn_of _ (by decide +kernel)) ggX4_addMeasure_X4_requireRoom
set_option maxRecDepth 20000 in
theorem ggX4_addMeasure_X1_init : GoodIn wsX4_addMeasure wsX1_init := goodIn_r _ [19, 20, 21, 22, 23, 24, 25, 26, 27, 28, 29, 30, 31, 32, 33, 34, 35, 36, 45, 46, 47, 48, 49, 50, 51, 52] (by decide +kernel) (by decide +kernel)
set_option maxRecDepth 20000 in
theorem gX4_addMeasure_X1_init : GoodIn wsX4_addMeasure (wsX1_init) := ggX4_addMeasure_X1_init
set_option maxRecDepth 20000 in
theorem ggX4_addSwitch_X4_requireWithin : GoodIn wsX4_addSwitch wsX4_requireWithin := goodIn_ca (goodIn_r _ [9, 10, 11] (by decide +kernel) (by decide +kernel)) (goodIn_sub (fun _ h => List.mem_cons_of_mem _ (List.mem_append_left _ (List.mem_append_right _ h))) (by decide +kernel))
set_option maxRecDepth 20000 in
theorem gX4_addSwitch_X4_requireWithin : GoodIn wsX4_addSwitch (va_wsS RX4 27 yX4_requireWithin wsX4_requireWithin) := goodIn_app (goodIn_of _ (by decide +kernel)) ggX4_addSwitch_X4_requireWithin
set_option maxRecDepth 20000 in
theorem ggX4_addSwitch_X4_requireRoom : GoodIn wsX4_addSwitch wsX4_requireRoom := goodIn_ca (goodIn_r _ [14, 15, 16] (by decide +kernel) (by decide +kernel)) (goodIn_sub (fun _ h => List.mem_cons_of_mem _ (List.mem_append_right _ h)) (by decide +kernel))
set_option maxRecDepth 20000 in
theorem gX4_addSwitch_X4_requireRoom : GoodIn wsX4_addSwitch (va_wsS RX4 35 yX4_requireRoom wsX4_requireRoom) := goodIn_app (goodIn_of _ (by decide +kernel)) ggX4_addSwitch_X4_requireRoom
set_option maxRecDepth 20000 in
theorem ggX4_addSwitch_X1_init : GoodIn wsX4_addSwitch wsX1_init := goodIn_r _ [19, 20, 21, 22, 23, 24, 25, 26, 27, 28, 29, 30, 31, 32, 33, 34, 35, 36, 45, 46, 47, 48, 49, 50, 51, 52] (by decide +kernel) (by decide +kernel)
set_option maxRecDepth 20000 in
theorem gX4_addSwitch_X1_init : GoodIn wsX4_addSwitch (wsX1_init) := ggX4_addSwitch_X1_init
set_option maxRecDepth 20000 in
theorem ggX4_write_X4_pointAt : GoodIn wsX4_write wsX4_pointAt := goodIn_ca (goodIn_r _ [8, 9, 10, 11, 89, 90, 91, 92, 93, 94, 95, 96] (by decide +kernel) (by decide +kernel)) (goodIn_sub (fun _ h => List.mem_cons_of_mem _ (List.mem_append_left _ (List.mem_append_right _ h))) (by decide +kernel))
set_option maxRecDepth 20000 in
theorem gX4_write_X4_pointAt : GoodIn wsX4_write (wsV RX4 42 RX4 yX4_pointAt wsX4_pointAt) := goodIn_app (goodIn_of _ (by decide +kernel)) ggX4_write_X4_pointAt
set_option maxRecDepth 20000 in
theorem ggX4_write_X4_requireWithin : GoodIn wsX4_write wsX4_requireWithin := goodIn_ca (goodIn_r _ [14, 15, 16] (by decide +kernel) (by decide +kernel)) (goodIn_sub (fun _ h => List.mem_cons_of_mem _ (List.mem_append_right _ h)) (by decide +kernel))
set_option maxRecDepth 20000 in
theorem gX4_write_X4_requireWithin : GoodIn wsX4_write (va_wsS RX4 27 yX4_requireWithin wsX4_requireWithin) := goodIn_app (goodIn_of _ (by decide +kernel)) ggX4_write_X4_requireWithin
set_option maxRecDepth 20000 in
theorem ggX4_write_X4_requireCommand : GoodIn wsX4_write wsX4_requireCommand := goodIn_ca (goodIn_r _ [19, 15, 16, 20, 21, 22, 23, 24, 25, 26, 27, 81, 82, 83, 84, 85, 86, 87, 88] (by decide +kernel) (by decide +kernel)) (goodIn_sub (fun _ h => List.mem_cons_of_mem _ (List.mem_append_right _ h)) (by decide +kernel))
set_option maxRecDepth 20000 in
theorem gX4_write_X4_requireCommand : GoodIn wsX4_write (va_wsS RX4 46 yX4_requireCommand wsX4_requireCommand) := goodIn_app (goodIn_of _ (by decide +kernel)) ggX4_write_X4_requireCommand
set_option maxRecDepth 20000 in
theorem ggX4_write_X1_isHeld : GoodIn wsX4_write wsX1_isHeld := goodIn_r _ [31, 32, 81, 82, 83, 84, 85, 86, 87, 88] (by decide +kernel) (by decide +kernel)
set_option maxRecDepth 20000 in
theorem gX4_write_X1_isHeld : GoodIn wsX4_write (wsV RX4 50 RX1 yX1_isHeld wsX1_isHeld) := goodIn_app (goodIn_of _ (by decide +kernel)) ggX4_write_X1_isHeld
set_option maxRecDepth 20000 in
theorem ggX4_write_X4_put : GoodIn wsX4_write wsX4_put := goodIn_r _ [36, 37, 3, 38, 39, 40, 41, 24, 42, 43, 44, 45, 46, 47, 48, 49, 50, 51, 52, 53, 54, 55, 56, 32, 57, 58, 59, 7, 60, 61, 62, 63, 64, 65, 66, 67, 68, 69, 70, 71, 72, 73, 74, 75, 76, 77, 78, 79, 80, 81, 82, 83, 84, 85, 86, 87, 88, 89, 90, 91, 92, 93, 94, 95, 96, 97, 98, 99, 100, 101, 102] (by decide +kernel) (by decide +kernel)
set_option maxRecDepth 20000 in
theorem gX4_write_X4_put : GoodIn wsX4_write (wsV RX4 61 RX4 yX4_put wsX4_put) := goodIn_app (goodIn_of _ (by decide +kernel)) ggX4_write_X4_put
set_option maxRecDepth 20000 in
theorem ggX4_value_X4_pointAt : GoodIn wsX4_value wsX4_pointAt := goodIn_ca (goodIn_r _ [6, 7, 8, 9, 18, 19, 20, 21, 22, 23, 24, 25] (by decide +kernel) (by decide +kernel)) (goodIn_sub (fun _ h => List.mem_cons_of_mem _ (List.mem_append_right _ h)) (by decide +kernel))
set_option maxRecDepth 20000 in
theorem gX4_value_X4_pointAt : GoodIn wsX4_value (wsV RX4 42 RX4 yX4_pointAt wsX4_pointAt) := goodIn_app (goodIn_of _ (by decide +kernel)) ggX4_value_X4_pointAt
set_option maxRecDepth 20000 in
theorem ggX4_command_X4_pointAt : GoodIn wsX4_command wsX4_pointAt := goodIn_ca (goodIn_r _ [6, 7, 8, 9, 23, 24, 25, 26, 27, 28, 29, 30] (by decide +kernel) (by decide +kernel)) (goodIn_sub (fun _ h => List.mem_cons_of_mem _ (List.mem_append_left _ (List.mem_append_right _ h))) (by decide +kernel))
set_option maxRecDepth 20000 in
theorem gX4_command_X4_pointAt : GoodIn wsX4_command (wsV RX4 42 RX4 yX4_pointAt wsX4_pointAt) := goodIn_app (goodIn_of _ (by decide +kernel)) ggX4_command_X4_pointAt
set_option maxRecDepth 20000 in
theorem ggX4_command_X4_requireWithin : GoodIn wsX4_command wsX4_requireWithin := goodIn_ca (goodIn_r _ [12, 13, 14] (by decide +kernel) (by decide +kernel)) (goodIn_sub (fun _ h => List.mem_cons_of_mem _ (List.mem_append_right _ h)) (by decide +kernel))
set_option maxRecDepth 20000 in
theorem gX4_command_X4_requireWithin : GoodIn wsX4_command (va_wsS RX4 27 yX4_requireWithin wsX4_requireWithin) := goodIn_app (goodIn_of _ (by decide +kernel)) ggX4_command_X4_requireWithin
set_option maxRecDepth 20000 in
theorem ggX4_standing_X4_pointAt : GoodIn wsX4_standing wsX4_pointAt := goodIn_ca (goodIn_r _ [5, 6, 7, 8, 16, 17, 18, 19, 20, 21, 22, 23] (by decide +kernel) (by decide +kernel)) (goodIn_sub (fun _ h => List.mem_cons_of_mem _ (List.mem_append_right _ h)) (by decide +kernel))
set_option maxRecDepth 20000 in
theorem gX4_standing_X4_pointAt : GoodIn wsX4_standing (wsV RX4 42 RX4 yX4_pointAt wsX4_pointAt) := goodIn_app (goodIn_of _ (by decide +kernel)) ggX4_standing_X4_pointAt
set_option maxRecDepth 20000 in
theorem ggX4_standing_X1_lowestCommanded : GoodIn wsX4_standing wsX1_lowestCommanded := goodIn_r _ [13, 14, 15, 24, 25, 26, 27, 28, 29, 30, 31] (by decide +kernel) (by decide +kernel)
set_option maxRecDepth 20000 in
theorem gX4_standing_X1_lowestCommanded : GoodIn wsX4_standing (wsV RX4 72 RX1 yX1_lowestCommanded wsX1_lowestCommanded) := goodIn_app (goodIn_of _ (by decide +kernel)) ggX4_standing_X1_lowestCommanded
set_option maxRecDepth 20000 in
theorem ggX4_held_X4_pointAt : GoodIn wsX4_held wsX4_pointAt := goodIn_ca (goodIn_r _ [7, 8, 9, 10, 25, 26, 27, 28, 29, 30, 31, 32] (by decide +kernel) (by decide +kernel)) (goodIn_sub (fun _ h => List.mem_cons_of_mem _ (List.mem_append_right _ h)) (by decide +kernel))
set_option maxRecDepth 20000 in
theorem gX4_held_X4_pointAt : GoodIn wsX4_held (wsV RX4 42 RX4 yX4_pointAt wsX4_pointAt) := goodIn_app (goodIn_of _ (by decide +kernel)) ggX4_held_X4_pointAt
set_option maxRecDepth 20000 in
theorem ggX4_held_X1_isHeld : GoodIn wsX4_held wsX1_isHeld := goodIn_r _ [15, 16, 17, 18, 19, 20, 21, 22, 23, 24] (by decide +kernel) (by decide +kernel)
set_option maxRecDepth 20000 in
theorem gX4_held_X1_isHeld : GoodIn wsX4_held (wsV RX4 50 RX1 yX1_isHeld wsX1_isHeld) := goodIn_app (goodIn_of _ (by decide +kernel)) ggX4_held_X1_isHeld
set_option maxRecDepth 20000 in
theorem ggX4_changes_X4_pointAt : GoodIn wsX4_changes wsX4_pointAt := goodIn_ca (goodIn_r _ [6, 7, 8, 9, 18, 19, 20, 21, 22, 23, 24, 25] (by decide +kernel) (by decide +kernel)) (goodIn_sub (fun _ h => List.mem_cons_of_mem _ (List.mem_append_right _ h)) (by decide +kernel))
set_option maxRecDepth 20000 in
theorem gX4_changes_X4_pointAt : GoodIn wsX4_changes (wsV RX4 42 RX4 yX4_pointAt wsX4_pointAt) := goodIn_app (goodIn_of _ (by decide +kernel)) ggX4_changes_X4_pointAt
set_option maxRecDepth 20000 in
theorem ggX4_subscribe_X4_pointAt : GoodIn wsX4_subscribe wsX4_pointAt := goodIn_ca (goodIn_r _ [12, 13, 14, 15, 39, 40, 41, 42, 43, 44, 45, 46] (by decide +kernel) (by decide +kernel)) (goodIn_sub (fun _ h => List.mem_cons_of_mem _ (List.mem_append_left _ (List.mem_append_left _ (List.mem_append_right _ h)))) (by decide +kernel))
set_option maxRecDepth 20000 in
theorem gX4_subscribe_X4_pointAt : GoodIn wsX4_subscribe (wsV RX4 42 RX4 yX4_pointAt wsX4_pointAt) := goodIn_app (goodIn_of _ (by decide +kernel)) ggX4_subscribe_X4_pointAt
set_option maxRecDepth 20000 in
theorem ggX4_subscribe_X4_requireWithin : GoodIn wsX4_subscribe wsX4_requireWithin := goodIn_ca (goodIn_r _ [18, 19, 20] (by decide +kernel) (by decide +kernel)) (goodIn_sub (fun _ h => List.mem_cons_of_mem _ (List.mem_append_left _ (List.mem_append_right _ h))) (by decide +kernel))
set_option maxRecDepth 20000 in
theorem gX4_subscribe_X4_requireWithin : GoodIn wsX4_subscribe (va_wsS RX4 27 yX4_requireWithin wsX4_requireWithin) := goodIn_app (goodIn_of _ (by decide +kernel)) ggX4_subscribe_X4_requireWithin
set_option maxRecDepth 20000 in
theorem ggX4_subscribe_X4_requireRoom : GoodIn wsX4_subscribe wsX4_requireRoom := goodIn_ca (goodIn_r _ [23, 24, 25] (by decide +kernel) (by decide +kernel)) (goodIn_sub (fun _ h => List.mem_cons_of_mem _ (List.mem_append_right _ h)) (by decide +kernel))
set_option maxRecDepth 20000 in
theorem gX4_subscribe_X4_requireRoom : GoodIn wsX4_subscribe (va_wsS RX4 35 yX4_requireRoom wsX4_requireRoom) := goodIn_app (goodIn_of _ (by decide +kernel)) ggX4_subscribe_X4_requireRoom
set_option maxRecDepth 20000 in
theorem ggX4_subscribe_X3_init : GoodIn wsX4_subscribe wsX3_init := goodIn_r _ [28, 29, 30, 31, 32, 33, 34, 35, 36, 37, 38, 47, 48, 49, 50, 51, 52, 53, 54, 55, 56, 57, 58, 59, 60] (by decide +kernel) (by decide +kernel)
set_option maxRecDepth 20000 in
theorem gX4_subscribe_X3_init : GoodIn wsX4_subscribe (wsX3_init) := ggX4_subscribe_X3_init
set_option maxRecDepth 20000 in
theorem ggX4_end_X4_subscriptionAt : GoodIn wsX4_end wsX4_subscriptionAt := goodIn_ca (goodIn_r _ [8, 9, 10, 11, 18, 19, 20, 21, 22, 23, 24, 25] (by decide +kernel) (by decide +kernel)) (goodIn_sub (fun _ h => List.mem_cons_of_mem _ (List.mem_append_right _ h)) (by decide +kernel))
set_option maxRecDepth 20000 in
theorem gX4_end_X4_subscriptionAt : GoodIn wsX4_end (wsV RX4 91 RX4 yX4_subscriptionAt wsX4_subscriptionAt) := goodIn_app (goodIn_of _ (by decide +kernel)) ggX4_end_X4_subscriptionAt
set_option maxRecDepth 20000 in
theorem ggX4_goesOn_X4_subscriptionAt : GoodIn wsX4_goesOn wsX4_subscriptionAt := goodIn_ca (goodIn_r _ [6, 7, 8, 9, 16, 17, 18, 19, 20, 21, 22, 23] (by decide +kernel) (by decide +kernel)) (goodIn_sub (fun _ h => List.mem_cons_of_mem _ (List.mem_append_right _ h)) (by decide +kernel))
set_option maxRecDepth 20000 in
theorem gX4_goesOn_X4_subscriptionAt : GoodIn wsX4_goesOn (wsV RX4 91 RX4 yX4_subscriptionAt wsX4_subscriptionAt) := goodIn_app (goodIn_of _ (by decide +kernel)) ggX4_goesOn_X4_subscriptionAt
set_option maxRecDepth 20000 in
theorem ggX4_reports_X4_subscriptionAt : GoodIn wsX4_reports wsX4_subscriptionAt := goodIn_ca (goodIn_r _ [6, 7, 8, 9, 16, 17, 18, 19, 20, 21, 22, 23] (by decide +kernel) (by decide +kernel)) (goodIn_sub (fun _ h => List.mem_cons_of_mem _ (List.mem_append_right _ h)) (by decide +kernel))
set_option maxRecDepth 20000 in
theorem gX4_reports_X4_subscriptionAt : GoodIn wsX4_reports (wsV RX4 91 RX4 yX4_subscriptionAt wsX4_subscriptionAt) := goodIn_app (goodIn_of _ (by decide +kernel)) ggX4_reports_X4_subscriptionAt
set_option maxRecDepth 20000 in
theorem ggX4_reported_X4_subscriptionAt : GoodIn wsX4_reported wsX4_subscriptionAt := goodIn_ca (goodIn_r _ [6, 7, 8, 9, 16, 17, 18, 19, 20, 21, 22, 23] (by decide +kernel) (by decide +kernel)) (goodIn_sub (fun _ h => List.mem_cons_of_mem _ (List.mem_append_right _ h)) (by decide +kernel))
set_option maxRecDepth 20000 in
theorem gX4_reported_X4_subscriptionAt : GoodIn wsX4_reported (wsV RX4 91 RX4 yX4_subscriptionAt wsX4_subscriptionAt) := goodIn_app (goodIn_of _ (by decide +kernel)) ggX4_reported_X4_subscriptionAt
set_option maxRecDepth 20000 in
theorem ggX4_addSchedule_X4_pointAt : GoodIn wsX4_addSchedule wsX4_pointAt := goodIn_ca (goodIn_r _ [10, 11, 12, 13, 48, 49, 50, 51, 52, 53, 54, 55] (by decide +kernel) (by decide +kernel)) (goodIn_sub (fun _ h => List.mem_cons_of_mem _ (List.mem_append_left _ (List.mem_append_left _ (List.mem_append_right _ h)))) (by decide +kernel))
set_option maxRecDepth 20000 in
theorem gX4_addSchedule_X4_pointAt : GoodIn wsX4_addSchedule (wsV RX4 42 RX4 yX4_pointAt wsX4_pointAt) := goodIn_app (goodIn_of _ (by decide +kernel)) ggX4_addSchedule_X4_pointAt
set_option maxRecDepth 20000 in
theorem ggX4_addSchedule_X4_requireWithin : GoodIn wsX4_addSchedule wsX4_requireWithin := goodIn_ca (goodIn_r _ [16, 17, 18] (by decide +kernel) (by decide +kernel)) (goodIn_sub (fun _ h => List.mem_cons_of_mem _ (List.mem_append_left _ (List.mem_append_right _ h))) (by decide +kernel))
set_option maxRecDepth 20000 in
theorem gX4_addSchedule_X4_requireWithin : GoodIn wsX4_addSchedule (va_wsS RX4 27 yX4_requireWithin wsX4_requireWithin) := goodIn_app (goodIn_of _ (by decide +kernel)) ggX4_addSchedule_X4_requireWithin
set_option maxRecDepth 20000 in
theorem ggX4_addSchedule_X4_requireRoom : GoodIn wsX4_addSchedule wsX4_requireRoom := goodIn_ca (goodIn_r _ [21, 22, 23] (by decide +kernel) (by decide +kernel)) (goodIn_sub (fun _ h => List.mem_cons_of_mem _ (List.mem_append_right _ h)) (by decide +kernel))
set_option maxRecDepth 20000 in
theorem gX4_addSchedule_X4_requireRoom : GoodIn wsX4_addSchedule (va_wsS RX4 35 yX4_requireRoom wsX4_requireRoom) := goodIn_app (goodIn_of _ (by decide +kernel)) ggX4_addSchedule_X4_requireRoom
set_option maxRecDepth 20000 in
theorem ggX4_addSchedule_X2_init : GoodIn wsX4_addSchedule wsX2_init := goodIn_r _ [26, 27, 28, 29, 30, 31, 32, 33, 34, 35, 36, 37, 38, 39, 40, 41, 42, 43, 44, 45, 46, 47, 56, 57, 58, 59, 60, 61, 62, 63, 64] (by decide +kernel) (by decide +kernel)
set_option maxRecDepth 20000 in
theorem gX4_addSchedule_X2_init : GoodIn wsX4_addSchedule (wsX2_init) := ggX4_addSchedule_X2_init
set_option maxRecDepth 20000 in
theorem ggX4_weekly_X4_scheduleAt : GoodIn wsX4_weekly wsX4_scheduleAt := goodIn_ca (goodIn_r _ [7, 8, 9, 10, 126, 127, 128, 129, 130, 131, 132, 133] (by decide +kernel) (by decide +kernel)) (goodIn_sub (fun _ h => List.mem_cons_of_mem _ (List.mem_append_left _ (List.mem_append_left _ (List.mem_append_right _ h)))) (by decide +kernel))
set_option maxRecDepth 20000 in
theorem gX4_weekly_X4_scheduleAt : GoodIn wsX4_weekly (wsV RX4 112 RX4 yX4_scheduleAt wsX4_scheduleAt) := goodIn_app (goodIn_of _ (by decide +kernel)) ggX4_weekly_X4_scheduleAt
set_option maxRecDepth 20000 in
theorem ggX4_weekly_X4_requireWithin : GoodIn wsX4_weekly wsX4_requireWithin := goodIn_ca (goodIn_r _ [13, 14, 15] (by decide +kernel) (by decide +kernel)) (goodIn_sub (fun _ h => List.mem_cons_of_mem _ (List.mem_append_left _ (List.mem_append_right _ h))) (by decide +kernel))
set_option maxRecDepth 20000 in
theorem gX4_weekly_X4_requireWithin : GoodIn wsX4_weekly (va_wsS RX4 27 yX4_requireWithin wsX4_requireWithin) := goodIn_app (goodIn_of _ (by decide +kernel)) ggX4_weekly_X4_requireWithin
set_option maxRecDepth 20000 in
theorem ggX4_weekly_X4_requireEntry : GoodIn wsX4_weekly wsX4_requireEntry := goodIn_ca (goodIn_ca (goodIn_r _ [18, 19, 11, 12, 6, 13, 14, 15, 20, 21, 22, 23, 24, 25, 26, 27, 28, 29, 30, 31, 32, 33, 34, 35, 36, 37, 38, 39, 40, 41, 42, 43, 121, 122, 123, 124, 125, 134, 135, 136, 137, 138, 139, 140, 141, 142, 143, 144, 145] (by decide +kernel) (by decide +kernel)) (goodIn_sub (fun _ h => List.mem_cons_of_mem _ (List.mem_append_left _ (List.mem_append_right _ h))) (by decide +kernel))) (goodIn_sub (fun _ h => List.mem_cons_of_mem _ (List.mem_append_right _ h)) (by decide +kernel))
set_option maxRecDepth 20000 in
theorem gX4_weekly_X4_requireEntry : GoodIn wsX4_weekly (va_wsS RX4 116 yX4_requireEntry wsX4_requireEntry) := goodIn_app (goodIn_of _ (by decide +kernel)) ggX4_weekly_X4_requireEntry
set_option maxRecDepth 20000 in
theorem ggX4_weekly_X0_add : GoodIn wsX4_weekly wsX0_add := goodIn_r _ [48, 49, 50, 51, 52, 142, 143, 144, 145] (by decide +kernel) (by decide +kernel)
set_option maxRecDepth 20000 in
theorem gX4_weekly_X0_add : GoodIn wsX4_weekly (wsV RX4 124 RX0 yX0_add wsX0_add) := goodIn_app (goodIn_of _ (by decide +kernel)) ggX4_weekly_X0_add
set_option maxRecDepth 20000 in
theorem ggX4_weekly_X4_follow : GoodIn wsX4_weekly wsX4_follow := goodIn_r _ [56, 57, 2, 19, 58, 59, 60, 61, 34, 62, 38, 36, 63, 64, 65, 47, 66, 49, 50, 67, 68, 69, 70, 71, 51, 52, 72, 73, 74, 6, 75, 76, 77, 78, 79, 80, 27, 81, 82, 83, 84, 85, 86, 87, 88, 89, 90, 91, 92, 93, 94, 95, 96, 97, 98, 99, 100, 101, 102, 103, 104, 105, 106, 107, 108, 109, 110, 111, 112, 113, 114, 115, 116, 117, 118, 119, 120, 126, 127, 128, 129, 130, 131, 132, 133, 121, 122, 123, 124, 125, 142, 143, 144, 145, 134, 135, 136, 137, 138, 139, 140, 141, 146, 147, 148, 149, 150, 151] (by decide +kernel) (by decide +kernel)
set_option maxRecDepth 20000 in
theorem gX4_weekly_X4_follow : GoodIn wsX4_weekly (wsV RX4 129 RX4 yX4_follow wsX4_follow) := goodIn_app (goodIn_of _ (by decide +kernel)) ggX4_weekly_X4_follow
set_option maxRecDepth 20000 in
theorem ggX4_once_X4_scheduleAt : GoodIn wsX4_once wsX4_scheduleAt := goodIn_ca (goodIn_r _ [7, 8, 9, 10, 126, 127, 128, 129, 130, 131, 132, 133] (by decide +kernel) (by decide +kernel)) (goodIn_sub (fun _ h => List.mem_cons_of_mem _ (List.mem_append_left _ (List.mem_append_left _ (List.mem_append_right _ h)))) (by decide +kernel))
set_option maxRecDepth 20000 in
theorem gX4_once_X4_scheduleAt : GoodIn wsX4_once (wsV RX4 112 RX4 yX4_scheduleAt wsX4_scheduleAt) := goodIn_app (goodIn_of _ (by decide +kernel)) ggX4_once_X4_scheduleAt
set_option maxRecDepth 20000 in
theorem ggX4_once_X4_requireWithin : GoodIn wsX4_once wsX4_requireWithin := goodIn_ca (goodIn_r _ [13, 14, 15] (by decide +kernel) (by decide +kernel)) (goodIn_sub (fun _ h => List.mem_cons_of_mem _ (List.mem_append_left _ (List.mem_append_right _ h))) (by decide +kernel))
set_option maxRecDepth 20000 in
theorem gX4_once_X4_requireWithin : GoodIn wsX4_once (va_wsS RX4 27 yX4_requireWithin wsX4_requireWithin) := goodIn_app (goodIn_of _ (by decide +kernel)) ggX4_once_X4_requireWithin
set_option maxRecDepth 20000 in
theorem ggX4_once_X4_requireEntry : GoodIn wsX4_once wsX4_requireEntry := goodIn_ca (goodIn_ca (goodIn_r _ [18, 19, 11, 12, 6, 13, 14, 15, 20, 21, 22, 23, 24, 25, 26, 27, 28, 29, 30, 31, 32, 33, 34, 35, 36, 37, 38, 39, 40, 41, 42, 43, 121, 122, 123, 124, 125, 134, 135, 136, 137, 138, 139, 140, 141, 142, 143, 144, 145] (by decide +kernel) (by decide +kernel)) (goodIn_sub (fun _ h => List.mem_cons_of_mem _ (List.mem_append_left _ (List.mem_append_right _ h))) (by decide +kernel))) (goodIn_sub (fun _ h => List.mem_cons_of_mem _ (List.mem_append_right _ h)) (by decide +kernel))
set_option maxRecDepth 20000 in
theorem gX4_once_X4_requireEntry : GoodIn wsX4_once (va_wsS RX4 116 yX4_requireEntry wsX4_requireEntry) := goodIn_app (goodIn_of _ (by decide +kernel)) ggX4_once_X4_requireEntry
set_option maxRecDepth 20000 in
theorem ggX4_once_X0_add : GoodIn wsX4_once wsX0_add := goodIn_r _ [48, 49, 50, 51, 52, 142, 143, 144, 145] (by decide +kernel) (by decide +kernel)
set_option maxRecDepth 20000 in
theorem gX4_once_X0_add : GoodIn wsX4_once (wsV RX4 124 RX0 yX0_add wsX0_add) := goodIn_app (goodIn_of _ (by decide +kernel)) ggX4_once_X0_add
set_option maxRecDepth 20000 in
theorem ggX4_once_X4_follow : GoodIn wsX4_once wsX4_follow := goodIn_r _ [56, 57, 2, 19, 58, 59, 60, 61, 34, 62, 38, 36, 63, 64, 65, 47, 66, 49, 50, 67, 68, 69, 70, 71, 51, 52, 72, 73, 74, 6, 75, 76, 77, 78, 79, 80, 27, 81, 82, 83, 84, 85, 86, 87, 88, 89, 90, 91, 92, 93, 94, 95, 96, 97, 98, 99, 100, 101, 102, 103, 104, 105, 106, 107, 108, 109, 110, 111, 112, 113, 114, 115, 116, 117, 118, 119, 120, 126, 127, 128, 129, 130, 131, 132, 133, 121, 122, 123, 124, 125, 142, 143, 144, 145, 134, 135, 136, 137, 138, 139, 140, 141, 146, 147, 148, 149, 150, 151] (by decide +kernel) (by decide +kernel)
set_option maxRecDepth 20000 in
theorem gX4_once_X4_follow : GoodIn wsX4_once (wsV RX4 129 RX4 yX4_follow wsX4_follow) := goodIn_app (goodIn_of _ (by decide +kernel)) ggX4_once_X4_follow
set_option maxRecDepth 20000 in
theorem ggX4_tells_X4_scheduleAt : GoodIn wsX4_tells wsX4_scheduleAt := goodIn_ca (goodIn_r _ [6, 7, 8, 9, 36, 37, 38, 39, 40, 41, 42, 43] (by decide +kernel) (by decide +kernel)) (goodIn_sub (fun _ h => List.mem_cons_of_mem _ (List.mem_append_left _ (List.mem_append_right _ h))) (by decide +kernel))
set_option maxRecDepth 20000 in
theorem gX4_tells_X4_scheduleAt : GoodIn wsX4_tells (wsV RX4 112 RX4 yX4_scheduleAt wsX4_scheduleAt) := goodIn_app (goodIn_of _ (by decide +kernel)) ggX4_tells_X4_scheduleAt
set_option maxRecDepth 20000 in
theorem ggX4_tells_X4_requireWithin : GoodIn wsX4_tells wsX4_requireWithin := goodIn_ca (goodIn_r _ [12, 13, 14] (by decide +kernel) (by decide +kernel)) (goodIn_sub (fun _ h => List.mem_cons_of_mem _ (List.mem_append_right _ h)) (by decide +kernel))
set_option maxRecDepth 20000 in
theorem gX4_tells_X4_requireWithin : GoodIn wsX4_tells (va_wsS RX4 27 yX4_requireWithin wsX4_requireWithin) := goodIn_app (goodIn_of _ (by decide +kernel)) ggX4_tells_X4_requireWithin
set_option maxRecDepth 20000 in
theorem ggX4_tells_X2_toldAt : GoodIn wsX4_tells wsX2_toldAt := goodIn_r _ [19, 20, 21, 22, 23, 24, 25, 26, 27, 28, 29, 30, 31, 32, 33, 34, 35, 44, 45, 46, 47, 48, 49, 50, 51, 52] (by decide +kernel) (by decide +kernel)
set_option maxRecDepth 20000 in
theorem gX4_tells_X2_toldAt : GoodIn wsX4_tells (wsV RX4 140 RX2 yX2_toldAt wsX2_toldAt) := goodIn_app (goodIn_of _ (by decide +kernel)) ggX4_tells_X2_toldAt
set_option maxRecDepth 20000 in
theorem ggX4_pass_X4_requireWithin : GoodIn wsX4_pass wsX4_requireWithin := goodIn_ca (goodIn_r _ [9, 10, 11] (by decide +kernel) (by decide +kernel)) (goodIn_sub (fun _ h => List.mem_cons_of_mem _ (List.mem_append_right _ h)) (by decide +kernel))
set_option maxRecDepth 20000 in
theorem gX4_pass_X4_requireWithin : GoodIn wsX4_pass (va_wsS RX4 27 yX4_requireWithin wsX4_requireWithin) := goodIn_app (goodIn_of _ (by decide +kernel)) ggX4_pass_X4_requireWithin
set_option maxRecDepth 20000 in
theorem ggX4_pass_X4_passMinute : GoodIn wsX4_pass wsX4_passMinute := goodIn_r _ [15, 4, 16, 17, 18, 8, 19, 20, 21, 22, 23, 24, 25, 26, 27, 28, 29, 30, 31, 32, 33, 34, 35, 36, 37, 38, 39, 40, 41, 42, 43, 44, 45, 46, 47, 48, 49, 50, 51, 52, 53, 54, 55, 56, 57, 58, 59, 5, 60, 61, 62, 63, 64, 65, 66, 67, 68, 69, 70, 71, 72, 73, 74, 75, 76, 77, 78, 79, 80, 81, 82, 83, 84, 85, 86, 87, 88, 89, 90, 91, 92, 93, 94, 95, 96, 97, 98, 99, 100, 101, 102, 103, 104, 105, 106, 107, 108, 109, 110, 111, 112, 113, 114, 115, 116, 117, 118, 119, 120, 121, 122, 123, 124, 125, 126, 127, 128, 129, 130, 131, 132, 133, 134, 135, 136, 137, 138, 139, 140, 141, 142, 143, 144] (by decide +kernel) (by decide +kernel)
set_option maxRecDepth 20000 in
theorem gX4_pass_X4_passMinute : GoodIn wsX4_pass (wsV RX4 149 RX4 yX4_passMinute wsX4_passMinute) := goodIn_app (goodIn_of _ (by decide +kernel)) ggX4_pass_X4_passMinute
set_option maxRecDepth 20000 in
theorem ggX4_requireCommand_X1_canHave : GoodIn wsX4_requireCommand wsX1_canHave := goodIn_r _ [8, 9, 10, 11, 12, 13, 14, 15, 16, 17, 18] (by decide +kernel) (by decide +kernel)
set_option maxRecDepth 20000 in
theorem gX4_requireCommand_X1_canHave : GoodIn wsX4_requireCommand (wsV RX4 158 RX1 yX1_canHave wsX1_canHave) := goodIn_app (goodIn_of _ (by decide +kernel)) ggX4_requireCommand_X1_canHave
set_option maxRecDepth 20000 in
theorem ggX4_requireEntry_X4_requireWithin : GoodIn wsX4_requireEntry wsX4_requireWithin := goodIn_ca (goodIn_r _ [5, 6, 7] (by decide +kernel) (by decide +kernel)) (goodIn_sub (fun _ h => List.mem_cons_of_mem _ (List.mem_append_left _ (List.mem_append_right _ h))) (by decide +kernel))
set_option maxRecDepth 20000 in
theorem gX4_requireEntry_X4_requireWithin : GoodIn wsX4_requireEntry (va_wsS RX4 27 yX4_requireWithin wsX4_requireWithin) := goodIn_app (goodIn_of _ (by decide +kernel)) ggX4_requireEntry_X4_requireWithin
set_option maxRecDepth 20000 in
theorem ggX4_requireEntry_X4_requireCommand : GoodIn wsX4_requireEntry wsX4_requireCommand := goodIn_ca (goodIn_r _ [10, 6, 7, 11, 12, 13, 14, 15, 16, 17, 18, 37, 38, 39, 40, 41, 42, 43, 44] (by decide +kernel) (by decide +kernel)) (goodIn_sub (fun _ h => List.mem_cons_of_mem _ (List.mem_append_left _ (List.mem_append_right _ h))) (by decide +kernel))
set_option maxRecDepth 20000 in
theorem gX4_requireEntry_X4_requireCommand : GoodIn wsX4_requireEntry (va_wsS RX4 46 yX4_requireCommand wsX4_requireCommand) := goodIn_app (goodIn_of _ (by decide +kernel)) ggX4_requireEntry_X4_requireCommand
set_option maxRecDepth 20000 in
theorem ggX4_requireEntry_X2_entryCount : GoodIn wsX4_requireEntry wsX2_entryCount := goodIn_r _ [23, 24, 25, 26, 32, 33, 34, 35, 36, 45, 46, 47, 48] (by decide +kernel) (by decide +kernel)
set_option maxRecDepth 20000 in
theorem gX4_requireEntry_X2_entryCount : GoodIn wsX4_requireEntry (wsV RX4 170 RX2 yX2_entryCount wsX2_entryCount) := goodIn_app (goodIn_of _ (by decide +kernel)) ggX4_requireEntry_X2_entryCount
set_option maxRecDepth 20000 in
theorem ggX4_requireEntry_X4_requireRoom : GoodIn wsX4_requireEntry wsX4_requireRoom := goodIn_ca (goodIn_r _ [29, 30, 31] (by decide +kernel) (by decide +kernel)) (goodIn_sub (fun _ h => List.mem_cons_of_mem _ (List.mem_append_right _ h)) (by decide +kernel))
set_option maxRecDepth 20000 in
theorem gX4_requireEntry_X4_requireRoom : GoodIn wsX4_requireEntry (va_wsS RX4 35 yX4_requireRoom wsX4_requireRoom) := goodIn_app (goodIn_of _ (by decide +kernel)) ggX4_requireEntry_X4_requireRoom
set_option maxRecDepth 20000 in
theorem ggX4_put_X1_dueValue : GoodIn wsX4_put wsX1_dueValue := goodIn_r _ [8, 9, 10, 11, 12, 13, 7, 14, 15, 49, 50, 51, 52, 53, 54, 55, 56] (by decide +kernel) (by decide +kernel)
set_option maxRecDepth 20000 in
theorem gX4_put_X1_dueValue : GoodIn wsX4_put (wsV RX4 182 RX1 yX1_dueValue wsX1_dueValue) := goodIn_app (goodIn_of _ (by decide +kernel)) ggX4_put_X1_dueValue
set_option maxRecDepth 20000 in
theorem ggX4_put_X1_change : GoodIn wsX4_put wsX1_change := goodIn_r _ [19, 20, 21, 22, 9, 23, 49, 50, 51, 52, 53, 54, 55, 56] (by decide +kernel) (by decide +kernel)
set_option maxRecDepth 20000 in
theorem gX4_put_X1_change : GoodIn wsX4_put (wsV RX4 185 RX1 yX1_change wsX1_change) := goodIn_app (goodIn_of _ (by decide +kernel)) ggX4_put_X1_change
set_option maxRecDepth 20000 in
theorem ggX4_put_X4_reportChange : GoodIn wsX4_put wsX4_reportChange := goodIn_r _ [28, 29, 30, 31, 2, 32, 33, 34, 35, 36, 37, 38, 39, 40, 41, 42, 43, 44, 45, 46, 47, 48, 57, 58, 59, 60, 61, 62, 63, 64, 65, 66, 67, 68, 69, 70, 49, 50, 51, 52, 53, 54, 55, 56] (by decide +kernel) (by decide +kernel)
set_option maxRecDepth 20000 in
theorem gX4_put_X4_reportChange : GoodIn wsX4_put (wsV RX4 188 RX4 yX4_reportChange wsX4_reportChange) := goodIn_app (goodIn_of _ (by decide +kernel)) ggX4_put_X4_reportChange
set_option maxRecDepth 20000 in
theorem ggX4_reportChange_X3_isFarFrom : GoodIn wsX4_reportChange wsX3_isFarFrom := goodIn_r _ [10, 11, 12, 13, 14, 15, 16, 30, 31, 32, 33, 34, 35] (by decide +kernel) (by decide +kernel)
set_option maxRecDepth 20000 in
theorem gX4_reportChange_X3_isFarFrom : GoodIn wsX4_reportChange (wsV RX4 193 RX3 yX3_isFarFrom wsX3_isFarFrom) := goodIn_app (goodIn_of _ (by decide +kernel)) ggX4_reportChange_X3_isFarFrom
set_option maxRecDepth 20000 in
theorem ggX4_reportChange_X3_report : GoodIn wsX4_reportChange wsX3_report := goodIn_r _ [20, 11, 21, 30, 31, 32, 33, 34, 35] (by decide +kernel) (by decide +kernel)
set_option maxRecDepth 20000 in
theorem gX4_reportChange_X3_report : GoodIn wsX4_reportChange (wsV RX4 196 RX3 yX3_report wsX3_report) := goodIn_app (goodIn_of _ (by decide +kernel)) ggX4_reportChange_X3_report
set_option maxRecDepth 20000 in
theorem ggX4_follow_X2_toldAt : GoodIn wsX4_follow wsX2_toldAt := goodIn_r _ [9, 10, 11, 12, 13, 14, 15, 16, 17, 18, 19, 20, 21, 22, 23, 24, 25, 85, 86, 87, 88, 89, 90, 91, 92, 93] (by decide +kernel) (by decide +kernel)
set_option maxRecDepth 20000 in
theorem gX4_follow_X2_toldAt : GoodIn wsX4_follow (wsV RX4 140 RX2 yX2_toldAt wsX2_toldAt) := goodIn_app (goodIn_of _ (by decide +kernel)) ggX4_follow_X2_toldAt
set_option maxRecDepth 20000 in
theorem ggX4_follow_X4_put : GoodIn wsX4_follow wsX4_put := goodIn_r _ [30, 31, 32, 1, 33, 34, 35, 36, 37, 38, 39, 40, 41, 42, 43, 44, 45, 46, 47, 48, 49, 50, 51, 52, 53, 54, 55, 29, 56, 57, 58, 59, 60, 61, 62, 63, 64, 65, 66, 67, 68, 69, 70, 71, 72, 73, 74, 75, 76, 94, 95, 96, 97, 98, 99, 100, 101, 77, 78, 79, 80, 81, 82, 83, 84, 102, 103, 104, 105, 106, 107] (by decide +kernel) (by decide +kernel)
set_option maxRecDepth 20000 in
theorem gX4_follow_X4_put : GoodIn wsX4_follow (wsV RX4 61 RX4 yX4_put wsX4_put) := goodIn_app (goodIn_of _ (by decide +kernel)) ggX4_follow_X4_put
set_option maxRecDepth 20000 in
theorem ggX4_passMinute_X4_releaseHeldCommands : GoodIn wsX4_passMinute wsX4_releaseHeldCommands := goodIn_r _ [6, 7, 8, 1, 9, 10, 11, 12, 13, 14, 15, 16, 17, 18, 5, 19, 20, 21, 22, 23, 24, 25, 26, 27, 28, 29, 30, 31, 32, 33, 34, 35, 36, 37, 38, 39, 40, 41, 42, 43, 44, 45, 46, 47, 48, 49, 50, 51, 52, 53, 54, 55, 56, 57, 58, 59, 60, 61, 62, 63, 102, 103, 104, 105, 106, 107, 108, 109, 110, 111, 112, 113, 114, 115, 116, 117, 118, 119, 120, 121, 122, 123] (by decide +kernel) (by decide +kernel)
set_option maxRecDepth 20000 in
theorem gX4_passMinute_X4_releaseHeldCommands : GoodIn wsX4_passMinute (wsV RX4 203 RX4 yX4_releaseHeldCommands wsX4_releaseHeldCommands) := goodIn_app (goodIn_of _ (by decide +kernel)) ggX4_passMinute_X4_releaseHeldCommands
set_option maxRecDepth 20000 in
theorem ggX4_passMinute_X4_endOldSubscriptions : GoodIn wsX4_passMinute wsX4_endOldSubscriptions := goodIn_r _ [67, 44, 68, 1, 45, 102, 103, 104, 105, 106, 107, 108, 109, 118, 119, 120, 121, 122, 123] (by decide +kernel) (by decide +kernel)
set_option maxRecDepth 20000 in
theorem gX4_passMinute_X4_endOldSubscriptions : GoodIn wsX4_passMinute (wsV RX4 206 RX4 yX4_endOldSubscriptions wsX4_endOldSubscriptions) := goodIn_app (goodIn_of _ (by decide +kernel)) ggX4_passMinute_X4_endOldSubscriptions
set_option maxRecDepth 20000 in
theorem ggX4_passMinute_X4_followSchedules : GoodIn wsX4_passMinute wsX4_followSchedules := goodIn_r _ [72, 73, 74, 75, 76, 5, 77, 1, 78, 79, 80, 81, 82, 83, 84, 85, 86, 87, 88, 89, 90, 91, 92, 93, 94, 95, 96, 97, 98, 99, 100, 101, 16, 17, 18, 19, 20, 21, 22, 23, 24, 13, 25, 26, 27, 28, 29, 30, 31, 32, 33, 34, 35, 36, 37, 38, 39, 15, 40, 41, 42, 43, 44, 45, 46, 47, 48, 49, 50, 51, 52, 53, 54, 55, 56, 57, 58, 59, 60, 61, 62, 63, 102, 103, 104, 105, 106, 107, 108, 109, 124, 125, 126, 127, 128, 129, 130, 131, 132, 110, 111, 112, 113, 114, 115, 116, 117, 118, 119, 120, 121, 122, 123] (by decide +kernel) (by decide +kernel)
set_option maxRecDepth 20000 in
theorem gX4_passMinute_X4_followSchedules : GoodIn wsX4_passMinute (wsV RX4 209 RX4 yX4_followSchedules wsX4_followSchedules) := goodIn_app (goodIn_of _ (by decide +kernel)) ggX4_passMinute_X4_followSchedules
set_option maxRecDepth 20000 in
theorem ggX4_releaseHeldCommands_X1_isHeld : GoodIn wsX4_releaseHeldCommands wsX1_isHeld := goodIn_r _ [9, 10, 68, 69, 70, 71, 72, 73, 74, 75] (by decide +kernel) (by decide +kernel)
set_option maxRecDepth 20000 in
theorem gX4_releaseHeldCommands_X1_isHeld : GoodIn wsX4_releaseHeldCommands (wsV RX4 50 RX1 yX1_isHeld wsX1_isHeld) := goodIn_app (goodIn_of _ (by decide +kernel)) ggX4_releaseHeldCommands_X1_isHeld
set_option maxRecDepth 20000 in
theorem ggX4_releaseHeldCommands_X4_put : GoodIn wsX4_releaseHeldCommands wsX4_put := goodIn_r _ [15, 16, 17, 3, 18, 19, 20, 8, 21, 22, 23, 24, 25, 26, 27, 28, 29, 30, 31, 32, 33, 34, 35, 10, 36, 37, 38, 14, 39, 40, 41, 42, 43, 44, 45, 46, 47, 48, 49, 50, 51, 52, 53, 54, 55, 56, 57, 58, 59, 68, 69, 70, 71, 72, 73, 74, 75, 60, 61, 62, 63, 64, 65, 66, 67, 76, 77, 78, 79, 80, 81] (by decide +kernel) (by decide +kernel)
set_option maxRecDepth 20000 in
theorem gX4_releaseHeldCommands_X4_put : GoodIn wsX4_releaseHeldCommands (wsV RX4 61 RX4 yX4_put wsX4_put) := goodIn_app (goodIn_of _ (by decide +kernel)) ggX4_releaseHeldCommands_X4_put
set_option maxRecDepth 20000 in
theorem ggX4_followSchedules_X4_follow : GoodIn wsX4_followSchedules wsX4_follow := goodIn_r _ [6, 7, 8, 9, 10, 11, 12, 13, 14, 15, 16, 17, 18, 19, 20, 21, 22, 23, 24, 25, 26, 27, 28, 29, 30, 31, 32, 33, 34, 5, 35, 36, 37, 38, 39, 40, 41, 42, 43, 44, 45, 46, 47, 48, 49, 50, 51, 52, 53, 54, 55, 56, 57, 58, 59, 60, 61, 62, 63, 64, 65, 66, 67, 68, 69, 70, 71, 72, 73, 74, 75, 76, 77, 78, 79, 80, 81, 82, 83, 84, 85, 86, 87, 88, 89, 90, 91, 92, 93, 94, 95, 96, 97, 98, 99, 100, 101, 102, 103, 104, 105, 106, 107, 108, 109, 110, 111, 112] (by decide +kernel) (by decide +kernel)
set_option maxRecDepth 20000 in
theorem gX4_followSchedules_X4_follow : GoodIn wsX4_followSchedules (wsV RX4 129 RX4 yX4_follow wsX4_follow) := goodIn_app (goodIn_of _ (by decide +kernel)) ggX4_followSchedules_X4_follow
set_option maxRecDepth 20000 in
theorem ggX5_isPoint_X5_in : GoodIn wsX5_isPoint wsX5_in := goodIn_r _ [5] (by decide +kernel) (by decide +kernel)
set_option maxRecDepth 20000 in
theorem gX5_isPoint_X5_in : GoodIn wsX5_isPoint (va_wsS RX5 75 yX5_in wsX5_in) := goodIn_app (goodIn_of _ (by decide +kernel)) ggX5_isPoint_X5_in
set_option maxRecDepth 20000 in
theorem ggX5_canHave_X5_in : GoodIn wsX5_canHave wsX5_in := goodIn_r _ [6] (by decide +kernel) (by decide +kernel)
set_option maxRecDepth 20000 in
theorem gX5_canHave_X5_in : GoodIn wsX5_canHave (va_wsS RX5 75 yX5_in wsX5_in) := goodIn_app (goodIn_of _ (by decide +kernel)) ggX5_canHave_X5_in
set_option maxRecDepth 20000 in
theorem ggX5_addMeasure_X5_in : GoodIn wsX5_addMeasure wsX5_in := goodIn_r _ [5] (by decide +kernel) (by decide +kernel)
set_option maxRecDepth 20000 in
theorem gX5_addMeasure_X5_in : GoodIn wsX5_addMeasure (va_wsS RX5 75 yX5_in wsX5_in) := goodIn_app (goodIn_of _ (by decide +kernel)) ggX5_addMeasure_X5_in
set_option maxRecDepth 20000 in
theorem ggX5_addMeasure_X5_goes : GoodIn wsX5_addMeasure wsX5_goes := goodIn_r _ [9, 10, 20, 21, 22, 23, 24, 25, 26, 27, 28, 29, 30, 31, 32, 33, 34, 35, 36, 37, 38, 39, 40, 41, 42, 43, 44] (by decide +kernel) (by decide +kernel)
set_option maxRecDepth 20000 in
theorem gX5_addMeasure_X5_goes : GoodIn wsX5_addMeasure (wsV RX5 80 RX5 yX5_goes wsX5_goes) := goodIn_app (goodIn_of _ (by decide +kernel)) ggX5_addMeasure_X5_goes
set_option maxRecDepth 20000 in
theorem ggX5_addMeasure_X5_adds : GoodIn wsX5_addMeasure wsX5_adds := goodIn_r _ [14, 15, 1, 16, 17, 18, 19, 20, 21, 22, 23, 24, 25, 26, 27, 28, 29, 30, 31, 32, 33, 34, 35, 36, 37, 38, 39, 40, 41, 42, 43, 44] (by decide +kernel) (by decide +kernel)
set_option maxRecDepth 20000 in
theorem gX5_addMeasure_X5_adds : GoodIn wsX5_addMeasure (wsV RX5 84 RX5 yX5_adds wsX5_adds) := goodIn_app (goodIn_of _ (by decide +kernel)) ggX5_addMeasure_X5_adds
set_option maxRecDepth 20000 in
theorem ggX5_addSwitch_X5_in : GoodIn wsX5_addSwitch wsX5_in := goodIn_r _ [5] (by decide +kernel) (by decide +kernel)
set_option maxRecDepth 20000 in
theorem gX5_addSwitch_X5_in : GoodIn wsX5_addSwitch (va_wsS RX5 75 yX5_in wsX5_in) := goodIn_app (goodIn_of _ (by decide +kernel)) ggX5_addSwitch_X5_in
set_option maxRecDepth 20000 in
theorem ggX5_addSwitch_X5_goes : GoodIn wsX5_addSwitch wsX5_goes := goodIn_r _ [9, 10, 20, 21, 22, 23, 24, 25, 26, 27, 28, 29, 30, 31, 32, 33, 34, 35, 36, 37, 38, 39, 40, 41, 42, 43, 44] (by decide +kernel) (by decide +kernel)
set_option maxRecDepth 20000 in
theorem gX5_addSwitch_X5_goes : GoodIn wsX5_addSwitch (wsV RX5 80 RX5 yX5_goes wsX5_goes) := goodIn_app (goodIn_of _ (by decide +kernel)) ggX5_addSwitch_X5_goes
set_option maxRecDepth 20000 in
theorem ggX5_addSwitch_X5_adds : GoodIn wsX5_addSwitch wsX5_adds := goodIn_r _ [14, 15, 1, 16, 17, 18, 19, 20, 21, 22, 23, 24, 25, 26, 27, 28, 29, 30, 31, 32, 33, 34, 35, 36, 37, 38, 39, 40, 41, 42, 43, 44] (by decide +kernel) (by decide +kernel)
set_option maxRecDepth 20000 in
theorem gX5_addSwitch_X5_adds : GoodIn wsX5_addSwitch (wsV RX5 84 RX5 yX5_adds wsX5_adds) := goodIn_app (goodIn_of _ (by decide +kernel)) ggX5_addSwitch_X5_adds
set_option maxRecDepth 20000 in
theorem ggX5_valueOf_X5_standingOf : GoodIn wsX5_valueOf wsX5_standingOf := goodIn_r _ [7, 2, 8, 9, 10, 11, 12, 13, 14, 15, 16, 17, 18, 19, 20, 21, 22, 23, 24, 25, 26, 27, 28, 29, 30, 31, 32, 33] (by decide +kernel) (by decide +kernel)
set_option maxRecDepth 20000 in
theorem gX5_valueOf_X5_standingOf : GoodIn wsX5_valueOf (wsV RX5 88 RX5 yX5_standingOf wsX5_standingOf) := goodIn_app (goodIn_of _ (by decide +kernel)) ggX5_valueOf_X5_standingOf
set_option maxRecDepth 20000 in
theorem ggX5_sets_X5_valueOf : GoodIn wsX5_sets wsX5_valueOf := goodIn_r _ [10, 11, 1, 12, 13, 14, 9, 15, 16, 28, 29, 30, 31, 32, 33, 34, 35, 36, 37, 38, 39, 40, 41, 42, 43, 44, 45, 46, 47, 48, 49, 50, 51, 52] (by decide +kernel) (by decide +kernel)
set_option maxRecDepth 20000 in
theorem gX5_sets_X5_valueOf : GoodIn wsX5_sets (wsV RX5 98 RX5 yX5_valueOf wsX5_valueOf) := goodIn_app (goodIn_of _ (by decide +kernel)) ggX5_sets_X5_valueOf
set_option maxRecDepth 20000 in
theorem ggX5_sets_X5_informs : GoodIn wsX5_sets wsX5_informs := goodIn_r _ [20, 21, 22, 23, 24, 25, 26, 27, 28, 29, 30, 31, 32, 33, 34, 35, 36, 37, 38, 39, 40, 41, 42, 43, 44, 45, 46, 47, 48, 49, 50, 51, 52] (by decide +kernel) (by decide +kernel)
set_option maxRecDepth 20000 in
theorem gX5_sets_X5_informs : GoodIn wsX5_sets (wsV RX5 104 RX5 yX5_informs wsX5_informs) := goodIn_app (goodIn_of _ (by decide +kernel)) ggX5_sets_X5_informs
set_option maxRecDepth 20000 in
theorem ggX5_write_X5_isPoint : GoodIn wsX5_write wsX5_isPoint := goodIn_r _ [6, 7, 8, 9, 5, 10, 50, 51, 52, 53, 54, 55, 56, 57, 58, 59, 60, 61, 62, 63, 64, 65, 66, 67, 68, 69, 70, 71, 72, 73, 74] (by decide +kernel) (by decide +kernel)
set_option maxRecDepth 20000 in
theorem gX5_write_X5_isPoint : GoodIn wsX5_write (wsV RX5 108 RX5 yX5_isPoint wsX5_isPoint) := goodIn_app (goodIn_of _ (by decide +kernel)) ggX5_write_X5_isPoint
set_option maxRecDepth 20000 in
theorem ggX5_write_X5_in : GoodIn wsX5_write wsX5_in := goodIn_r _ [10] (by decide +kernel) (by decide +kernel)
set_option maxRecDepth 20000 in
theorem gX5_write_X5_in : GoodIn wsX5_write (va_wsS RX5 75 yX5_in wsX5_in) := goodIn_app (goodIn_of _ (by decide +kernel)) ggX5_write_X5_in
set_option maxRecDepth 20000 in
theorem ggX5_write_X5_canHave : GoodIn wsX5_write wsX5_canHave := goodIn_r _ [14, 15, 16, 8, 9, 5, 10, 50, 51, 52, 53, 54, 55, 56, 57, 58, 59, 60, 61, 62, 63, 64, 65, 66, 67, 68, 69, 70, 71, 72, 73, 74] (by decide +kernel) (by decide +kernel)
set_option maxRecDepth 20000 in
theorem gX5_write_X5_canHave : GoodIn wsX5_write (wsV RX5 112 RX5 yX5_canHave wsX5_canHave) := goodIn_app (goodIn_of _ (by decide +kernel)) ggX5_write_X5_canHave
set_option maxRecDepth 20000 in
theorem ggX5_write_X5_goes : GoodIn wsX5_write wsX5_goes := goodIn_r _ [20, 21, 50, 51, 52, 53, 54, 55, 56, 57, 58, 59, 60, 61, 62, 63, 64, 65, 66, 67, 68, 69, 70, 71, 72, 73, 74] (by decide +kernel) (by decide +kernel)
set_option maxRecDepth 20000 in
theorem gX5_write_X5_goes : GoodIn wsX5_write (wsV RX5 80 RX5 yX5_goes wsX5_goes) := goodIn_app (goodIn_of _ (by decide +kernel)) ggX5_write_X5_goes
set_option maxRecDepth 20000 in
theorem ggX5_write_X5_sets : GoodIn wsX5_write wsX5_sets := goodIn_r _ [25, 26, 27, 28, 1, 29, 30, 31, 32, 5, 33, 34, 35, 36, 37, 38, 15, 39, 40, 41, 42, 43, 44, 45, 46, 47, 48, 49, 50, 51, 52, 53, 54, 55, 56, 57, 58, 59, 60, 61, 62, 63, 64, 65, 66, 67, 68, 69, 70, 71, 72, 73, 74] (by decide +kernel) (by decide +kernel)
set_option maxRecDepth 20000 in
theorem gX5_write_X5_sets : GoodIn wsX5_write (wsV RX5 116 RX5 yX5_sets wsX5_sets) := goodIn_app (goodIn_of _ (by decide +kernel)) ggX5_write_X5_sets
set_option maxRecDepth 20000 in
theorem ggX5_write_X5_valueOf : GoodIn wsX5_write wsX5_valueOf := goodIn_r _ [33, 34, 26, 35, 36, 37, 5, 38, 15, 50, 51, 52, 53, 54, 55, 56, 57, 58, 59, 60, 61, 62, 63, 64, 65, 66, 67, 68, 69, 70, 71, 72, 73, 74] (by decide +kernel) (by decide +kernel)
set_option maxRecDepth 20000 in
theorem gX5_write_X5_valueOf : GoodIn wsX5_write (wsV RX5 98 RX5 yX5_valueOf wsX5_valueOf) := goodIn_app (goodIn_of _ (by decide +kernel)) ggX5_write_X5_valueOf
set_option maxRecDepth 20000 in
theorem ggX5_value_X5_isPoint : GoodIn wsX5_value wsX5_isPoint := goodIn_r _ [5, 6, 7, 8, 4, 9, 26, 27, 28, 29, 30, 31, 32, 33, 34, 35, 36, 37, 38, 39, 40, 41, 42, 43, 44, 45, 46, 47, 48, 49, 50] (by decide +kernel) (by decide +kernel)
set_option maxRecDepth 20000 in
theorem gX5_value_X5_isPoint : GoodIn wsX5_value (wsV RX5 108 RX5 yX5_isPoint wsX5_isPoint) := goodIn_app (goodIn_of _ (by decide +kernel)) ggX5_value_X5_isPoint
set_option maxRecDepth 20000 in
theorem ggX5_value_X5_goes : GoodIn wsX5_value wsX5_goes := goodIn_r _ [13, 14, 26, 27, 28, 29, 30, 31, 32, 33, 34, 35, 36, 37, 38, 39, 40, 41, 42, 43, 44, 45, 46, 47, 48, 49, 50] (by decide +kernel) (by decide +kernel)
set_option maxRecDepth 20000 in
theorem gX5_value_X5_goes : GoodIn wsX5_value (wsV RX5 80 RX5 yX5_goes wsX5_goes) := goodIn_app (goodIn_of _ (by decide +kernel)) ggX5_value_X5_goes
set_option maxRecDepth 20000 in
theorem ggX5_value_X5_valueOf : GoodIn wsX5_value wsX5_valueOf := goodIn_r _ [18, 19, 20, 21, 22, 23, 4, 24, 25, 26, 27, 28, 29, 30, 31, 32, 33, 34, 35, 36, 37, 38, 39, 40, 41, 42, 43, 44, 45, 46, 47, 48, 49, 50] (by decide +kernel) (by decide +kernel)
set_option maxRecDepth 20000 in
theorem gX5_value_X5_valueOf : GoodIn wsX5_value (wsV RX5 98 RX5 yX5_valueOf wsX5_valueOf) := goodIn_app (goodIn_of _ (by decide +kernel)) ggX5_value_X5_valueOf
set_option maxRecDepth 20000 in
theorem ggX5_command_X5_isPoint : GoodIn wsX5_command wsX5_isPoint := goodIn_r _ [6, 7, 8, 9, 5, 10, 16, 17, 18, 19, 20, 21, 22, 23, 24, 25, 26, 27, 28, 29, 30, 31, 32, 33, 34, 35, 36, 37, 38, 39, 40] (by decide +kernel) (by decide +kernel)
set_option maxRecDepth 20000 in
theorem gX5_command_X5_isPoint : GoodIn wsX5_command (wsV RX5 108 RX5 yX5_isPoint wsX5_isPoint) := goodIn_app (goodIn_of _ (by decide +kernel)) ggX5_command_X5_isPoint
set_option maxRecDepth 20000 in
theorem ggX5_command_X5_in : GoodIn wsX5_command wsX5_in := goodIn_r _ [10] (by decide +kernel) (by decide +kernel)
set_option maxRecDepth 20000 in
theorem gX5_command_X5_in : GoodIn wsX5_command (va_wsS RX5 75 yX5_in wsX5_in) := goodIn_app (goodIn_of _ (by decide +kernel)) ggX5_command_X5_in
set_option maxRecDepth 20000 in
theorem ggX5_command_X5_goes : GoodIn wsX5_command wsX5_goes := goodIn_r _ [14, 15, 16, 17, 18, 19, 20, 21, 22, 23, 24, 25, 26, 27, 28, 29, 30, 31, 32, 33, 34, 35, 36, 37, 38, 39, 40] (by decide +kernel) (by decide +kernel)
set_option maxRecDepth 20000 in
theorem gX5_command_X5_goes : GoodIn wsX5_command (wsV RX5 80 RX5 yX5_goes wsX5_goes) := goodIn_app (goodIn_of _ (by decide +kernel)) ggX5_command_X5_goes
set_option maxRecDepth 20000 in
theorem ggX5_standing_X5_isPoint : GoodIn wsX5_standing wsX5_isPoint := goodIn_r _ [5, 6, 7, 8, 4, 9, 21, 22, 23, 24, 25, 26, 27, 28, 29, 30, 31, 32, 33, 34, 35, 36, 37, 38, 39, 40, 41, 42, 43, 44, 45] (by decide +kernel) (by decide +kernel)
set_option maxRecDepth 20000 in
theorem gX5_standing_X5_isPoint : GoodIn wsX5_standing (wsV RX5 108 RX5 yX5_isPoint wsX5_isPoint) := goodIn_app (goodIn_of _ (by decide +kernel)) ggX5_standing_X5_isPoint
set_option maxRecDepth 20000 in
theorem ggX5_standing_X5_goes : GoodIn wsX5_standing wsX5_goes := goodIn_r _ [13, 14, 21, 22, 23, 24, 25, 26, 27, 28, 29, 30, 31, 32, 33, 34, 35, 36, 37, 38, 39, 40, 41, 42, 43, 44, 45] (by decide +kernel) (by decide +kernel)
set_option maxRecDepth 20000 in
theorem gX5_standing_X5_goes : GoodIn wsX5_standing (wsV RX5 80 RX5 yX5_goes wsX5_goes) := goodIn_app (goodIn_of _ (by decide +kernel)) ggX5_standing_X5_goes
set_option maxRecDepth 20000 in
theorem ggX5_standing_X5_standingOf : GoodIn wsX5_standing wsX5_standingOf := goodIn_r _ [18, 19, 20, 21, 22, 23, 24, 25, 26, 27, 28, 29, 30, 31, 32, 33, 34, 35, 36, 37, 38, 39, 40, 41, 42, 43, 44, 45] (by decide +kernel) (by decide +kernel)
set_option maxRecDepth 20000 in
theorem gX5_standing_X5_standingOf : GoodIn wsX5_standing (wsV RX5 88 RX5 yX5_standingOf wsX5_standingOf) := goodIn_app (goodIn_of _ (by decide +kernel)) ggX5_standing_X5_standingOf
set_option maxRecDepth 20000 in
theorem ggX5_held_X5_isPoint : GoodIn wsX5_held wsX5_isPoint := goodIn_r _ [7, 8, 9, 10, 6, 11, 17, 18, 19, 20, 21, 22, 23, 24, 25, 26, 27, 28, 29, 30, 31, 32, 33, 34, 35, 36, 37, 38, 39, 40, 41] (by decide +kernel) (by decide +kernel)
set_option maxRecDepth 20000 in
theorem gX5_held_X5_isPoint : GoodIn wsX5_held (wsV RX5 108 RX5 yX5_isPoint wsX5_isPoint) := goodIn_app (goodIn_of _ (by decide +kernel)) ggX5_held_X5_isPoint
set_option maxRecDepth 20000 in
theorem ggX5_held_X5_goes : GoodIn wsX5_held wsX5_goes := goodIn_r _ [15, 16, 17, 18, 19, 20, 21, 22, 23, 24, 25, 26, 27, 28, 29, 30, 31, 32, 33, 34, 35, 36, 37, 38, 39, 40, 41] (by decide +kernel) (by decide +kernel)
set_option maxRecDepth 20000 in
theorem gX5_held_X5_goes : GoodIn wsX5_held (wsV RX5 80 RX5 yX5_goes wsX5_goes) := goodIn_app (goodIn_of _ (by decide +kernel)) ggX5_held_X5_goes
set_option maxRecDepth 20000 in
theorem ggX5_changes_X5_isPoint : GoodIn wsX5_changes wsX5_isPoint := goodIn_r _ [6, 7, 8, 9, 5, 10, 16, 17, 18, 19, 20, 21, 22, 23, 24, 25, 26, 27, 28, 29, 30, 31, 32, 33, 34, 35, 36, 37, 38, 39, 40] (by decide +kernel) (by decide +kernel)
set_option maxRecDepth 20000 in
theorem gX5_changes_X5_isPoint : GoodIn wsX5_changes (wsV RX5 108 RX5 yX5_isPoint wsX5_isPoint) := goodIn_app (goodIn_of _ (by decide +kernel)) ggX5_changes_X5_isPoint
set_option maxRecDepth 20000 in
theorem ggX5_changes_X5_goes : GoodIn wsX5_changes wsX5_goes := goodIn_r _ [14, 15, 16, 17, 18, 19, 20, 21, 22, 23, 24, 25, 26, 27, 28, 29, 30, 31, 32, 33, 34, 35, 36, 37, 38, 39, 40] (by decide +kernel) (by decide +kernel)
set_option maxRecDepth 20000 in
theorem gX5_changes_X5_goes : GoodIn wsX5_changes (wsV RX5 80 RX5 yX5_goes wsX5_goes) := goodIn_app (goodIn_of _ (by decide +kernel)) ggX5_changes_X5_goes
set_option maxRecDepth 20000 in
theorem ggX5_subscribe_X5_isPoint : GoodIn wsX5_subscribe wsX5_isPoint := goodIn_r _ [12, 13, 14, 15, 11, 16, 33, 34, 35, 36, 37, 38, 39, 40, 41, 42, 43, 44, 45, 46, 47, 48, 49, 50, 51, 52, 53, 54, 55, 56, 57] (by decide +kernel) (by decide +kernel)
set_option maxRecDepth 20000 in
theorem gX5_subscribe_X5_isPoint : GoodIn wsX5_subscribe (wsV RX5 108 RX5 yX5_isPoint wsX5_isPoint) := goodIn_app (goodIn_of _ (by decide +kernel)) ggX5_subscribe_X5_isPoint
set_option maxRecDepth 20000 in
theorem ggX5_subscribe_X5_in : GoodIn wsX5_subscribe wsX5_in := goodIn_r _ [16] (by decide +kernel) (by decide +kernel)
set_option maxRecDepth 20000 in
theorem gX5_subscribe_X5_in : GoodIn wsX5_subscribe (va_wsS RX5 75 yX5_in wsX5_in) := goodIn_app (goodIn_of _ (by decide +kernel)) ggX5_subscribe_X5_in
set_option maxRecDepth 20000 in
theorem ggX5_subscribe_X5_goes : GoodIn wsX5_subscribe wsX5_goes := goodIn_r _ [20, 21, 33, 34, 35, 36, 37, 38, 39, 40, 41, 42, 43, 44, 45, 46, 47, 48, 49, 50, 51, 52, 53, 54, 55, 56, 57] (by decide +kernel) (by decide +kernel)
set_option maxRecDepth 20000 in
theorem gX5_subscribe_X5_goes : GoodIn wsX5_subscribe (wsV RX5 80 RX5 yX5_goes wsX5_goes) := goodIn_app (goodIn_of _ (by decide +kernel)) ggX5_subscribe_X5_goes
set_option maxRecDepth 20000 in
theorem ggX5_subscribe_X5_valueOf : GoodIn wsX5_subscribe wsX5_valueOf := goodIn_r _ [25, 26, 27, 28, 29, 30, 11, 31, 32, 33, 34, 35, 36, 37, 38, 39, 40, 41, 42, 43, 44, 45, 46, 47, 48, 49, 50, 51, 52, 53, 54, 55, 56, 57] (by decide +kernel) (by decide +kernel)
set_option maxRecDepth 20000 in
theorem gX5_subscribe_X5_valueOf : GoodIn wsX5_subscribe (wsV RX5 98 RX5 yX5_valueOf wsX5_valueOf) := goodIn_app (goodIn_of _ (by decide +kernel)) ggX5_subscribe_X5_valueOf
set_option maxRecDepth 20000 in
theorem ggX5_isSubscription_X5_in : GoodIn wsX5_isSubscription wsX5_in := goodIn_r _ [5] (by decide +kernel) (by decide +kernel)
set_option maxRecDepth 20000 in
theorem gX5_isSubscription_X5_in : GoodIn wsX5_isSubscription (va_wsS RX5 75 yX5_in wsX5_in) := goodIn_app (goodIn_of _ (by decide +kernel)) ggX5_isSubscription_X5_in
set_option maxRecDepth 20000 in
theorem ggX5_end_X5_isSubscription : GoodIn wsX5_end wsX5_isSubscription := goodIn_r _ [6, 7, 8, 9, 5, 10, 16, 17, 18, 19, 20, 21, 22, 23, 24, 25, 26, 27, 28, 29, 30, 31, 32, 33, 34, 35, 36, 37, 38, 39, 40] (by decide +kernel) (by decide +kernel)
set_option maxRecDepth 20000 in
theorem gX5_end_X5_isSubscription : GoodIn wsX5_end (wsV RX5 121 RX5 yX5_isSubscription wsX5_isSubscription) := goodIn_app (goodIn_of _ (by decide +kernel)) ggX5_end_X5_isSubscription
set_option maxRecDepth 20000 in
theorem ggX5_end_X5_goes : GoodIn wsX5_end wsX5_goes := goodIn_r _ [14, 15, 16, 17, 18, 19, 20, 21, 22, 23, 24, 25, 26, 27, 28, 29, 30, 31, 32, 33, 34, 35, 36, 37, 38, 39, 40] (by decide +kernel) (by decide +kernel)
set_option maxRecDepth 20000 in
theorem gX5_end_X5_goes : GoodIn wsX5_end (wsV RX5 80 RX5 yX5_goes wsX5_goes) := goodIn_app (goodIn_of _ (by decide +kernel)) ggX5_end_X5_goes
set_option maxRecDepth 20000 in
theorem ggX5_goesOn_X5_isSubscription : GoodIn wsX5_goesOn wsX5_isSubscription := goodIn_r _ [6, 7, 8, 9, 5, 10, 16, 17, 18, 19, 20, 21, 22, 23, 24, 25, 26, 27, 28, 29, 30, 31, 32, 33, 34, 35, 36, 37, 38, 39, 40] (by decide +kernel) (by decide +kernel)
set_option maxRecDepth 20000 in
theorem gX5_goesOn_X5_isSubscription : GoodIn wsX5_goesOn (wsV RX5 121 RX5 yX5_isSubscription wsX5_isSubscription) := goodIn_app (goodIn_of _ (by decide +kernel)) ggX5_goesOn_X5_isSubscription
set_option maxRecDepth 20000 in
theorem ggX5_goesOn_X5_goes : GoodIn wsX5_goesOn wsX5_goes := goodIn_r _ [14, 15, 16, 17, 18, 19, 20, 21, 22, 23, 24, 25, 26, 27, 28, 29, 30, 31, 32, 33, 34, 35, 36, 37, 38, 39, 40] (by decide +kernel) (by decide +kernel)
set_option maxRecDepth 20000 in
theorem gX5_goesOn_X5_goes : GoodIn wsX5_goesOn (wsV RX5 80 RX5 yX5_goes wsX5_goes) := goodIn_app (goodIn_of _ (by decide +kernel)) ggX5_goesOn_X5_goes
set_option maxRecDepth 20000 in
theorem ggX5_reports_X5_isSubscription : GoodIn wsX5_reports wsX5_isSubscription := goodIn_r _ [6, 7, 8, 9, 5, 10, 16, 17, 18, 19, 20, 21, 22, 23, 24, 25, 26, 27, 28, 29, 30, 31, 32, 33, 34, 35, 36, 37, 38, 39, 40] (by decide +kernel) (by decide +kernel)
set_option maxRecDepth 20000 in
theorem gX5_reports_X5_isSubscription : GoodIn wsX5_reports (wsV RX5 121 RX5 yX5_isSubscription wsX5_isSubscription) := goodIn_app (goodIn_of _ (by decide +kernel)) ggX5_reports_X5_isSubscription
set_option maxRecDepth 20000 in
theorem ggX5_reports_X5_goes : GoodIn wsX5_reports wsX5_goes := goodIn_r _ [14, 15, 16, 17, 18, 19, 20, 21, 22, 23, 24, 25, 26, 27, 28, 29, 30, 31, 32, 33, 34, 35, 36, 37, 38, 39, 40] (by decide +kernel) (by decide +kernel)
set_option maxRecDepth 20000 in
theorem gX5_reports_X5_goes : GoodIn wsX5_reports (wsV RX5 80 RX5 yX5_goes wsX5_goes) := goodIn_app (goodIn_of _ (by decide +kernel)) ggX5_reports_X5_goes
set_option maxRecDepth 20000 in
theorem ggX5_reported_X5_isSubscription : GoodIn wsX5_reported wsX5_isSubscription := goodIn_r _ [6, 7, 8, 9, 5, 10, 16, 17, 18, 19, 20, 21, 22, 23, 24, 25, 26, 27, 28, 29, 30, 31, 32, 33, 34, 35, 36, 37, 38, 39, 40] (by decide +kernel) (by decide +kernel)
set_option maxRecDepth 20000 in
theorem gX5_reported_X5_isSubscription : GoodIn wsX5_reported (wsV RX5 121 RX5 yX5_isSubscription wsX5_isSubscription) := goodIn_app (goodIn_of _ (by decide +kernel)) ggX5_reported_X5_isSubscription
set_option maxRecDepth 20000 in
theorem ggX5_reported_X5_goes : GoodIn wsX5_reported wsX5_goes := goodIn_r _ [14, 15, 16, 17, 18, 19, 20, 21, 22, 23, 24, 25, 26, 27, 28, 29, 30, 31, 32, 33, 34, 35, 36, 37, 38, 39, 40] (by decide +kernel) (by decide +kernel)
set_option maxRecDepth 20000 in
theorem gX5_reported_X5_goes : GoodIn wsX5_reported (wsV RX5 80 RX5 yX5_goes wsX5_goes) := goodIn_app (goodIn_of _ (by decide +kernel)) ggX5_reported_X5_goes
set_option maxRecDepth 20000 in
theorem ggX5_isSchedule_X5_in : GoodIn wsX5_isSchedule wsX5_in := goodIn_r _ [5] (by decide +kernel) (by decide +kernel)
set_option maxRecDepth 20000 in
theorem gX5_isSchedule_X5_in : GoodIn wsX5_isSchedule (va_wsS RX5 75 yX5_in wsX5_in) := goodIn_app (goodIn_of _ (by decide +kernel)) ggX5_isSchedule_X5_in
set_option maxRecDepth 20000 in
theorem ggX5_addSchedule_X5_isPoint : GoodIn wsX5_addSchedule wsX5_isPoint := goodIn_r _ [10, 11, 12, 13, 9, 14, 20, 21, 22, 23, 24, 25, 26, 27, 28, 29, 30, 31, 32, 33, 34, 35, 36, 37, 38, 39, 40, 41, 42, 43, 44] (by decide +kernel) (by decide +kernel)
set_option maxRecDepth 20000 in
theorem gX5_addSchedule_X5_isPoint : GoodIn wsX5_addSchedule (wsV RX5 108 RX5 yX5_isPoint wsX5_isPoint) := goodIn_app (goodIn_of _ (by decide +kernel)) ggX5_addSchedule_X5_isPoint
set_option maxRecDepth 20000 in
theorem ggX5_addSchedule_X5_in : GoodIn wsX5_addSchedule wsX5_in := goodIn_r _ [14] (by decide +kernel) (by decide +kernel)
set_option maxRecDepth 20000 in
theorem gX5_addSchedule_X5_in : GoodIn wsX5_addSchedule (va_wsS RX5 75 yX5_in wsX5_in) := goodIn_app (goodIn_of _ (by decide +kernel)) ggX5_addSchedule_X5_in
set_option maxRecDepth 20000 in
theorem ggX5_addSchedule_X5_goes : GoodIn wsX5_addSchedule wsX5_goes := goodIn_r _ [18, 19, 20, 21, 22, 23, 24, 25, 26, 27, 28, 29, 30, 31, 32, 33, 34, 35, 36, 37, 38, 39, 40, 41, 42, 43, 44] (by decide +kernel) (by decide +kernel)
set_option maxRecDepth 20000 in
theorem gX5_addSchedule_X5_goes : GoodIn wsX5_addSchedule (wsV RX5 80 RX5 yX5_goes wsX5_goes) := goodIn_app (goodIn_of _ (by decide +kernel)) ggX5_addSchedule_X5_goes
set_option maxRecDepth 20000 in
theorem ggX5_obeys_X5_toldBy : GoodIn wsX5_obeys wsX5_toldBy := goodIn_r _ [9, 10, 11, 12, 13, 14, 43, 44, 45, 46, 47, 48, 49, 50, 51, 52, 53, 54, 55, 56, 57, 58, 59, 60, 61, 62, 63, 64, 65, 66, 67] (by decide +kernel) (by decide +kernel)
set_option maxRecDepth 20000 in
theorem gX5_obeys_X5_toldBy : GoodIn wsX5_obeys (wsV RX5 127 RX5 yX5_toldBy wsX5_toldBy) := goodIn_app (goodIn_of _ (by decide +kernel)) ggX5_obeys_X5_toldBy
set_option maxRecDepth 20000 in
theorem ggX5_obeys_X5_sets : GoodIn wsX5_obeys wsX5_sets := goodIn_r _ [18, 19, 20, 21, 22, 1, 23, 24, 25, 8, 26, 27, 28, 29, 30, 31, 12, 32, 33, 34, 35, 36, 37, 38, 39, 40, 41, 42, 43, 44, 45, 46, 47, 48, 49, 50, 51, 52, 53, 54, 55, 56, 57, 58, 59, 60, 61, 62, 63, 64, 65, 66, 67] (by decide +kernel) (by decide +kernel)
set_option maxRecDepth 20000 in
theorem gX5_obeys_X5_sets : GoodIn wsX5_obeys (wsV RX5 116 RX5 yX5_sets wsX5_sets) := goodIn_app (goodIn_of _ (by decide +kernel)) ggX5_obeys_X5_sets
set_option maxRecDepth 20000 in
theorem ggX5_enters_X5_obeys : GoodIn wsX5_enters wsX5_obeys := goodIn_r _ [10, 11, 5, 12, 13, 14, 15, 16, 9, 17, 1, 2, 18, 3, 4, 19, 20, 21, 22, 23, 24, 25, 26, 27, 28, 29, 30, 31, 32, 33, 34, 35, 36, 37, 38, 39, 40, 41, 42, 43, 44, 45, 46, 47, 48, 49, 50, 51, 52, 53, 54, 55, 56, 57, 58, 59, 60, 61, 62, 63, 64, 65, 66, 67, 68, 69, 70, 71] (by decide +kernel) (by decide +kernel)
set_option maxRecDepth 20000 in
theorem gX5_enters_X5_obeys : GoodIn wsX5_enters (wsV RX5 131 RX5 yX5_obeys wsX5_obeys) := goodIn_app (goodIn_of _ (by decide +kernel)) ggX5_enters_X5_obeys
set_option maxRecDepth 20000 in
theorem ggX5_weekly_X5_isSchedule : GoodIn wsX5_weekly wsX5_isSchedule := goodIn_r _ [7, 8, 9, 10, 6, 11, 69, 70, 71, 72, 73, 74, 75, 76, 77, 78, 79, 80, 81, 82, 83, 84, 85, 86, 87, 88, 89, 90, 91, 92, 93] (by decide +kernel) (by decide +kernel)
set_option maxRecDepth 20000 in
theorem gX5_weekly_X5_isSchedule : GoodIn wsX5_weekly (wsV RX5 135 RX5 yX5_isSchedule wsX5_isSchedule) := goodIn_app (goodIn_of _ (by decide +kernel)) ggX5_weekly_X5_isSchedule
set_option maxRecDepth 20000 in
theorem ggX5_weekly_X5_in : GoodIn wsX5_weekly wsX5_in := goodIn_r _ [11] (by decide +kernel) (by decide +kernel)
set_option maxRecDepth 20000 in
theorem gX5_weekly_X5_in : GoodIn wsX5_weekly (va_wsS RX5 75 yX5_in wsX5_in) := goodIn_app (goodIn_of _ (by decide +kernel)) ggX5_weekly_X5_in
set_option maxRecDepth 20000 in
theorem ggX5_weekly_X5_canHave : GoodIn wsX5_weekly wsX5_canHave := goodIn_r _ [15, 16, 17, 9, 10, 6, 11, 69, 70, 71, 72, 73, 74, 75, 76, 77, 78, 79, 80, 81, 82, 83, 84, 85, 86, 87, 88, 89, 90, 91, 92, 93] (by decide +kernel) (by decide +kernel)
set_option maxRecDepth 20000 in
theorem gX5_weekly_X5_canHave : GoodIn wsX5_weekly (wsV RX5 112 RX5 yX5_canHave wsX5_canHave) := goodIn_app (goodIn_of _ (by decide +kernel)) ggX5_weekly_X5_canHave
set_option maxRecDepth 20000 in
theorem ggX5_weekly_X5_goes : GoodIn wsX5_weekly wsX5_goes := goodIn_r _ [21, 22, 69, 70, 71, 72, 73, 74, 75, 76, 77, 78, 79, 80, 81, 82, 83, 84, 85, 86, 87, 88, 89, 90, 91, 92, 93] (by decide +kernel) (by decide +kernel)
set_option maxRecDepth 20000 in
theorem gX5_weekly_X5_goes : GoodIn wsX5_weekly (wsV RX5 80 RX5 yX5_goes wsX5_goes) := goodIn_app (goodIn_of _ (by decide +kernel)) ggX5_weekly_X5_goes
set_option maxRecDepth 20000 in
theorem ggX5_weekly_X5_enters : GoodIn wsX5_weekly wsX5_enters := goodIn_r _ [26, 2, 27, 28, 29, 30, 31, 32, 33, 6, 34, 35, 1, 36, 37, 38, 39, 40, 16, 41, 42, 43, 44, 45, 46, 47, 48, 49, 50, 51, 52, 53, 54, 55, 56, 57, 58, 59, 60, 61, 62, 63, 64, 65, 66, 67, 68, 69, 70, 71, 72, 73, 74, 75, 76, 77, 78, 79, 80, 81, 82, 83, 84, 85, 86, 87, 88, 89, 90, 91, 92, 93] (by decide +kernel) (by decide +kernel)
set_option maxRecDepth 20000 in
theorem gX5_weekly_X5_enters : GoodIn wsX5_weekly (wsV RX5 138 RX5 yX5_enters wsX5_enters) := goodIn_app (goodIn_of _ (by decide +kernel)) ggX5_weekly_X5_enters
set_option maxRecDepth 20000 in
theorem ggX5_once_X5_isSchedule : GoodIn wsX5_once wsX5_isSchedule := goodIn_r _ [7, 8, 9, 10, 6, 11, 69, 70, 71, 72, 73, 74, 75, 76, 77, 78, 79, 80, 81, 82, 83, 84, 85, 86, 87, 88, 89, 90, 91, 92, 93] (by decide +kernel) (by decide +kernel)
set_option maxRecDepth 20000 in
theorem gX5_once_X5_isSchedule : GoodIn wsX5_once (wsV RX5 135 RX5 yX5_isSchedule wsX5_isSchedule) := goodIn_app (goodIn_of _ (by decide +kernel)) ggX5_once_X5_isSchedule
set_option maxRecDepth 20000 in
theorem ggX5_once_X5_in : GoodIn wsX5_once wsX5_in := goodIn_r _ [11] (by decide +kernel) (by decide +kernel)
set_option maxRecDepth 20000 in
theorem gX5_once_X5_in : GoodIn wsX5_once (va_wsS RX5 75 yX5_in wsX5_in) := goodIn_app (goodIn_of _ (by decide +kernel)) ggX5_once_X5_in
set_option maxRecDepth 20000 in
theorem ggX5_once_X5_canHave : GoodIn wsX5_once wsX5_canHave := goodIn_r _ [15, 16, 17, 9, 10, 6, 11, 69, 70, 71, 72, 73, 74, 75, 76, 77, 78, 79, 80, 81, 82, 83, 84, 85, 86, 87, 88, 89, 90, 91, 92, 93] (by decide +kernel) (by decide +kernel)
set_option maxRecDepth 20000 in
theorem gX5_once_X5_canHave : GoodIn wsX5_once (wsV RX5 112 RX5 yX5_canHave wsX5_canHave) := goodIn_app (goodIn_of _ (by decide +kernel)) ggX5_once_X5_canHave
set_option maxRecDepth 20000 in
theorem ggX5_once_X5_goes : GoodIn wsX5_once wsX5_goes := goodIn_r _ [21, 22, 69, 70, 71, 72, 73, 74, 75, 76, 77, 78, 79, 80, 81, 82, 83, 84, 85, 86, 87, 88, 89, 90, 91, 92, 93] (by decide +kernel) (by decide +kernel)
set_option maxRecDepth 20000 in
theorem gX5_once_X5_goes : GoodIn wsX5_once (wsV RX5 80 RX5 yX5_goes wsX5_goes) := goodIn_app (goodIn_of _ (by decide +kernel)) ggX5_once_X5_goes
set_option maxRecDepth 20000 in
theorem ggX5_once_X5_enters : GoodIn wsX5_once wsX5_enters := goodIn_r _ [26, 2, 27, 28, 29, 30, 31, 32, 33, 6, 34, 35, 1, 36, 37, 38, 39, 40, 16, 41, 42, 43, 44, 45, 46, 47, 48, 49, 50, 51, 52, 53, 54, 55, 56, 57, 58, 59, 60, 61, 62, 63, 64, 65, 66, 67, 68, 69, 70, 71, 72, 73, 74, 75, 76, 77, 78, 79, 80, 81, 82, 83, 84, 85, 86, 87, 88, 89, 90, 91, 92, 93] (by decide +kernel) (by decide +kernel)
set_option maxRecDepth 20000 in
theorem gX5_once_X5_enters : GoodIn wsX5_once (wsV RX5 138 RX5 yX5_enters wsX5_enters) := goodIn_app (goodIn_of _ (by decide +kernel)) ggX5_once_X5_enters
set_option maxRecDepth 20000 in
theorem ggX5_tells_X5_isSchedule : GoodIn wsX5_tells wsX5_isSchedule := goodIn_r _ [6, 7, 8, 9, 5, 10, 25, 26, 27, 28, 29, 30, 31, 32, 33, 34, 35, 36, 37, 38, 39, 40, 41, 42, 43, 44, 45, 46, 47, 48, 49] (by decide +kernel) (by decide +kernel)
set_option maxRecDepth 20000 in
theorem gX5_tells_X5_isSchedule : GoodIn wsX5_tells (wsV RX5 135 RX5 yX5_isSchedule wsX5_isSchedule) := goodIn_app (goodIn_of _ (by decide +kernel)) ggX5_tells_X5_isSchedule
set_option maxRecDepth 20000 in
theorem ggX5_tells_X5_in : GoodIn wsX5_tells wsX5_in := goodIn_r _ [10] (by decide +kernel) (by decide +kernel)
set_option maxRecDepth 20000 in
theorem gX5_tells_X5_in : GoodIn wsX5_tells (va_wsS RX5 75 yX5_in wsX5_in) := goodIn_app (goodIn_of _ (by decide +kernel)) ggX5_tells_X5_in
set_option maxRecDepth 20000 in
theorem ggX5_tells_X5_goes : GoodIn wsX5_tells wsX5_goes := goodIn_r _ [14, 15, 25, 26, 27, 28, 29, 30, 31, 32, 33, 34, 35, 36, 37, 38, 39, 40, 41, 42, 43, 44, 45, 46, 47, 48, 49] (by decide +kernel) (by decide +kernel)
set_option maxRecDepth 20000 in
theorem gX5_tells_X5_goes : GoodIn wsX5_tells (wsV RX5 80 RX5 yX5_goes wsX5_goes) := goodIn_app (goodIn_of _ (by decide +kernel)) ggX5_tells_X5_goes
set_option maxRecDepth 20000 in
theorem ggX5_tells_X5_toldBy : GoodIn wsX5_tells wsX5_toldBy := goodIn_r _ [19, 20, 21, 22, 23, 24, 25, 26, 27, 28, 29, 30, 31, 32, 33, 34, 35, 36, 37, 38, 39, 40, 41, 42, 43, 44, 45, 46, 47, 48, 49] (by decide +kernel) (by decide +kernel)
set_option maxRecDepth 20000 in
theorem gX5_tells_X5_toldBy : GoodIn wsX5_tells (wsV RX5 127 RX5 yX5_toldBy wsX5_toldBy) := goodIn_app (goodIn_of _ (by decide +kernel)) ggX5_tells_X5_toldBy
set_option maxRecDepth 20000 in
theorem ggX5_minutes_X5_sets : GoodIn wsX5_minutes wsX5_sets := goodIn_r _ [13, 14, 15, 16, 3, 1, 17, 18, 19, 12, 20, 21, 22, 23, 24, 25, 4, 26, 27, 28, 29, 5, 30, 31, 6, 32, 33, 34, 50, 51, 52, 53, 54, 55, 56, 57, 58, 59, 60, 61, 62, 63, 64, 65, 66, 67, 68, 69, 70, 71, 72, 73, 74] (by decide +kernel) (by decide +kernel)
set_option maxRecDepth 20000 in
theorem gX5_minutes_X5_sets : GoodIn wsX5_minutes (wsV RX5 116 RX5 yX5_sets wsX5_sets) := goodIn_app (goodIn_of _ (by decide +kernel)) ggX5_minutes_X5_sets
set_option maxRecDepth 20000 in
theorem ggX5_minutes_X5_obeys : GoodIn wsX5_minutes wsX5_obeys := goodIn_r _ [38, 1, 39, 40, 41, 42, 43, 44, 12, 45, 46, 47, 4, 48, 49, 9, 10, 11, 13, 14, 15, 16, 3, 17, 18, 19, 20, 21, 22, 23, 24, 25, 26, 27, 28, 29, 5, 30, 31, 6, 32, 33, 34, 50, 51, 52, 53, 54, 55, 56, 57, 58, 59, 60, 61, 62, 63, 64, 65, 66, 67, 68, 69, 70, 71, 72, 73, 74] (by decide +kernel) (by decide +kernel)
set_option maxRecDepth 20000 in
theorem gX5_minutes_X5_obeys : GoodIn wsX5_minutes (wsV RX5 131 RX5 yX5_obeys wsX5_obeys) := goodIn_app (goodIn_of _ (by decide +kernel)) ggX5_minutes_X5_obeys
set_option maxRecDepth 20000 in
theorem ggX5_pass_X5_in : GoodIn wsX5_pass wsX5_in := goodIn_r _ [7] (by decide +kernel) (by decide +kernel)
set_option maxRecDepth 20000 in
theorem gX5_pass_X5_in : GoodIn wsX5_pass (va_wsS RX5 75 yX5_in wsX5_in) := goodIn_app (goodIn_of _ (by decide +kernel)) ggX5_pass_X5_in
set_option maxRecDepth 20000 in
theorem ggX5_pass_X5_goes : GoodIn wsX5_pass wsX5_goes := goodIn_r _ [11, 12, 63, 64, 65, 66, 67, 68, 69, 70, 71, 72, 73, 74, 75, 76, 77, 78, 79, 80, 81, 82, 83, 84, 85, 86, 87] (by decide +kernel) (by decide +kernel)
set_option maxRecDepth 20000 in
theorem gX5_pass_X5_goes : GoodIn wsX5_pass (wsV RX5 80 RX5 yX5_goes wsX5_goes) := goodIn_app (goodIn_of _ (by decide +kernel)) ggX5_pass_X5_goes
set_option maxRecDepth 20000 in
theorem ggX5_pass_X5_minutes : GoodIn wsX5_pass wsX5_minutes := goodIn_r _ [16, 1, 17, 18, 19, 20, 21, 22, 23, 24, 25, 26, 6, 27, 28, 29, 30, 31, 32, 33, 34, 35, 36, 37, 38, 39, 40, 41, 42, 43, 44, 45, 46, 47, 3, 48, 49, 50, 51, 52, 53, 54, 55, 56, 57, 58, 59, 60, 61, 62, 63, 64, 65, 66, 67, 68, 69, 70, 71, 72, 73, 74, 75, 76, 77, 78, 79, 80, 81, 82, 83, 84, 85, 86, 87] (by decide +kernel) (by decide +kernel)
set_option maxRecDepth 20000 in
theorem gX5_pass_X5_minutes : GoodIn wsX5_pass (wsV RX5 143 RX5 yX5_minutes wsX5_minutes) := goodIn_app (goodIn_of _ (by decide +kernel)) ggX5_pass_X5_minutes
set_option maxRecDepth 20000 in
theorem ggL_addMeasure_X4_addMeasure : GoodIn wsL_addMeasure wsX4_addMeasure := goodIn_ca (goodIn_ca (goodIn_r _ [7, 8, 9, 10, 11, 12, 13, 14, 6, 15, 16, 17, 18, 19, 20, 21, 22, 23, 24, 25, 26, 27, 28, 29, 30, 31, 32, 33, 34, 35, 36, 37, 38, 39, 40, 41, 42, 43, 44, 45, 46, 47, 48, 49, 50, 51, 52, 53, 54, 55, 56, 57, 58] (by decide +kernel) (by decide +kernel)) (goodIn_sub (fun _ h => List.mem_cons_of_mem _ (List.mem_append_left _ (List.mem_append_right _ h))) (by decide +kernel))) (goodIn_sub (fun _ h => List.mem_cons_of_mem _ (List.mem_append_right _ h)) (by decide +kernel))
set_option maxRecDepth 20000 in
theorem gL_addMeasure_X4_addMeasure : GoodIn wsL_addMeasure (wsV RL 7 RX4 yX4_addMeasure wsX4_addMeasure) := goodIn_app (goodIn_of _ (by decide +kernel)) ggL_addMeasure_X4_addMeasure
set_option maxRecDepth 20000 in
theorem ggL_addSwitch_X4_addSwitch : GoodIn wsL_addSwitch wsX4_addSwitch := goodIn_ca (goodIn_ca (goodIn_r _ [7, 8, 9, 10, 11, 12, 13, 14, 6, 15, 16, 17, 18, 19, 20, 21, 22, 23, 24, 25, 26, 27, 28, 29, 30, 31, 32, 33, 34, 35, 36, 37, 38, 39, 40, 41, 42, 43, 44, 45, 46, 47, 48, 49, 50, 51, 52, 53, 54, 55, 56, 57, 58] (by decide +kernel) (by decide +kernel)) (goodIn_sub (fun _ h => List.mem_cons_of_mem _ (List.mem_append_left _ (List.mem_append_right _ h))) (by decide +kernel))) (goodIn_sub (fun _ h => List.mem_cons_of_mem _ (List.mem_append_right _ h)) (by decide +kernel))
set_option maxRecDepth 20000 in
theorem gL_addSwitch_X4_addSwitch : GoodIn wsL_addSwitch (wsV RL 17 RX4 yX4_addSwitch wsX4_addSwitch) := goodIn_app (goodIn_of _ (by decide +kernel)) ggL_addSwitch_X4_addSwitch
set_option maxRecDepth 20000 in
theorem ggL_write_X4_write : GoodIn wsL_write wsX4_write := goodIn_ca (goodIn_ca (goodIn_ca (goodIn_r _ [8, 9, 10, 11, 12, 13, 14, 7, 15, 16, 17, 18, 19, 20, 21, 22, 23, 24, 25, 26, 27, 28, 29, 30, 31, 32, 33, 34, 35, 36, 37, 38, 39, 40, 41, 42, 43, 44, 45, 46, 47, 48, 49, 50, 51, 52, 53, 54, 55, 56, 57, 58, 59, 60, 61, 62, 63, 64, 65, 66, 67, 68, 69, 70, 71, 72, 73, 74, 75, 76, 77, 78, 79, 80, 81, 82, 83, 84, 85, 86, 87, 88, 89, 90, 91, 92, 93, 94, 95, 96, 97, 98, 99, 100, 101, 102, 103, 104, 105, 106, 107, 108, 109] (by decide +kernel) (by decide +kernel)) (goodIn_sub (fun _ h => List.mem_cons_of_mem _ (List.mem_append_left _ (List.mem_append_left _ (List.mem_append_right _ h)))) (by decide +kernel))) (goodIn_sub (fun _ h => List.mem_cons_of_mem _ (List.mem_append_left _ (List.mem_append_right _ h))) (by decide +kernel))) (goodIn_sub (fun _ h => List.mem_cons_of_mem _ (List.mem_append_right _ h)) (by decide +kernel))
set_option maxRecDepth 20000 in
theorem gL_write_X4_write : GoodIn wsL_write (wsV RL 21 RX4 yX4_write wsX4_write) := goodIn_app (goodIn_of _ (by decide +kernel)) ggL_write_X4_write
set_option maxRecDepth 20000 in
theorem ggL_value_X4_value : GoodIn wsL_value wsX4_value := goodIn_ca (goodIn_r _ [6, 7, 8, 9, 10, 5, 11, 12, 13, 14, 15, 16, 17, 18, 19, 20, 21, 22, 23, 24, 25, 26, 27, 28, 29, 30] (by decide +kernel) (by decide +kernel)) (goodIn_sub (fun _ h => List.mem_cons_of_mem _ (List.mem_append_right _ h)) (by decide +kernel))
set_option maxRecDepth 20000 in
theorem gL_value_X4_value : GoodIn wsL_value (wsV RL 27 RX4 yX4_value wsX4_value) := goodIn_app (goodIn_of _ (by decide +kernel)) ggL_value_X4_value
set_option maxRecDepth 20000 in
theorem ggL_command_X4_command : GoodIn wsL_command wsX4_command := goodIn_ca (goodIn_ca (goodIn_r _ [7, 8, 9, 10, 11, 6, 12, 13, 14, 15, 16, 17, 18, 19, 20, 21, 22, 23, 24, 25, 26, 27, 28, 29, 30, 31, 32, 33, 34, 35, 36] (by decide +kernel) (by decide +kernel)) (goodIn_sub (fun _ h => List.mem_cons_of_mem _ (List.mem_append_left _ (List.mem_append_right _ h))) (by decide +kernel))) (goodIn_sub (fun _ h => List.mem_cons_of_mem _ (List.mem_append_right _ h)) (by decide +kernel))
set_option maxRecDepth 20000 in
theorem gL_command_X4_command : GoodIn wsL_command (wsV RL 30 RX4 yX4_command wsX4_command) := goodIn_app (goodIn_of _ (by decide +kernel)) ggL_command_X4_command
set_option maxRecDepth 20000 in
theorem ggL_standing_X4_standing : GoodIn wsL_standing wsX4_standing := goodIn_ca (goodIn_r _ [6, 7, 8, 9, 5, 10, 11, 12, 13, 14, 15, 16, 17, 18, 19, 20, 21, 22, 23, 24, 25, 26, 27, 28, 29, 30, 31, 32, 33, 34, 35, 36] (by decide +kernel) (by decide +kernel)) (goodIn_sub (fun _ h => List.mem_cons_of_mem _ (List.mem_append_right _ h)) (by decide +kernel))
set_option maxRecDepth 20000 in
theorem gL_standing_X4_standing : GoodIn wsL_standing (wsV RL 33 RX4 yX4_standing wsX4_standing) := goodIn_app (goodIn_of _ (by decide +kernel)) ggL_standing_X4_standing
set_option maxRecDepth 20000 in
theorem ggL_held_X4_held : GoodIn wsL_held wsX4_held := goodIn_ca (goodIn_r _ [6, 7, 8, 9, 10, 11, 5, 12, 13, 14, 15, 16, 17, 18, 19, 20, 21, 22, 23, 24, 25, 26, 27, 28, 29, 30, 31, 32, 33, 34, 35, 36, 37] (by decide +kernel) (by decide +kernel)) (goodIn_sub (fun _ h => List.mem_cons_of_mem _ (List.mem_append_right _ h)) (by decide +kernel))
set_option maxRecDepth 20000 in
theorem gL_held_X4_held : GoodIn wsL_held (wsV RL 36 RX4 yX4_held wsX4_held) := goodIn_app (goodIn_of _ (by decide +kernel)) ggL_held_X4_held
set_option maxRecDepth 20000 in
theorem ggL_changes_X4_changes : GoodIn wsL_changes wsX4_changes := goodIn_ca (goodIn_r _ [6, 7, 8, 9, 10, 5, 11, 12, 13, 14, 15, 16, 17, 18, 19, 20, 21, 22, 23, 24, 25, 26, 27, 28, 29, 30] (by decide +kernel) (by decide +kernel)) (goodIn_sub (fun _ h => List.mem_cons_of_mem _ (List.mem_append_right _ h)) (by decide +kernel))
set_option maxRecDepth 20000 in
theorem gL_changes_X4_changes : GoodIn wsL_changes (wsV RL 39 RX4 yX4_changes wsX4_changes) := goodIn_app (goodIn_of _ (by decide +kernel)) ggL_changes_X4_changes
set_option maxRecDepth 20000 in
theorem ggL_subscribe_X4_subscribe : GoodIn wsL_subscribe wsX4_subscribe := goodIn_ca (goodIn_ca (goodIn_ca (goodIn_r _ [8, 9, 10, 11, 12, 13, 14, 15, 16, 17, 18, 7, 19, 20, 21, 22, 23, 24, 25, 26, 27, 28, 29, 30, 31, 32, 33, 34, 35, 36, 37, 38, 39, 40, 41, 42, 43, 44, 45, 46, 47, 48, 49, 50, 51, 52, 53, 54, 55, 56, 57, 58, 59, 60, 61, 62, 63, 64, 65, 66, 67] (by decide +kernel) (by decide +kernel)) (goodIn_sub (fun _ h => List.mem_cons_of_mem _ (List.mem_append_left _ (List.mem_append_left _ (List.mem_append_right _ h)))) (by decide +kernel))) (goodIn_sub (fun _ h => List.mem_cons_of_mem _ (List.mem_append_left _ (List.mem_append_right _ h))) (by decide +kernel))) (goodIn_sub (fun _ h => List.mem_cons_of_mem _ (List.mem_append_right _ h)) (by decide +kernel))
set_option maxRecDepth 20000 in
theorem gL_subscribe_X4_subscribe : GoodIn wsL_subscribe (wsV RL 42 RX4 yX4_subscribe wsX4_subscribe) := goodIn_app (goodIn_of _ (by decide +kernel)) ggL_subscribe_X4_subscribe
set_option maxRecDepth 20000 in
theorem ggL_end_X4_end : GoodIn wsL_end wsX4_end := goodIn_ca (goodIn_ca (goodIn_r _ [7, 8, 9, 10, 11, 12, 13, 6, 14, 15, 16, 17, 18, 19, 20, 21, 22, 23, 24, 25, 26, 27, 28, 29, 30, 31] (by decide +kernel) (by decide +kernel)) (goodIn_sub (fun _ h => List.mem_cons_of_mem _ (List.mem_append_left _ (List.mem_append_right _ h))) (by decide +kernel))) (goodIn_sub (fun _ h => List.mem_cons_of_mem _ (List.mem_append_right _ h)) (by decide +kernel))
set_option maxRecDepth 20000 in
theorem gL_end_X4_end : GoodIn wsL_end (wsV RL 45 RX4 yX4_end wsX4_end) := goodIn_app (goodIn_of _ (by decide +kernel)) ggL_end_X4_end
set_option maxRecDepth 20000 in
theorem ggL_goesOn_X4_goesOn : GoodIn wsL_goesOn wsX4_goesOn := goodIn_ca (goodIn_r _ [6, 7, 8, 9, 10, 5, 11, 12, 13, 14, 15, 16, 17, 18, 19, 20, 21, 22, 23, 24, 25, 26, 27, 28] (by decide +kernel) (by decide +kernel)) (goodIn_sub (fun _ h => List.mem_cons_of_mem _ (List.mem_append_right _ h)) (by decide +kernel))
set_option maxRecDepth 20000 in
theorem gL_goesOn_X4_goesOn : GoodIn wsL_goesOn (wsV RL 49 RX4 yX4_goesOn wsX4_goesOn) := goodIn_app (goodIn_of _ (by decide +kernel)) ggL_goesOn_X4_goesOn
set_option maxRecDepth 20000 in
theorem ggL_reports_X4_reports : GoodIn wsL_reports wsX4_reports := goodIn_ca (goodIn_r _ [6, 7, 8, 9, 10, 5, 11, 12, 13, 14, 15, 16, 17, 18, 19, 20, 21, 22, 23, 24, 25, 26, 27, 28] (by decide +kernel) (by decide +kernel)) (goodIn_sub (fun _ h => List.mem_cons_of_mem _ (List.mem_append_right _ h)) (by decide +kernel))
set_option maxRecDepth 20000 in
theorem gL_reports_X4_reports : GoodIn wsL_reports (wsV RL 53 RX4 yX4_reports wsX4_reports) := goodIn_app (goodIn_of _ (by decide +kernel)) ggL_reports_X4_reports
set_option maxRecDepth 20000 in
theorem ggL_reported_X4_reported : GoodIn wsL_reported wsX4_reported := goodIn_ca (goodIn_r _ [6, 7, 8, 9, 10, 5, 11, 12, 13, 14, 15, 16, 17, 18, 19, 20, 21, 22, 23, 24, 25, 26, 27, 28] (by decide +kernel) (by decide +kernel)) (goodIn_sub (fun _ h => List.mem_cons_of_mem _ (List.mem_append_right _ h)) (by decide +kernel))
set_option maxRecDepth 20000 in
theorem gL_reported_X4_reported : GoodIn wsL_reported (wsV RL 56 RX4 yX4_reported wsX4_reported) := goodIn_app (goodIn_of _ (by decide +kernel)) ggL_reported_X4_reported
set_option maxRecDepth 20000 in
theorem ggL_addSchedule_X4_addSchedule : GoodIn wsL_addSchedule wsX4_addSchedule := goodIn_ca (goodIn_ca (goodIn_ca (goodIn_r _ [8, 9, 10, 11, 12, 13, 14, 15, 16, 7, 17, 18, 19, 20, 21, 22, 23, 24, 25, 26, 27, 28, 29, 30, 31, 32, 33, 34, 35, 36, 37, 38, 39, 40, 41, 42, 43, 44, 45, 46, 47, 48, 49, 50, 51, 52, 53, 54, 55, 56, 57, 58, 59, 60, 61, 62, 63, 64, 65, 66, 67, 68, 69, 70, 71] (by decide +kernel) (by decide +kernel)) (goodIn_sub (fun _ h => List.mem_cons_of_mem _ (List.mem_append_left _ (List.mem_append_left _ (List.mem_append_right _ h)))) (by decide +kernel))) (goodIn_sub (fun _ h => List.mem_cons_of_mem _ (List.mem_append_left _ (List.mem_append_right _ h))) (by decide +kernel))) (goodIn_sub (fun _ h => List.mem_cons_of_mem _ (List.mem_append_right _ h)) (by decide +kernel))
set_option maxRecDepth 20000 in
theorem gL_addSchedule_X4_addSchedule : GoodIn wsL_addSchedule (wsV RL 59 RX4 yX4_addSchedule wsX4_addSchedule) := goodIn_app (goodIn_of _ (by decide +kernel)) ggL_addSchedule_X4_addSchedule
set_option maxRecDepth 20000 in
theorem ggL_weekly_X4_weekly : GoodIn wsL_weekly wsX4_weekly := goodIn_ca (goodIn_ca (goodIn_ca (goodIn_r _ [8, 9, 10, 11, 12, 13, 7, 14, 15, 16, 17, 18, 19, 20, 21, 22, 23, 24, 25, 26, 27, 28, 29, 30, 31, 32, 33, 34, 35, 36, 37, 38, 39, 40, 41, 42, 43, 44, 45, 46, 47, 48, 49, 50, 51, 52, 53, 54, 55, 56, 57, 58, 59, 60, 61, 62, 63, 64, 65, 66, 67, 68, 69, 70, 71, 72, 73, 74, 75, 76, 77, 78, 79, 80, 81, 82, 83, 84, 85, 86, 87, 88, 89, 90, 91, 92, 93, 94, 95, 96, 97, 98, 99, 100, 101, 102, 103, 104, 105, 106, 107, 108, 109, 110, 111, 112, 113, 114, 115, 116, 117, 118, 119, 120, 121, 122, 123, 124, 125, 126, 127, 128, 129, 130, 131, 132, 133, 134, 135, 136, 137, 138, 139, 140, 141, 142, 143, 144, 145, 146, 147, 148, 149, 150, 151, 152, 153, 154, 155, 156, 157, 158] (by decide +kernel) (by decide +kernel)) (goodIn_sub (fun _ h => List.mem_cons_of_mem _ (List.mem_append_left _ (List.mem_append_left _ (List.mem_append_right _ h)))) (by decide +kernel))) (goodIn_sub (fun _ h => List.mem_cons_of_mem _ (List.mem_append_left _ (List.mem_append_right _ h))) (by decide +kernel))) (goodIn_sub (fun _ h => List.mem_cons_of_mem _ (List.mem_append_right _ h)) (by decide +kernel))
set_option maxRecDepth 20000 in
theorem gL_weekly_X4_weekly : GoodIn wsL_weekly (wsV RL 62 RX4 yX4_weekly wsX4_weekly) := goodIn_app (goodIn_of _ (by decide +kernel)) ggL_weekly_X4_weekly
set_option maxRecDepth 20000 in
theorem ggL_once_X4_once : GoodIn wsL_once wsX4_once := goodIn_ca (goodIn_ca (goodIn_ca (goodIn_r _ [8, 9, 10, 11, 12, 13, 7, 14, 15, 16, 17, 18, 19, 20, 21, 22, 23, 24, 25, 26, 27, 28, 29, 30, 31, 32, 33, 34, 35, 36, 37, 38, 39, 40, 41, 42, 43, 44, 45, 46, 47, 48, 49, 50, 51, 52, 53, 54, 55, 56, 57, 58, 59, 60, 61, 62, 63, 64, 65, 66, 67, 68, 69, 70, 71, 72, 73, 74, 75, 76, 77, 78, 79, 80, 81, 82, 83, 84, 85, 86, 87, 88, 89, 90, 91, 92, 93, 94, 95, 96, 97, 98, 99, 100, 101, 102, 103, 104, 105, 106, 107, 108, 109, 110, 111, 112, 113, 114, 115, 116, 117, 118, 119, 120, 121, 122, 123, 124, 125, 126, 127, 128, 129, 130, 131, 132, 133, 134, 135, 136, 137, 138, 139, 140, 141, 142, 143, 144, 145, 146, 147, 148, 149, 150, 151, 152, 153, 154, 155, 156, 157, 158] (by decide +kernel) (by decide +kernel)) (goodIn_sub (fun _ h => List.mem_cons_of_mem _ (List.mem_append_left _ (List.mem_append_left _ (List.mem_append_right _ h)))) (by decide +kernel))) (goodIn_sub (fun _ h => List.mem_cons_of_mem _ (List.mem_append_left _ (List.mem_append_right _ h))) (by decide +kernel))) (goodIn_sub (fun _ h => List.mem_cons_of_mem _ (List.mem_append_right _ h)) (by decide +kernel))
set_option maxRecDepth 20000 in
theorem gL_once_X4_once : GoodIn wsL_once (wsV RL 66 RX4 yX4_once wsX4_once) := goodIn_app (goodIn_of _ (by decide +kernel)) ggL_once_X4_once
set_option maxRecDepth 20000 in
theorem ggL_tells_X4_tells : GoodIn wsL_tells wsX4_tells := goodIn_ca (goodIn_ca (goodIn_r _ [7, 8, 9, 10, 11, 6, 12, 13, 14, 15, 16, 17, 18, 19, 20, 21, 22, 23, 24, 25, 26, 27, 28, 29, 30, 31, 32, 33, 34, 35, 36, 37, 38, 39, 40, 41, 42, 43, 44, 45, 46, 47, 48, 49, 50, 51, 52, 53, 54, 55, 56, 57, 58] (by decide +kernel) (by decide +kernel)) (goodIn_sub (fun _ h => List.mem_cons_of_mem _ (List.mem_append_left _ (List.mem_append_right _ h))) (by decide +kernel))) (goodIn_sub (fun _ h => List.mem_cons_of_mem _ (List.mem_append_right _ h)) (by decide +kernel))
set_option maxRecDepth 20000 in
theorem gL_tells_X4_tells : GoodIn wsL_tells (wsV RL 69 RX4 yX4_tells wsX4_tells) := goodIn_app (goodIn_of _ (by decide +kernel)) ggL_tells_X4_tells
set_option maxRecDepth 20000 in
theorem ggL_pass_X4_pass : GoodIn wsL_pass wsX4_pass := goodIn_ca (goodIn_ca (goodIn_r _ [7, 8, 9, 10, 11, 12, 13, 14, 6, 15, 16, 17, 18, 19, 20, 21, 22, 23, 24, 25, 26, 27, 28, 29, 30, 31, 32, 33, 34, 35, 36, 37, 38, 39, 40, 41, 42, 43, 44, 45, 46, 47, 48, 49, 50, 51, 52, 53, 54, 55, 56, 57, 58, 59, 60, 61, 62, 63, 64, 65, 66, 67, 68, 69, 70, 71, 72, 73, 74, 75, 76, 77, 78, 79, 80, 81, 82, 83, 84, 85, 86, 87, 88, 89, 90, 91, 92, 93, 94, 95, 96, 97, 98, 99, 100, 101, 102, 103, 104, 105, 106, 107, 108, 109, 110, 111, 112, 113, 114, 115, 116, 117, 118, 119, 120, 121, 122, 123, 124, 125, 126, 127, 128, 129, 130, 131, 132, 133, 134, 135, 136, 137, 138, 139, 140, 141, 142, 143, 144, 145, 146, 147, 148, 149, 150] (by decide +kernel) (by decide +kernel)) (goodIn_sub (fun _ h => List.mem_cons_of_mem _ (List.mem_append_left _ (List.mem_append_right _ h))) (by decide +kernel))) (goodIn_sub (fun _ h => List.mem_cons_of_mem _ (List.mem_append_right _ h)) (by decide +kernel))
set_option maxRecDepth 20000 in
theorem gL_pass_X4_pass : GoodIn wsL_pass (wsV RL 72 RX4 yX4_pass wsX4_pass) := goodIn_app (goodIn_of _ (by decide +kernel)) ggL_pass_X4_pass
set_option maxRecDepth 20000 in
theorem ggL_law_X4_init : GoodIn wsL_law wsX4_init := goodIn_r _ [9, 10, 11, 12, 13, 14, 15, 16, 17, 18, 516, 517, 518, 519, 520, 521, 522, 523] (by decide +kernel) (by decide +kernel)
set_option maxRecDepth 20000 in
theorem gL_law_X4_init : GoodIn wsL_law (wsX4_init) := ggL_law_X4_init
set_option maxRecDepth 20000 in
theorem ggL_law_X5_init : GoodIn wsL_law wsX5_init := goodIn_r _ [21, 22, 11, 12, 23, 24, 25, 26, 27, 28, 29, 30, 31, 32, 33, 34, 35, 36, 37, 38, 39, 40, 41, 42, 43, 524, 525, 526, 527, 528, 529, 530, 531, 532, 533, 534, 535, 536, 537, 538, 539, 540, 541, 542, 543, 544, 545, 546, 547, 548] (by decide +kernel) (by decide +kernel)
set_option maxRecDepth 20000 in
theorem gL_law_X5_init : GoodIn wsL_law (wsX5_init) := ggL_law_X5_init
set_option maxRecDepth 20000 in
theorem ggL_law_L_addMeasure : GoodIn wsL_law wsL_addMeasure := goodIn_ca (goodIn_ca (goodIn_r _ [47, 48, 49, 50, 51, 52, 2, 53, 54, 14, 13, 55, 56, 57, 58, 59, 60, 61, 62, 63, 64, 65, 66, 67, 68, 69, 70, 11, 12, 71, 72, 73, 74, 25, 75, 76, 77, 78, 79, 80, 81, 82, 83, 516, 517, 518, 519, 520, 521, 522, 523, 549, 550, 551, 552, 553, 554, 555, 556] (by decide +kernel) (by decide +kernel)) (goodIn_sub (fun _ h => List.mem_append_left _ (List.mem_append_left _ (List.mem_append_right _ h))) (by decide +kernel))) (goodIn_sub (fun _ h => List.mem_append_left _ (List.mem_append_right _ h)) (by decide +kernel))
set_option maxRecDepth 20000 in
theorem gL_law_L_addMeasure : GoodIn wsL_law (va_wsS RL 79 yL_addMeasure wsL_addMeasure) := goodIn_app (goodIn_of _ (by decide +kernel)) ggL_law_L_addMeasure
set_option maxRecDepth 20000 in
theorem ggL_law_X5_addMeasure : GoodIn wsL_law wsX5_addMeasure := goodIn_r _ [87, 88, 89, 90, 5, 91, 92, 93, 94, 95, 96, 97, 98, 99, 100, 26, 24, 27, 30, 101, 524, 525, 526, 527, 528, 529, 530, 531, 532, 533, 534, 535, 536, 537, 538, 539, 540, 541, 542, 543, 544, 545, 546, 547, 548] (by decide +kernel) (by decide +kernel)
set_option maxRecDepth 20000 in
theorem gL_law_X5_addMeasure : GoodIn wsL_law (wsV RL 84 RX5 yX5_addMeasure wsX5_addMeasure) := goodIn_app (goodIn_of _ (by decide +kernel)) ggL_law_X5_addMeasure
set_option maxRecDepth 20000 in
theorem ggL_law_X5_thrown : GoodIn wsL_law wsX5_thrown := goodIn_r _ [105, 96, 524, 525, 526, 527, 528, 529, 530, 531, 532, 533, 534, 535, 536, 537, 538, 539, 540, 541, 542, 543, 544, 545, 546, 547, 548] (by decide +kernel) (by decide +kernel)
set_option maxRecDepth 20000 in
theorem gL_law_X5_thrown : GoodIn wsL_law (wsV RL 85 RX5 yX5_thrown wsX5_thrown) := goodIn_app (goodIn_of _ (by decide +kernel)) ggL_law_X5_thrown
set_option maxRecDepth 20000 in
theorem ggL_law_L_addSwitch : GoodIn wsL_law wsL_addSwitch := goodIn_ca (goodIn_ca (goodIn_r _ [108, 48, 49, 109, 110, 111, 2, 112, 54, 14, 13, 55, 56, 57, 58, 59, 60, 61, 62, 63, 64, 65, 66, 67, 68, 69, 70, 11, 12, 71, 72, 73, 74, 25, 75, 76, 77, 78, 79, 80, 81, 82, 83, 516, 517, 518, 519, 520, 521, 522, 523, 549, 550, 551, 552, 553, 554, 555, 556] (by decide +kernel) (by decide +kernel)) (goodIn_sub (fun _ h => List.mem_append_left _ (List.mem_append_left _ (List.mem_append_right _ h))) (by decide +kernel))) (goodIn_sub (fun _ h => List.mem_append_left _ (List.mem_append_right _ h)) (by decide +kernel))
set_option maxRecDepth 20000 in
theorem gL_law_L_addSwitch : GoodIn wsL_law (va_wsS RL 89 yL_addSwitch wsL_addSwitch) := goodIn_app (goodIn_of _ (by decide +kernel)) ggL_law_L_addSwitch
set_option maxRecDepth 20000 in
theorem ggL_law_X5_addSwitch : GoodIn wsL_law wsX5_addSwitch := goodIn_r _ [116, 88, 89, 90, 5, 91, 92, 93, 94, 95, 96, 97, 98, 99, 100, 26, 24, 27, 30, 101, 524, 525, 526, 527, 528, 529, 530, 531, 532, 533, 534, 535, 536, 537, 538, 539, 540, 541, 542, 543, 544, 545, 546, 547, 548] (by decide +kernel) (by decide +kernel)
set_option maxRecDepth 20000 in
theorem gL_law_X5_addSwitch : GoodIn wsL_law (wsV RL 92 RX5 yX5_addSwitch wsX5_addSwitch) := goodIn_app (goodIn_of _ (by decide +kernel)) ggL_law_X5_addSwitch
set_option maxRecDepth 20000 in
theorem ggL_law_L_write : GoodIn wsL_law wsL_write := goodIn_ca (goodIn_ca (goodIn_ca (goodIn_r _ [119, 120, 48, 49, 121, 122, 123, 2, 124, 65, 66, 125, 126, 127, 128, 129, 130, 131, 14, 57, 58, 59, 60, 61, 132, 133, 134, 135, 136, 137, 138, 56, 139, 71, 72, 140, 141, 142, 143, 78, 144, 145, 146, 147, 148, 149, 150, 151, 152, 153, 75, 73, 154, 155, 156, 157, 76, 158, 159, 160, 161, 77, 79, 74, 162, 163, 164, 165, 16, 166, 167, 168, 169, 170, 171, 172, 173, 174, 175, 176, 177, 178, 179, 180, 181, 182, 183, 184, 549, 550, 551, 552, 553, 554, 555, 556, 516, 517, 518, 519, 520, 521, 522, 523, 557, 558, 559, 560, 561, 562] (by decide +kernel) (by decide +kernel)) (goodIn_sub (fun _ h => List.mem_append_left _ (List.mem_append_right _ h)) (by decide +kernel))) (goodIn_sub (fun _ h => List.mem_append_right _ h) (by decide +kernel))) (goodIn_sub (fun _ h => List.mem_append_left _ (List.mem_append_left _ (List.mem_append_right _ h))) (by decide +kernel))
set_option maxRecDepth 20000 in
theorem gL_law_L_write : GoodIn wsL_law (va_wsS RL 93 yL_write wsL_write) := goodIn_app (goodIn_of _ (by decide +kernel)) ggL_law_L_write
set_option maxRecDepth 20000 in
theorem ggL_law_X5_write : GoodIn wsL_law wsX5_write := goodIn_r _ [188, 28, 189, 190, 191, 5, 192, 88, 89, 90, 91, 193, 194, 195, 196, 101, 24, 92, 93, 94, 95, 96, 197, 198, 199, 200, 30, 29, 27, 201, 202, 203, 204, 205, 26, 206, 207, 208, 209, 210, 211, 212, 213, 214, 36, 31, 34, 32, 35, 215, 524, 525, 526, 527, 528, 529, 530, 531, 532, 533, 534, 535, 536, 537, 538, 539, 540, 541, 542, 543, 544, 545, 546, 547, 548] (by decide +kernel) (by decide +kernel)
set_option maxRecDepth 20000 in
theorem gL_law_X5_write : GoodIn wsL_law (wsV RL 96 RX5 yX5_write wsX5_write) := goodIn_app (goodIn_of _ (by decide +kernel)) ggL_law_X5_write
set_option maxRecDepth 20000 in
theorem ggL_law_L_value : GoodIn wsL_law wsL_value := goodIn_ca (goodIn_r _ [218, 120, 219, 220, 221, 2, 222, 125, 126, 127, 128, 129, 130, 131, 14, 549, 550, 551, 552, 553, 554, 555, 556, 516, 517, 518, 519, 520, 521, 522, 523] (by decide +kernel) (by decide +kernel)) (goodIn_sub (fun _ h => List.mem_append_right _ h) (by decide +kernel))
set_option maxRecDepth 20000 in
theorem gL_law_L_value : GoodIn wsL_law (va_wsS RL 97 yL_value wsL_value) := goodIn_app (goodIn_of _ (by decide +kernel)) ggL_law_L_value
set_option maxRecDepth 20000 in
theorem ggL_law_X5_value : GoodIn wsL_law wsX5_value := goodIn_r _ [226, 189, 190, 191, 5, 192, 88, 89, 90, 91, 92, 93, 94, 95, 96, 202, 203, 204, 205, 26, 30, 206, 207, 208, 209, 101, 524, 525, 526, 527, 528, 529, 530, 531, 532, 533, 534, 535, 536, 537, 538, 539, 540, 541, 542, 543, 544, 545, 546, 547, 548] (by decide +kernel) (by decide +kernel)
set_option maxRecDepth 20000 in
theorem gL_law_X5_value : GoodIn wsL_law (wsV RL 99 RX5 yX5_value wsX5_value) := goodIn_app (goodIn_of _ (by decide +kernel)) ggL_law_X5_value
set_option maxRecDepth 20000 in
theorem ggL_law_L_command : GoodIn wsL_law wsL_command := goodIn_ca (goodIn_ca (goodIn_r _ [229, 120, 48, 230, 231, 232, 2, 233, 148, 126, 127, 128, 129, 130, 131, 14, 57, 58, 59, 60, 61, 549, 550, 551, 552, 553, 554, 555, 556, 516, 517, 518, 519, 520, 521, 522, 523] (by decide +kernel) (by decide +kernel)) (goodIn_sub (fun _ h => List.mem_append_right _ h) (by decide +kernel))) (goodIn_sub (fun _ h => List.mem_append_left _ (List.mem_append_left _ (List.mem_append_right _ h))) (by decide +kernel))
set_option maxRecDepth 20000 in
theorem gL_law_L_command : GoodIn wsL_law (va_wsS RL 100 yL_command wsL_command) := goodIn_app (goodIn_of _ (by decide +kernel)) ggL_law_L_command
set_option maxRecDepth 20000 in
theorem ggL_law_X5_command : GoodIn wsL_law wsX5_command := goodIn_r _ [237, 30, 189, 190, 191, 5, 192, 88, 89, 90, 91, 92, 93, 94, 95, 96, 524, 525, 526, 527, 528, 529, 530, 531, 532, 533, 534, 535, 536, 537, 538, 539, 540, 541, 542, 543, 544, 545, 546, 547, 548] (by decide +kernel) (by decide +kernel)
set_option maxRecDepth 20000 in
theorem gL_law_X5_command : GoodIn wsL_law (wsV RL 102 RX5 yX5_command wsX5_command) := goodIn_app (goodIn_of _ (by decide +kernel)) ggL_law_X5_command
set_option maxRecDepth 20000 in
theorem ggL_law_L_standing : GoodIn wsL_law wsL_standing := goodIn_ca (goodIn_r _ [240, 120, 241, 242, 243, 2, 244, 126, 127, 128, 129, 130, 131, 14, 245, 155, 156, 56, 157, 75, 76, 516, 517, 518, 519, 520, 521, 522, 523, 549, 550, 551, 552, 553, 554, 555, 556] (by decide +kernel) (by decide +kernel)) (goodIn_sub (fun _ h => List.mem_append_right _ h) (by decide +kernel))
set_option maxRecDepth 20000 in
theorem gL_law_L_standing : GoodIn wsL_law (va_wsS RL 103 yL_standing wsL_standing) := goodIn_app (goodIn_of _ (by decide +kernel)) ggL_law_L_standing
set_option maxRecDepth 20000 in
theorem ggL_law_X5_standing : GoodIn wsL_law wsX5_standing := goodIn_r _ [249, 189, 190, 191, 5, 192, 88, 89, 90, 91, 92, 93, 94, 95, 96, 206, 207, 208, 209, 30, 101, 524, 525, 526, 527, 528, 529, 530, 531, 532, 533, 534, 535, 536, 537, 538, 539, 540, 541, 542, 543, 544, 545, 546, 547, 548] (by decide +kernel) (by decide +kernel)
set_option maxRecDepth 20000 in
theorem gL_law_X5_standing : GoodIn wsL_law (wsV RL 105 RX5 yX5_standing wsX5_standing) := goodIn_app (goodIn_of _ (by decide +kernel)) ggL_law_X5_standing
set_option maxRecDepth 20000 in
theorem ggL_law_L_held : GoodIn wsL_law wsL_held := goodIn_ca (goodIn_r _ [252, 120, 253, 254, 255, 2, 256, 257, 149, 126, 127, 128, 129, 130, 131, 14, 140, 141, 142, 56, 143, 78, 549, 550, 551, 552, 553, 554, 555, 556, 516, 517, 518, 519, 520, 521, 522, 523] (by decide +kernel) (by decide +kernel)) (goodIn_sub (fun _ h => List.mem_append_right _ h) (by decide +kernel))
set_option maxRecDepth 20000 in
theorem gL_law_L_held : GoodIn wsL_law (va_wsS RL 106 yL_held wsL_held) := goodIn_app (goodIn_of _ (by decide +kernel)) ggL_law_L_held
set_option maxRecDepth 20000 in
theorem ggL_law_X5_held : GoodIn wsL_law wsX5_held := goodIn_r _ [261, 28, 201, 189, 190, 191, 5, 192, 88, 89, 90, 91, 92, 93, 94, 95, 96, 524, 525, 526, 527, 528, 529, 530, 531, 532, 533, 534, 535, 536, 537, 538, 539, 540, 541, 542, 543, 544, 545, 546, 547, 548] (by decide +kernel) (by decide +kernel)
set_option maxRecDepth 20000 in
theorem gL_law_X5_held : GoodIn wsL_law (wsV RL 108 RX5 yX5_held wsX5_held) := goodIn_app (goodIn_of _ (by decide +kernel)) ggL_law_X5_held
set_option maxRecDepth 20000 in
theorem ggL_law_L_changes : GoodIn wsL_law wsL_changes := goodIn_ca (goodIn_r _ [264, 120, 265, 266, 267, 2, 268, 269, 126, 127, 128, 129, 130, 131, 14, 549, 550, 551, 552, 553, 554, 555, 556, 516, 517, 518, 519, 520, 521, 522, 523] (by decide +kernel) (by decide +kernel)) (goodIn_sub (fun _ h => List.mem_append_right _ h) (by decide +kernel))
set_option maxRecDepth 20000 in
theorem gL_law_L_changes : GoodIn wsL_law (va_wsS RL 109 yL_changes wsL_changes) := goodIn_app (goodIn_of _ (by decide +kernel)) ggL_law_L_changes
set_option maxRecDepth 20000 in
theorem ggL_law_X5_changes : GoodIn wsL_law wsX5_changes := goodIn_r _ [273, 29, 189, 190, 191, 5, 192, 88, 89, 90, 91, 92, 93, 94, 95, 96, 524, 525, 526, 527, 528, 529, 530, 531, 532, 533, 534, 535, 536, 537, 538, 539, 540, 541, 542, 543, 544, 545, 546, 547, 548] (by decide +kernel) (by decide +kernel)
set_option maxRecDepth 20000 in
theorem gL_law_X5_changes : GoodIn wsL_law (wsV RL 111 RX5 yX5_changes wsX5_changes) := goodIn_app (goodIn_of _ (by decide +kernel)) ggL_law_X5_changes
set_option maxRecDepth 20000 in
theorem ggL_law_L_subscribe : GoodIn wsL_law wsL_subscribe := goodIn_ca (goodIn_ca (goodIn_ca (goodIn_r _ [276, 120, 48, 49, 277, 278, 279, 2, 280, 281, 282, 16, 15, 283, 172, 149, 126, 127, 128, 129, 130, 131, 14, 57, 58, 59, 60, 61, 62, 63, 64, 65, 66, 284, 285, 286, 287, 11, 12, 288, 179, 289, 290, 174, 184, 291, 516, 517, 518, 519, 520, 521, 522, 523, 557, 558, 559, 560, 561, 562, 549, 550, 551, 552, 553, 554, 555, 556] (by decide +kernel) (by decide +kernel)) (goodIn_sub (fun _ h => List.mem_append_right _ h) (by decide +kernel))) (goodIn_sub (fun _ h => List.mem_append_left _ (List.mem_append_left _ (List.mem_append_right _ h))) (by decide +kernel))) (goodIn_sub (fun _ h => List.mem_append_left _ (List.mem_append_right _ h)) (by decide +kernel))
set_option maxRecDepth 20000 in
theorem gL_law_L_subscribe : GoodIn wsL_law (va_wsS RL 112 yL_subscribe wsL_subscribe) := goodIn_app (goodIn_of _ (by decide +kernel)) ggL_law_L_subscribe
set_option maxRecDepth 20000 in
theorem ggL_law_X5_subscribe : GoodIn wsL_law wsX5_subscribe := goodIn_r _ [295, 296, 214, 31, 32, 33, 201, 36, 189, 190, 191, 5, 192, 88, 89, 90, 91, 92, 93, 94, 95, 96, 202, 203, 204, 205, 26, 30, 206, 207, 208, 209, 101, 524, 525, 526, 527, 528, 529, 530, 531, 532, 533, 534, 535, 536, 537, 538, 539, 540, 541, 542, 543, 544, 545, 546, 547, 548] (by decide +kernel) (by decide +kernel)
set_option maxRecDepth 20000 in
theorem gL_law_X5_subscribe : GoodIn wsL_law (wsV RL 114 RX5 yX5_subscribe wsX5_subscribe) := goodIn_app (goodIn_of _ (by decide +kernel)) ggL_law_X5_subscribe
set_option maxRecDepth 20000 in
theorem ggL_law_L_end : GoodIn wsL_law wsL_end := goodIn_ca (goodIn_ca (goodIn_r _ [299, 120, 49, 300, 301, 302, 2, 303, 65, 66, 166, 304, 305, 306, 307, 130, 131, 16, 557, 558, 559, 560, 561, 562, 516, 517, 518, 519, 520, 521, 522, 523] (by decide +kernel) (by decide +kernel)) (goodIn_sub (fun _ h => List.mem_append_left _ (List.mem_append_right _ h)) (by decide +kernel))) (goodIn_sub (fun _ h => List.mem_append_right _ h) (by decide +kernel))
set_option maxRecDepth 20000 in
theorem gL_law_L_end : GoodIn wsL_law (va_wsS RL 115 yL_end wsL_end) := goodIn_app (goodIn_of _ (by decide +kernel)) ggL_law_L_end
set_option maxRecDepth 20000 in
theorem ggL_law_X5_end : GoodIn wsL_law wsX5_end := goodIn_r _ [311, 34, 312, 313, 314, 5, 315, 214, 89, 90, 91, 92, 93, 94, 95, 96, 524, 525, 526, 527, 528, 529, 530, 531, 532, 533, 534, 535, 536, 537, 538, 539, 540, 541, 542, 543, 544, 545, 546, 547, 548] (by decide +kernel) (by decide +kernel)
set_option maxRecDepth 20000 in
theorem gL_law_X5_end : GoodIn wsL_law (wsV RL 118 RX5 yX5_end wsX5_end) := goodIn_app (goodIn_of _ (by decide +kernel)) ggL_law_X5_end
set_option maxRecDepth 20000 in
theorem ggL_law_L_goesOn : GoodIn wsL_law wsL_goesOn := goodIn_ca (goodIn_r _ [318, 120, 319, 320, 321, 2, 322, 166, 304, 305, 306, 307, 130, 131, 16, 557, 558, 559, 560, 561, 562, 516, 517, 518, 519, 520, 521, 522, 523] (by decide +kernel) (by decide +kernel)) (goodIn_sub (fun _ h => List.mem_append_right _ h) (by decide +kernel))
set_option maxRecDepth 20000 in
theorem gL_law_L_goesOn : GoodIn wsL_law (va_wsS RL 119 yL_goesOn wsL_goesOn) := goodIn_app (goodIn_of _ (by decide +kernel)) ggL_law_L_goesOn
set_option maxRecDepth 20000 in
theorem ggL_law_X5_goesOn : GoodIn wsL_law wsX5_goesOn := goodIn_r _ [326, 34, 312, 313, 314, 5, 315, 214, 89, 90, 91, 92, 93, 94, 95, 96, 524, 525, 526, 527, 528, 529, 530, 531, 532, 533, 534, 535, 536, 537, 538, 539, 540, 541, 542, 543, 544, 545, 546, 547, 548] (by decide +kernel) (by decide +kernel)
set_option maxRecDepth 20000 in
theorem gL_law_X5_goesOn : GoodIn wsL_law (wsV RL 121 RX5 yX5_goesOn wsX5_goesOn) := goodIn_app (goodIn_of _ (by decide +kernel)) ggL_law_X5_goesOn
set_option maxRecDepth 20000 in
theorem ggL_law_L_reports : GoodIn wsL_law wsL_reports := goodIn_ca (goodIn_r _ [329, 120, 330, 331, 332, 2, 333, 334, 304, 305, 306, 307, 130, 131, 16, 557, 558, 559, 560, 561, 562, 516, 517, 518, 519, 520, 521, 522, 523] (by decide +kernel) (by decide +kernel)) (goodIn_sub (fun _ h => List.mem_append_right _ h) (by decide +kernel))
set_option maxRecDepth 20000 in
theorem gL_law_L_reports : GoodIn wsL_law (va_wsS RL 122 yL_reports wsL_reports) := goodIn_app (goodIn_of _ (by decide +kernel)) ggL_law_L_reports
set_option maxRecDepth 20000 in
theorem ggL_law_X5_reports : GoodIn wsL_law wsX5_reports := goodIn_r _ [338, 35, 312, 313, 314, 5, 315, 214, 89, 90, 91, 92, 93, 94, 95, 96, 524, 525, 526, 527, 528, 529, 530, 531, 532, 533, 534, 535, 536, 537, 538, 539, 540, 541, 542, 543, 544, 545, 546, 547, 548] (by decide +kernel) (by decide +kernel)
set_option maxRecDepth 20000 in
theorem gL_law_X5_reports : GoodIn wsL_law (wsV RL 124 RX5 yX5_reports wsX5_reports) := goodIn_app (goodIn_of _ (by decide +kernel)) ggL_law_X5_reports
set_option maxRecDepth 20000 in
theorem ggL_law_L_reported : GoodIn wsL_law wsL_reported := goodIn_ca (goodIn_r _ [341, 120, 342, 343, 344, 2, 345, 346, 304, 305, 306, 307, 130, 131, 16, 557, 558, 559, 560, 561, 562, 516, 517, 518, 519, 520, 521, 522, 523] (by decide +kernel) (by decide +kernel)) (goodIn_sub (fun _ h => List.mem_append_right _ h) (by decide +kernel))
set_option maxRecDepth 20000 in
theorem gL_law_L_reported : GoodIn wsL_law (va_wsS RL 125 yL_reported wsL_reported) := goodIn_app (goodIn_of _ (by decide +kernel)) ggL_law_L_reported
set_option maxRecDepth 20000 in
theorem ggL_law_X5_reported : GoodIn wsL_law wsX5_reported := goodIn_r _ [350, 36, 312, 313, 314, 5, 315, 214, 89, 90, 91, 92, 93, 94, 95, 96, 524, 525, 526, 527, 528, 529, 530, 531, 532, 533, 534, 535, 536, 537, 538, 539, 540, 541, 542, 543, 544, 545, 546, 547, 548] (by decide +kernel) (by decide +kernel)
set_option maxRecDepth 20000 in
theorem gL_law_X5_reported : GoodIn wsL_law (wsV RL 127 RX5 yX5_reported wsX5_reported) := goodIn_app (goodIn_of _ (by decide +kernel)) ggL_law_X5_reported
set_option maxRecDepth 20000 in
theorem ggL_law_L_addSchedule : GoodIn wsL_law wsL_addSchedule := goodIn_ca (goodIn_ca (goodIn_ca (goodIn_r _ [353, 120, 48, 49, 354, 355, 356, 2, 357, 358, 18, 17, 359, 360, 126, 127, 128, 129, 130, 131, 14, 57, 58, 59, 60, 61, 62, 63, 64, 65, 66, 361, 362, 363, 364, 11, 12, 365, 366, 367, 368, 369, 370, 371, 372, 373, 374, 375, 376, 377, 25, 378, 379, 380, 381, 516, 517, 518, 519, 520, 521, 522, 523, 563, 564, 565, 566, 567, 568, 569, 570, 571] (by decide +kernel) (by decide +kernel)) (goodIn_sub (fun _ h => List.mem_append_right _ h) (by decide +kernel))) (goodIn_sub (fun _ h => List.mem_append_left _ (List.mem_append_left _ (List.mem_append_right _ h))) (by decide +kernel))) (goodIn_sub (fun _ h => List.mem_append_left _ (List.mem_append_right _ h)) (by decide +kernel))
set_option maxRecDepth 20000 in
theorem gL_law_L_addSchedule : GoodIn wsL_law (va_wsS RL 128 yL_addSchedule wsL_addSchedule) := goodIn_app (goodIn_of _ (by decide +kernel)) ggL_law_L_addSchedule
set_option maxRecDepth 20000 in
theorem ggL_law_X5_addSchedule : GoodIn wsL_law wsX5_addSchedule := goodIn_r _ [385, 386, 37, 38, 39, 101, 189, 190, 191, 5, 192, 88, 89, 90, 91, 92, 93, 94, 95, 96, 524, 525, 526, 527, 528, 529, 530, 531, 532, 533, 534, 535, 536, 537, 538, 539, 540, 541, 542, 543, 544, 545, 546, 547, 548] (by decide +kernel) (by decide +kernel)
set_option maxRecDepth 20000 in
theorem gL_law_X5_addSchedule : GoodIn wsL_law (wsV RL 130 RX5 yX5_addSchedule wsX5_addSchedule) := goodIn_app (goodIn_of _ (by decide +kernel)) ggL_law_X5_addSchedule
set_option maxRecDepth 20000 in
theorem ggL_law_L_weekly : GoodIn wsL_law wsL_weekly := goodIn_ca (goodIn_ca (goodIn_ca (goodIn_r _ [389, 120, 48, 49, 390, 391, 392, 2, 393, 394, 395, 396, 397, 398, 399, 130, 131, 18, 57, 58, 59, 60, 61, 400, 401, 402, 403, 132, 133, 134, 135, 136, 137, 138, 56, 139, 71, 72, 404, 405, 406, 360, 407, 370, 408, 371, 62, 63, 64, 65, 66, 409, 410, 411, 369, 412, 381, 378, 379, 380, 413, 414, 415, 416, 149, 417, 418, 419, 420, 421, 422, 423, 424, 425, 426, 427, 428, 429, 430, 144, 145, 146, 147, 148, 125, 150, 151, 152, 153, 75, 73, 154, 155, 156, 157, 76, 158, 159, 160, 161, 77, 79, 74, 78, 162, 163, 164, 165, 16, 166, 167, 168, 169, 170, 171, 172, 173, 174, 175, 176, 177, 178, 179, 180, 181, 182, 183, 184, 563, 564, 565, 566, 567, 516, 517, 518, 519, 520, 521, 522, 523, 549, 550, 551, 552, 553, 554, 555, 556, 568, 569, 570, 571, 557, 558, 559, 560, 561, 562] (by decide +kernel) (by decide +kernel)) (goodIn_sub (fun _ h => List.mem_append_right _ h) (by decide +kernel))) (goodIn_sub (fun _ h => List.mem_append_left _ (List.mem_append_left _ (List.mem_append_right _ h))) (by decide +kernel))) (goodIn_sub (fun _ h => List.mem_append_left _ (List.mem_append_right _ h)) (by decide +kernel))
set_option maxRecDepth 20000 in
theorem gL_law_L_weekly : GoodIn wsL_law (va_wsS RL 131 yL_weekly wsL_weekly) := goodIn_app (goodIn_of _ (by decide +kernel)) ggL_law_L_weekly
set_option maxRecDepth 20000 in
theorem ggL_law_X5_weekly : GoodIn wsL_law wsX5_weekly := goodIn_r _ [434, 37, 40, 435, 436, 437, 5, 438, 386, 89, 90, 91, 193, 194, 195, 196, 101, 24, 92, 93, 94, 95, 96, 439, 440, 441, 442, 41, 42, 43, 39, 443, 444, 445, 446, 201, 38, 447, 448, 449, 450, 197, 198, 199, 200, 30, 29, 27, 28, 202, 203, 204, 205, 26, 206, 207, 208, 209, 210, 211, 212, 213, 214, 36, 31, 34, 32, 35, 215, 524, 525, 526, 527, 528, 529, 530, 531, 532, 533, 534, 535, 536, 537, 538, 539, 540, 541, 542, 543, 544, 545, 546, 547, 548] (by decide +kernel) (by decide +kernel)
set_option maxRecDepth 20000 in
theorem gL_law_X5_weekly : GoodIn wsL_law (wsV RL 134 RX5 yX5_weekly wsX5_weekly) := goodIn_app (goodIn_of _ (by decide +kernel)) ggL_law_X5_weekly
set_option maxRecDepth 20000 in
theorem ggL_law_L_once : GoodIn wsL_law wsL_once := goodIn_ca (goodIn_ca (goodIn_ca (goodIn_r _ [453, 120, 48, 49, 454, 455, 456, 2, 457, 458, 395, 396, 397, 398, 399, 130, 131, 18, 57, 58, 59, 60, 61, 400, 401, 402, 403, 132, 133, 134, 135, 136, 137, 138, 56, 139, 71, 72, 404, 405, 406, 360, 407, 370, 408, 371, 62, 63, 64, 65, 66, 409, 410, 411, 369, 412, 381, 378, 379, 380, 413, 414, 415, 416, 149, 417, 418, 419, 420, 421, 422, 423, 424, 425, 426, 427, 428, 429, 430, 144, 145, 146, 147, 148, 125, 150, 151, 152, 153, 75, 73, 154, 155, 156, 157, 76, 158, 159, 160, 161, 77, 79, 74, 78, 162, 163, 164, 165, 16, 166, 167, 168, 169, 170, 171, 172, 173, 174, 175, 176, 177, 178, 179, 180, 181, 182, 183, 184, 563, 564, 565, 566, 567, 516, 517, 518, 519, 520, 521, 522, 523, 549, 550, 551, 552, 553, 554, 555, 556, 568, 569, 570, 571, 557, 558, 559, 560, 561, 562] (by decide +kernel) (by decide +kernel)) (goodIn_sub (fun _ h => List.mem_append_right _ h) (by decide +kernel))) (goodIn_sub (fun _ h => List.mem_append_left _ (List.mem_append_left _ (List.mem_append_right _ h))) (by decide +kernel))) (goodIn_sub (fun _ h => List.mem_append_left _ (List.mem_append_right _ h)) (by decide +kernel))
set_option maxRecDepth 20000 in
theorem gL_law_L_once : GoodIn wsL_law (va_wsS RL 135 yL_once wsL_once) := goodIn_app (goodIn_of _ (by decide +kernel)) ggL_law_L_once
set_option maxRecDepth 20000 in
theorem ggL_law_X5_once : GoodIn wsL_law wsX5_once := goodIn_r _ [462, 37, 40, 435, 436, 437, 5, 438, 386, 89, 90, 91, 193, 194, 195, 196, 101, 24, 92, 93, 94, 95, 96, 439, 440, 441, 442, 41, 42, 43, 39, 443, 444, 445, 446, 201, 38, 447, 448, 449, 450, 197, 198, 199, 200, 30, 29, 27, 28, 202, 203, 204, 205, 26, 206, 207, 208, 209, 210, 211, 212, 213, 214, 36, 31, 34, 32, 35, 215, 524, 525, 526, 527, 528, 529, 530, 531, 532, 533, 534, 535, 536, 537, 538, 539, 540, 541, 542, 543, 544, 545, 546, 547, 548] (by decide +kernel) (by decide +kernel)
set_option maxRecDepth 20000 in
theorem gL_law_X5_once : GoodIn wsL_law (wsV RL 137 RX5 yX5_once wsX5_once) := goodIn_app (goodIn_of _ (by decide +kernel)) ggL_law_X5_once
set_option maxRecDepth 20000 in
theorem ggL_law_L_tells : GoodIn wsL_law wsL_tells := goodIn_ca (goodIn_ca (goodIn_r _ [465, 120, 48, 466, 467, 468, 2, 469, 470, 396, 397, 398, 399, 130, 131, 18, 57, 58, 59, 60, 61, 418, 419, 420, 360, 421, 371, 370, 422, 423, 424, 369, 425, 381, 378, 426, 427, 428, 429, 430, 379, 380, 516, 517, 518, 519, 520, 521, 522, 523, 563, 564, 565, 566, 567, 568, 569, 570, 571] (by decide +kernel) (by decide +kernel)) (goodIn_sub (fun _ h => List.mem_append_right _ h) (by decide +kernel))) (goodIn_sub (fun _ h => List.mem_append_left _ (List.mem_append_left _ (List.mem_append_right _ h))) (by decide +kernel))
set_option maxRecDepth 20000 in
theorem gL_law_L_tells : GoodIn wsL_law (va_wsS RL 138 yL_tells wsL_tells) := goodIn_app (goodIn_of _ (by decide +kernel)) ggL_law_L_tells
set_option maxRecDepth 20000 in
theorem ggL_law_X5_tells : GoodIn wsL_law wsX5_tells := goodIn_r _ [474, 475, 435, 436, 437, 5, 438, 386, 89, 90, 91, 92, 93, 94, 95, 96, 447, 448, 449, 450, 40, 41, 101, 42, 43, 524, 525, 526, 527, 528, 529, 530, 531, 532, 533, 534, 535, 536, 537, 538, 539, 540, 541, 542, 543, 544, 545, 546, 547, 548] (by decide +kernel) (by decide +kernel)
set_option maxRecDepth 20000 in
theorem gL_law_X5_tells : GoodIn wsL_law (wsV RL 140 RX5 yX5_tells wsX5_tells) := goodIn_app (goodIn_of _ (by decide +kernel)) ggL_law_X5_tells
set_option maxRecDepth 20000 in
theorem ggL_law_L_pass : GoodIn wsL_law wsL_pass := goodIn_ca (goodIn_ca (goodIn_r _ [478, 48, 49, 479, 480, 481, 2, 482, 65, 66, 470, 149, 168, 57, 58, 59, 60, 61, 483, 484, 485, 486, 487, 488, 489, 490, 14, 257, 135, 140, 141, 142, 56, 143, 78, 144, 145, 146, 147, 148, 125, 150, 151, 152, 153, 75, 73, 154, 155, 156, 157, 76, 158, 159, 160, 161, 77, 79, 74, 162, 163, 164, 165, 16, 166, 167, 169, 170, 171, 172, 173, 174, 175, 176, 177, 178, 179, 180, 181, 182, 183, 184, 491, 492, 493, 494, 495, 496, 497, 498, 499, 18, 413, 414, 415, 416, 395, 403, 417, 418, 419, 420, 360, 421, 371, 370, 422, 423, 424, 369, 425, 381, 378, 426, 427, 428, 429, 430, 379, 380, 516, 517, 518, 519, 520, 521, 522, 523, 549, 550, 551, 552, 553, 554, 555, 556, 557, 558, 559, 560, 561, 562, 563, 564, 565, 566, 567, 568, 569, 570, 571] (by decide +kernel) (by decide +kernel)) (goodIn_sub (fun _ h => List.mem_append_left _ (List.mem_append_right _ h)) (by decide +kernel))) (goodIn_sub (fun _ h => List.mem_append_left _ (List.mem_append_left _ (List.mem_append_right _ h))) (by decide +kernel))
set_option maxRecDepth 20000 in
theorem gL_law_L_pass : GoodIn wsL_law (va_wsS RL 141 yL_pass wsL_pass) := goodIn_app (goodIn_of _ (by decide +kernel)) ggL_law_L_pass
set_option maxRecDepth 20000 in
theorem ggL_law_X5_pass : GoodIn wsL_law wsX5_pass := goodIn_r _ [503, 201, 475, 215, 89, 90, 5, 91, 92, 93, 94, 95, 96, 504, 505, 506, 507, 88, 28, 101, 214, 34, 33, 386, 197, 198, 199, 200, 30, 29, 27, 202, 203, 204, 205, 26, 206, 207, 208, 209, 210, 211, 212, 213, 36, 31, 32, 35, 443, 444, 445, 446, 39, 37, 38, 447, 448, 449, 450, 40, 41, 42, 43, 524, 525, 526, 527, 528, 529, 530, 531, 532, 533, 534, 535, 536, 537, 538, 539, 540, 541, 542, 543, 544, 545, 546, 547, 548] (by decide +kernel) (by decide +kernel)
set_option maxRecDepth 20000 in
theorem gL_law_X5_pass : GoodIn wsL_law (wsV RL 143 RX5 yX5_pass wsX5_pass) := goodIn_app (goodIn_of _ (by decide +kernel)) ggL_law_X5_pass
set_option maxRecDepth 20000 in
theorem ggL_law_X4_clock : GoodIn wsL_law wsX4_clock := goodIn_r _ [511, 149, 516, 517, 518, 519, 520, 521, 522, 523] (by decide +kernel) (by decide +kernel)
set_option maxRecDepth 20000 in
theorem gL_law_X4_clock : GoodIn wsL_law (wsV RL 144 RX4 yX4_clock wsX4_clock) := goodIn_app (goodIn_of _ (by decide +kernel)) ggL_law_X4_clock
set_option maxRecDepth 20000 in
theorem ggL_law_X5_clock : GoodIn wsL_law wsX5_clock := goodIn_r _ [515, 96, 201, 524, 525, 526, 527, 528, 529, 530, 531, 532, 533, 534, 535, 536, 537, 538, 539, 540, 541, 542, 543, 544, 545, 546, 547, 548] (by decide +kernel) (by decide +kernel)
set_option maxRecDepth 20000 in
theorem gL_law_X5_clock : GoodIn wsL_law (wsV RL 147 RX5 yX5_clock wsX5_clock) := goodIn_app (goodIn_of _ (by decide +kernel)) ggL_law_X5_clock
