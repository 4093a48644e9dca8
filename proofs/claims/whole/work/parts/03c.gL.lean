set_option maxRecDepth 20000 in
theorem ggL_allow_X3_allow : GoodIn wsL_allow wsX3_allow := goodIn_ca (goodIn_ca (goodIn_r _ [7, 8, 9, 10, 6, 11, 12, 13, 14, 15, 16, 17, 18, 19, 20, 21, 22, 23, 24, 25] (by decide +kernel) (by decide +kernel)) (goodIn_sub (fun _ h => List.mem_cons_of_mem _ (List.mem_append_left _ (List.mem_append_right _ h))) (by decide +kernel))) (goodIn_sub (fun _ h => List.mem_cons_of_mem _ (List.mem_append_right _ h)) (by decide +kernel))
set_option maxRecDepth 20000 in
theorem gL_allow_X3_allow : GoodIn wsL_allow (wsV RL 7 RX3 yX3_allow wsX3_allow) := goodIn_app (goodIn_of _ (by decide +kernel)) ggL_allow_X3_allow
set_option maxRecDepth 20000 in
theorem ggL_setImage_X3_setImage : GoodIn wsL_setImage wsX3_setImage := goodIn_ca (goodIn_ca (goodIn_r _ [7, 8, 9, 10, 6, 11, 12, 13, 14, 15, 16, 17, 18, 19, 20, 21, 22, 23, 24, 25, 26, 27, 28, 29, 30, 31, 32, 33, 34, 35, 36, 37, 38, 39, 40, 41, 42, 43, 44, 45, 46, 47, 48, 49, 50, 51, 52, 53, 54, 55, 56, 57, 58] (by decide +kernel) (by decide +kernel)) (goodIn_sub (fun _ h => List.mem_cons_of_mem _ (List.mem_append_left _ (List.mem_append_right _ h))) (by decide +kernel))) (goodIn_sub (fun _ h => List.mem_cons_of_mem _ (List.mem_append_right _ h)) (by decide +kernel))
set_option maxRecDepth 20000 in
theorem gL_setImage_X3_setImage : GoodIn wsL_setImage (wsV RL 17 RX3 yX3_setImage wsX3_setImage) := goodIn_app (goodIn_of _ (by decide +kernel)) ggL_setImage_X3_setImage
set_option maxRecDepth 20000 in
theorem ggL_setDelta_X3_setDelta : GoodIn wsL_setDelta wsX3_setDelta := goodIn_ca (goodIn_ca (goodIn_r _ [7, 8, 9, 10, 11, 12, 6, 13, 14, 15, 16, 17, 18, 19, 20, 21, 22, 23, 24, 25, 26, 27, 28, 29, 30, 31, 32, 33, 34, 35, 36, 37, 38, 39, 40, 41, 42, 43, 44, 45, 46, 47, 48, 49, 50, 51, 52, 53, 54, 55, 56, 57, 58] (by decide +kernel) (by decide +kernel)) (goodIn_sub (fun _ h => List.mem_cons_of_mem _ (List.mem_append_left _ (List.mem_append_right _ h))) (by decide +kernel))) (goodIn_sub (fun _ h => List.mem_cons_of_mem _ (List.mem_append_right _ h)) (by decide +kernel))
set_option maxRecDepth 20000 in
theorem gL_setDelta_X3_setDelta : GoodIn wsL_setDelta (wsV RL 20 RX3 yX3_setDelta wsX3_setDelta) := goodIn_app (goodIn_of _ (by decide +kernel)) ggL_setDelta_X3_setDelta
set_option maxRecDepth 20000 in
theorem ggL_size_X3_size : GoodIn wsL_size wsX3_size := goodIn_ca (goodIn_r _ [6, 7, 8, 9, 5, 10, 11, 12, 13, 14, 15, 16, 17, 18, 19, 20, 21, 22, 23, 24, 25, 26, 27, 28, 29, 30, 31, 32, 33, 34, 35, 36, 37, 38] (by decide +kernel) (by decide +kernel)) (goodIn_sub (fun _ h => List.mem_cons_of_mem _ (List.mem_append_right _ h)) (by decide +kernel))
set_option maxRecDepth 20000 in
theorem gL_size_X3_size : GoodIn wsL_size (wsV RL 24 RX3 yX3_size wsX3_size) := goodIn_app (goodIn_of _ (by decide +kernel)) ggL_size_X3_size
set_option maxRecDepth 20000 in
theorem ggL_sizeByWays_X3_sizeByWays : GoodIn wsL_sizeByWays wsX3_sizeByWays := goodIn_ca (goodIn_r _ [6, 7, 8, 9, 5, 10, 11, 12, 13, 14, 15, 16, 17, 18, 19, 20, 21, 22, 23, 24, 25, 26, 27, 28, 29, 30, 31, 32, 33, 34, 35, 36, 37, 38, 39, 40, 41, 42, 43] (by decide +kernel) (by decide +kernel)) (goodIn_sub (fun _ h => List.mem_cons_of_mem _ (List.mem_append_right _ h)) (by decide +kernel))
set_option maxRecDepth 20000 in
theorem gL_sizeByWays_X3_sizeByWays : GoodIn wsL_sizeByWays (wsV RL 27 RX3 yX3_sizeByWays wsX3_sizeByWays) := goodIn_app (goodIn_of _ (by decide +kernel)) ggL_sizeByWays_X3_sizeByWays
set_option maxRecDepth 20000 in
theorem ggL_addDevice_X3_addDevice : GoodIn wsL_addDevice wsX3_addDevice := goodIn_ca (goodIn_ca (goodIn_r _ [7, 8, 9, 10, 11, 12, 13, 14, 15, 16, 17, 18, 19, 6, 20, 21, 22, 23, 24, 25, 26, 27, 28, 29, 30, 31, 32, 33, 34, 35, 36, 37, 38, 39] (by decide +kernel) (by decide +kernel)) (goodIn_sub (fun _ h => List.mem_cons_of_mem _ (List.mem_append_left _ (List.mem_append_right _ h))) (by decide +kernel))) (goodIn_sub (fun _ h => List.mem_cons_of_mem _ (List.mem_append_right _ h)) (by decide +kernel))
set_option maxRecDepth 20000 in
theorem gL_addDevice_X3_addDevice : GoodIn wsL_addDevice (wsV RL 30 RX3 yX3_addDevice wsX3_addDevice) := goodIn_app (goodIn_of _ (by decide +kernel)) ggL_addDevice_X3_addDevice
set_option maxRecDepth 20000 in
theorem ggL_charge_X3_charge : GoodIn wsL_charge wsX3_charge := goodIn_ca (goodIn_ca (goodIn_r _ [7, 8, 9, 10, 11, 6, 12, 13, 14, 15, 16, 17, 18, 19, 20, 21, 22, 23, 24, 25, 26, 27, 28, 29, 30, 31, 32, 33, 34, 35, 36, 37] (by decide +kernel) (by decide +kernel)) (goodIn_sub (fun _ h => List.mem_cons_of_mem _ (List.mem_append_left _ (List.mem_append_right _ h))) (by decide +kernel))) (goodIn_sub (fun _ h => List.mem_cons_of_mem _ (List.mem_append_right _ h)) (by decide +kernel))
set_option maxRecDepth 20000 in
theorem gL_charge_X3_charge : GoodIn wsL_charge (wsV RL 35 RX3 yX3_charge wsX3_charge) := goodIn_app (goodIn_of _ (by decide +kernel)) ggL_charge_X3_charge
set_option maxRecDepth 20000 in
theorem ggL_setWindow_X3_setWindow : GoodIn wsL_setWindow wsX3_setWindow := goodIn_ca (goodIn_ca (goodIn_r _ [7, 8, 9, 10, 11, 12, 6, 13, 14, 15, 16, 17, 18, 19, 20, 21, 22, 23, 24, 25, 26, 27, 28, 29, 30, 31, 32, 33, 34, 35, 36, 37, 38] (by decide +kernel) (by decide +kernel)) (goodIn_sub (fun _ h => List.mem_cons_of_mem _ (List.mem_append_left _ (List.mem_append_right _ h))) (by decide +kernel))) (goodIn_sub (fun _ h => List.mem_cons_of_mem _ (List.mem_append_right _ h)) (by decide +kernel))
set_option maxRecDepth 20000 in
theorem gL_setWindow_X3_setWindow : GoodIn wsL_setWindow (wsV RL 38 RX3 yX3_setWindow wsX3_setWindow) := goodIn_app (goodIn_of _ (by decide +kernel)) ggL_setWindow_X3_setWindow
set_option maxRecDepth 20000 in
theorem ggL_report_X3_report : GoodIn wsL_report wsX3_report := goodIn_ca (goodIn_ca (goodIn_r _ [7, 8, 9, 10, 11, 12, 13, 14, 15, 16, 6, 17, 18, 19, 20, 21, 22, 23, 24, 25, 26, 27, 28, 29, 30, 31, 32, 33, 34, 35, 36, 37, 38, 39, 40, 41, 42, 43, 44, 45, 46, 47, 48, 49, 50, 51, 52, 53, 54, 55, 56, 57, 58, 59, 60, 61, 62, 63, 64, 65, 66, 67, 68, 69, 70, 71, 72, 73, 74, 75, 76, 77, 78, 79, 80, 81] (by decide +kernel) (by decide +kernel)) (goodIn_sub (fun _ h => List.mem_cons_of_mem _ (List.mem_append_left _ (List.mem_append_right _ h))) (by decide +kernel))) (goodIn_sub (fun _ h => List.mem_cons_of_mem _ (List.mem_append_right _ h)) (by decide +kernel))
set_option maxRecDepth 20000 in
theorem gL_report_X3_report : GoodIn wsL_report (wsV RL 42 RX3 yX3_report wsX3_report) := goodIn_app (goodIn_of _ (by decide +kernel)) ggL_report_X3_report
set_option maxRecDepth 20000 in
theorem ggL_state_X3_state : GoodIn wsL_state wsX3_state := goodIn_ca (goodIn_r _ [6, 7, 8, 9, 10, 5, 11, 12, 13, 14, 15, 16, 17, 18, 19, 20, 21, 22, 23, 24, 25, 26, 27, 28, 29, 30, 31] (by decide +kernel) (by decide +kernel)) (goodIn_sub (fun _ h => List.mem_cons_of_mem _ (List.mem_append_right _ h)) (by decide +kernel))
set_option maxRecDepth 20000 in
theorem gL_state_X3_state : GoodIn wsL_state (wsV RL 46 RX3 yX3_state wsX3_state) := goodIn_app (goodIn_of _ (by decide +kernel)) ggL_state_X3_state
set_option maxRecDepth 20000 in
theorem ggL_version_X3_version : GoodIn wsL_version wsX3_version := goodIn_ca (goodIn_r _ [6, 7, 8, 9, 10, 5, 11, 12, 13, 14, 15, 16, 17, 18, 19, 20, 21, 22, 23, 24, 25, 26, 27, 28, 29, 30, 31] (by decide +kernel) (by decide +kernel)) (goodIn_sub (fun _ h => List.mem_cons_of_mem _ (List.mem_append_right _ h)) (by decide +kernel))
set_option maxRecDepth 20000 in
theorem gL_version_X3_version : GoodIn wsL_version (wsV RL 50 RX3 yX3_version wsX3_version) := goodIn_app (goodIn_of _ (by decide +kernel)) ggL_version_X3_version
set_option maxRecDepth 20000 in
theorem ggL_campaignOf_X3_campaignOf : GoodIn wsL_campaignOf wsX3_campaignOf := goodIn_ca (goodIn_r _ [6, 7, 8, 9, 10, 5, 11, 12, 13, 14, 15, 16, 17, 18, 19, 20, 21, 22, 23, 24, 25, 26, 27, 28, 29, 30, 31] (by decide +kernel) (by decide +kernel)) (goodIn_sub (fun _ h => List.mem_cons_of_mem _ (List.mem_append_right _ h)) (by decide +kernel))
set_option maxRecDepth 20000 in
theorem gL_campaignOf_X3_campaignOf : GoodIn wsL_campaignOf (wsV RL 53 RX3 yX3_campaignOf wsX3_campaignOf) := goodIn_app (goodIn_of _ (by decide +kernel)) ggL_campaignOf_X3_campaignOf
set_option maxRecDepth 20000 in
theorem ggL_toGo_X3_toGo : GoodIn wsL_toGo wsX3_toGo := goodIn_ca (goodIn_r _ [6, 7, 8, 9, 10, 5, 11, 12, 13, 14, 15, 16, 17, 18, 19, 20, 21, 22, 23, 24, 25, 26, 27, 28, 29, 30, 31] (by decide +kernel) (by decide +kernel)) (goodIn_sub (fun _ h => List.mem_cons_of_mem _ (List.mem_append_right _ h)) (by decide +kernel))
set_option maxRecDepth 20000 in
theorem gL_toGo_X3_toGo : GoodIn wsL_toGo (wsV RL 56 RX3 yX3_toGo wsX3_toGo) := goodIn_app (goodIn_of _ (by decide +kernel)) ggL_toGo_X3_toGo
set_option maxRecDepth 20000 in
theorem ggL_battery_X3_battery : GoodIn wsL_battery wsX3_battery := goodIn_ca (goodIn_r _ [6, 7, 8, 9, 10, 5, 11, 12, 13, 14, 15, 16, 17, 18, 19, 20, 21, 22, 23, 24, 25, 26, 27, 28, 29, 30, 31] (by decide +kernel) (by decide +kernel)) (goodIn_sub (fun _ h => List.mem_cons_of_mem _ (List.mem_append_right _ h)) (by decide +kernel))
set_option maxRecDepth 20000 in
theorem gL_battery_X3_battery : GoodIn wsL_battery (wsV RL 59 RX3 yX3_battery wsX3_battery) := goodIn_app (goodIn_of _ (by decide +kernel)) ggL_battery_X3_battery
set_option maxRecDepth 20000 in
theorem ggL_begin_X3_begin : GoodIn wsL_begin wsX3_begin := goodIn_ca (goodIn_ca (goodIn_ca (goodIn_r _ [8, 9, 10, 11, 12, 13, 14, 15, 16, 17, 18, 19, 7, 20, 21, 22, 23, 24, 25, 26, 27, 28, 29, 30, 31, 32, 33, 34, 35, 36, 37, 38, 39, 40, 41, 42, 43, 44, 45, 46, 47, 48, 49, 50, 51, 52, 53, 54, 55] (by decide +kernel) (by decide +kernel)) (goodIn_sub (fun _ h => List.mem_cons_of_mem _ (List.mem_append_left _ (List.mem_append_left _ (List.mem_append_right _ h)))) (by decide +kernel))) (goodIn_sub (fun _ h => List.mem_cons_of_mem _ (List.mem_append_left _ (List.mem_append_right _ h))) (by decide +kernel))) (goodIn_sub (fun _ h => List.mem_cons_of_mem _ (List.mem_append_right _ h)) (by decide +kernel))
set_option maxRecDepth 20000 in
theorem gL_begin_X3_begin : GoodIn wsL_begin (wsV RL 62 RX3 yX3_begin wsX3_begin) := goodIn_app (goodIn_of _ (by decide +kernel)) ggL_begin_X3_begin
set_option maxRecDepth 20000 in
theorem ggL_setRules_X3_setRules : GoodIn wsL_setRules wsX3_setRules := goodIn_ca (goodIn_ca (goodIn_r _ [7, 8, 9, 10, 11, 12, 13, 14, 6, 15, 16, 17, 18, 19, 20, 21, 22, 23, 24, 25, 26, 27, 28, 29, 30, 31, 32, 33, 34, 35, 36, 37, 38, 39, 40, 41, 42, 43, 44, 45, 46, 47, 48] (by decide +kernel) (by decide +kernel)) (goodIn_sub (fun _ h => List.mem_cons_of_mem _ (List.mem_append_left _ (List.mem_append_right _ h))) (by decide +kernel))) (goodIn_sub (fun _ h => List.mem_cons_of_mem _ (List.mem_append_right _ h)) (by decide +kernel))
set_option maxRecDepth 20000 in
theorem gL_setRules_X3_setRules : GoodIn wsL_setRules (wsV RL 66 RX3 yX3_setRules wsX3_setRules) := goodIn_app (goodIn_of _ (by decide +kernel)) ggL_setRules_X3_setRules
set_option maxRecDepth 20000 in
theorem ggL_toggle_X3_toggle : GoodIn wsL_toggle wsX3_toggle := goodIn_ca (goodIn_r _ [6, 7, 8, 9, 10, 11, 5, 12, 13, 14, 15, 16, 17, 18, 19, 20, 21, 22, 23, 24, 25, 26, 27, 28, 29, 30, 31, 32, 33, 34, 35, 36, 37, 38, 39, 40, 41, 42, 43, 44, 45, 46, 47, 48] (by decide +kernel) (by decide +kernel)) (goodIn_sub (fun _ h => List.mem_cons_of_mem _ (List.mem_append_right _ h)) (by decide +kernel))
set_option maxRecDepth 20000 in
theorem gL_toggle_X3_toggle : GoodIn wsL_toggle (wsV RL 70 RX3 yX3_toggle wsX3_toggle) := goodIn_app (goodIn_of _ (by decide +kernel)) ggL_toggle_X3_toggle
set_option maxRecDepth 20000 in
theorem ggL_isActive_X3_isActive : GoodIn wsL_isActive wsX3_isActive := goodIn_ca (goodIn_r _ [6, 7, 8, 9, 10, 5, 11, 12, 13, 14, 15, 16, 17, 18, 19, 20, 21, 22, 23, 24, 25, 26, 27, 28, 29, 30, 31, 32, 33, 34, 35, 36, 37, 38, 39] (by decide +kernel) (by decide +kernel)) (goodIn_sub (fun _ h => List.mem_cons_of_mem _ (List.mem_append_right _ h)) (by decide +kernel))
set_option maxRecDepth 20000 in
theorem gL_isActive_X3_isActive : GoodIn wsL_isActive (wsV RL 74 RX3 yX3_isActive wsX3_isActive) := goodIn_app (goodIn_of _ (by decide +kernel)) ggL_isActive_X3_isActive
set_option maxRecDepth 20000 in
theorem ggL_ring_X3_ring : GoodIn wsL_ring wsX3_ring := goodIn_ca (goodIn_r _ [6, 7, 8, 9, 10, 5, 11, 12, 13, 14, 15, 16, 17, 18, 19, 20, 21, 22, 23, 24, 25, 26, 27, 28, 29, 30, 31, 32, 33, 34, 35, 36, 37, 38, 39] (by decide +kernel) (by decide +kernel)) (goodIn_sub (fun _ h => List.mem_cons_of_mem _ (List.mem_append_right _ h)) (by decide +kernel))
set_option maxRecDepth 20000 in
theorem gL_ring_X3_ring : GoodIn wsL_ring (wsV RL 77 RX3 yX3_ring wsX3_ring) := goodIn_app (goodIn_of _ (by decide +kernel)) ggL_ring_X3_ring
set_option maxRecDepth 20000 in
theorem ggL_reports_X3_reports : GoodIn wsL_reports wsX3_reports := goodIn_ca (goodIn_r _ [6, 7, 8, 9, 10, 5, 11, 12, 13, 14, 15, 16, 17, 18, 19, 20, 21, 22, 23, 24, 25, 26, 27, 28, 29, 30, 31, 32, 33, 34, 35, 36, 37, 38, 39] (by decide +kernel) (by decide +kernel)) (goodIn_sub (fun _ h => List.mem_cons_of_mem _ (List.mem_append_right _ h)) (by decide +kernel))
set_option maxRecDepth 20000 in
theorem gL_reports_X3_reports : GoodIn wsL_reports (wsV RL 80 RX3 yX3_reports wsX3_reports) := goodIn_app (goodIn_of _ (by decide +kernel)) ggL_reports_X3_reports
set_option maxRecDepth 20000 in
theorem ggL_eligible_X3_eligible : GoodIn wsL_eligible wsX3_eligible := goodIn_ca (goodIn_r _ [6, 7, 8, 9, 10, 11, 5, 12, 13, 14, 15, 16, 17, 18, 19, 20, 21, 22, 23, 24, 25, 26, 27, 28, 29, 30, 31, 32, 33, 34, 35, 36, 37, 38, 39, 40, 41, 42, 43, 44, 45, 46, 47, 48, 49, 50, 51, 52, 53, 54, 55, 56, 57, 58, 59, 60, 61, 62, 63, 64, 65, 66, 67, 68, 69, 70, 71, 72, 73, 74, 75, 76, 77, 78, 79, 80, 81, 82, 83, 84, 85, 86, 87, 88, 89, 90, 91, 92, 93, 94, 95, 96, 97, 98, 99, 100, 101, 102, 103, 104, 105, 106] (by decide +kernel) (by decide +kernel)) (goodIn_sub (fun _ h => List.mem_cons_of_mem _ (List.mem_append_right _ h)) (by decide +kernel))
set_option maxRecDepth 20000 in
theorem gL_eligible_X3_eligible : GoodIn wsL_eligible (wsV RL 83 RX3 yX3_eligible wsX3_eligible) := goodIn_app (goodIn_of _ (by decide +kernel)) ggL_eligible_X3_eligible
set_option maxRecDepth 20000 in
theorem ggL_pass_X3_pass : GoodIn wsL_pass wsX3_pass := goodIn_ca (goodIn_r _ [6, 7, 8, 5, 9, 10, 11, 12, 13, 14, 15, 16, 17, 18, 19, 20, 21, 22, 23, 24, 25, 26, 27, 28, 29, 30, 31, 32, 33, 34, 35, 36, 37, 38, 39, 40, 41, 42, 43, 44, 45, 46, 47, 48, 49, 50, 51, 52, 53, 54, 55, 56, 57, 58, 59, 60, 61, 62, 63, 64, 65, 66, 67, 68, 69, 70, 71, 72, 73, 74, 75, 76, 77, 78, 79, 80, 81, 82, 83, 84, 85, 86, 87, 88, 89, 90, 91, 92, 93, 94, 95, 96, 97, 98, 99, 100, 101, 102, 103, 104, 105, 106, 107, 108, 109, 110, 111, 112, 113, 114, 115, 116, 117, 118, 119, 120, 121, 122, 123, 124, 125, 126, 127, 128, 129, 130, 131, 132, 133, 134, 135, 136, 137] (by decide +kernel) (by decide +kernel)) (goodIn_sub (fun _ h => List.mem_cons_of_mem _ (List.mem_append_right _ h)) (by decide +kernel))
set_option maxRecDepth 20000 in
theorem gL_pass_X3_pass : GoodIn wsL_pass (wsV RL 86 RX3 yX3_pass wsX3_pass) := goodIn_app (goodIn_of _ (by decide +kernel)) ggL_pass_X3_pass
set_option maxRecDepth 20000 in
theorem ggL_law_X3_init : GoodIn wsL_law wsX3_init := goodIn_r _ [9, 10, 11, 12, 13, 14, 15, 16, 17, 18, 19, 20, 21, 22, 23, 24, 25, 26, 27, 28, 29, 30, 31, 32, 33, 34, 35, 36, 37, 38, 39, 40, 41, 42, 43, 44, 45, 46, 47, 48, 49, 50, 51, 52, 53, 54, 55, 56, 57, 58, 59, 60, 61, 62, 63, 64, 65, 66, 67, 68, 69, 70, 71, 72, 73, 74, 75, 76, 77, 78, 79, 80, 81, 82, 83, 84, 85, 86, 87, 88, 89, 569, 570, 571, 572, 573, 574, 575, 603, 604, 605, 606, 607, 608, 609, 610, 611, 612, 613, 614, 615, 616, 617, 618, 619, 620, 621, 622, 623, 624, 625, 626, 627, 628] (by decide +kernel) (by decide +kernel)
set_option maxRecDepth 20000 in
theorem gL_law_X3_init : GoodIn wsL_law (wsX3_init) := ggL_law_X3_init
set_option maxRecDepth 20000 in
theorem ggL_law_X4_init : GoodIn wsL_law wsX4_init := goodIn_r _ [92, 93, 11, 12, 13, 94, 95, 96, 97, 98, 99, 100, 101, 102, 103, 104, 105, 106, 107, 108, 109, 110, 111, 112, 113, 114, 115, 116, 117, 576, 577, 578, 579, 580, 581, 582, 583, 584, 585, 586, 587, 588, 589, 590, 591, 592, 593, 594, 595, 596, 597, 598, 599, 600, 601, 602] (by decide +kernel) (by decide +kernel)
set_option maxRecDepth 20000 in
theorem gL_law_X4_init : GoodIn wsL_law (wsX4_init) := ggL_law_X4_init
set_option maxRecDepth 20000 in
theorem ggL_law_L_allow : GoodIn wsL_law wsL_allow := goodIn_ca (goodIn_ca (goodIn_r _ [121, 122, 123, 124, 125, 126, 2, 127, 14, 128, 129, 130, 131, 132, 133, 134, 135, 136, 137, 569, 570, 571, 572, 573, 574, 575] (by decide +kernel) (by decide +kernel)) (goodIn_sub (fun _ h => List.mem_append_left _ (List.mem_append_left _ (List.mem_append_right _ h))) (by decide +kernel))) (goodIn_sub (fun _ h => List.mem_append_left _ (List.mem_append_right _ h)) (by decide +kernel))
set_option maxRecDepth 20000 in
theorem gL_law_L_allow : GoodIn wsL_law (va_wsS RL 93 yL_allow wsL_allow) := goodIn_app (goodIn_of _ (by decide +kernel)) ggL_law_L_allow
set_option maxRecDepth 20000 in
theorem ggL_law_X4_allow : GoodIn wsL_law wsX4_allow := goodIn_r _ [141, 94, 142, 143, 5, 144, 145, 146, 147, 148, 149, 150, 151, 152, 576, 577, 578, 579, 580, 581, 582, 583, 584, 585, 586, 587, 588, 589, 590, 591, 592, 593, 594, 595, 596, 597, 598, 599, 600, 601, 602] (by decide +kernel) (by decide +kernel)
set_option maxRecDepth 20000 in
theorem gL_law_X4_allow : GoodIn wsL_law (wsV RL 98 RX4 yX4_allow wsX4_allow) := goodIn_app (goodIn_of _ (by decide +kernel)) ggL_law_X4_allow
set_option maxRecDepth 20000 in
theorem ggL_law_X4_thrown : GoodIn wsL_law wsX4_thrown := goodIn_r _ [156, 152, 576, 577, 578, 579, 580, 581, 582, 583, 584, 585, 586, 587, 588, 589, 590, 591, 592, 593, 594, 595, 596, 597, 598, 599, 600, 601, 602] (by decide +kernel) (by decide +kernel)
set_option maxRecDepth 20000 in
theorem gL_law_X4_thrown : GoodIn wsL_law (wsV RL 99 RX4 yX4_thrown wsX4_thrown) := goodIn_app (goodIn_of _ (by decide +kernel)) ggL_law_X4_thrown
set_option maxRecDepth 20000 in
theorem ggL_law_L_setImage : GoodIn wsL_law wsL_setImage := goodIn_ca (goodIn_ca (goodIn_r _ [159, 122, 123, 160, 161, 162, 2, 163, 18, 128, 129, 130, 131, 132, 164, 165, 166, 167, 133, 134, 135, 136, 137, 168, 169, 170, 17, 171, 34, 43, 44, 45, 46, 37, 36, 38, 47, 48, 49, 50, 51, 52, 53, 54, 55, 56, 57, 58, 569, 570, 571, 572, 573, 574, 575, 603, 604, 605, 606] (by decide +kernel) (by decide +kernel)) (goodIn_sub (fun _ h => List.mem_append_left _ (List.mem_append_left _ (List.mem_append_right _ h))) (by decide +kernel))) (goodIn_sub (fun _ h => List.mem_append_left _ (List.mem_append_right _ h)) (by decide +kernel))
set_option maxRecDepth 20000 in
theorem gL_law_L_setImage : GoodIn wsL_law (va_wsS RL 103 yL_setImage wsL_setImage) := goodIn_app (goodIn_of _ (by decide +kernel)) ggL_law_L_setImage
set_option maxRecDepth 20000 in
theorem ggL_law_X4_setImage : GoodIn wsL_law wsX4_setImage := goodIn_r _ [175, 95, 142, 143, 5, 144, 145, 146, 147, 176, 177, 178, 179, 148, 149, 150, 151, 152, 576, 577, 578, 579, 580, 581, 582, 583, 584, 585, 586, 587, 588, 589, 590, 591, 592, 593, 594, 595, 596, 597, 598, 599, 600, 601, 602] (by decide +kernel) (by decide +kernel)
set_option maxRecDepth 20000 in
theorem gL_law_X4_setImage : GoodIn wsL_law (wsV RL 105 RX4 yX4_setImage wsX4_setImage) := goodIn_app (goodIn_of _ (by decide +kernel)) ggL_law_X4_setImage
set_option maxRecDepth 20000 in
theorem ggL_law_L_setDelta : GoodIn wsL_law wsL_setDelta := goodIn_ca (goodIn_ca (goodIn_r _ [182, 122, 123, 183, 184, 185, 2, 186, 136, 137, 18, 128, 129, 130, 131, 132, 164, 165, 166, 167, 133, 134, 135, 187, 188, 189, 17, 190, 36, 43, 44, 45, 46, 37, 38, 47, 34, 48, 49, 50, 51, 52, 53, 54, 55, 56, 57, 58, 569, 570, 571, 572, 573, 574, 575, 603, 604, 605, 606] (by decide +kernel) (by decide +kernel)) (goodIn_sub (fun _ h => List.mem_append_left _ (List.mem_append_right _ h)) (by decide +kernel))) (goodIn_sub (fun _ h => List.mem_append_left _ (List.mem_append_left _ (List.mem_append_right _ h))) (by decide +kernel))
set_option maxRecDepth 20000 in
theorem gL_law_L_setDelta : GoodIn wsL_law (va_wsS RL 106 yL_setDelta wsL_setDelta) := goodIn_app (goodIn_of _ (by decide +kernel)) ggL_law_L_setDelta
set_option maxRecDepth 20000 in
theorem ggL_law_X4_setDelta : GoodIn wsL_law wsX4_setDelta := goodIn_r _ [194, 96, 142, 143, 5, 144, 145, 146, 147, 176, 177, 178, 179, 148, 149, 150, 151, 152, 576, 577, 578, 579, 580, 581, 582, 583, 584, 585, 586, 587, 588, 589, 590, 591, 592, 593, 594, 595, 596, 597, 598, 599, 600, 601, 602] (by decide +kernel) (by decide +kernel)
set_option maxRecDepth 20000 in
theorem gL_law_X4_setDelta : GoodIn wsL_law (wsV RL 109 RX4 yX4_setDelta wsX4_setDelta) := goodIn_app (goodIn_of _ (by decide +kernel)) ggL_law_X4_setDelta
set_option maxRecDepth 20000 in
theorem ggL_law_L_size : GoodIn wsL_law wsL_size := goodIn_ca (goodIn_r _ [197, 122, 198, 199, 200, 2, 201, 18, 128, 129, 130, 131, 132, 202, 203, 204, 17, 205, 37, 38, 48, 49, 50, 51, 206, 207, 208, 47, 569, 570, 571, 572, 573, 574, 575, 603, 604, 605, 606] (by decide +kernel) (by decide +kernel)) (goodIn_sub (fun _ h => List.mem_append_left _ (List.mem_append_left _ (List.mem_append_right _ h))) (by decide +kernel))
set_option maxRecDepth 20000 in
theorem gL_law_L_size : GoodIn wsL_law (va_wsS RL 110 yL_size wsL_size) := goodIn_app (goodIn_of _ (by decide +kernel)) ggL_law_L_size
set_option maxRecDepth 20000 in
theorem ggL_law_X4_size : GoodIn wsL_law wsX4_size := goodIn_r _ [212, 142, 143, 5, 144, 145, 146, 147, 148, 149, 150, 151, 152, 213, 214, 215, 216, 97, 95, 217, 96, 576, 577, 578, 579, 580, 581, 582, 583, 584, 585, 586, 587, 588, 589, 590, 591, 592, 593, 594, 595, 596, 597, 598, 599, 600, 601, 602] (by decide +kernel) (by decide +kernel)
set_option maxRecDepth 20000 in
theorem gL_law_X4_size : GoodIn wsL_law (wsV RL 112 RX4 yX4_size wsX4_size) := goodIn_app (goodIn_of _ (by decide +kernel)) ggL_law_X4_size
set_option maxRecDepth 20000 in
theorem ggL_law_L_sizeByWays : GoodIn wsL_law wsL_sizeByWays := goodIn_ca (goodIn_r _ [220, 122, 221, 222, 223, 2, 224, 18, 128, 129, 130, 131, 132, 225, 226, 227, 17, 228, 36, 34, 48, 49, 50, 51, 229, 230, 231, 47, 232, 233, 206, 207, 208, 569, 570, 571, 572, 573, 574, 575, 603, 604, 605, 606] (by decide +kernel) (by decide +kernel)) (goodIn_sub (fun _ h => List.mem_append_left _ (List.mem_append_left _ (List.mem_append_right _ h))) (by decide +kernel))
set_option maxRecDepth 20000 in
theorem gL_law_L_sizeByWays : GoodIn wsL_law (va_wsS RL 113 yL_sizeByWays wsL_sizeByWays) := goodIn_app (goodIn_of _ (by decide +kernel)) ggL_law_L_sizeByWays
set_option maxRecDepth 20000 in
theorem ggL_law_X4_sizeByWays : GoodIn wsL_law wsX4_sizeByWays := goodIn_r _ [237, 238, 210, 211, 5, 212, 142, 143, 144, 145, 146, 147, 148, 149, 150, 151, 152, 213, 214, 215, 216, 97, 95, 217, 96, 576, 577, 578, 579, 580, 581, 582, 583, 584, 585, 586, 587, 588, 589, 590, 591, 592, 593, 594, 595, 596, 597, 598, 599, 600, 601, 602] (by decide +kernel) (by decide +kernel)
set_option maxRecDepth 20000 in
theorem gL_law_X4_sizeByWays : GoodIn wsL_law (wsV RL 115 RX4 yX4_sizeByWays wsX4_sizeByWays) := goodIn_app (goodIn_of _ (by decide +kernel)) ggL_law_X4_sizeByWays
set_option maxRecDepth 20000 in
theorem ggL_law_L_addDevice : GoodIn wsL_law wsL_addDevice := goodIn_ca (goodIn_ca (goodIn_r _ [241, 122, 242, 243, 244, 245, 2, 246, 131, 132, 247, 248, 23, 14, 20, 249, 250, 251, 128, 129, 130, 252, 232, 233, 569, 570, 571, 572, 573, 574, 575, 607, 608, 609, 610, 611, 612, 613, 614, 615] (by decide +kernel) (by decide +kernel)) (goodIn_sub (fun _ h => List.mem_append_left _ (List.mem_append_left _ (List.mem_append_right _ h))) (by decide +kernel))) (goodIn_sub (fun _ h => List.mem_append_right _ h) (by decide +kernel))
set_option maxRecDepth 20000 in
theorem gL_law_L_addDevice : GoodIn wsL_law (va_wsS RL 116 yL_addDevice wsL_addDevice) := goodIn_app (goodIn_of _ (by decide +kernel)) ggL_law_L_addDevice
set_option maxRecDepth 20000 in
theorem ggL_law_X4_addDevice : GoodIn wsL_law wsX4_addDevice := goodIn_r _ [256, 257, 94, 98, 99, 100, 101, 102, 104, 145, 146, 5, 147, 142, 143, 144, 148, 149, 150, 151, 152, 576, 577, 578, 579, 580, 581, 582, 583, 584, 585, 586, 587, 588, 589, 590, 591, 592, 593, 594, 595, 596, 597, 598, 599, 600, 601, 602] (by decide +kernel) (by decide +kernel)
set_option maxRecDepth 20000 in
theorem gL_law_X4_addDevice : GoodIn wsL_law (wsV RL 118 RX4 yX4_addDevice wsX4_addDevice) := goodIn_app (goodIn_of _ (by decide +kernel)) ggL_law_X4_addDevice
set_option maxRecDepth 20000 in
theorem ggL_law_L_charge : GoodIn wsL_law wsL_charge := goodIn_ca (goodIn_ca (goodIn_r _ [260, 122, 123, 261, 262, 263, 2, 264, 265, 266, 267, 268, 269, 131, 132, 23, 20, 133, 134, 135, 136, 137, 607, 608, 609, 610, 611, 612, 613, 614, 615, 569, 570, 571, 572, 573, 574, 575] (by decide +kernel) (by decide +kernel)) (goodIn_sub (fun _ h => List.mem_append_left _ (List.mem_append_left _ (List.mem_append_right _ h))) (by decide +kernel))) (goodIn_sub (fun _ h => List.mem_append_left _ (List.mem_append_right _ h)) (by decide +kernel))
set_option maxRecDepth 20000 in
theorem gL_law_L_charge : GoodIn wsL_law (va_wsS RL 119 yL_charge wsL_charge) := goodIn_app (goodIn_of _ (by decide +kernel)) ggL_law_L_charge
set_option maxRecDepth 20000 in
theorem ggL_law_X4_charge : GoodIn wsL_law wsX4_charge := goodIn_r _ [273, 100, 274, 275, 276, 5, 277, 257, 145, 146, 147, 148, 149, 150, 151, 152, 576, 577, 578, 579, 580, 581, 582, 583, 584, 585, 586, 587, 588, 589, 590, 591, 592, 593, 594, 595, 596, 597, 598, 599, 600, 601, 602] (by decide +kernel) (by decide +kernel)
set_option maxRecDepth 20000 in
theorem gL_law_X4_charge : GoodIn wsL_law (wsV RL 121 RX4 yX4_charge wsX4_charge) := goodIn_app (goodIn_of _ (by decide +kernel)) ggL_law_X4_charge
set_option maxRecDepth 20000 in
theorem ggL_law_L_setWindow : GoodIn wsL_law wsL_setWindow := goodIn_ca (goodIn_ca (goodIn_r _ [280, 122, 123, 281, 282, 283, 2, 284, 285, 286, 266, 267, 268, 269, 131, 132, 23, 20, 133, 134, 135, 136, 137, 607, 608, 609, 610, 611, 612, 613, 614, 615, 569, 570, 571, 572, 573, 574, 575] (by decide +kernel) (by decide +kernel)) (goodIn_sub (fun _ h => List.mem_append_left _ (List.mem_append_left _ (List.mem_append_right _ h))) (by decide +kernel))) (goodIn_sub (fun _ h => List.mem_append_left _ (List.mem_append_right _ h)) (by decide +kernel))
set_option maxRecDepth 20000 in
theorem gL_law_L_setWindow : GoodIn wsL_law (va_wsS RL 122 yL_setWindow wsL_setWindow) := goodIn_app (goodIn_of _ (by decide +kernel)) ggL_law_L_setWindow
set_option maxRecDepth 20000 in
theorem ggL_law_X4_setWindow : GoodIn wsL_law wsX4_setWindow := goodIn_r _ [290, 101, 102, 274, 275, 276, 5, 277, 257, 145, 146, 147, 148, 149, 150, 151, 152, 576, 577, 578, 579, 580, 581, 582, 583, 584, 585, 586, 587, 588, 589, 590, 591, 592, 593, 594, 595, 596, 597, 598, 599, 600, 601, 602] (by decide +kernel) (by decide +kernel)
set_option maxRecDepth 20000 in
theorem gL_law_X4_setWindow : GoodIn wsL_law (wsV RL 125 RX4 yX4_setWindow wsX4_setWindow) := goodIn_app (goodIn_of _ (by decide +kernel)) ggL_law_X4_setWindow
set_option maxRecDepth 20000 in
theorem ggL_law_L_report : GoodIn wsL_law wsL_report := goodIn_ca (goodIn_ca (goodIn_r _ [293, 122, 242, 294, 295, 296, 2, 297, 247, 248, 298, 299, 300, 250, 266, 267, 268, 269, 131, 132, 23, 20, 301, 302, 303, 304, 22, 305, 306, 307, 308, 24, 309, 310, 311, 29, 312, 88, 313, 86, 87, 314, 315, 316, 317, 84, 82, 83, 85, 318, 319, 320, 321, 607, 608, 609, 610, 611, 612, 613, 614, 615, 616, 617, 618, 619, 620, 621, 622, 623, 624, 625, 626, 627, 628, 569, 570, 571, 572, 573, 574, 575] (by decide +kernel) (by decide +kernel)) (goodIn_sub (fun _ h => List.mem_append_right _ h) (by decide +kernel))) (goodIn_sub (fun _ h => List.mem_append_left _ (List.mem_append_left _ (List.mem_append_right _ h))) (by decide +kernel))
set_option maxRecDepth 20000 in
theorem gL_law_L_report : GoodIn wsL_law (va_wsS RL 126 yL_report wsL_report) := goodIn_app (goodIn_of _ (by decide +kernel)) ggL_law_L_report
set_option maxRecDepth 20000 in
theorem ggL_law_X4_report : GoodIn wsL_law wsX4_report := goodIn_r _ [325, 103, 104, 99, 106, 117, 115, 116, 274, 275, 276, 5, 277, 257, 145, 146, 147, 148, 149, 150, 151, 152, 326, 327, 328, 329, 110, 113, 114, 111, 576, 577, 578, 579, 580, 581, 582, 583, 584, 585, 586, 587, 588, 589, 590, 591, 592, 593, 594, 595, 596, 597, 598, 599, 600, 601, 602] (by decide +kernel) (by decide +kernel)
set_option maxRecDepth 20000 in
theorem gL_law_X4_report : GoodIn wsL_law (wsV RL 129 RX4 yX4_report wsX4_report) := goodIn_app (goodIn_of _ (by decide +kernel)) ggL_law_X4_report
set_option maxRecDepth 20000 in
theorem ggL_law_X3_devices : GoodIn wsL_law wsX3_devices := goodIn_r _ [333, 23, 569, 570, 571, 572, 573, 574, 575] (by decide +kernel) (by decide +kernel)
set_option maxRecDepth 20000 in
theorem gL_law_X3_devices : GoodIn wsL_law (wsV RL 130 RX3 yX3_devices wsX3_devices) := goodIn_app (goodIn_of _ (by decide +kernel)) ggL_law_X3_devices
set_option maxRecDepth 20000 in
theorem ggL_law_X4_devices : GoodIn wsL_law wsX4_devices := goodIn_r _ [337, 257, 338, 339, 340, 5, 341, 152, 576, 577, 578, 579, 580, 581, 582, 583, 584, 585, 586, 587, 588, 589, 590, 591, 592, 593, 594, 595, 596, 597, 598, 599, 600, 601, 602] (by decide +kernel) (by decide +kernel)
set_option maxRecDepth 20000 in
theorem gL_law_X4_devices : GoodIn wsL_law (wsV RL 133 RX4 yX4_devices wsX4_devices) := goodIn_app (goodIn_of _ (by decide +kernel)) ggL_law_X4_devices
set_option maxRecDepth 20000 in
theorem ggL_law_L_state : GoodIn wsL_law wsL_state := goodIn_ca (goodIn_r _ [344, 122, 345, 346, 347, 2, 348, 298, 266, 267, 268, 269, 131, 132, 23, 20, 607, 608, 609, 610, 611, 612, 613, 614, 615, 569, 570, 571, 572, 573, 574, 575] (by decide +kernel) (by decide +kernel)) (goodIn_sub (fun _ h => List.mem_append_left _ (List.mem_append_left _ (List.mem_append_right _ h))) (by decide +kernel))
set_option maxRecDepth 20000 in
theorem gL_law_L_state : GoodIn wsL_law (va_wsS RL 134 yL_state wsL_state) := goodIn_app (goodIn_of _ (by decide +kernel)) ggL_law_L_state
set_option maxRecDepth 20000 in
theorem ggL_law_X4_state : GoodIn wsL_law wsX4_state := goodIn_r _ [352, 103, 353, 354, 355, 5, 356, 274, 275, 276, 277, 257, 145, 146, 147, 148, 149, 150, 151, 152, 576, 577, 578, 579, 580, 581, 582, 583, 584, 585, 586, 587, 588, 589, 590, 591, 592, 593, 594, 595, 596, 597, 598, 599, 600, 601, 602] (by decide +kernel) (by decide +kernel)
set_option maxRecDepth 20000 in
theorem gL_law_X4_state : GoodIn wsL_law (wsV RL 137 RX4 yX4_state wsX4_state) := goodIn_app (goodIn_of _ (by decide +kernel)) ggL_law_X4_state
set_option maxRecDepth 20000 in
theorem ggL_law_L_version : GoodIn wsL_law wsL_version := goodIn_ca (goodIn_r _ [359, 122, 360, 361, 362, 2, 363, 250, 266, 267, 268, 269, 131, 132, 23, 20, 607, 608, 609, 610, 611, 612, 613, 614, 615, 569, 570, 571, 572, 573, 574, 575] (by decide +kernel) (by decide +kernel)) (goodIn_sub (fun _ h => List.mem_append_left _ (List.mem_append_left _ (List.mem_append_right _ h))) (by decide +kernel))
set_option maxRecDepth 20000 in
theorem gL_law_L_version : GoodIn wsL_law (va_wsS RL 138 yL_version wsL_version) := goodIn_app (goodIn_of _ (by decide +kernel)) ggL_law_L_version
set_option maxRecDepth 20000 in
theorem ggL_law_X4_version : GoodIn wsL_law wsX4_version := goodIn_r _ [367, 99, 353, 354, 355, 5, 356, 274, 275, 276, 277, 257, 145, 146, 147, 148, 149, 150, 151, 152, 576, 577, 578, 579, 580, 581, 582, 583, 584, 585, 586, 587, 588, 589, 590, 591, 592, 593, 594, 595, 596, 597, 598, 599, 600, 601, 602] (by decide +kernel) (by decide +kernel)
set_option maxRecDepth 20000 in
theorem gL_law_X4_version : GoodIn wsL_law (wsV RL 140 RX4 yX4_version wsX4_version) := goodIn_app (goodIn_of _ (by decide +kernel)) ggL_law_X4_version
set_option maxRecDepth 20000 in
theorem ggL_law_L_campaignOf : GoodIn wsL_law wsL_campaignOf := goodIn_ca (goodIn_r _ [370, 122, 371, 372, 373, 2, 374, 299, 266, 267, 268, 269, 131, 132, 23, 20, 607, 608, 609, 610, 611, 612, 613, 614, 615, 569, 570, 571, 572, 573, 574, 575] (by decide +kernel) (by decide +kernel)) (goodIn_sub (fun _ h => List.mem_append_left _ (List.mem_append_left _ (List.mem_append_right _ h))) (by decide +kernel))
set_option maxRecDepth 20000 in
theorem gL_law_L_campaignOf : GoodIn wsL_law (va_wsS RL 141 yL_campaignOf wsL_campaignOf) := goodIn_app (goodIn_of _ (by decide +kernel)) ggL_law_L_campaignOf
set_option maxRecDepth 20000 in
theorem ggL_law_X4_campaignOf : GoodIn wsL_law wsX4_campaignOf := goodIn_r _ [378, 104, 353, 354, 355, 5, 356, 274, 275, 276, 277, 257, 145, 146, 147, 148, 149, 150, 151, 152, 576, 577, 578, 579, 580, 581, 582, 583, 584, 585, 586, 587, 588, 589, 590, 591, 592, 593, 594, 595, 596, 597, 598, 599, 600, 601, 602] (by decide +kernel) (by decide +kernel)
set_option maxRecDepth 20000 in
theorem gL_law_X4_campaignOf : GoodIn wsL_law (wsV RL 143 RX4 yX4_campaignOf wsX4_campaignOf) := goodIn_app (goodIn_of _ (by decide +kernel)) ggL_law_X4_campaignOf
set_option maxRecDepth 20000 in
theorem ggL_law_L_toGo : GoodIn wsL_law wsL_toGo := goodIn_ca (goodIn_r _ [381, 122, 382, 383, 384, 2, 385, 386, 266, 267, 268, 269, 131, 132, 23, 20, 607, 608, 609, 610, 611, 612, 613, 614, 615, 569, 570, 571, 572, 573, 574, 575] (by decide +kernel) (by decide +kernel)) (goodIn_sub (fun _ h => List.mem_append_left _ (List.mem_append_left _ (List.mem_append_right _ h))) (by decide +kernel))
set_option maxRecDepth 20000 in
theorem gL_law_L_toGo : GoodIn wsL_law (va_wsS RL 144 yL_toGo wsL_toGo) := goodIn_app (goodIn_of _ (by decide +kernel)) ggL_law_L_toGo
set_option maxRecDepth 20000 in
theorem ggL_law_X4_toGo : GoodIn wsL_law wsX4_toGo := goodIn_r _ [390, 105, 353, 354, 355, 5, 356, 274, 275, 276, 277, 257, 145, 146, 147, 148, 149, 150, 151, 152, 576, 577, 578, 579, 580, 581, 582, 583, 584, 585, 586, 587, 588, 589, 590, 591, 592, 593, 594, 595, 596, 597, 598, 599, 600, 601, 602] (by decide +kernel) (by decide +kernel)
set_option maxRecDepth 20000 in
theorem gL_law_X4_toGo : GoodIn wsL_law (wsV RL 146 RX4 yX4_toGo wsX4_toGo) := goodIn_app (goodIn_of _ (by decide +kernel)) ggL_law_X4_toGo
set_option maxRecDepth 20000 in
theorem ggL_law_L_battery : GoodIn wsL_law wsL_battery := goodIn_ca (goodIn_r _ [393, 122, 394, 395, 396, 2, 397, 265, 266, 267, 268, 269, 131, 132, 23, 20, 607, 608, 609, 610, 611, 612, 613, 614, 615, 569, 570, 571, 572, 573, 574, 575] (by decide +kernel) (by decide +kernel)) (goodIn_sub (fun _ h => List.mem_append_left _ (List.mem_append_left _ (List.mem_append_right _ h))) (by decide +kernel))
set_option maxRecDepth 20000 in
theorem gL_law_L_battery : GoodIn wsL_law (va_wsS RL 147 yL_battery wsL_battery) := goodIn_app (goodIn_of _ (by decide +kernel)) ggL_law_L_battery
set_option maxRecDepth 20000 in
theorem ggL_law_X4_battery : GoodIn wsL_law wsX4_battery := goodIn_r _ [401, 100, 353, 354, 355, 5, 356, 274, 275, 276, 277, 257, 145, 146, 147, 148, 149, 150, 151, 152, 576, 577, 578, 579, 580, 581, 582, 583, 584, 585, 586, 587, 588, 589, 590, 591, 592, 593, 594, 595, 596, 597, 598, 599, 600, 601, 602] (by decide +kernel) (by decide +kernel)
set_option maxRecDepth 20000 in
theorem gL_law_X4_battery : GoodIn wsL_law (wsV RL 149 RX4 yX4_battery wsX4_battery) := goodIn_app (goodIn_of _ (by decide +kernel)) ggL_law_X4_battery
set_option maxRecDepth 20000 in
theorem ggL_law_L_begin : GoodIn wsL_law wsL_begin := goodIn_ca (goodIn_ca (goodIn_ca (goodIn_r _ [404, 122, 123, 242, 405, 406, 407, 2, 408, 247, 248, 24, 409, 22, 300, 410, 411, 412, 128, 129, 130, 131, 132, 305, 306, 307, 308, 133, 134, 135, 136, 137, 301, 302, 303, 304, 569, 570, 571, 572, 573, 574, 575, 616, 617, 618, 619, 620, 621, 622, 623, 624, 625, 626, 627, 628] (by decide +kernel) (by decide +kernel)) (goodIn_sub (fun _ h => List.mem_append_right _ h) (by decide +kernel))) (goodIn_sub (fun _ h => List.mem_append_left _ (List.mem_append_left _ (List.mem_append_right _ h))) (by decide +kernel))) (goodIn_sub (fun _ h => List.mem_append_left _ (List.mem_append_right _ h)) (by decide +kernel))
set_option maxRecDepth 20000 in
theorem gL_law_L_begin : GoodIn wsL_law (va_wsS RL 150 yL_begin wsL_begin) := goodIn_app (goodIn_of _ (by decide +kernel)) ggL_law_L_begin
set_option maxRecDepth 20000 in
theorem ggL_law_X4_begin : GoodIn wsL_law wsX4_begin := goodIn_r _ [416, 417, 110, 106, 107, 108, 112, 113, 114, 142, 143, 5, 144, 145, 146, 147, 418, 419, 420, 421, 148, 149, 150, 151, 152, 576, 577, 578, 579, 580, 581, 582, 583, 584, 585, 586, 587, 588, 589, 590, 591, 592, 593, 594, 595, 596, 597, 598, 599, 600, 601, 602] (by decide +kernel) (by decide +kernel)
set_option maxRecDepth 20000 in
theorem gL_law_X4_begin : GoodIn wsL_law (wsV RL 153 RX4 yX4_begin wsX4_begin) := goodIn_app (goodIn_of _ (by decide +kernel)) ggL_law_X4_begin
set_option maxRecDepth 20000 in
theorem ggL_law_L_setRules : GoodIn wsL_law wsL_setRules := goodIn_ca (goodIn_ca (goodIn_r _ [424, 122, 123, 425, 426, 427, 2, 428, 429, 430, 431, 432, 301, 302, 303, 304, 22, 305, 306, 307, 308, 131, 132, 24, 133, 134, 135, 136, 137, 616, 617, 618, 619, 620, 621, 622, 623, 624, 625, 626, 627, 628, 569, 570, 571, 572, 573, 574, 575] (by decide +kernel) (by decide +kernel)) (goodIn_sub (fun _ h => List.mem_append_left _ (List.mem_append_left _ (List.mem_append_right _ h))) (by decide +kernel))) (goodIn_sub (fun _ h => List.mem_append_left _ (List.mem_append_right _ h)) (by decide +kernel))
set_option maxRecDepth 20000 in
theorem gL_law_L_setRules : GoodIn wsL_law (va_wsS RL 154 yL_setRules wsL_setRules) := goodIn_app (goodIn_of _ (by decide +kernel)) ggL_law_L_setRules
set_option maxRecDepth 20000 in
theorem ggL_law_X4_setRules : GoodIn wsL_law wsX4_setRules := goodIn_r _ [436, 112, 113, 114, 145, 146, 5, 147, 418, 419, 420, 421, 417, 148, 149, 150, 151, 152, 576, 577, 578, 579, 580, 581, 582, 583, 584, 585, 586, 587, 588, 589, 590, 591, 592, 593, 594, 595, 596, 597, 598, 599, 600, 601, 602] (by decide +kernel) (by decide +kernel)
set_option maxRecDepth 20000 in
theorem gL_law_X4_setRules : GoodIn wsL_law (wsV RL 157 RX4 yX4_setRules wsX4_setRules) := goodIn_app (goodIn_of _ (by decide +kernel)) ggL_law_X4_setRules
set_option maxRecDepth 20000 in
theorem ggL_law_L_toggle : GoodIn wsL_law wsL_toggle := goodIn_ca (goodIn_r _ [439, 122, 440, 441, 442, 2, 443, 409, 444, 301, 302, 303, 304, 22, 305, 306, 307, 308, 131, 132, 24, 445, 319, 320, 29, 321, 85, 86, 87, 616, 617, 618, 619, 620, 621, 622, 623, 624, 625, 626, 627, 628, 569, 570, 571, 572, 573, 574, 575] (by decide +kernel) (by decide +kernel)) (goodIn_sub (fun _ h => List.mem_append_left _ (List.mem_append_left _ (List.mem_append_right _ h))) (by decide +kernel))
set_option maxRecDepth 20000 in
theorem gL_law_L_toggle : GoodIn wsL_law (va_wsS RL 158 yL_toggle wsL_toggle) := goodIn_app (goodIn_of _ (by decide +kernel)) ggL_law_L_toggle
set_option maxRecDepth 20000 in
theorem ggL_law_X4_toggle : GoodIn wsL_law wsX4_toggle := goodIn_r _ [449, 110, 115, 116, 450, 451, 452, 5, 453, 418, 419, 420, 421, 417, 145, 146, 147, 148, 149, 150, 151, 152, 576, 577, 578, 579, 580, 581, 582, 583, 584, 585, 586, 587, 588, 589, 590, 591, 592, 593, 594, 595, 596, 597, 598, 599, 600, 601, 602] (by decide +kernel) (by decide +kernel)
set_option maxRecDepth 20000 in
theorem gL_law_X4_toggle : GoodIn wsL_law (wsV RL 160 RX4 yX4_toggle wsX4_toggle) := goodIn_app (goodIn_of _ (by decide +kernel)) ggL_law_X4_toggle
set_option maxRecDepth 20000 in
theorem ggL_law_L_isActive : GoodIn wsL_law wsL_isActive := goodIn_ca (goodIn_r _ [456, 122, 457, 458, 459, 2, 460, 409, 301, 302, 303, 304, 22, 305, 306, 307, 308, 131, 132, 24, 616, 617, 618, 619, 620, 621, 622, 623, 624, 625, 626, 627, 628, 569, 570, 571, 572, 573, 574, 575] (by decide +kernel) (by decide +kernel)) (goodIn_sub (fun _ h => List.mem_append_left _ (List.mem_append_left _ (List.mem_append_right _ h))) (by decide +kernel))
set_option maxRecDepth 20000 in
theorem gL_law_L_isActive : GoodIn wsL_law (va_wsS RL 161 yL_isActive wsL_isActive) := goodIn_app (goodIn_of _ (by decide +kernel)) ggL_law_L_isActive
set_option maxRecDepth 20000 in
theorem ggL_law_X4_isActive : GoodIn wsL_law wsX4_isActive := goodIn_r _ [464, 110, 450, 451, 452, 5, 453, 418, 419, 420, 421, 417, 145, 146, 147, 148, 149, 150, 151, 152, 576, 577, 578, 579, 580, 581, 582, 583, 584, 585, 586, 587, 588, 589, 590, 591, 592, 593, 594, 595, 596, 597, 598, 599, 600, 601, 602] (by decide +kernel) (by decide +kernel)
set_option maxRecDepth 20000 in
theorem gL_law_X4_isActive : GoodIn wsL_law (wsV RL 163 RX4 yX4_isActive wsX4_isActive) := goodIn_app (goodIn_of _ (by decide +kernel)) ggL_law_X4_isActive
set_option maxRecDepth 20000 in
theorem ggL_law_L_ring : GoodIn wsL_law wsL_ring := goodIn_ca (goodIn_r _ [467, 122, 468, 469, 470, 2, 471, 444, 301, 302, 303, 304, 22, 305, 306, 307, 308, 131, 132, 24, 616, 617, 618, 619, 620, 621, 622, 623, 624, 625, 626, 627, 628, 569, 570, 571, 572, 573, 574, 575] (by decide +kernel) (by decide +kernel)) (goodIn_sub (fun _ h => List.mem_append_left _ (List.mem_append_left _ (List.mem_append_right _ h))) (by decide +kernel))
set_option maxRecDepth 20000 in
theorem gL_law_L_ring : GoodIn wsL_law (va_wsS RL 164 yL_ring wsL_ring) := goodIn_app (goodIn_of _ (by decide +kernel)) ggL_law_L_ring
set_option maxRecDepth 20000 in
theorem ggL_law_X4_ring : GoodIn wsL_law wsX4_ring := goodIn_r _ [475, 111, 450, 451, 452, 5, 453, 418, 419, 420, 421, 417, 145, 146, 147, 148, 149, 150, 151, 152, 576, 577, 578, 579, 580, 581, 582, 583, 584, 585, 586, 587, 588, 589, 590, 591, 592, 593, 594, 595, 596, 597, 598, 599, 600, 601, 602] (by decide +kernel) (by decide +kernel)
set_option maxRecDepth 20000 in
theorem gL_law_X4_ring : GoodIn wsL_law (wsV RL 166 RX4 yX4_ring wsX4_ring) := goodIn_app (goodIn_of _ (by decide +kernel)) ggL_law_X4_ring
set_option maxRecDepth 20000 in
theorem ggL_law_L_reports : GoodIn wsL_law wsL_reports := goodIn_ca (goodIn_r _ [478, 122, 479, 480, 481, 2, 482, 483, 301, 302, 303, 304, 22, 305, 306, 307, 308, 131, 132, 24, 616, 617, 618, 619, 620, 621, 622, 623, 624, 625, 626, 627, 628, 569, 570, 571, 572, 573, 574, 575] (by decide +kernel) (by decide +kernel)) (goodIn_sub (fun _ h => List.mem_append_left _ (List.mem_append_left _ (List.mem_append_right _ h))) (by decide +kernel))
set_option maxRecDepth 20000 in
theorem gL_law_L_reports : GoodIn wsL_law (va_wsS RL 167 yL_reports wsL_reports) := goodIn_app (goodIn_of _ (by decide +kernel)) ggL_law_L_reports
set_option maxRecDepth 20000 in
theorem ggL_law_X4_reports : GoodIn wsL_law wsX4_reports := goodIn_r _ [487, 115, 450, 451, 452, 5, 453, 418, 419, 420, 421, 417, 145, 146, 147, 148, 149, 150, 151, 152, 576, 577, 578, 579, 580, 581, 582, 583, 584, 585, 586, 587, 588, 589, 590, 591, 592, 593, 594, 595, 596, 597, 598, 599, 600, 601, 602] (by decide +kernel) (by decide +kernel)
set_option maxRecDepth 20000 in
theorem gL_law_X4_reports : GoodIn wsL_law (wsV RL 169 RX4 yX4_reports wsX4_reports) := goodIn_app (goodIn_of _ (by decide +kernel)) ggL_law_X4_reports
set_option maxRecDepth 20000 in
theorem ggL_law_L_eligible : GoodIn wsL_law wsL_eligible := goodIn_ca (goodIn_r _ [490, 122, 491, 492, 493, 2, 494, 23, 20, 301, 302, 303, 304, 22, 305, 306, 307, 308, 131, 132, 24, 495, 496, 497, 498, 298, 14, 300, 249, 18, 250, 499, 500, 501, 29, 502, 84, 78, 503, 79, 504, 77, 88, 313, 232, 233, 505, 506, 507, 508, 89, 509, 510, 511, 512, 85, 80, 81, 252, 202, 203, 204, 17, 205, 37, 38, 48, 49, 50, 51, 206, 207, 208, 47, 569, 570, 571, 572, 573, 574, 575, 607, 608, 609, 610, 611, 612, 613, 614, 615, 616, 617, 618, 619, 620, 621, 622, 623, 624, 625, 626, 627, 628, 603, 604, 605, 606] (by decide +kernel) (by decide +kernel)) (goodIn_sub (fun _ h => List.mem_append_left _ (List.mem_append_left _ (List.mem_append_right _ h))) (by decide +kernel))
set_option maxRecDepth 20000 in
theorem gL_law_L_eligible : GoodIn wsL_law (va_wsS RL 170 yL_eligible wsL_eligible) := goodIn_app (goodIn_of _ (by decide +kernel)) ggL_law_L_eligible
set_option maxRecDepth 20000 in
theorem ggL_law_X4_eligible : GoodIn wsL_law wsX4_eligible := goodIn_r _ [516, 257, 450, 451, 452, 5, 453, 418, 419, 420, 421, 417, 145, 146, 147, 148, 149, 150, 151, 152, 517, 518, 519, 520, 106, 107, 98, 108, 99, 94, 112, 111, 117, 103, 110, 213, 214, 215, 216, 97, 95, 217, 96, 576, 577, 578, 579, 580, 581, 582, 583, 584, 585, 586, 587, 588, 589, 590, 591, 592, 593, 594, 595, 596, 597, 598, 599, 600, 601, 602] (by decide +kernel) (by decide +kernel)
set_option maxRecDepth 20000 in
theorem gL_law_X4_eligible : GoodIn wsL_law (wsV RL 172 RX4 yX4_eligible wsX4_eligible) := goodIn_app (goodIn_of _ (by decide +kernel)) ggL_law_X4_eligible
set_option maxRecDepth 20000 in
theorem ggL_law_L_pass : GoodIn wsL_law wsL_pass := goodIn_ca (goodIn_r _ [523, 123, 524, 525, 526, 2, 527, 133, 134, 135, 136, 137, 528, 529, 530, 531, 23, 20, 25, 298, 532, 533, 534, 535, 24, 22, 18, 250, 300, 495, 496, 497, 498, 14, 249, 499, 500, 501, 29, 502, 84, 78, 503, 79, 504, 77, 88, 313, 232, 233, 505, 506, 507, 508, 89, 509, 510, 511, 512, 85, 80, 81, 252, 202, 203, 204, 17, 205, 37, 38, 48, 49, 50, 51, 206, 207, 208, 47, 536, 537, 538, 27, 539, 69, 540, 70, 71, 541, 542, 543, 544, 66, 545, 546, 547, 548, 67, 68, 549, 550, 551, 552, 553, 554, 555, 569, 570, 571, 572, 573, 574, 575, 607, 608, 609, 610, 611, 612, 613, 614, 615, 616, 617, 618, 619, 620, 621, 622, 623, 624, 625, 626, 627, 628, 603, 604, 605, 606] (by decide +kernel) (by decide +kernel)) (goodIn_sub (fun _ h => List.mem_append_left _ (List.mem_append_right _ h)) (by decide +kernel))
set_option maxRecDepth 20000 in
theorem gL_law_L_pass : GoodIn wsL_law (va_wsS RL 173 yL_pass wsL_pass) := goodIn_app (goodIn_of _ (by decide +kernel)) ggL_law_L_pass
set_option maxRecDepth 20000 in
theorem ggL_law_X4_pass : GoodIn wsL_law wsX4_pass := goodIn_r _ [559, 257, 103, 100, 105, 560, 145, 146, 5, 147, 148, 149, 150, 151, 152, 561, 562, 563, 564, 417, 104, 99, 106, 517, 518, 519, 520, 107, 98, 108, 94, 112, 111, 117, 110, 213, 214, 215, 216, 97, 95, 217, 96, 565, 566, 567, 568, 101, 102, 576, 577, 578, 579, 580, 581, 582, 583, 584, 585, 586, 587, 588, 589, 590, 591, 592, 593, 594, 595, 596, 597, 598, 599, 600, 601, 602] (by decide +kernel) (by decide +kernel)
set_option maxRecDepth 20000 in
theorem gL_law_X4_pass : GoodIn wsL_law (wsV RL 175 RX4 yX4_pass wsX4_pass) := goodIn_app (goodIn_of _ (by decide +kernel)) ggL_law_X4_pass
