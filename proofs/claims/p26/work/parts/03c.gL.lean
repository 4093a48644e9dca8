set_option maxRecDepth 20000 in
theorem ggL_allows_X3_allow : GoodIn wsL_allows wsX3_allow := goodIn_ca (goodIn_ca (goodIn_r _ [9, 10, 11, 12, 8, 13, 14, 15, 16, 17, 18, 19, 20, 21, 22, 23, 24, 25, 26, 27] (by decide +kernel) (by decide +kernel)) (goodIn_sub (fun _ h => List.mem_cons_of_mem _ (List.mem_append_left _ (List.mem_append_right _ h))) (by decide +kernel))) (goodIn_sub (fun _ h => List.mem_cons_of_mem _ (List.mem_append_right _ h)) (by decide +kernel))
set_option maxRecDepth 20000 in
theorem gL_allows_X3_allow : GoodIn wsL_allows (wsV RL 7 RX3 yX3_allow wsX3_allow) := goodIn_app (goodIn_of _ (by decide +kernel)) ggL_allows_X3_allow
set_option maxRecDepth 20000 in
theorem ggL_images_X3_setImage : GoodIn wsL_images wsX3_setImage := goodIn_ca (goodIn_ca (goodIn_r _ [9, 10, 11, 12, 8, 13, 14, 15, 16, 17, 18, 19, 20, 21, 22, 23, 24, 25, 26, 27, 28, 29, 30, 31, 32, 33, 34, 35, 36, 37, 38, 39, 40, 41, 42, 43, 44, 45, 46, 47, 48, 49, 50, 51, 52, 53, 54, 55, 56, 57, 58, 59, 60] (by decide +kernel) (by decide +kernel)) (goodIn_sub (fun _ h => List.mem_cons_of_mem _ (List.mem_append_left _ (List.mem_append_right _ h))) (by decide +kernel))) (goodIn_sub (fun _ h => List.mem_cons_of_mem _ (List.mem_append_right _ h)) (by decide +kernel))
set_option maxRecDepth 20000 in
theorem gL_images_X3_setImage : GoodIn wsL_images (wsV RL 19 RX3 yX3_setImage wsX3_setImage) := goodIn_app (goodIn_of _ (by decide +kernel)) ggL_images_X3_setImage
set_option maxRecDepth 20000 in
theorem ggL_deltas_X3_setDelta : GoodIn wsL_deltas wsX3_setDelta := goodIn_ca (goodIn_ca (goodIn_r _ [9, 10, 11, 12, 13, 14, 8, 15, 16, 17, 18, 19, 20, 21, 22, 23, 24, 25, 26, 27, 28, 29, 30, 31, 32, 33, 34, 35, 36, 37, 38, 39, 40, 41, 42, 43, 44, 45, 46, 47, 48, 49, 50, 51, 52, 53, 54, 55, 56, 57, 58, 59, 60] (by decide +kernel) (by decide +kernel)) (goodIn_sub (fun _ h => List.mem_cons_of_mem _ (List.mem_append_left _ (List.mem_append_right _ h))) (by decide +kernel))) (goodIn_sub (fun _ h => List.mem_cons_of_mem _ (List.mem_append_right _ h)) (by decide +kernel))
set_option maxRecDepth 20000 in
theorem gL_deltas_X3_setDelta : GoodIn wsL_deltas (wsV RL 22 RX3 yX3_setDelta wsX3_setDelta) := goodIn_app (goodIn_of _ (by decide +kernel)) ggL_deltas_X3_setDelta
set_option maxRecDepth 20000 in
theorem ggL_size_X3_size : GoodIn wsL_size wsX3_size := goodIn_ca (goodIn_r _ [7, 8, 9, 10, 6, 11, 12, 13, 14, 15, 16, 17, 18, 19, 20, 21, 22, 23, 24, 25, 26, 27, 28, 29, 30, 31, 32, 33, 34, 35, 36, 37, 38, 39] (by decide +kernel) (by decide +kernel)) (goodIn_sub (fun _ h => List.mem_cons_of_mem _ (List.mem_append_right _ h)) (by decide +kernel))
set_option maxRecDepth 20000 in
theorem gL_size_X3_size : GoodIn wsL_size (wsV RL 26 RX3 yX3_size wsX3_size) := goodIn_app (goodIn_of _ (by decide +kernel)) ggL_size_X3_size
set_option maxRecDepth 20000 in
theorem ggL_byWays_X3_sizeByWays : GoodIn wsL_byWays wsX3_sizeByWays := goodIn_ca (goodIn_r _ [7, 8, 9, 10, 6, 11, 12, 13, 14, 15, 16, 17, 18, 19, 20, 21, 22, 23, 24, 25, 26, 27, 28, 29, 30, 31, 32, 33, 34, 35, 36, 37, 38, 39, 40, 41, 42, 43, 44] (by decide +kernel) (by decide +kernel)) (goodIn_sub (fun _ h => List.mem_cons_of_mem _ (List.mem_append_right _ h)) (by decide +kernel))
set_option maxRecDepth 20000 in
theorem gL_byWays_X3_sizeByWays : GoodIn wsL_byWays (wsV RL 29 RX3 yX3_sizeByWays wsX3_sizeByWays) := goodIn_app (goodIn_of _ (by decide +kernel)) ggL_byWays_X3_sizeByWays
set_option maxRecDepth 20000 in
theorem ggL_adds_X3_addDevice : GoodIn wsL_adds wsX3_addDevice := goodIn_ca (goodIn_ca (goodIn_r _ [9, 10, 11, 12, 13, 14, 15, 16, 17, 18, 19, 20, 21, 8, 22, 23, 24, 25, 26, 27, 28, 29, 30, 31, 32, 33, 34, 35, 36, 37, 38, 39, 40, 41] (by decide +kernel) (by decide +kernel)) (goodIn_sub (fun _ h => List.mem_cons_of_mem _ (List.mem_append_left _ (List.mem_append_right _ h))) (by decide +kernel))) (goodIn_sub (fun _ h => List.mem_cons_of_mem _ (List.mem_append_right _ h)) (by decide +kernel))
set_option maxRecDepth 20000 in
theorem gL_adds_X3_addDevice : GoodIn wsL_adds (wsV RL 32 RX3 yX3_addDevice wsX3_addDevice) := goodIn_app (goodIn_of _ (by decide +kernel)) ggL_adds_X3_addDevice
set_option maxRecDepth 20000 in
theorem ggL_charges_X3_charge : GoodIn wsL_charges wsX3_charge := goodIn_ca (goodIn_ca (goodIn_r _ [9, 10, 11, 12, 13, 8, 14, 15, 16, 17, 18, 19, 20, 21, 22, 23, 24, 25, 26, 27, 28, 29, 30, 31, 32, 33, 34, 35, 36, 37, 38, 39] (by decide +kernel) (by decide +kernel)) (goodIn_sub (fun _ h => List.mem_cons_of_mem _ (List.mem_append_left _ (List.mem_append_right _ h))) (by decide +kernel))) (goodIn_sub (fun _ h => List.mem_cons_of_mem _ (List.mem_append_right _ h)) (by decide +kernel))
set_option maxRecDepth 20000 in
theorem gL_charges_X3_charge : GoodIn wsL_charges (wsV RL 38 RX3 yX3_charge wsX3_charge) := goodIn_app (goodIn_of _ (by decide +kernel)) ggL_charges_X3_charge
set_option maxRecDepth 20000 in
theorem ggL_windows_X3_setWindow : GoodIn wsL_windows wsX3_setWindow := goodIn_ca (goodIn_ca (goodIn_r _ [9, 10, 11, 12, 13, 14, 8, 15, 16, 17, 18, 19, 20, 21, 22, 23, 24, 25, 26, 27, 28, 29, 30, 31, 32, 33, 34, 35, 36, 37, 38, 39, 40] (by decide +kernel) (by decide +kernel)) (goodIn_sub (fun _ h => List.mem_cons_of_mem _ (List.mem_append_left _ (List.mem_append_right _ h))) (by decide +kernel))) (goodIn_sub (fun _ h => List.mem_cons_of_mem _ (List.mem_append_right _ h)) (by decide +kernel))
set_option maxRecDepth 20000 in
theorem gL_windows_X3_setWindow : GoodIn wsL_windows (wsV RL 41 RX3 yX3_setWindow wsX3_setWindow) := goodIn_app (goodIn_of _ (by decide +kernel)) ggL_windows_X3_setWindow
set_option maxRecDepth 20000 in
theorem ggL_reports_X3_report : GoodIn wsL_reports wsX3_report := goodIn_ca (goodIn_ca (goodIn_r _ [9, 10, 11, 12, 13, 14, 15, 16, 17, 18, 8, 19, 20, 21, 22, 23, 24, 25, 26, 27, 28, 29, 30, 31, 32, 33, 34, 35, 36, 37, 38, 39, 40, 41, 42, 43, 44, 45, 46, 47, 48, 49, 50, 51, 52, 53, 54, 55, 56, 57, 58, 59, 60, 61, 62, 63, 64, 65, 66, 67, 68, 69, 70, 71, 72, 73, 74, 75, 76, 77, 78, 79, 80, 81, 82, 83] (by decide +kernel) (by decide +kernel)) (goodIn_sub (fun _ h => List.mem_cons_of_mem _ (List.mem_append_left _ (List.mem_append_right _ h))) (by decide +kernel))) (goodIn_sub (fun _ h => List.mem_cons_of_mem _ (List.mem_append_right _ h)) (by decide +kernel))
set_option maxRecDepth 20000 in
theorem gL_reports_X3_report : GoodIn wsL_reports (wsV RL 45 RX3 yX3_report wsX3_report) := goodIn_app (goodIn_of _ (by decide +kernel)) ggL_reports_X3_report
set_option maxRecDepth 20000 in
theorem ggL_state_X3_state : GoodIn wsL_state wsX3_state := goodIn_ca (goodIn_r _ [7, 8, 9, 10, 11, 6, 12, 13, 14, 15, 16, 17, 18, 19, 20, 21, 22, 23, 24, 25, 26, 27, 28, 29, 30, 31, 32] (by decide +kernel) (by decide +kernel)) (goodIn_sub (fun _ h => List.mem_cons_of_mem _ (List.mem_append_right _ h)) (by decide +kernel))
set_option maxRecDepth 20000 in
theorem gL_state_X3_state : GoodIn wsL_state (wsV RL 49 RX3 yX3_state wsX3_state) := goodIn_app (goodIn_of _ (by decide +kernel)) ggL_state_X3_state
set_option maxRecDepth 20000 in
theorem ggL_version_X3_version : GoodIn wsL_version wsX3_version := goodIn_ca (goodIn_r _ [7, 8, 9, 10, 11, 6, 12, 13, 14, 15, 16, 17, 18, 19, 20, 21, 22, 23, 24, 25, 26, 27, 28, 29, 30, 31, 32] (by decide +kernel) (by decide +kernel)) (goodIn_sub (fun _ h => List.mem_cons_of_mem _ (List.mem_append_right _ h)) (by decide +kernel))
set_option maxRecDepth 20000 in
theorem gL_version_X3_version : GoodIn wsL_version (wsV RL 53 RX3 yX3_version wsX3_version) := goodIn_app (goodIn_of _ (by decide +kernel)) ggL_version_X3_version
set_option maxRecDepth 20000 in
theorem ggL_campaign_X3_campaignOf : GoodIn wsL_campaign wsX3_campaignOf := goodIn_ca (goodIn_r _ [7, 8, 9, 10, 11, 6, 12, 13, 14, 15, 16, 17, 18, 19, 20, 21, 22, 23, 24, 25, 26, 27, 28, 29, 30, 31, 32] (by decide +kernel) (by decide +kernel)) (goodIn_sub (fun _ h => List.mem_cons_of_mem _ (List.mem_append_right _ h)) (by decide +kernel))
set_option maxRecDepth 20000 in
theorem gL_campaign_X3_campaignOf : GoodIn wsL_campaign (wsV RL 56 RX3 yX3_campaignOf wsX3_campaignOf) := goodIn_app (goodIn_of _ (by decide +kernel)) ggL_campaign_X3_campaignOf
set_option maxRecDepth 20000 in
theorem ggL_toGo_X3_toGo : GoodIn wsL_toGo wsX3_toGo := goodIn_ca (goodIn_r _ [7, 8, 9, 10, 11, 6, 12, 13, 14, 15, 16, 17, 18, 19, 20, 21, 22, 23, 24, 25, 26, 27, 28, 29, 30, 31, 32] (by decide +kernel) (by decide +kernel)) (goodIn_sub (fun _ h => List.mem_cons_of_mem _ (List.mem_append_right _ h)) (by decide +kernel))
set_option maxRecDepth 20000 in
theorem gL_toGo_X3_toGo : GoodIn wsL_toGo (wsV RL 59 RX3 yX3_toGo wsX3_toGo) := goodIn_app (goodIn_of _ (by decide +kernel)) ggL_toGo_X3_toGo
set_option maxRecDepth 20000 in
theorem ggL_battery_X3_battery : GoodIn wsL_battery wsX3_battery := goodIn_ca (goodIn_r _ [7, 8, 9, 10, 11, 6, 12, 13, 14, 15, 16, 17, 18, 19, 20, 21, 22, 23, 24, 25, 26, 27, 28, 29, 30, 31, 32] (by decide +kernel) (by decide +kernel)) (goodIn_sub (fun _ h => List.mem_cons_of_mem _ (List.mem_append_right _ h)) (by decide +kernel))
set_option maxRecDepth 20000 in
theorem gL_battery_X3_battery : GoodIn wsL_battery (wsV RL 62 RX3 yX3_battery wsX3_battery) := goodIn_app (goodIn_of _ (by decide +kernel)) ggL_battery_X3_battery
set_option maxRecDepth 20000 in
theorem ggL_begins_X3_begin : GoodIn wsL_begins wsX3_begin := goodIn_ca (goodIn_ca (goodIn_ca (goodIn_r _ [11, 12, 13, 14, 15, 16, 17, 18, 19, 20, 21, 22, 10, 23, 24, 25, 26, 27, 28, 29, 30, 31, 32, 33, 34, 35, 36, 37, 38, 39, 40, 41, 42, 43, 44, 45, 46, 47, 48, 49, 50, 51, 52, 53, 54, 55, 56, 57, 58] (by decide +kernel) (by decide +kernel)) (goodIn_sub (fun _ h => List.mem_cons_of_mem _ (List.mem_append_left _ (List.mem_append_left _ (List.mem_append_right _ h)))) (by decide +kernel))) (goodIn_sub (fun _ h => List.mem_cons_of_mem _ (List.mem_append_left _ (List.mem_append_right _ h))) (by decide +kernel))) (goodIn_sub (fun _ h => List.mem_cons_of_mem _ (List.mem_append_right _ h)) (by decide +kernel))
set_option maxRecDepth 20000 in
theorem gL_begins_X3_begin : GoodIn wsL_begins (wsV RL 65 RX3 yX3_begin wsX3_begin) := goodIn_app (goodIn_of _ (by decide +kernel)) ggL_begins_X3_begin
set_option maxRecDepth 20000 in
theorem ggL_rules_X3_setRules : GoodIn wsL_rules wsX3_setRules := goodIn_ca (goodIn_ca (goodIn_r _ [9, 10, 11, 12, 13, 14, 15, 16, 8, 17, 18, 19, 20, 21, 22, 23, 24, 25, 26, 27, 28, 29, 30, 31, 32, 33, 34, 35, 36, 37, 38, 39, 40, 41, 42, 43, 44, 45, 46, 47, 48, 49, 50] (by decide +kernel) (by decide +kernel)) (goodIn_sub (fun _ h => List.mem_cons_of_mem _ (List.mem_append_left _ (List.mem_append_right _ h))) (by decide +kernel))) (goodIn_sub (fun _ h => List.mem_cons_of_mem _ (List.mem_append_right _ h)) (by decide +kernel))
set_option maxRecDepth 20000 in
theorem gL_rules_X3_setRules : GoodIn wsL_rules (wsV RL 69 RX3 yX3_setRules wsX3_setRules) := goodIn_app (goodIn_of _ (by decide +kernel)) ggL_rules_X3_setRules
set_option maxRecDepth 20000 in
theorem ggL_toggles_X3_toggle : GoodIn wsL_toggles wsX3_toggle := goodIn_ca (goodIn_r _ [7, 8, 9, 10, 11, 12, 6, 13, 14, 15, 16, 17, 18, 19, 20, 21, 22, 23, 24, 25, 26, 27, 28, 29, 30, 31, 32, 33, 34, 35, 36, 37, 38, 39, 40, 41, 42, 43, 44, 45, 46, 47, 48, 49] (by decide +kernel) (by decide +kernel)) (goodIn_sub (fun _ h => List.mem_cons_of_mem _ (List.mem_append_right _ h)) (by decide +kernel))
set_option maxRecDepth 20000 in
theorem gL_toggles_X3_toggle : GoodIn wsL_toggles (wsV RL 73 RX3 yX3_toggle wsX3_toggle) := goodIn_app (goodIn_of _ (by decide +kernel)) ggL_toggles_X3_toggle
set_option maxRecDepth 20000 in
theorem ggL_active_X3_isActive : GoodIn wsL_active wsX3_isActive := goodIn_ca (goodIn_r _ [7, 8, 9, 10, 11, 6, 12, 13, 14, 15, 16, 17, 18, 19, 20, 21, 22, 23, 24, 25, 26, 27, 28, 29, 30, 31, 32, 33, 34, 35, 36, 37, 38, 39, 40] (by decide +kernel) (by decide +kernel)) (goodIn_sub (fun _ h => List.mem_cons_of_mem _ (List.mem_append_right _ h)) (by decide +kernel))
set_option maxRecDepth 20000 in
theorem gL_active_X3_isActive : GoodIn wsL_active (wsV RL 77 RX3 yX3_isActive wsX3_isActive) := goodIn_app (goodIn_of _ (by decide +kernel)) ggL_active_X3_isActive
set_option maxRecDepth 20000 in
theorem ggL_ring_X3_ring : GoodIn wsL_ring wsX3_ring := goodIn_ca (goodIn_r _ [7, 8, 9, 10, 11, 6, 12, 13, 14, 15, 16, 17, 18, 19, 20, 21, 22, 23, 24, 25, 26, 27, 28, 29, 30, 31, 32, 33, 34, 35, 36, 37, 38, 39, 40] (by decide +kernel) (by decide +kernel)) (goodIn_sub (fun _ h => List.mem_cons_of_mem _ (List.mem_append_right _ h)) (by decide +kernel))
set_option maxRecDepth 20000 in
theorem gL_ring_X3_ring : GoodIn wsL_ring (wsV RL 80 RX3 yX3_ring wsX3_ring) := goodIn_app (goodIn_of _ (by decide +kernel)) ggL_ring_X3_ring
set_option maxRecDepth 20000 in
theorem ggL_counted_X3_reports : GoodIn wsL_counted wsX3_reports := goodIn_ca (goodIn_r _ [7, 8, 9, 10, 11, 6, 12, 13, 14, 15, 16, 17, 18, 19, 20, 21, 22, 23, 24, 25, 26, 27, 28, 29, 30, 31, 32, 33, 34, 35, 36, 37, 38, 39, 40] (by decide +kernel) (by decide +kernel)) (goodIn_sub (fun _ h => List.mem_cons_of_mem _ (List.mem_append_right _ h)) (by decide +kernel))
set_option maxRecDepth 20000 in
theorem gL_counted_X3_reports : GoodIn wsL_counted (wsV RL 83 RX3 yX3_reports wsX3_reports) := goodIn_app (goodIn_of _ (by decide +kernel)) ggL_counted_X3_reports
set_option maxRecDepth 20000 in
theorem ggL_eligible_X3_eligible : GoodIn wsL_eligible wsX3_eligible := goodIn_ca (goodIn_r _ [7, 8, 9, 10, 11, 12, 6, 13, 14, 15, 16, 17, 18, 19, 20, 21, 22, 23, 24, 25, 26, 27, 28, 29, 30, 31, 32, 33, 34, 35, 36, 37, 38, 39, 40, 41, 42, 43, 44, 45, 46, 47, 48, 49, 50, 51, 52, 53, 54, 55, 56, 57, 58, 59, 60, 61, 62, 63, 64, 65, 66, 67, 68, 69, 70, 71, 72, 73, 74, 75, 76, 77, 78, 79, 80, 81, 82, 83, 84, 85, 86, 87, 88, 89, 90, 91, 92, 93, 94, 95, 96, 97, 98, 99, 100, 101, 102, 103, 104, 105, 106, 107] (by decide +kernel) (by decide +kernel)) (goodIn_sub (fun _ h => List.mem_cons_of_mem _ (List.mem_append_right _ h)) (by decide +kernel))
set_option maxRecDepth 20000 in
theorem gL_eligible_X3_eligible : GoodIn wsL_eligible (wsV RL 86 RX3 yX3_eligible wsX3_eligible) := goodIn_app (goodIn_of _ (by decide +kernel)) ggL_eligible_X3_eligible
set_option maxRecDepth 20000 in
theorem ggL_passes_X3_pass : GoodIn wsL_passes wsX3_pass := goodIn_ca (goodIn_r _ [7, 8, 9, 6, 10, 11, 12, 13, 14, 15, 16, 17, 18, 19, 20, 21, 22, 23, 24, 25, 26, 27, 28, 29, 30, 31, 32, 33, 34, 35, 36, 37, 38, 39, 40, 41, 42, 43, 44, 45, 46, 47, 48, 49, 50, 51, 52, 53, 54, 55, 56, 57, 58, 59, 60, 61, 62, 63, 64, 65, 66, 67, 68, 69, 70, 71, 72, 73, 74, 75, 76, 77, 78, 79, 80, 81, 82, 83, 84, 85, 86, 87, 88, 89, 90, 91, 92, 93, 94, 95, 96, 97, 98, 99, 100, 101, 102, 103, 104, 105, 106, 107, 108, 109, 110, 111, 112, 113, 114, 115, 116, 117, 118, 119, 120, 121, 122, 123, 124, 125, 126, 127, 128, 129, 130, 131, 132, 133, 134, 135, 136, 137, 138] (by decide +kernel) (by decide +kernel)) (goodIn_sub (fun _ h => List.mem_cons_of_mem _ (List.mem_append_right _ h)) (by decide +kernel))
set_option maxRecDepth 20000 in
theorem gL_passes_X3_pass : GoodIn wsL_passes (wsV RL 89 RX3 yX3_pass wsX3_pass) := goodIn_app (goodIn_of _ (by decide +kernel)) ggL_passes_X3_pass
set_option maxRecDepth 20000 in
theorem ggL_refuses_X3_devices : GoodIn wsL_refuses wsX3_devices := goodIn_r _ [9, 10, 350, 351, 352, 353, 354, 355, 356] (by decide +kernel) (by decide +kernel)
set_option maxRecDepth 20000 in
theorem gL_refuses_X3_devices : GoodIn wsL_refuses (wsV RL 94 RX3 yX3_devices wsX3_devices) := goodIn_app (goodIn_of _ (by decide +kernel)) ggL_refuses_X3_devices
set_option maxRecDepth 20000 in
theorem ggL_refuses_L_allows : GoodIn wsL_refuses wsL_allows := goodIn_ca (goodIn_ca (goodIn_r _ [14, 15, 16, 1, 2, 17, 18, 19, 8, 20, 21, 22, 23, 24, 25, 26, 27, 28, 29, 30, 31, 350, 351, 352, 353, 354, 355, 356] (by decide +kernel) (by decide +kernel)) (goodIn_sub (fun _ h => List.mem_cons_of_mem _ (List.mem_append_left _ (List.mem_append_left _ (List.mem_append_right _ h)))) (by decide +kernel))) (goodIn_sub (fun _ h => List.mem_cons_of_mem _ (List.mem_append_left _ (List.mem_append_right _ h))) (by decide +kernel))
set_option maxRecDepth 20000 in
theorem gL_refuses_L_allows : GoodIn wsL_refuses (va_wsS RL 98 yL_allows wsL_allows) := goodIn_app (goodIn_of _ (by decide +kernel)) ggL_refuses_L_allows
set_option maxRecDepth 20000 in
theorem ggL_refuses_L_images : GoodIn wsL_refuses wsL_images := goodIn_ca (goodIn_ca (goodIn_r _ [34, 15, 16, 1, 2, 35, 36, 37, 8, 38, 39, 22, 23, 24, 25, 26, 40, 41, 42, 43, 27, 28, 29, 30, 31, 44, 45, 46, 47, 48, 49, 50, 51, 52, 53, 54, 55, 56, 57, 58, 59, 60, 61, 62, 63, 64, 65, 66, 67, 68, 350, 351, 352, 353, 354, 355, 356, 357, 358, 359, 360] (by decide +kernel) (by decide +kernel)) (goodIn_sub (fun _ h => List.mem_cons_of_mem _ (List.mem_append_left _ (List.mem_append_left _ (List.mem_append_right _ h)))) (by decide +kernel))) (goodIn_sub (fun _ h => List.mem_cons_of_mem _ (List.mem_append_left _ (List.mem_append_right _ h))) (by decide +kernel))
set_option maxRecDepth 20000 in
theorem gL_refuses_L_images : GoodIn wsL_refuses (va_wsS RL 104 yL_images wsL_images) := goodIn_app (goodIn_of _ (by decide +kernel)) ggL_refuses_L_images
set_option maxRecDepth 20000 in
theorem ggL_refuses_L_deltas : GoodIn wsL_refuses wsL_deltas := goodIn_ca (goodIn_ca (goodIn_r _ [71, 15, 16, 1, 2, 72, 73, 74, 8, 75, 30, 31, 39, 22, 23, 24, 25, 26, 40, 41, 42, 43, 27, 28, 29, 76, 77, 78, 47, 79, 55, 50, 51, 52, 53, 54, 56, 57, 49, 58, 59, 60, 61, 62, 63, 64, 65, 66, 67, 68, 350, 351, 352, 353, 354, 355, 356, 357, 358, 359, 360] (by decide +kernel) (by decide +kernel)) (goodIn_sub (fun _ h => List.mem_cons_of_mem _ (List.mem_append_left _ (List.mem_append_right _ h))) (by decide +kernel))) (goodIn_sub (fun _ h => List.mem_cons_of_mem _ (List.mem_append_left _ (List.mem_append_left _ (List.mem_append_right _ h)))) (by decide +kernel))
set_option maxRecDepth 20000 in
theorem gL_refuses_L_deltas : GoodIn wsL_refuses (va_wsS RL 108 yL_deltas wsL_deltas) := goodIn_app (goodIn_of _ (by decide +kernel)) ggL_refuses_L_deltas
set_option maxRecDepth 20000 in
theorem ggL_refuses_L_size : GoodIn wsL_refuses wsL_size := goodIn_ca (goodIn_r _ [82, 15, 1, 83, 84, 85, 8, 86, 39, 22, 23, 24, 25, 26, 87, 88, 89, 47, 90, 54, 56, 58, 59, 60, 61, 91, 92, 93, 57, 350, 351, 352, 353, 354, 355, 356, 357, 358, 359, 360] (by decide +kernel) (by decide +kernel)) (goodIn_sub (fun _ h => List.mem_cons_of_mem _ (List.mem_append_left _ (List.mem_append_left _ (List.mem_append_right _ h)))) (by decide +kernel))
set_option maxRecDepth 20000 in
theorem gL_refuses_L_size : GoodIn wsL_refuses (va_wsS RL 112 yL_size wsL_size) := goodIn_app (goodIn_of _ (by decide +kernel)) ggL_refuses_L_size
set_option maxRecDepth 20000 in
theorem ggL_refuses_L_byWays : GoodIn wsL_refuses wsL_byWays := goodIn_ca (goodIn_r _ [96, 15, 1, 97, 98, 99, 8, 100, 39, 22, 23, 24, 25, 26, 101, 102, 103, 47, 104, 55, 49, 58, 59, 60, 61, 105, 106, 107, 57, 108, 109, 91, 92, 93, 350, 351, 352, 353, 354, 355, 356, 357, 358, 359, 360] (by decide +kernel) (by decide +kernel)) (goodIn_sub (fun _ h => List.mem_cons_of_mem _ (List.mem_append_left _ (List.mem_append_left _ (List.mem_append_right _ h)))) (by decide +kernel))
set_option maxRecDepth 20000 in
theorem gL_refuses_L_byWays : GoodIn wsL_refuses (va_wsS RL 114 yL_byWays wsL_byWays) := goodIn_app (goodIn_of _ (by decide +kernel)) ggL_refuses_L_byWays
set_option maxRecDepth 20000 in
theorem ggL_refuses_L_adds : GoodIn wsL_refuses wsL_adds := goodIn_ca (goodIn_ca (goodIn_r _ [112, 15, 113, 1, 4, 114, 115, 116, 8, 117, 25, 26, 118, 119, 10, 21, 120, 121, 122, 123, 22, 23, 24, 124, 108, 109, 350, 351, 352, 353, 354, 355, 356, 361, 362, 363, 364, 365, 366, 367, 368, 369] (by decide +kernel) (by decide +kernel)) (goodIn_sub (fun _ h => List.mem_cons_of_mem _ (List.mem_append_left _ (List.mem_append_left _ (List.mem_append_right _ h)))) (by decide +kernel))) (goodIn_sub (fun _ h => List.mem_cons_of_mem _ (List.mem_append_right _ h)) (by decide +kernel))
set_option maxRecDepth 20000 in
theorem gL_refuses_L_adds : GoodIn wsL_refuses (va_wsS RL 117 yL_adds wsL_adds) := goodIn_app (goodIn_of _ (by decide +kernel)) ggL_refuses_L_adds
set_option maxRecDepth 20000 in
theorem ggL_refuses_L_charges : GoodIn wsL_refuses wsL_charges := goodIn_ca (goodIn_ca (goodIn_r _ [127, 15, 16, 1, 2, 128, 129, 130, 8, 131, 132, 133, 134, 135, 136, 25, 26, 10, 120, 27, 28, 29, 30, 31, 361, 362, 363, 364, 365, 366, 367, 368, 369, 350, 351, 352, 353, 354, 355, 356] (by decide +kernel) (by decide +kernel)) (goodIn_sub (fun _ h => List.mem_cons_of_mem _ (List.mem_append_left _ (List.mem_append_left _ (List.mem_append_right _ h)))) (by decide +kernel))) (goodIn_sub (fun _ h => List.mem_cons_of_mem _ (List.mem_append_left _ (List.mem_append_right _ h))) (by decide +kernel))
set_option maxRecDepth 20000 in
theorem gL_refuses_L_charges : GoodIn wsL_refuses (va_wsS RL 120 yL_charges wsL_charges) := goodIn_app (goodIn_of _ (by decide +kernel)) ggL_refuses_L_charges
set_option maxRecDepth 20000 in
theorem ggL_refuses_L_windows : GoodIn wsL_refuses wsL_windows := goodIn_ca (goodIn_ca (goodIn_r _ [139, 15, 16, 1, 2, 140, 141, 142, 8, 143, 144, 145, 133, 134, 135, 136, 25, 26, 10, 120, 27, 28, 29, 30, 31, 361, 362, 363, 364, 365, 366, 367, 368, 369, 350, 351, 352, 353, 354, 355, 356] (by decide +kernel) (by decide +kernel)) (goodIn_sub (fun _ h => List.mem_cons_of_mem _ (List.mem_append_left _ (List.mem_append_left _ (List.mem_append_right _ h)))) (by decide +kernel))) (goodIn_sub (fun _ h => List.mem_cons_of_mem _ (List.mem_append_left _ (List.mem_append_right _ h))) (by decide +kernel))
set_option maxRecDepth 20000 in
theorem gL_refuses_L_windows : GoodIn wsL_refuses (va_wsS RL 123 yL_windows wsL_windows) := goodIn_app (goodIn_of _ (by decide +kernel)) ggL_refuses_L_windows
set_option maxRecDepth 20000 in
theorem ggL_refuses_L_reports : GoodIn wsL_refuses wsL_reports := goodIn_ca (goodIn_ca (goodIn_r _ [148, 15, 113, 1, 4, 149, 150, 151, 8, 152, 118, 119, 153, 154, 155, 122, 133, 134, 135, 136, 25, 26, 10, 120, 156, 157, 158, 159, 160, 161, 162, 163, 164, 165, 166, 167, 168, 169, 170, 171, 172, 173, 174, 175, 176, 177, 178, 179, 180, 181, 182, 183, 184, 185, 186, 361, 362, 363, 364, 365, 366, 367, 368, 369, 370, 371, 372, 373, 374, 375, 376, 377, 378, 379, 380, 381, 382, 350, 351, 352, 353, 354, 355, 356] (by decide +kernel) (by decide +kernel)) (goodIn_sub (fun _ h => List.mem_cons_of_mem _ (List.mem_append_right _ h)) (by decide +kernel))) (goodIn_sub (fun _ h => List.mem_cons_of_mem _ (List.mem_append_left _ (List.mem_append_left _ (List.mem_append_right _ h)))) (by decide +kernel))
set_option maxRecDepth 20000 in
theorem gL_refuses_L_reports : GoodIn wsL_refuses (va_wsS RL 126 yL_reports wsL_reports) := goodIn_app (goodIn_of _ (by decide +kernel)) ggL_refuses_L_reports
set_option maxRecDepth 20000 in
theorem ggL_refuses_L_state : GoodIn wsL_refuses wsL_state := goodIn_ca (goodIn_r _ [189, 15, 1, 190, 191, 192, 8, 193, 153, 133, 134, 135, 136, 25, 26, 10, 120, 361, 362, 363, 364, 365, 366, 367, 368, 369, 350, 351, 352, 353, 354, 355, 356] (by decide +kernel) (by decide +kernel)) (goodIn_sub (fun _ h => List.mem_cons_of_mem _ (List.mem_append_left _ (List.mem_append_left _ (List.mem_append_right _ h)))) (by decide +kernel))
set_option maxRecDepth 20000 in
theorem gL_refuses_L_state : GoodIn wsL_refuses (va_wsS RL 129 yL_state wsL_state) := goodIn_app (goodIn_of _ (by decide +kernel)) ggL_refuses_L_state
set_option maxRecDepth 20000 in
theorem ggL_refuses_L_version : GoodIn wsL_refuses wsL_version := goodIn_ca (goodIn_r _ [196, 15, 1, 197, 198, 199, 8, 200, 122, 133, 134, 135, 136, 25, 26, 10, 120, 361, 362, 363, 364, 365, 366, 367, 368, 369, 350, 351, 352, 353, 354, 355, 356] (by decide +kernel) (by decide +kernel)) (goodIn_sub (fun _ h => List.mem_cons_of_mem _ (List.mem_append_left _ (List.mem_append_left _ (List.mem_append_right _ h)))) (by decide +kernel))
set_option maxRecDepth 20000 in
theorem gL_refuses_L_version : GoodIn wsL_refuses (va_wsS RL 132 yL_version wsL_version) := goodIn_app (goodIn_of _ (by decide +kernel)) ggL_refuses_L_version
set_option maxRecDepth 20000 in
theorem ggL_refuses_L_campaign : GoodIn wsL_refuses wsL_campaign := goodIn_ca (goodIn_r _ [203, 15, 1, 204, 205, 206, 8, 207, 154, 133, 134, 135, 136, 25, 26, 10, 120, 361, 362, 363, 364, 365, 366, 367, 368, 369, 350, 351, 352, 353, 354, 355, 356] (by decide +kernel) (by decide +kernel)) (goodIn_sub (fun _ h => List.mem_cons_of_mem _ (List.mem_append_left _ (List.mem_append_left _ (List.mem_append_right _ h)))) (by decide +kernel))
set_option maxRecDepth 20000 in
theorem gL_refuses_L_campaign : GoodIn wsL_refuses (va_wsS RL 134 yL_campaign wsL_campaign) := goodIn_app (goodIn_of _ (by decide +kernel)) ggL_refuses_L_campaign
set_option maxRecDepth 20000 in
theorem ggL_refuses_L_toGo : GoodIn wsL_refuses wsL_toGo := goodIn_ca (goodIn_r _ [210, 15, 1, 211, 212, 213, 8, 214, 215, 133, 134, 135, 136, 25, 26, 10, 120, 361, 362, 363, 364, 365, 366, 367, 368, 369, 350, 351, 352, 353, 354, 355, 356] (by decide +kernel) (by decide +kernel)) (goodIn_sub (fun _ h => List.mem_cons_of_mem _ (List.mem_append_left _ (List.mem_append_left _ (List.mem_append_right _ h)))) (by decide +kernel))
set_option maxRecDepth 20000 in
theorem gL_refuses_L_toGo : GoodIn wsL_refuses (va_wsS RL 137 yL_toGo wsL_toGo) := goodIn_app (goodIn_of _ (by decide +kernel)) ggL_refuses_L_toGo
set_option maxRecDepth 20000 in
theorem ggL_refuses_L_battery : GoodIn wsL_refuses wsL_battery := goodIn_ca (goodIn_r _ [218, 15, 1, 219, 220, 221, 8, 222, 132, 133, 134, 135, 136, 25, 26, 10, 120, 361, 362, 363, 364, 365, 366, 367, 368, 369, 350, 351, 352, 353, 354, 355, 356] (by decide +kernel) (by decide +kernel)) (goodIn_sub (fun _ h => List.mem_cons_of_mem _ (List.mem_append_left _ (List.mem_append_left _ (List.mem_append_right _ h)))) (by decide +kernel))
set_option maxRecDepth 20000 in
theorem gL_refuses_L_battery : GoodIn wsL_refuses (va_wsS RL 139 yL_battery wsL_battery) := goodIn_app (goodIn_of _ (by decide +kernel)) ggL_refuses_L_battery
set_option maxRecDepth 20000 in
theorem ggL_refuses_L_begins : GoodIn wsL_refuses wsL_begins := goodIn_ca (goodIn_ca (goodIn_ca (goodIn_r _ [225, 15, 16, 113, 1, 2, 4, 226, 227, 228, 8, 229, 118, 119, 165, 230, 160, 155, 231, 232, 233, 22, 23, 24, 25, 26, 161, 162, 163, 164, 27, 28, 29, 30, 31, 156, 157, 158, 159, 350, 351, 352, 353, 354, 355, 356, 370, 371, 372, 373, 374, 375, 376, 377, 378, 379, 380, 381, 382] (by decide +kernel) (by decide +kernel)) (goodIn_sub (fun _ h => List.mem_cons_of_mem _ (List.mem_append_right _ h)) (by decide +kernel))) (goodIn_sub (fun _ h => List.mem_cons_of_mem _ (List.mem_append_left _ (List.mem_append_left _ (List.mem_append_right _ h)))) (by decide +kernel))) (goodIn_sub (fun _ h => List.mem_cons_of_mem _ (List.mem_append_left _ (List.mem_append_right _ h))) (by decide +kernel))
set_option maxRecDepth 20000 in
theorem gL_refuses_L_begins : GoodIn wsL_refuses (va_wsS RL 141 yL_begins wsL_begins) := goodIn_app (goodIn_of _ (by decide +kernel)) ggL_refuses_L_begins
set_option maxRecDepth 20000 in
theorem ggL_refuses_L_rules : GoodIn wsL_refuses wsL_rules := goodIn_ca (goodIn_ca (goodIn_r _ [236, 15, 16, 1, 2, 237, 238, 239, 8, 240, 241, 242, 243, 244, 156, 157, 158, 159, 160, 161, 162, 163, 164, 25, 26, 165, 27, 28, 29, 30, 31, 370, 371, 372, 373, 374, 375, 376, 377, 378, 379, 380, 381, 382, 350, 351, 352, 353, 354, 355, 356] (by decide +kernel) (by decide +kernel)) (goodIn_sub (fun _ h => List.mem_cons_of_mem _ (List.mem_append_left _ (List.mem_append_left _ (List.mem_append_right _ h)))) (by decide +kernel))) (goodIn_sub (fun _ h => List.mem_cons_of_mem _ (List.mem_append_left _ (List.mem_append_right _ h))) (by decide +kernel))
set_option maxRecDepth 20000 in
theorem gL_refuses_L_rules : GoodIn wsL_refuses (va_wsS RL 145 yL_rules wsL_rules) := goodIn_app (goodIn_of _ (by decide +kernel)) ggL_refuses_L_rules
set_option maxRecDepth 20000 in
theorem ggL_refuses_L_toggles : GoodIn wsL_refuses wsL_toggles := goodIn_ca (goodIn_r _ [247, 15, 1, 248, 249, 250, 8, 251, 230, 252, 156, 157, 158, 159, 160, 161, 162, 163, 164, 25, 26, 165, 253, 184, 185, 169, 186, 182, 173, 174, 370, 371, 372, 373, 374, 375, 376, 377, 378, 379, 380, 381, 382, 350, 351, 352, 353, 354, 355, 356] (by decide +kernel) (by decide +kernel)) (goodIn_sub (fun _ h => List.mem_cons_of_mem _ (List.mem_append_left _ (List.mem_append_left _ (List.mem_append_right _ h)))) (by decide +kernel))
set_option maxRecDepth 20000 in
theorem gL_refuses_L_toggles : GoodIn wsL_refuses (va_wsS RL 149 yL_toggles wsL_toggles) := goodIn_app (goodIn_of _ (by decide +kernel)) ggL_refuses_L_toggles
set_option maxRecDepth 20000 in
theorem ggL_refuses_L_active : GoodIn wsL_refuses wsL_active := goodIn_ca (goodIn_r _ [256, 15, 1, 257, 258, 259, 8, 260, 230, 156, 157, 158, 159, 160, 161, 162, 163, 164, 25, 26, 165, 370, 371, 372, 373, 374, 375, 376, 377, 378, 379, 380, 381, 382, 350, 351, 352, 353, 354, 355, 356] (by decide +kernel) (by decide +kernel)) (goodIn_sub (fun _ h => List.mem_cons_of_mem _ (List.mem_append_left _ (List.mem_append_left _ (List.mem_append_right _ h)))) (by decide +kernel))
set_option maxRecDepth 20000 in
theorem gL_refuses_L_active : GoodIn wsL_refuses (va_wsS RL 152 yL_active wsL_active) := goodIn_app (goodIn_of _ (by decide +kernel)) ggL_refuses_L_active
set_option maxRecDepth 20000 in
theorem ggL_refuses_L_ring : GoodIn wsL_refuses wsL_ring := goodIn_ca (goodIn_r _ [263, 15, 1, 264, 265, 266, 8, 267, 252, 156, 157, 158, 159, 160, 161, 162, 163, 164, 25, 26, 165, 370, 371, 372, 373, 374, 375, 376, 377, 378, 379, 380, 381, 382, 350, 351, 352, 353, 354, 355, 356] (by decide +kernel) (by decide +kernel)) (goodIn_sub (fun _ h => List.mem_cons_of_mem _ (List.mem_append_left _ (List.mem_append_left _ (List.mem_append_right _ h)))) (by decide +kernel))
set_option maxRecDepth 20000 in
theorem gL_refuses_L_ring : GoodIn wsL_refuses (va_wsS RL 155 yL_ring wsL_ring) := goodIn_app (goodIn_of _ (by decide +kernel)) ggL_refuses_L_ring
set_option maxRecDepth 20000 in
theorem ggL_refuses_L_counted : GoodIn wsL_refuses wsL_counted := goodIn_ca (goodIn_r _ [270, 15, 1, 271, 272, 273, 8, 274, 275, 156, 157, 158, 159, 160, 161, 162, 163, 164, 25, 26, 165, 370, 371, 372, 373, 374, 375, 376, 377, 378, 379, 380, 381, 382, 350, 351, 352, 353, 354, 355, 356] (by decide +kernel) (by decide +kernel)) (goodIn_sub (fun _ h => List.mem_cons_of_mem _ (List.mem_append_left _ (List.mem_append_left _ (List.mem_append_right _ h)))) (by decide +kernel))
set_option maxRecDepth 20000 in
theorem gL_refuses_L_counted : GoodIn wsL_refuses (va_wsS RL 157 yL_counted wsL_counted) := goodIn_app (goodIn_of _ (by decide +kernel)) ggL_refuses_L_counted
set_option maxRecDepth 20000 in
theorem ggL_refuses_L_eligible : GoodIn wsL_refuses wsL_eligible := goodIn_ca (goodIn_r _ [278, 15, 1, 279, 280, 281, 8, 282, 10, 120, 156, 157, 158, 159, 160, 161, 162, 163, 164, 25, 26, 165, 283, 284, 285, 286, 153, 21, 155, 121, 39, 122, 287, 288, 289, 169, 290, 179, 291, 292, 293, 294, 295, 171, 172, 108, 109, 296, 297, 298, 299, 300, 301, 302, 303, 304, 182, 305, 306, 124, 87, 88, 89, 47, 90, 54, 56, 58, 59, 60, 61, 91, 92, 93, 57, 350, 351, 352, 353, 354, 355, 356, 361, 362, 363, 364, 365, 366, 367, 368, 369, 370, 371, 372, 373, 374, 375, 376, 377, 378, 379, 380, 381, 382, 357, 358, 359, 360] (by decide +kernel) (by decide +kernel)) (goodIn_sub (fun _ h => List.mem_cons_of_mem _ (List.mem_append_left _ (List.mem_append_left _ (List.mem_append_right _ h)))) (by decide +kernel))
set_option maxRecDepth 20000 in
theorem gL_refuses_L_eligible : GoodIn wsL_refuses (va_wsS RL 160 yL_eligible wsL_eligible) := goodIn_app (goodIn_of _ (by decide +kernel)) ggL_refuses_L_eligible
set_option maxRecDepth 20000 in
theorem ggL_refuses_L_passes : GoodIn wsL_refuses wsL_passes := goodIn_ca (goodIn_r _ [309, 16, 2, 310, 311, 312, 8, 313, 27, 28, 29, 30, 31, 314, 315, 316, 317, 10, 120, 318, 153, 319, 320, 321, 322, 165, 160, 39, 122, 155, 283, 284, 285, 286, 21, 121, 287, 288, 289, 169, 290, 179, 291, 292, 293, 294, 295, 171, 172, 108, 109, 296, 297, 298, 299, 300, 301, 302, 303, 304, 182, 305, 306, 124, 87, 88, 89, 47, 90, 54, 56, 58, 59, 60, 61, 91, 92, 93, 57, 323, 324, 325, 326, 327, 328, 329, 330, 331, 332, 333, 334, 335, 336, 337, 338, 339, 340, 341, 342, 343, 344, 345, 346, 347, 348, 349, 350, 351, 352, 353, 354, 355, 356, 361, 362, 363, 364, 365, 366, 367, 368, 369, 370, 371, 372, 373, 374, 375, 376, 377, 378, 379, 380, 381, 382, 357, 358, 359, 360] (by decide +kernel) (by decide +kernel)) (goodIn_sub (fun _ h => List.mem_cons_of_mem _ (List.mem_append_left _ (List.mem_append_right _ h))) (by decide +kernel))
set_option maxRecDepth 20000 in
theorem gL_refuses_L_passes : GoodIn wsL_refuses (va_wsS RL 162 yL_passes wsL_passes) := goodIn_app (goodIn_of _ (by decide +kernel)) ggL_refuses_L_passes
set_option maxRecDepth 20000 in
theorem ggL_act_X3_devices : GoodIn wsL_act wsX3_devices := goodIn_r _ [5, 6, 270, 271, 272, 273, 274, 275, 276] (by decide +kernel) (by decide +kernel)
set_option maxRecDepth 20000 in
theorem gL_act_X3_devices : GoodIn wsL_act (wsV RL 94 RX3 yX3_devices wsX3_devices) := goodIn_app (goodIn_of _ (by decide +kernel)) ggL_act_X3_devices
set_option maxRecDepth 20000 in
theorem ggL_act_L_allows : GoodIn wsL_act wsL_allows := goodIn_ca (goodIn_ca (goodIn_r _ [10, 11, 12, 13, 14, 15, 16, 17, 4, 18, 19, 20, 21, 22, 23, 24, 25, 26, 27, 28, 29, 270, 271, 272, 273, 274, 275, 276] (by decide +kernel) (by decide +kernel)) (goodIn_sub (fun _ h => List.mem_cons_of_mem _ (List.mem_append_left _ (List.mem_append_left _ (List.mem_append_right _ h)))) (by decide +kernel))) (goodIn_sub (fun _ h => List.mem_cons_of_mem _ (List.mem_append_left _ (List.mem_append_right _ h))) (by decide +kernel))
set_option maxRecDepth 20000 in
theorem gL_act_L_allows : GoodIn wsL_act (va_wsS RL 98 yL_allows wsL_allows) := goodIn_app (goodIn_of _ (by decide +kernel)) ggL_act_L_allows
set_option maxRecDepth 20000 in
theorem ggL_act_L_images : GoodIn wsL_act wsL_images := goodIn_ca (goodIn_ca (goodIn_r _ [32, 11, 12, 13, 14, 33, 34, 35, 4, 36, 37, 20, 21, 22, 23, 24, 38, 39, 40, 41, 25, 26, 27, 28, 29, 42, 43, 44, 45, 46, 47, 48, 49, 50, 51, 52, 53, 54, 55, 56, 57, 58, 59, 60, 61, 62, 63, 64, 65, 66, 270, 271, 272, 273, 274, 275, 276, 277, 278, 279, 280] (by decide +kernel) (by decide +kernel)) (goodIn_sub (fun _ h => List.mem_cons_of_mem _ (List.mem_append_left _ (List.mem_append_left _ (List.mem_append_right _ h)))) (by decide +kernel))) (goodIn_sub (fun _ h => List.mem_cons_of_mem _ (List.mem_append_left _ (List.mem_append_right _ h))) (by decide +kernel))
set_option maxRecDepth 20000 in
theorem gL_act_L_images : GoodIn wsL_act (va_wsS RL 104 yL_images wsL_images) := goodIn_app (goodIn_of _ (by decide +kernel)) ggL_act_L_images
set_option maxRecDepth 20000 in
theorem ggL_act_L_deltas : GoodIn wsL_act wsL_deltas := goodIn_ca (goodIn_ca (goodIn_r _ [69, 11, 12, 13, 14, 70, 71, 72, 4, 73, 28, 29, 37, 20, 21, 22, 23, 24, 38, 39, 40, 41, 25, 26, 27, 74, 75, 76, 45, 77, 53, 48, 49, 50, 51, 52, 54, 55, 47, 56, 57, 58, 59, 60, 61, 62, 63, 64, 65, 66, 270, 271, 272, 273, 274, 275, 276, 277, 278, 279, 280] (by decide +kernel) (by decide +kernel)) (goodIn_sub (fun _ h => List.mem_cons_of_mem _ (List.mem_append_left _ (List.mem_append_right _ h))) (by decide +kernel))) (goodIn_sub (fun _ h => List.mem_cons_of_mem _ (List.mem_append_left _ (List.mem_append_left _ (List.mem_append_right _ h)))) (by decide +kernel))
set_option maxRecDepth 20000 in
theorem gL_act_L_deltas : GoodIn wsL_act (va_wsS RL 108 yL_deltas wsL_deltas) := goodIn_app (goodIn_of _ (by decide +kernel)) ggL_act_L_deltas
set_option maxRecDepth 20000 in
theorem ggL_act_L_adds : GoodIn wsL_act wsL_adds := goodIn_ca (goodIn_ca (goodIn_r _ [80, 11, 81, 13, 82, 83, 84, 85, 4, 86, 23, 24, 87, 88, 6, 19, 89, 90, 91, 92, 20, 21, 22, 93, 94, 95, 270, 271, 272, 273, 274, 275, 276, 281, 282, 283, 284, 285, 286, 287, 288, 289] (by decide +kernel) (by decide +kernel)) (goodIn_sub (fun _ h => List.mem_cons_of_mem _ (List.mem_append_left _ (List.mem_append_left _ (List.mem_append_right _ h)))) (by decide +kernel))) (goodIn_sub (fun _ h => List.mem_cons_of_mem _ (List.mem_append_right _ h)) (by decide +kernel))
set_option maxRecDepth 20000 in
theorem gL_act_L_adds : GoodIn wsL_act (va_wsS RL 117 yL_adds wsL_adds) := goodIn_app (goodIn_of _ (by decide +kernel)) ggL_act_L_adds
set_option maxRecDepth 20000 in
theorem ggL_act_L_charges : GoodIn wsL_act wsL_charges := goodIn_ca (goodIn_ca (goodIn_r _ [98, 11, 12, 13, 14, 99, 100, 101, 4, 102, 103, 104, 105, 106, 107, 23, 24, 6, 89, 25, 26, 27, 28, 29, 281, 282, 283, 284, 285, 286, 287, 288, 289, 270, 271, 272, 273, 274, 275, 276] (by decide +kernel) (by decide +kernel)) (goodIn_sub (fun _ h => List.mem_cons_of_mem _ (List.mem_append_left _ (List.mem_append_left _ (List.mem_append_right _ h)))) (by decide +kernel))) (goodIn_sub (fun _ h => List.mem_cons_of_mem _ (List.mem_append_left _ (List.mem_append_right _ h))) (by decide +kernel))
set_option maxRecDepth 20000 in
theorem gL_act_L_charges : GoodIn wsL_act (va_wsS RL 120 yL_charges wsL_charges) := goodIn_app (goodIn_of _ (by decide +kernel)) ggL_act_L_charges
set_option maxRecDepth 20000 in
theorem ggL_act_L_windows : GoodIn wsL_act wsL_windows := goodIn_ca (goodIn_ca (goodIn_r _ [110, 11, 12, 13, 14, 111, 112, 113, 4, 114, 115, 116, 104, 105, 106, 107, 23, 24, 6, 89, 25, 26, 27, 28, 29, 281, 282, 283, 284, 285, 286, 287, 288, 289, 270, 271, 272, 273, 274, 275, 276] (by decide +kernel) (by decide +kernel)) (goodIn_sub (fun _ h => List.mem_cons_of_mem _ (List.mem_append_left _ (List.mem_append_left _ (List.mem_append_right _ h)))) (by decide +kernel))) (goodIn_sub (fun _ h => List.mem_cons_of_mem _ (List.mem_append_left _ (List.mem_append_right _ h))) (by decide +kernel))
set_option maxRecDepth 20000 in
theorem gL_act_L_windows : GoodIn wsL_act (va_wsS RL 123 yL_windows wsL_windows) := goodIn_app (goodIn_of _ (by decide +kernel)) ggL_act_L_windows
set_option maxRecDepth 20000 in
theorem ggL_act_L_begins : GoodIn wsL_act wsL_begins := goodIn_ca (goodIn_ca (goodIn_ca (goodIn_r _ [119, 11, 12, 81, 13, 14, 82, 120, 121, 122, 4, 123, 87, 88, 124, 125, 126, 127, 128, 129, 130, 20, 21, 22, 23, 24, 131, 132, 133, 134, 25, 26, 27, 28, 29, 135, 136, 137, 138, 270, 271, 272, 273, 274, 275, 276, 290, 291, 292, 293, 294, 295, 296, 297, 298, 299, 300, 301, 302] (by decide +kernel) (by decide +kernel)) (goodIn_sub (fun _ h => List.mem_cons_of_mem _ (List.mem_append_right _ h)) (by decide +kernel))) (goodIn_sub (fun _ h => List.mem_cons_of_mem _ (List.mem_append_left _ (List.mem_append_left _ (List.mem_append_right _ h)))) (by decide +kernel))) (goodIn_sub (fun _ h => List.mem_cons_of_mem _ (List.mem_append_left _ (List.mem_append_right _ h))) (by decide +kernel))
set_option maxRecDepth 20000 in
theorem gL_act_L_begins : GoodIn wsL_act (va_wsS RL 141 yL_begins wsL_begins) := goodIn_app (goodIn_of _ (by decide +kernel)) ggL_act_L_begins
set_option maxRecDepth 20000 in
theorem ggL_act_L_rules : GoodIn wsL_act wsL_rules := goodIn_ca (goodIn_ca (goodIn_r _ [141, 11, 12, 13, 14, 142, 143, 144, 4, 145, 146, 147, 148, 149, 135, 136, 137, 138, 126, 131, 132, 133, 134, 23, 24, 124, 25, 26, 27, 28, 29, 290, 291, 292, 293, 294, 295, 296, 297, 298, 299, 300, 301, 302, 270, 271, 272, 273, 274, 275, 276] (by decide +kernel) (by decide +kernel)) (goodIn_sub (fun _ h => List.mem_cons_of_mem _ (List.mem_append_left _ (List.mem_append_left _ (List.mem_append_right _ h)))) (by decide +kernel))) (goodIn_sub (fun _ h => List.mem_cons_of_mem _ (List.mem_append_left _ (List.mem_append_right _ h))) (by decide +kernel))
set_option maxRecDepth 20000 in
theorem gL_act_L_rules : GoodIn wsL_act (va_wsS RL 145 yL_rules wsL_rules) := goodIn_app (goodIn_of _ (by decide +kernel)) ggL_act_L_rules
set_option maxRecDepth 20000 in
theorem ggL_act_L_toggles : GoodIn wsL_act wsL_toggles := goodIn_ca (goodIn_r _ [152, 11, 13, 153, 154, 155, 4, 156, 125, 157, 135, 136, 137, 138, 126, 131, 132, 133, 134, 23, 24, 124, 158, 159, 160, 161, 162, 163, 164, 165, 290, 291, 292, 293, 294, 295, 296, 297, 298, 299, 300, 301, 302, 270, 271, 272, 273, 274, 275, 276] (by decide +kernel) (by decide +kernel)) (goodIn_sub (fun _ h => List.mem_cons_of_mem _ (List.mem_append_left _ (List.mem_append_left _ (List.mem_append_right _ h)))) (by decide +kernel))
set_option maxRecDepth 20000 in
theorem gL_act_L_toggles : GoodIn wsL_act (va_wsS RL 149 yL_toggles wsL_toggles) := goodIn_app (goodIn_of _ (by decide +kernel)) ggL_act_L_toggles
set_option maxRecDepth 20000 in
theorem ggL_act_L_state : GoodIn wsL_act wsL_state := goodIn_ca (goodIn_r _ [168, 11, 13, 169, 170, 171, 4, 172, 173, 104, 105, 106, 107, 23, 24, 6, 89, 281, 282, 283, 284, 285, 286, 287, 288, 289, 270, 271, 272, 273, 274, 275, 276] (by decide +kernel) (by decide +kernel)) (goodIn_sub (fun _ h => List.mem_cons_of_mem _ (List.mem_append_left _ (List.mem_append_left _ (List.mem_append_right _ h)))) (by decide +kernel))
set_option maxRecDepth 20000 in
theorem gL_act_L_state : GoodIn wsL_act (va_wsS RL 129 yL_state wsL_state) := goodIn_app (goodIn_of _ (by decide +kernel)) ggL_act_L_state
set_option maxRecDepth 20000 in
theorem ggL_act_L_reports : GoodIn wsL_act wsL_reports := goodIn_ca (goodIn_ca (goodIn_r _ [176, 11, 81, 13, 82, 177, 178, 179, 4, 180, 87, 88, 173, 181, 127, 91, 104, 105, 106, 107, 23, 24, 6, 89, 135, 136, 137, 138, 126, 131, 132, 133, 134, 124, 182, 183, 184, 161, 185, 186, 187, 164, 165, 188, 189, 190, 191, 192, 193, 194, 163, 195, 159, 160, 162, 281, 282, 283, 284, 285, 286, 287, 288, 289, 290, 291, 292, 293, 294, 295, 296, 297, 298, 299, 300, 301, 302, 270, 271, 272, 273, 274, 275, 276] (by decide +kernel) (by decide +kernel)) (goodIn_sub (fun _ h => List.mem_cons_of_mem _ (List.mem_append_right _ h)) (by decide +kernel))) (goodIn_sub (fun _ h => List.mem_cons_of_mem _ (List.mem_append_left _ (List.mem_append_left _ (List.mem_append_right _ h)))) (by decide +kernel))
set_option maxRecDepth 20000 in
theorem gL_act_L_reports : GoodIn wsL_act (va_wsS RL 126 yL_reports wsL_reports) := goodIn_app (goodIn_of _ (by decide +kernel)) ggL_act_L_reports
set_option maxRecDepth 20000 in
theorem ggL_act_L_passes : GoodIn wsL_act wsL_passes := goodIn_ca (goodIn_r _ [198, 12, 14, 199, 200, 201, 4, 202, 25, 26, 27, 28, 29, 203, 204, 205, 206, 6, 89, 207, 173, 208, 209, 210, 211, 124, 126, 37, 91, 127, 212, 213, 214, 215, 19, 90, 216, 217, 218, 161, 219, 192, 220, 221, 222, 223, 224, 186, 187, 94, 95, 225, 226, 227, 228, 229, 230, 231, 232, 233, 163, 234, 235, 93, 236, 237, 238, 45, 239, 52, 54, 56, 57, 58, 59, 240, 241, 242, 55, 243, 244, 245, 246, 247, 248, 249, 250, 251, 252, 253, 254, 255, 256, 257, 258, 259, 260, 261, 262, 263, 264, 265, 266, 267, 268, 269, 270, 271, 272, 273, 274, 275, 276, 281, 282, 283, 284, 285, 286, 287, 288, 289, 290, 291, 292, 293, 294, 295, 296, 297, 298, 299, 300, 301, 302, 277, 278, 279, 280] (by decide +kernel) (by decide +kernel)) (goodIn_sub (fun _ h => List.mem_cons_of_mem _ (List.mem_append_left _ (List.mem_append_right _ h))) (by decide +kernel))
set_option maxRecDepth 20000 in
theorem gL_act_L_passes : GoodIn wsL_act (va_wsS RL 162 yL_passes wsL_passes) := goodIn_app (goodIn_of _ (by decide +kernel)) ggL_act_L_passes
set_option maxRecDepth 20000 in
theorem ggL_alike_X3_devices : GoodIn wsL_alike wsX3_devices := goodIn_r _ [5, 6, 159, 160, 161, 162, 163, 164, 165] (by decide +kernel) (by decide +kernel)
set_option maxRecDepth 20000 in
theorem gL_alike_X3_devices : GoodIn wsL_alike (wsV RL 94 RX3 yX3_devices wsX3_devices) := goodIn_app (goodIn_of _ (by decide +kernel)) ggL_alike_X3_devices
set_option maxRecDepth 20000 in
theorem ggL_alike_L_size : GoodIn wsL_alike wsL_size := goodIn_ca (goodIn_r _ [10, 11, 12, 13, 14, 15, 4, 16, 17, 18, 19, 20, 21, 22, 23, 24, 25, 26, 27, 28, 29, 30, 31, 32, 33, 34, 35, 36, 37, 159, 160, 161, 162, 163, 164, 165, 166, 167, 168, 169] (by decide +kernel) (by decide +kernel)) (goodIn_sub (fun _ h => List.mem_cons_of_mem _ (List.mem_append_right _ h)) (by decide +kernel))
set_option maxRecDepth 20000 in
theorem gL_alike_L_size : GoodIn wsL_alike (va_wsS RL 112 yL_size wsL_size) := goodIn_app (goodIn_of _ (by decide +kernel)) ggL_alike_L_size
set_option maxRecDepth 20000 in
theorem ggL_alike_L_state : GoodIn wsL_alike wsL_state := goodIn_ca (goodIn_r _ [40, 11, 12, 41, 42, 43, 4, 44, 45, 46, 47, 48, 49, 21, 22, 6, 50, 170, 171, 172, 173, 174, 175, 176, 177, 178, 159, 160, 161, 162, 163, 164, 165] (by decide +kernel) (by decide +kernel)) (goodIn_sub (fun _ h => List.mem_cons_of_mem _ (List.mem_append_right _ h)) (by decide +kernel))
set_option maxRecDepth 20000 in
theorem gL_alike_L_state : GoodIn wsL_alike (va_wsS RL 129 yL_state wsL_state) := goodIn_app (goodIn_of _ (by decide +kernel)) ggL_alike_L_state
set_option maxRecDepth 20000 in
theorem ggL_alike_L_version : GoodIn wsL_alike wsL_version := goodIn_ca (goodIn_r _ [53, 11, 12, 54, 55, 56, 4, 57, 58, 46, 47, 48, 49, 21, 22, 6, 50, 170, 171, 172, 173, 174, 175, 176, 177, 178, 159, 160, 161, 162, 163, 164, 165] (by decide +kernel) (by decide +kernel)) (goodIn_sub (fun _ h => List.mem_cons_of_mem _ (List.mem_append_right _ h)) (by decide +kernel))
set_option maxRecDepth 20000 in
theorem gL_alike_L_version : GoodIn wsL_alike (va_wsS RL 132 yL_version wsL_version) := goodIn_app (goodIn_of _ (by decide +kernel)) ggL_alike_L_version
set_option maxRecDepth 20000 in
theorem ggL_alike_L_campaign : GoodIn wsL_alike wsL_campaign := goodIn_ca (goodIn_r _ [61, 11, 12, 62, 63, 64, 4, 65, 66, 46, 47, 48, 49, 21, 22, 6, 50, 170, 171, 172, 173, 174, 175, 176, 177, 178, 159, 160, 161, 162, 163, 164, 165] (by decide +kernel) (by decide +kernel)) (goodIn_sub (fun _ h => List.mem_cons_of_mem _ (List.mem_append_right _ h)) (by decide +kernel))
set_option maxRecDepth 20000 in
theorem gL_alike_L_campaign : GoodIn wsL_alike (va_wsS RL 134 yL_campaign wsL_campaign) := goodIn_app (goodIn_of _ (by decide +kernel)) ggL_alike_L_campaign
set_option maxRecDepth 20000 in
theorem ggL_alike_L_toGo : GoodIn wsL_alike wsL_toGo := goodIn_ca (goodIn_r _ [69, 11, 12, 70, 71, 72, 4, 73, 74, 46, 47, 48, 49, 21, 22, 6, 50, 170, 171, 172, 173, 174, 175, 176, 177, 178, 159, 160, 161, 162, 163, 164, 165] (by decide +kernel) (by decide +kernel)) (goodIn_sub (fun _ h => List.mem_cons_of_mem _ (List.mem_append_right _ h)) (by decide +kernel))
set_option maxRecDepth 20000 in
theorem gL_alike_L_toGo : GoodIn wsL_alike (va_wsS RL 137 yL_toGo wsL_toGo) := goodIn_app (goodIn_of _ (by decide +kernel)) ggL_alike_L_toGo
set_option maxRecDepth 20000 in
theorem ggL_alike_L_battery : GoodIn wsL_alike wsL_battery := goodIn_ca (goodIn_r _ [77, 11, 12, 78, 79, 80, 4, 81, 82, 46, 47, 48, 49, 21, 22, 6, 50, 170, 171, 172, 173, 174, 175, 176, 177, 178, 159, 160, 161, 162, 163, 164, 165] (by decide +kernel) (by decide +kernel)) (goodIn_sub (fun _ h => List.mem_cons_of_mem _ (List.mem_append_right _ h)) (by decide +kernel))
set_option maxRecDepth 20000 in
theorem gL_alike_L_battery : GoodIn wsL_alike (va_wsS RL 139 yL_battery wsL_battery) := goodIn_app (goodIn_of _ (by decide +kernel)) ggL_alike_L_battery
set_option maxRecDepth 20000 in
theorem ggL_alike_L_active : GoodIn wsL_alike wsL_active := goodIn_ca (goodIn_r _ [85, 11, 12, 86, 87, 88, 4, 89, 90, 91, 92, 93, 94, 95, 96, 97, 98, 99, 21, 22, 100, 179, 180, 181, 182, 183, 184, 185, 186, 187, 188, 189, 190, 191, 159, 160, 161, 162, 163, 164, 165] (by decide +kernel) (by decide +kernel)) (goodIn_sub (fun _ h => List.mem_cons_of_mem _ (List.mem_append_right _ h)) (by decide +kernel))
set_option maxRecDepth 20000 in
theorem gL_alike_L_active : GoodIn wsL_alike (va_wsS RL 152 yL_active wsL_active) := goodIn_app (goodIn_of _ (by decide +kernel)) ggL_alike_L_active
set_option maxRecDepth 20000 in
theorem ggL_alike_L_ring : GoodIn wsL_alike wsL_ring := goodIn_ca (goodIn_r _ [103, 11, 12, 104, 105, 106, 4, 107, 108, 91, 92, 93, 94, 95, 96, 97, 98, 99, 21, 22, 100, 179, 180, 181, 182, 183, 184, 185, 186, 187, 188, 189, 190, 191, 159, 160, 161, 162, 163, 164, 165] (by decide +kernel) (by decide +kernel)) (goodIn_sub (fun _ h => List.mem_cons_of_mem _ (List.mem_append_right _ h)) (by decide +kernel))
set_option maxRecDepth 20000 in
theorem gL_alike_L_ring : GoodIn wsL_alike (va_wsS RL 155 yL_ring wsL_ring) := goodIn_app (goodIn_of _ (by decide +kernel)) ggL_alike_L_ring
set_option maxRecDepth 20000 in
theorem ggL_alike_L_counted : GoodIn wsL_alike wsL_counted := goodIn_ca (goodIn_r _ [111, 11, 12, 112, 113, 114, 4, 115, 116, 91, 92, 93, 94, 95, 96, 97, 98, 99, 21, 22, 100, 179, 180, 181, 182, 183, 184, 185, 186, 187, 188, 189, 190, 191, 159, 160, 161, 162, 163, 164, 165] (by decide +kernel) (by decide +kernel)) (goodIn_sub (fun _ h => List.mem_cons_of_mem _ (List.mem_append_right _ h)) (by decide +kernel))
set_option maxRecDepth 20000 in
theorem gL_alike_L_counted : GoodIn wsL_alike (va_wsS RL 157 yL_counted wsL_counted) := goodIn_app (goodIn_of _ (by decide +kernel)) ggL_alike_L_counted
set_option maxRecDepth 20000 in
theorem ggL_alike_L_eligible : GoodIn wsL_alike wsL_eligible := goodIn_ca (goodIn_r _ [119, 11, 12, 120, 121, 122, 4, 123, 6, 50, 91, 92, 93, 94, 95, 96, 97, 98, 99, 21, 22, 100, 124, 125, 126, 127, 45, 128, 129, 130, 17, 58, 131, 132, 133, 134, 135, 136, 137, 138, 139, 140, 141, 142, 143, 144, 145, 146, 147, 148, 149, 150, 151, 152, 153, 154, 155, 156, 157, 158, 23, 24, 25, 26, 27, 28, 29, 30, 31, 32, 33, 34, 35, 36, 37, 159, 160, 161, 162, 163, 164, 165, 170, 171, 172, 173, 174, 175, 176, 177, 178, 179, 180, 181, 182, 183, 184, 185, 186, 187, 188, 189, 190, 191, 166, 167, 168, 169] (by decide +kernel) (by decide +kernel)) (goodIn_sub (fun _ h => List.mem_cons_of_mem _ (List.mem_append_right _ h)) (by decide +kernel))
set_option maxRecDepth 20000 in
theorem gL_alike_L_eligible : GoodIn wsL_alike (va_wsS RL 160 yL_eligible wsL_eligible) := goodIn_app (goodIn_of _ (by decide +kernel)) ggL_alike_L_eligible
set_option maxRecDepth 20000 in
theorem ggL_holds_X3_devices : GoodIn wsL_holds wsX3_devices := goodIn_r _ [5, 6, 175, 176, 177, 178, 179, 180, 181] (by decide +kernel) (by decide +kernel)
set_option maxRecDepth 20000 in
theorem gL_holds_X3_devices : GoodIn wsL_holds (wsV RL 94 RX3 yX3_devices wsX3_devices) := goodIn_app (goodIn_of _ (by decide +kernel)) ggL_holds_X3_devices
set_option maxRecDepth 20000 in
theorem ggL_holds_L_state : GoodIn wsL_holds wsL_state := goodIn_ca (goodIn_r _ [10, 11, 12, 13, 14, 15, 4, 16, 17, 18, 19, 20, 21, 22, 23, 6, 24, 182, 183, 184, 185, 186, 187, 188, 189, 190, 175, 176, 177, 178, 179, 180, 181] (by decide +kernel) (by decide +kernel)) (goodIn_sub (fun _ h => List.mem_cons_of_mem _ (List.mem_append_right _ h)) (by decide +kernel))
set_option maxRecDepth 20000 in
theorem gL_holds_L_state : GoodIn wsL_holds (va_wsS RL 129 yL_state wsL_state) := goodIn_app (goodIn_of _ (by decide +kernel)) ggL_holds_L_state
set_option maxRecDepth 20000 in
theorem ggL_holds_L_campaign : GoodIn wsL_holds wsL_campaign := goodIn_ca (goodIn_r _ [27, 11, 12, 28, 29, 30, 4, 31, 32, 18, 19, 20, 21, 22, 23, 6, 24, 182, 183, 184, 185, 186, 187, 188, 189, 190, 175, 176, 177, 178, 179, 180, 181] (by decide +kernel) (by decide +kernel)) (goodIn_sub (fun _ h => List.mem_cons_of_mem _ (List.mem_append_right _ h)) (by decide +kernel))
set_option maxRecDepth 20000 in
theorem gL_holds_L_campaign : GoodIn wsL_holds (va_wsS RL 134 yL_campaign wsL_campaign) := goodIn_app (goodIn_of _ (by decide +kernel)) ggL_holds_L_campaign
set_option maxRecDepth 20000 in
theorem ggL_holds_L_toGo : GoodIn wsL_holds wsL_toGo := goodIn_ca (goodIn_r _ [35, 11, 12, 36, 37, 38, 4, 39, 40, 18, 19, 20, 21, 22, 23, 6, 24, 182, 183, 184, 185, 186, 187, 188, 189, 190, 175, 176, 177, 178, 179, 180, 181] (by decide +kernel) (by decide +kernel)) (goodIn_sub (fun _ h => List.mem_cons_of_mem _ (List.mem_append_right _ h)) (by decide +kernel))
set_option maxRecDepth 20000 in
theorem gL_holds_L_toGo : GoodIn wsL_holds (va_wsS RL 137 yL_toGo wsL_toGo) := goodIn_app (goodIn_of _ (by decide +kernel)) ggL_holds_L_toGo
set_option maxRecDepth 20000 in
theorem ggL_holds_L_battery : GoodIn wsL_holds wsL_battery := goodIn_ca (goodIn_r _ [43, 11, 12, 44, 45, 46, 4, 47, 48, 18, 19, 20, 21, 22, 23, 6, 24, 182, 183, 184, 185, 186, 187, 188, 189, 190, 175, 176, 177, 178, 179, 180, 181] (by decide +kernel) (by decide +kernel)) (goodIn_sub (fun _ h => List.mem_cons_of_mem _ (List.mem_append_right _ h)) (by decide +kernel))
set_option maxRecDepth 20000 in
theorem gL_holds_L_battery : GoodIn wsL_holds (va_wsS RL 139 yL_battery wsL_battery) := goodIn_app (goodIn_of _ (by decide +kernel)) ggL_holds_L_battery
set_option maxRecDepth 20000 in
theorem ggL_holds_L_version : GoodIn wsL_holds wsL_version := goodIn_ca (goodIn_r _ [51, 11, 12, 52, 53, 54, 4, 55, 56, 18, 19, 20, 21, 22, 23, 6, 24, 182, 183, 184, 185, 186, 187, 188, 189, 190, 175, 176, 177, 178, 179, 180, 181] (by decide +kernel) (by decide +kernel)) (goodIn_sub (fun _ h => List.mem_cons_of_mem _ (List.mem_append_right _ h)) (by decide +kernel))
set_option maxRecDepth 20000 in
theorem gL_holds_L_version : GoodIn wsL_holds (va_wsS RL 132 yL_version wsL_version) := goodIn_app (goodIn_of _ (by decide +kernel)) ggL_holds_L_version
set_option maxRecDepth 20000 in
theorem ggL_holds_L_eligible : GoodIn wsL_holds wsL_eligible := goodIn_ca (goodIn_r _ [59, 11, 12, 60, 61, 62, 4, 63, 6, 24, 64, 65, 66, 67, 68, 69, 70, 71, 72, 22, 23, 73, 74, 75, 76, 77, 17, 78, 79, 80, 81, 56, 82, 83, 84, 85, 86, 87, 88, 89, 90, 91, 92, 93, 94, 95, 96, 97, 98, 99, 100, 101, 102, 103, 104, 105, 106, 107, 108, 109, 110, 111, 112, 113, 114, 115, 116, 117, 118, 119, 120, 121, 122, 123, 124, 175, 176, 177, 178, 179, 180, 181, 182, 183, 184, 185, 186, 187, 188, 189, 190, 191, 192, 193, 194, 195, 196, 197, 198, 199, 200, 201, 202, 203, 204, 205, 206, 207] (by decide +kernel) (by decide +kernel)) (goodIn_sub (fun _ h => List.mem_cons_of_mem _ (List.mem_append_right _ h)) (by decide +kernel))
set_option maxRecDepth 20000 in
theorem gL_holds_L_eligible : GoodIn wsL_holds (va_wsS RL 160 yL_eligible wsL_eligible) := goodIn_app (goodIn_of _ (by decide +kernel)) ggL_holds_L_eligible
set_option maxRecDepth 20000 in
theorem ggL_holds_L_active : GoodIn wsL_holds wsL_active := goodIn_ca (goodIn_r _ [127, 11, 12, 128, 129, 130, 4, 131, 132, 64, 65, 66, 67, 68, 69, 70, 71, 72, 22, 23, 73, 191, 192, 193, 194, 195, 196, 197, 198, 199, 200, 201, 202, 203, 175, 176, 177, 178, 179, 180, 181] (by decide +kernel) (by decide +kernel)) (goodIn_sub (fun _ h => List.mem_cons_of_mem _ (List.mem_append_right _ h)) (by decide +kernel))
set_option maxRecDepth 20000 in
theorem gL_holds_L_active : GoodIn wsL_holds (va_wsS RL 152 yL_active wsL_active) := goodIn_app (goodIn_of _ (by decide +kernel)) ggL_holds_L_active
set_option maxRecDepth 20000 in
theorem ggL_holds_L_ring : GoodIn wsL_holds wsL_ring := goodIn_ca (goodIn_r _ [135, 11, 12, 136, 137, 138, 4, 139, 140, 64, 65, 66, 67, 68, 69, 70, 71, 72, 22, 23, 73, 191, 192, 193, 194, 195, 196, 197, 198, 199, 200, 201, 202, 203, 175, 176, 177, 178, 179, 180, 181] (by decide +kernel) (by decide +kernel)) (goodIn_sub (fun _ h => List.mem_cons_of_mem _ (List.mem_append_right _ h)) (by decide +kernel))
set_option maxRecDepth 20000 in
theorem gL_holds_L_ring : GoodIn wsL_holds (va_wsS RL 155 yL_ring wsL_ring) := goodIn_app (goodIn_of _ (by decide +kernel)) ggL_holds_L_ring
set_option maxRecDepth 20000 in
theorem ggL_holds_L_counted : GoodIn wsL_holds wsL_counted := goodIn_ca (goodIn_r _ [143, 11, 12, 144, 145, 146, 4, 147, 148, 64, 65, 66, 67, 68, 69, 70, 71, 72, 22, 23, 73, 191, 192, 193, 194, 195, 196, 197, 198, 199, 200, 201, 202, 203, 175, 176, 177, 178, 179, 180, 181] (by decide +kernel) (by decide +kernel)) (goodIn_sub (fun _ h => List.mem_cons_of_mem _ (List.mem_append_right _ h)) (by decide +kernel))
set_option maxRecDepth 20000 in
theorem gL_holds_L_counted : GoodIn wsL_holds (va_wsS RL 157 yL_counted wsL_counted) := goodIn_app (goodIn_of _ (by decide +kernel)) ggL_holds_L_counted
set_option maxRecDepth 20000 in
theorem ggL_holds_L_size : GoodIn wsL_holds wsL_size := goodIn_ca (goodIn_r _ [151, 11, 12, 152, 153, 154, 4, 155, 81, 156, 157, 158, 22, 23, 110, 111, 112, 113, 114, 115, 116, 117, 118, 119, 120, 121, 122, 123, 124, 175, 176, 177, 178, 179, 180, 181, 204, 205, 206, 207] (by decide +kernel) (by decide +kernel)) (goodIn_sub (fun _ h => List.mem_cons_of_mem _ (List.mem_append_right _ h)) (by decide +kernel))
set_option maxRecDepth 20000 in
theorem gL_holds_L_size : GoodIn wsL_holds (va_wsS RL 112 yL_size wsL_size) := goodIn_app (goodIn_of _ (by decide +kernel)) ggL_holds_L_size
set_option maxRecDepth 20000 in
theorem ggL_holds_L_byWays : GoodIn wsL_holds wsL_byWays := goodIn_ca (goodIn_r _ [161, 11, 12, 162, 163, 164, 4, 165, 81, 156, 157, 158, 22, 23, 166, 167, 168, 113, 169, 170, 171, 117, 118, 119, 120, 172, 173, 174, 124, 95, 96, 121, 122, 123, 175, 176, 177, 178, 179, 180, 181, 204, 205, 206, 207] (by decide +kernel) (by decide +kernel)) (goodIn_sub (fun _ h => List.mem_cons_of_mem _ (List.mem_append_right _ h)) (by decide +kernel))
set_option maxRecDepth 20000 in
theorem gL_holds_L_byWays : GoodIn wsL_holds (va_wsS RL 114 yL_byWays wsL_byWays) := goodIn_app (goodIn_of _ (by decide +kernel)) ggL_holds_L_byWays
set_option maxRecDepth 20000 in
theorem ggL_ends_X3_devices : GoodIn wsL_ends wsX3_devices := goodIn_r _ [5, 6, 219, 220, 221, 222, 223, 224, 225] (by decide +kernel) (by decide +kernel)
set_option maxRecDepth 20000 in
theorem gL_ends_X3_devices : GoodIn wsL_ends (wsV RL 94 RX3 yX3_devices wsX3_devices) := goodIn_app (goodIn_of _ (by decide +kernel)) ggL_ends_X3_devices
set_option maxRecDepth 20000 in
theorem ggL_ends_L_windows : GoodIn wsL_ends wsL_windows := goodIn_ca (goodIn_ca (goodIn_r _ [10, 11, 12, 13, 14, 15, 16, 17, 4, 18, 19, 20, 21, 22, 23, 24, 25, 26, 6, 27, 28, 29, 30, 31, 32, 226, 227, 228, 229, 230, 231, 232, 233, 234, 219, 220, 221, 222, 223, 224, 225] (by decide +kernel) (by decide +kernel)) (goodIn_sub (fun _ h => List.mem_cons_of_mem _ (List.mem_append_left _ (List.mem_append_left _ (List.mem_append_right _ h)))) (by decide +kernel))) (goodIn_sub (fun _ h => List.mem_cons_of_mem _ (List.mem_append_left _ (List.mem_append_right _ h))) (by decide +kernel))
set_option maxRecDepth 20000 in
theorem gL_ends_L_windows : GoodIn wsL_ends (va_wsS RL 123 yL_windows wsL_windows) := goodIn_app (goodIn_of _ (by decide +kernel)) ggL_ends_L_windows
set_option maxRecDepth 20000 in
theorem ggL_ends_L_charges : GoodIn wsL_ends wsL_charges := goodIn_ca (goodIn_ca (goodIn_r _ [35, 11, 12, 13, 14, 36, 37, 38, 4, 39, 40, 21, 22, 23, 24, 25, 26, 6, 27, 28, 29, 30, 31, 32, 226, 227, 228, 229, 230, 231, 232, 233, 234, 219, 220, 221, 222, 223, 224, 225] (by decide +kernel) (by decide +kernel)) (goodIn_sub (fun _ h => List.mem_cons_of_mem _ (List.mem_append_left _ (List.mem_append_left _ (List.mem_append_right _ h)))) (by decide +kernel))) (goodIn_sub (fun _ h => List.mem_cons_of_mem _ (List.mem_append_left _ (List.mem_append_right _ h))) (by decide +kernel))
set_option maxRecDepth 20000 in
theorem gL_ends_L_charges : GoodIn wsL_ends (va_wsS RL 120 yL_charges wsL_charges) := goodIn_app (goodIn_of _ (by decide +kernel)) ggL_ends_L_charges
set_option maxRecDepth 20000 in
theorem ggL_ends_L_passes : GoodIn wsL_ends wsL_passes := goodIn_ca (goodIn_r _ [43, 12, 14, 44, 45, 46, 4, 47, 28, 29, 30, 31, 32, 48, 49, 50, 51, 6, 27, 52, 53, 54, 55, 56, 57, 58, 59, 60, 61, 62, 63, 64, 65, 66, 67, 68, 69, 70, 71, 72, 73, 74, 75, 76, 77, 78, 79, 80, 81, 82, 83, 84, 85, 86, 87, 88, 89, 90, 91, 92, 93, 94, 95, 96, 97, 98, 99, 100, 101, 102, 103, 104, 105, 106, 107, 108, 109, 110, 111, 112, 113, 114, 115, 116, 117, 118, 119, 120, 121, 122, 123, 124, 125, 126, 127, 128, 129, 130, 131, 132, 133, 134, 135, 136, 137, 138, 219, 220, 221, 222, 223, 224, 225, 226, 227, 228, 229, 230, 231, 232, 233, 234, 235, 236, 237, 238, 239, 240, 241, 242, 243, 244, 245, 246, 247, 248, 249, 250, 251] (by decide +kernel) (by decide +kernel)) (goodIn_sub (fun _ h => List.mem_cons_of_mem _ (List.mem_append_left _ (List.mem_append_right _ h))) (by decide +kernel))
set_option maxRecDepth 20000 in
theorem gL_ends_L_passes : GoodIn wsL_ends (va_wsS RL 162 yL_passes wsL_passes) := goodIn_app (goodIn_of _ (by decide +kernel)) ggL_ends_L_passes
set_option maxRecDepth 20000 in
theorem ggL_ends_L_version : GoodIn wsL_ends wsL_version := goodIn_ca (goodIn_r _ [141, 11, 13, 142, 143, 144, 4, 145, 61, 21, 22, 23, 24, 25, 26, 6, 27, 226, 227, 228, 229, 230, 231, 232, 233, 234, 219, 220, 221, 222, 223, 224, 225] (by decide +kernel) (by decide +kernel)) (goodIn_sub (fun _ h => List.mem_cons_of_mem _ (List.mem_append_left _ (List.mem_append_left _ (List.mem_append_right _ h)))) (by decide +kernel))
set_option maxRecDepth 20000 in
theorem gL_ends_L_version : GoodIn wsL_ends (va_wsS RL 132 yL_version wsL_version) := goodIn_app (goodIn_of _ (by decide +kernel)) ggL_ends_L_version
set_option maxRecDepth 20000 in
theorem ggL_ends_L_state : GoodIn wsL_ends wsL_state := goodIn_ca (goodIn_r _ [148, 11, 13, 149, 150, 151, 4, 152, 53, 21, 22, 23, 24, 25, 26, 6, 27, 226, 227, 228, 229, 230, 231, 232, 233, 234, 219, 220, 221, 222, 223, 224, 225] (by decide +kernel) (by decide +kernel)) (goodIn_sub (fun _ h => List.mem_cons_of_mem _ (List.mem_append_left _ (List.mem_append_left _ (List.mem_append_right _ h)))) (by decide +kernel))
set_option maxRecDepth 20000 in
theorem gL_ends_L_state : GoodIn wsL_ends (va_wsS RL 129 yL_state wsL_state) := goodIn_app (goodIn_of _ (by decide +kernel)) ggL_ends_L_state
set_option maxRecDepth 20000 in
theorem ggL_ends_L_campaign : GoodIn wsL_ends wsL_campaign := goodIn_ca (goodIn_r _ [155, 11, 13, 156, 157, 158, 4, 159, 160, 21, 22, 23, 24, 25, 26, 6, 27, 226, 227, 228, 229, 230, 231, 232, 233, 234, 219, 220, 221, 222, 223, 224, 225] (by decide +kernel) (by decide +kernel)) (goodIn_sub (fun _ h => List.mem_cons_of_mem _ (List.mem_append_left _ (List.mem_append_left _ (List.mem_append_right _ h)))) (by decide +kernel))
set_option maxRecDepth 20000 in
theorem gL_ends_L_campaign : GoodIn wsL_ends (va_wsS RL 134 yL_campaign wsL_campaign) := goodIn_app (goodIn_of _ (by decide +kernel)) ggL_ends_L_campaign
set_option maxRecDepth 20000 in
theorem ggL_ends_L_counted : GoodIn wsL_ends wsL_counted := goodIn_ca (goodIn_r _ [163, 11, 13, 164, 165, 166, 4, 167, 168, 169, 170, 171, 172, 59, 173, 174, 175, 176, 25, 26, 58, 235, 236, 237, 238, 239, 240, 241, 242, 243, 244, 245, 246, 247, 219, 220, 221, 222, 223, 224, 225] (by decide +kernel) (by decide +kernel)) (goodIn_sub (fun _ h => List.mem_cons_of_mem _ (List.mem_append_left _ (List.mem_append_left _ (List.mem_append_right _ h)))) (by decide +kernel))
set_option maxRecDepth 20000 in
theorem gL_ends_L_counted : GoodIn wsL_ends (va_wsS RL 157 yL_counted wsL_counted) := goodIn_app (goodIn_of _ (by decide +kernel)) ggL_ends_L_counted
set_option maxRecDepth 20000 in
theorem ggL_ends_L_ring : GoodIn wsL_ends wsL_ring := goodIn_ca (goodIn_r _ [179, 11, 13, 180, 181, 182, 4, 183, 184, 169, 170, 171, 172, 59, 173, 174, 175, 176, 25, 26, 58, 235, 236, 237, 238, 239, 240, 241, 242, 243, 244, 245, 246, 247, 219, 220, 221, 222, 223, 224, 225] (by decide +kernel) (by decide +kernel)) (goodIn_sub (fun _ h => List.mem_cons_of_mem _ (List.mem_append_left _ (List.mem_append_left _ (List.mem_append_right _ h)))) (by decide +kernel))
set_option maxRecDepth 20000 in
theorem gL_ends_L_ring : GoodIn wsL_ends (va_wsS RL 155 yL_ring wsL_ring) := goodIn_app (goodIn_of _ (by decide +kernel)) ggL_ends_L_ring
set_option maxRecDepth 20000 in
theorem ggL_ends_L_reports : GoodIn wsL_ends wsL_reports := goodIn_ca (goodIn_ca (goodIn_r _ [187, 11, 188, 13, 189, 190, 191, 192, 4, 193, 194, 195, 53, 160, 62, 61, 21, 22, 23, 24, 25, 26, 6, 27, 169, 170, 171, 172, 59, 173, 174, 175, 176, 58, 196, 197, 198, 72, 199, 80, 81, 200, 201, 202, 203, 204, 205, 74, 206, 207, 93, 208, 209, 210, 211, 226, 227, 228, 229, 230, 231, 232, 233, 234, 235, 236, 237, 238, 239, 240, 241, 242, 243, 244, 245, 246, 247, 219, 220, 221, 222, 223, 224, 225] (by decide +kernel) (by decide +kernel)) (goodIn_sub (fun _ h => List.mem_cons_of_mem _ (List.mem_append_right _ h)) (by decide +kernel))) (goodIn_sub (fun _ h => List.mem_cons_of_mem _ (List.mem_append_left _ (List.mem_append_left _ (List.mem_append_right _ h)))) (by decide +kernel))
set_option maxRecDepth 20000 in
theorem gL_ends_L_reports : GoodIn wsL_ends (va_wsS RL 126 yL_reports wsL_reports) := goodIn_app (goodIn_of _ (by decide +kernel)) ggL_ends_L_reports
set_option maxRecDepth 20000 in
theorem ggL_ends_L_eligible : GoodIn wsL_ends wsL_eligible := goodIn_ca (goodIn_r _ [214, 11, 13, 215, 216, 217, 4, 218, 6, 27, 169, 170, 171, 172, 59, 173, 174, 175, 176, 25, 26, 58, 63, 64, 65, 66, 53, 67, 62, 68, 60, 61, 69, 70, 71, 72, 73, 74, 75, 76, 77, 78, 79, 80, 81, 82, 83, 84, 85, 86, 87, 88, 89, 90, 91, 92, 93, 94, 95, 96, 97, 98, 99, 100, 101, 102, 103, 104, 105, 106, 107, 108, 109, 110, 111, 219, 220, 221, 222, 223, 224, 225, 226, 227, 228, 229, 230, 231, 232, 233, 234, 235, 236, 237, 238, 239, 240, 241, 242, 243, 244, 245, 246, 247, 248, 249, 250, 251] (by decide +kernel) (by decide +kernel)) (goodIn_sub (fun _ h => List.mem_cons_of_mem _ (List.mem_append_left _ (List.mem_append_left _ (List.mem_append_right _ h)))) (by decide +kernel))
set_option maxRecDepth 20000 in
theorem gL_ends_L_eligible : GoodIn wsL_ends (va_wsS RL 160 yL_eligible wsL_eligible) := goodIn_app (goodIn_of _ (by decide +kernel)) ggL_ends_L_eligible
set_option maxRecDepth 20000 in
theorem ggL_law_X3_init : GoodIn wsL_law wsX3_init := goodIn_r _ [6, 7, 8, 9, 3, 10, 11, 12, 13, 14, 15, 16, 17, 18, 19, 20, 21, 22, 23, 24, 25, 26, 27, 28, 29, 30, 31, 32, 33, 34, 35, 36, 37, 38, 39, 40, 41, 42, 43, 44, 45, 46, 47, 48, 49, 50, 51, 52, 53, 54, 55, 56, 57, 58, 59, 60, 61, 62, 63, 64, 65, 66, 67, 68, 69, 70, 71, 72, 73, 74, 75, 76, 77, 78, 79, 80, 81, 82, 83, 84, 85, 405, 406, 407, 408, 409, 410, 411, 412, 413, 414, 415, 416, 417, 418, 419, 420, 421, 422, 423, 424, 425, 426, 427, 428, 429, 430, 431, 432, 433, 434, 435, 436, 437] (by decide +kernel) (by decide +kernel)
set_option maxRecDepth 20000 in
theorem gL_law_X3_init : GoodIn wsL_law (wsX3_init) := ggL_law_X3_init
set_option maxRecDepth 20000 in
theorem ggL_law_L_drawn : GoodIn wsL_law wsL_drawn := goodIn_r _ [89, 90, 91] (by decide +kernel) (by decide +kernel)
set_option maxRecDepth 20000 in
theorem gL_law_L_drawn : GoodIn wsL_law (va_wsS RL 166 yL_drawn wsL_drawn) := goodIn_app (goodIn_of _ (by decide +kernel)) ggL_law_L_drawn
set_option maxRecDepth 20000 in
theorem gc_X0 : GoodIn wsL_law wsX00 := goodIn_sub inlX0 (by decide +kernel)
set_option maxRecDepth 20000 in
theorem gc_X1 : GoodIn wsL_law wsX10 := goodIn_sub inlX1 (by decide +kernel)
set_option maxRecDepth 20000 in
theorem gc_X2 : GoodIn wsL_law wsX20 := goodIn_sub inlX2 (by decide +kernel)
set_option maxRecDepth 20000 in
theorem gc_X3 : GoodIn wsL_law wsX30 := goodIn_sub inlX3 (by decide +kernel)
set_option maxRecDepth 200000 in
theorem gcwsL_act_c : GoodIn wsL_law [.code yL_act cL_act 10 (some .int)] := goodIn_sub (fun w h => by
  rw [List.mem_singleton.mp h]
  exact List.mem_of_getElem? (i := 94) rfl) (by decide +kernel)
set_option maxRecDepth 20000 in
theorem gc_wsL_act_r1 : GoodIn wsL_law wsL_act_r1 := goodIn_r _ [95, 96, 97, 2, 98, 19, 99, 100, 88, 101, 102, 103, 104, 105, 106, 107, 108, 109, 10, 110, 111, 112, 113, 114] (by decide +kernel) (by decide +kernel)
set_option maxRecDepth 20000 in
theorem gc_wsL_act_r2 : GoodIn wsL_law wsL_act_r2 := goodIn_r _ [115, 116, 117, 118, 119, 120, 121, 122, 123, 124, 125, 126, 14, 127, 128, 129, 130, 131, 132, 133, 13, 134, 30, 39] (by decide +kernel) (by decide +kernel)
set_option maxRecDepth 20000 in
theorem gc_wsL_act_r3 : GoodIn wsL_law wsL_act_r3 := goodIn_r _ [40, 41, 42, 33, 32, 34, 43, 44, 45, 46, 47, 48, 49, 50, 51, 52, 53, 54, 135, 136, 137, 138, 139, 140] (by decide +kernel) (by decide +kernel)
set_option maxRecDepth 20000 in
theorem gc_wsL_act_r4 : GoodIn wsL_law wsL_act_r4 := goodIn_r _ [141, 142, 143, 144, 145, 146, 147, 148, 149, 150, 151, 152, 153, 154, 155, 156, 16, 157, 158, 159, 160, 161, 162, 163] (by decide +kernel) (by decide +kernel)
set_option maxRecDepth 20000 in
theorem gc_wsL_act_r5 : GoodIn wsL_law wsL_act_r5 := goodIn_r _ [164, 165, 166, 167, 168, 169, 170, 171, 172, 173, 174, 175, 176, 177, 178, 179, 180, 181, 182, 183, 184, 185, 186, 187] (by decide +kernel) (by decide +kernel)
set_option maxRecDepth 20000 in
theorem gc_wsL_act_r6 : GoodIn wsL_law wsL_act_r6 := goodIn_r _ [188, 189, 190, 20, 191, 18, 192, 193, 194, 195, 196, 197, 198, 199, 200, 201, 202, 203, 204, 205, 206, 207, 208, 209] (by decide +kernel) (by decide +kernel)
set_option maxRecDepth 20000 in
theorem gc_wsL_act_r7 : GoodIn wsL_law wsL_act_r7 := goodIn_r _ [210, 211, 212, 213, 214, 215, 216, 217, 218, 219, 220, 221, 222, 223, 224, 225, 25, 226, 81, 82, 83, 227, 228, 229] (by decide +kernel) (by decide +kernel)
set_option maxRecDepth 20000 in
theorem gc_wsL_act_r8 : GoodIn wsL_law wsL_act_r8 := goodIn_r _ [230, 231, 232, 233, 234, 235, 236, 237, 238, 239, 240, 241, 242, 243, 244, 245, 246, 84, 247, 248, 249, 250, 251, 80] (by decide +kernel) (by decide +kernel)
set_option maxRecDepth 20000 in
theorem gc_wsL_act_r9 : GoodIn wsL_law wsL_act_r9 := goodIn_r _ [78, 79, 252, 253, 254, 255, 256, 257, 258, 259, 260, 261, 262, 263, 21, 264, 265, 266, 267, 268, 269, 270, 271, 272] (by decide +kernel) (by decide +kernel)
set_option maxRecDepth 20000 in
theorem gc_wsL_act_r10 : GoodIn wsL_law wsL_act_r10 := goodIn_r _ [273, 274, 275, 74, 276, 75, 277, 73, 278, 279, 280, 281, 85, 282, 283, 284, 285, 76, 77, 286, 287, 288, 289, 290] (by decide +kernel) (by decide +kernel)
set_option maxRecDepth 20000 in
theorem gc_wsL_act_r11 : GoodIn wsL_law wsL_act_r11 := goodIn_r _ [291, 292, 293, 294, 295, 23, 296, 65, 297, 66, 67, 298, 299, 300, 301, 62, 302, 303, 304, 305, 63, 64, 306, 307] (by decide +kernel) (by decide +kernel)
set_option maxRecDepth 20000 in
theorem gc_wsL_act_r12 : GoodIn wsL_law wsL_act_r12 := goodIn_r _ [308, 309, 310, 311, 312] (by decide +kernel) (by decide +kernel)
set_option maxRecDepth 20000 in
theorem ggL_law_L_act : GoodIn wsL_law wsL_act := goodIn_ca (goodIn_ca (goodIn_ca (goodIn_app (a := [_]) gcwsL_act_c (goodIn_app (goodIn_app (goodIn_app (goodIn_app (goodIn_app gc_wsL_act_r1 (goodIn_app gc_wsL_act_r2 (goodIn_app gc_wsL_act_r3 (goodIn_app gc_wsL_act_r4 (goodIn_app gc_wsL_act_r5 (goodIn_app gc_wsL_act_r6 (goodIn_app gc_wsL_act_r7 (goodIn_app gc_wsL_act_r8 (goodIn_app gc_wsL_act_r9 (goodIn_app gc_wsL_act_r10 (goodIn_app gc_wsL_act_r11 (gc_wsL_act_r12)))))))))))) gc_X3) gc_X2) gc_X1) gc_X0)) (goodIn_sub (fun _ h => List.mem_append_left _ (List.mem_append_left _ (List.mem_append_right _ h))) (by decide +kernel))) (goodIn_sub (fun _ h => List.mem_append_left _ (List.mem_append_right _ h)) (by decide +kernel))) (goodIn_sub (fun _ h => List.mem_append_right _ h) (by decide +kernel))
set_option maxRecDepth 20000 in
theorem gL_law_L_act : GoodIn wsL_law (va_wsS RL 170 yL_act wsL_act) := goodIn_app (goodIn_of _ (by decide +kernel)) ggL_law_L_act
set_option maxRecDepth 200000 in
theorem gcwsL_refuses_c : GoodIn wsL_law [.code yL_refuses cL_refuses 9 (some .boolean)] := goodIn_sub (fun w h => by
  rw [List.mem_singleton.mp h]
  exact List.mem_of_getElem? (i := 315) rfl) (by decide +kernel)
set_option maxRecDepth 20000 in
theorem gc_wsL_refuses_r1 : GoodIn wsL_law wsL_refuses_r1 := goodIn_r _ [104, 105, 316, 150, 95, 96, 97, 2, 98, 19, 99, 100, 88, 101, 102, 103, 106, 107, 108, 109, 10, 110, 111, 112] (by decide +kernel) (by decide +kernel)
set_option maxRecDepth 20000 in
theorem gc_wsL_refuses_r2 : GoodIn wsL_law wsL_refuses_r2 := goodIn_r _ [113, 114, 115, 116, 117, 118, 119, 120, 121, 122, 123, 124, 125, 126, 14, 127, 128, 129, 130, 131, 132, 133, 13, 134] (by decide +kernel) (by decide +kernel)
set_option maxRecDepth 20000 in
theorem gc_wsL_refuses_r3 : GoodIn wsL_law wsL_refuses_r3 := goodIn_r _ [30, 39, 40, 41, 42, 33, 32, 34, 43, 44, 45, 46, 47, 48, 49, 50, 51, 52, 53, 54, 135, 136, 137, 138] (by decide +kernel) (by decide +kernel)
set_option maxRecDepth 20000 in
theorem gc_wsL_refuses_r4 : GoodIn wsL_law wsL_refuses_r4 := goodIn_r _ [139, 140, 141, 142, 143, 144, 145, 317, 318, 319, 320, 321, 322, 323, 286, 287, 288, 289, 290, 291, 292, 324, 325, 326] (by decide +kernel) (by decide +kernel)
set_option maxRecDepth 20000 in
theorem gc_wsL_refuses_r5 : GoodIn wsL_law wsL_refuses_r5 := goodIn_r _ [327, 328, 329, 330, 331, 332, 333, 334, 335, 336, 337, 161, 162, 146, 147, 148, 149, 151, 152, 153, 154, 155, 156, 16] (by decide +kernel) (by decide +kernel)
set_option maxRecDepth 20000 in
theorem gc_wsL_refuses_r6 : GoodIn wsL_law wsL_refuses_r6 := goodIn_r _ [157, 158, 159, 160, 163, 164, 165, 166, 167, 168, 169, 170, 171, 172, 173, 174, 175, 176, 177, 178, 179, 180, 181, 182] (by decide +kernel) (by decide +kernel)
set_option maxRecDepth 20000 in
theorem gc_wsL_refuses_r7 : GoodIn wsL_law wsL_refuses_r7 := goodIn_r _ [183, 235, 236, 237, 238, 239, 240, 241, 234, 242, 192, 200, 201, 202, 203, 18, 196, 197, 198, 199, 20, 243, 244, 245] (by decide +kernel) (by decide +kernel)
set_option maxRecDepth 20000 in
theorem gc_wsL_refuses_r8 : GoodIn wsL_law wsL_refuses_r8 := goodIn_r _ [25, 246, 84, 247, 82, 83, 248, 249, 250, 251, 80, 78, 79, 81, 252, 224, 225, 226, 227, 228, 229, 230, 231, 232] (by decide +kernel) (by decide +kernel)
set_option maxRecDepth 20000 in
theorem gc_wsL_refuses_r9 : GoodIn wsL_law wsL_refuses_r9 := goodIn_r _ [233, 338, 339, 340, 341, 342, 343, 344, 345, 346, 347, 348, 349, 350, 351, 352, 353, 354, 355, 356, 357, 358, 359, 360] (by decide +kernel) (by decide +kernel)
set_option maxRecDepth 20000 in
theorem gc_wsL_refuses_r10 : GoodIn wsL_law wsL_refuses_r10 := goodIn_r _ [361, 362, 363, 364, 365, 366, 184, 185, 186, 187, 188, 189, 190, 191, 193, 194, 195, 204, 205, 206, 207, 208, 209, 210] (by decide +kernel) (by decide +kernel)
set_option maxRecDepth 20000 in
theorem gc_wsL_refuses_r11 : GoodIn wsL_law wsL_refuses_r11 := goodIn_r _ [211, 212, 213, 214, 215, 216, 217, 218, 219, 220, 221, 222, 223, 367, 368, 369, 370, 371, 372, 373, 374, 375, 376, 377] (by decide +kernel) (by decide +kernel)
set_option maxRecDepth 20000 in
theorem gc_wsL_refuses_r12 : GoodIn wsL_law wsL_refuses_r12 := goodIn_r _ [378, 379, 380, 381, 382, 383, 384, 385, 386, 387, 388, 389, 390, 391, 392, 393, 394, 395, 268, 269, 270, 271, 272, 273] (by decide +kernel) (by decide +kernel)
set_option maxRecDepth 20000 in
theorem gc_wsL_refuses_r13 : GoodIn wsL_law wsL_refuses_r13 := goodIn_r _ [274, 275, 74, 276, 75, 277, 73, 278, 279, 280, 281, 85, 282, 283, 284, 285, 76, 77, 253, 254, 255, 256, 257, 258] (by decide +kernel) (by decide +kernel)
set_option maxRecDepth 20000 in
theorem gc_wsL_refuses_r14 : GoodIn wsL_law wsL_refuses_r14 := goodIn_r _ [259, 260, 261, 262, 263, 21, 264, 265, 266, 267, 293, 294, 295, 23, 296, 65, 297, 66, 67, 298, 299, 300, 301, 62] (by decide +kernel) (by decide +kernel)
set_option maxRecDepth 20000 in
theorem gc_wsL_refuses_r15 : GoodIn wsL_law wsL_refuses_r15 := goodIn_r _ [302, 303, 304, 305, 63, 64, 306, 307, 308, 309, 310, 311, 312] (by decide +kernel) (by decide +kernel)
set_option maxRecDepth 20000 in
theorem ggL_law_L_refuses : GoodIn wsL_law wsL_refuses := goodIn_ca (goodIn_ca (goodIn_ca (goodIn_app (a := [_]) gcwsL_refuses_c (goodIn_app (goodIn_app (goodIn_app (goodIn_app (goodIn_app gc_wsL_refuses_r1 (goodIn_app gc_wsL_refuses_r2 (goodIn_app gc_wsL_refuses_r3 (goodIn_app gc_wsL_refuses_r4 (goodIn_app gc_wsL_refuses_r5 (goodIn_app gc_wsL_refuses_r6 (goodIn_app gc_wsL_refuses_r7 (goodIn_app gc_wsL_refuses_r8 (goodIn_app gc_wsL_refuses_r9 (goodIn_app gc_wsL_refuses_r10 (goodIn_app gc_wsL_refuses_r11 (goodIn_app gc_wsL_refuses_r12 (goodIn_app gc_wsL_refuses_r13 (goodIn_app gc_wsL_refuses_r14 (gc_wsL_refuses_r15))))))))))))))) gc_X3) gc_X2) gc_X1) gc_X0)) (goodIn_sub (fun _ h => List.mem_append_left _ (List.mem_append_left _ (List.mem_append_right _ h))) (by decide +kernel))) (goodIn_sub (fun _ h => List.mem_append_left _ (List.mem_append_right _ h)) (by decide +kernel))) (goodIn_sub (fun _ h => List.mem_append_right _ h) (by decide +kernel))
set_option maxRecDepth 20000 in
theorem gL_law_L_refuses : GoodIn wsL_law (va_wsS RL 174 yL_refuses wsL_refuses) := goodIn_app (goodIn_of _ (by decide +kernel)) ggL_law_L_refuses
set_option maxRecDepth 200000 in
theorem gcwsL_alike_c : GoodIn wsL_law [.code yL_alike cL_alike 6 (some .boolean)] := goodIn_sub (fun w h => by
  rw [List.mem_singleton.mp h]
  exact List.mem_of_getElem? (i := 398) rfl) (by decide +kernel)
set_option maxRecDepth 20000 in
theorem gc_wsL_alike_r1 : GoodIn wsL_law wsL_alike_r1 := goodIn_r _ [95, 96, 97, 2, 98, 19, 317, 318, 88, 319, 102, 104, 320, 321, 322, 323, 14, 110, 111, 112, 113, 114, 286, 287] (by decide +kernel) (by decide +kernel)
set_option maxRecDepth 20000 in
theorem gc_wsL_alike_r2 : GoodIn wsL_law wsL_alike_r2 := goodIn_r _ [288, 13, 289, 33, 34, 44, 45, 46, 47, 290, 291, 292, 43, 227, 228, 229, 230, 231, 232, 233, 234, 171, 172, 173] (by decide +kernel) (by decide +kernel)
set_option maxRecDepth 20000 in
theorem gc_wsL_alike_r3 : GoodIn wsL_law wsL_alike_r3 := goodIn_r _ [174, 16, 338, 339, 340, 341, 342, 343, 344, 158, 345, 346, 347, 348, 349, 350, 351, 242, 352, 353, 354, 355, 356, 357] (by decide +kernel) (by decide +kernel)
set_option maxRecDepth 20000 in
theorem gc_wsL_alike_r4 : GoodIn wsL_law wsL_alike_r4 := goodIn_r _ [358, 359, 360, 361, 362, 363, 364, 365, 366, 170, 367, 368, 369, 370, 371, 372, 373, 191, 200, 201, 202, 203, 18, 196] (by decide +kernel) (by decide +kernel)
set_option maxRecDepth 20000 in
theorem gc_wsL_alike_r5 : GoodIn wsL_law wsL_alike_r5 := goodIn_r _ [197, 198, 199, 20, 374, 375, 376, 377, 378, 379, 380, 222, 381, 382, 383, 384, 385, 386, 387, 388, 389, 390, 391, 392] (by decide +kernel) (by decide +kernel)
set_option maxRecDepth 20000 in
theorem gc_wsL_alike_r6 : GoodIn wsL_law wsL_alike_r6 := goodIn_r _ [393, 394, 395, 268, 269, 270, 271, 10, 192, 157, 272, 273, 274, 25, 275, 80, 74, 276, 75, 277, 73, 84, 247, 161] (by decide +kernel) (by decide +kernel)
set_option maxRecDepth 20000 in
theorem gc_wsL_alike_r7 : GoodIn wsL_law wsL_alike_r7 := goodIn_r _ [162, 278, 279, 280, 281, 85, 282, 283, 284, 285, 81, 76, 77, 160] (by decide +kernel) (by decide +kernel)
set_option maxRecDepth 20000 in
theorem ggL_law_L_alike : GoodIn wsL_law wsL_alike := goodIn_ca (goodIn_app (a := [_]) gcwsL_alike_c (goodIn_app (goodIn_app (goodIn_app (goodIn_app (goodIn_app gc_wsL_alike_r1 (goodIn_app gc_wsL_alike_r2 (goodIn_app gc_wsL_alike_r3 (goodIn_app gc_wsL_alike_r4 (goodIn_app gc_wsL_alike_r5 (goodIn_app gc_wsL_alike_r6 (gc_wsL_alike_r7))))))) gc_X3) gc_X2) gc_X1) gc_X0)) (goodIn_sub (fun _ h => List.mem_append_left _ (List.mem_append_left _ (List.mem_append_right _ h))) (by decide +kernel))
set_option maxRecDepth 20000 in
theorem gL_law_L_alike : GoodIn wsL_law (va_wsS RL 178 yL_alike wsL_alike) := goodIn_app (goodIn_of _ (by decide +kernel)) ggL_law_L_alike
set_option maxRecDepth 200000 in
theorem gcwsL_holds_c : GoodIn wsL_law [.code yL_holds cL_holds 11 (some .boolean)] := goodIn_sub (fun w h => by
  rw [List.mem_singleton.mp h]
  exact List.mem_of_getElem? (i := 401) rfl) (by decide +kernel)
set_option maxRecDepth 20000 in
theorem gc_wsL_holds_r1 : GoodIn wsL_law wsL_holds_r1 := goodIn_r _ [95, 96, 97, 2, 98, 19, 227, 228, 88, 229, 102, 104, 230, 231, 232, 233, 234, 171, 172, 173, 174, 113, 114, 16] (by decide +kernel) (by decide +kernel)
set_option maxRecDepth 20000 in
theorem gc_wsL_holds_r2 : GoodIn wsL_law wsL_holds_r2 := goodIn_r _ [345, 346, 347, 348, 349, 350, 351, 242, 352, 353, 354, 355, 356, 357, 358, 359, 360, 361, 362, 363, 364, 365, 366, 170] (by decide +kernel) (by decide +kernel)
set_option maxRecDepth 20000 in
theorem gc_wsL_holds_r3 : GoodIn wsL_law wsL_holds_r3 := goodIn_r _ [338, 339, 340, 341, 342, 343, 344, 158, 389, 390, 391, 392, 393, 394, 395, 200, 201, 202, 203, 18, 196, 197, 198, 199] (by decide +kernel) (by decide +kernel)
set_option maxRecDepth 20000 in
theorem gc_wsL_holds_r4 : GoodIn wsL_law wsL_holds_r4 := goodIn_r _ [20, 268, 269, 270, 271, 10, 192, 157, 14, 272, 273, 274, 25, 275, 80, 74, 276, 75, 277, 73, 84, 247, 161, 162] (by decide +kernel) (by decide +kernel)
set_option maxRecDepth 20000 in
theorem gc_wsL_holds_r5 : GoodIn wsL_law wsL_holds_r5 := goodIn_r _ [278, 279, 280, 281, 85, 282, 283, 284, 285, 81, 76, 77, 160, 286, 287, 288, 13, 289, 33, 34, 44, 45, 46, 47] (by decide +kernel) (by decide +kernel)
set_option maxRecDepth 20000 in
theorem gc_wsL_holds_r6 : GoodIn wsL_law wsL_holds_r6 := goodIn_r _ [290, 291, 292, 43, 367, 368, 369, 370, 371, 372, 373, 191, 374, 375, 376, 377, 378, 379, 380, 222, 381, 382, 383, 384] (by decide +kernel) (by decide +kernel)
set_option maxRecDepth 20000 in
theorem gc_wsL_holds_r7 : GoodIn wsL_law wsL_holds_r7 := goodIn_r _ [385, 386, 387, 388, 317, 318, 319, 320, 321, 322, 323, 110, 111, 112, 324, 325, 326, 327, 328, 329, 330, 331, 332, 333] (by decide +kernel) (by decide +kernel)
set_option maxRecDepth 20000 in
theorem gc_wsL_holds_r8 : GoodIn wsL_law wsL_holds_r8 := goodIn_r _ [334, 32, 30, 335, 336, 337] (by decide +kernel) (by decide +kernel)
set_option maxRecDepth 20000 in
theorem ggL_law_L_holds : GoodIn wsL_law wsL_holds := goodIn_ca (goodIn_app (a := [_]) gcwsL_holds_c (goodIn_app (goodIn_app (goodIn_app (goodIn_app (goodIn_app gc_wsL_holds_r1 (goodIn_app gc_wsL_holds_r2 (goodIn_app gc_wsL_holds_r3 (goodIn_app gc_wsL_holds_r4 (goodIn_app gc_wsL_holds_r5 (goodIn_app gc_wsL_holds_r6 (goodIn_app gc_wsL_holds_r7 (gc_wsL_holds_r8)))))))) gc_X3) gc_X1) gc_X0) gc_X2)) (goodIn_sub (fun _ h => List.mem_append_left _ (List.mem_append_left _ (List.mem_append_right _ h))) (by decide +kernel))
set_option maxRecDepth 20000 in
theorem gL_law_L_holds : GoodIn wsL_law (va_wsS RL 182 yL_holds wsL_holds) := goodIn_app (goodIn_of _ (by decide +kernel)) ggL_law_L_holds
set_option maxRecDepth 200000 in
theorem gcwsL_ends_c : GoodIn wsL_law [.code yL_ends cL_ends 10 (some .boolean)] := goodIn_sub (fun w h => by
  rw [List.mem_singleton.mp h]
  exact List.mem_of_getElem? (i := 404) rfl) (by decide +kernel)
set_option maxRecDepth 20000 in
theorem gc_wsL_ends_r1 : GoodIn wsL_law wsL_ends_r1 := goodIn_r _ [95, 96, 97, 2, 98, 19, 175, 176, 88, 177, 102, 103, 104, 105, 178, 179, 180, 181, 182, 183, 171, 172, 173, 174] (by decide +kernel) (by decide +kernel)
set_option maxRecDepth 20000 in
theorem gc_wsL_ends_r2 : GoodIn wsL_law wsL_ends_r2 := goodIn_r _ [113, 114, 16, 115, 116, 117, 118, 119, 163, 164, 165, 166, 167, 168, 169, 170, 253, 254, 255, 256, 257, 258, 259, 260] (by decide +kernel) (by decide +kernel)
set_option maxRecDepth 20000 in
theorem gc_wsL_ends_r3 : GoodIn wsL_law wsL_ends_r3 := goodIn_r _ [261, 262, 263, 21, 234, 264, 265, 266, 267, 20, 18, 14, 158, 192, 268, 269, 270, 271, 10, 157, 272, 273, 274, 25] (by decide +kernel) (by decide +kernel)
set_option maxRecDepth 20000 in
theorem gc_wsL_ends_r4 : GoodIn wsL_law wsL_ends_r4 := goodIn_r _ [275, 80, 74, 276, 75, 277, 73, 84, 247, 161, 162, 278, 279, 280, 281, 85, 282, 283, 284, 285, 81, 76, 77, 160] (by decide +kernel) (by decide +kernel)
set_option maxRecDepth 20000 in
theorem gc_wsL_ends_r5 : GoodIn wsL_law wsL_ends_r5 := goodIn_r _ [286, 287, 288, 13, 289, 33, 34, 44, 45, 46, 47, 290, 291, 292, 43, 293, 294, 295, 23, 296, 65, 297, 66, 67] (by decide +kernel) (by decide +kernel)
set_option maxRecDepth 20000 in
theorem gc_wsL_ends_r6 : GoodIn wsL_law wsL_ends_r6 := goodIn_r _ [298, 299, 300, 301, 62, 302, 303, 304, 305, 63, 64, 306, 307, 308, 309, 310, 311, 312, 338, 339, 340, 341, 342, 343] (by decide +kernel) (by decide +kernel)
set_option maxRecDepth 20000 in
theorem gc_wsL_ends_r7 : GoodIn wsL_law wsL_ends_r7 := goodIn_r _ [344, 227, 228, 229, 230, 231, 232, 233, 345, 346, 347, 348, 349, 350, 351, 242, 381, 382, 383, 384, 385, 386, 387, 388] (by decide +kernel) (by decide +kernel)
set_option maxRecDepth 20000 in
theorem gc_wsL_ends_r8 : GoodIn wsL_law wsL_ends_r8 := goodIn_r _ [200, 201, 202, 203, 196, 197, 198, 199, 374, 375, 376, 377, 378, 379, 380, 222, 235, 236, 237, 149, 150, 238, 239, 240] (by decide +kernel) (by decide +kernel)
set_option maxRecDepth 20000 in
theorem gc_wsL_ends_r9 : GoodIn wsL_law wsL_ends_r9 := goodIn_r _ [241, 155, 156, 243, 244, 245, 246, 82, 83, 248, 249, 250, 251, 78, 79, 252, 224, 225, 226, 389, 390, 391, 392, 393] (by decide +kernel) (by decide +kernel)
set_option maxRecDepth 20000 in
theorem gc_wsL_ends_r10 : GoodIn wsL_law wsL_ends_r10 := goodIn_r _ [394, 395] (by decide +kernel) (by decide +kernel)
set_option maxRecDepth 20000 in
theorem ggL_law_L_ends : GoodIn wsL_law wsL_ends := goodIn_ca (goodIn_ca (goodIn_ca (goodIn_app (a := [_]) gcwsL_ends_c (goodIn_app (goodIn_app (goodIn_app (goodIn_app (goodIn_app gc_wsL_ends_r1 (goodIn_app gc_wsL_ends_r2 (goodIn_app gc_wsL_ends_r3 (goodIn_app gc_wsL_ends_r4 (goodIn_app gc_wsL_ends_r5 (goodIn_app gc_wsL_ends_r6 (goodIn_app gc_wsL_ends_r7 (goodIn_app gc_wsL_ends_r8 (goodIn_app gc_wsL_ends_r9 (gc_wsL_ends_r10)))))))))) gc_X3) gc_X1) gc_X0) gc_X2)) (goodIn_sub (fun _ h => List.mem_append_left _ (List.mem_append_left _ (List.mem_append_right _ h))) (by decide +kernel))) (goodIn_sub (fun _ h => List.mem_append_left _ (List.mem_append_right _ h)) (by decide +kernel))) (goodIn_sub (fun _ h => List.mem_append_right _ h) (by decide +kernel))
set_option maxRecDepth 20000 in
theorem gL_law_L_ends : GoodIn wsL_law (va_wsS RL 185 yL_ends wsL_ends) := goodIn_app (goodIn_of _ (by decide +kernel)) ggL_law_L_ends
