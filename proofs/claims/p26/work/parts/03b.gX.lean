set_option maxRecDepth 20000 in
theorem ggX0_isFor_X3_has : GoodIn wsX0_isFor wsX3_has := goodIn_r _ [11] (by decide +kernel) (by decide +kernel)
set_option maxRecDepth 20000 in
theorem gX0_isFor_X3_has_n57 : GoodIn wsX0_isFor (wsX3_has) := ggX0_isFor_X3_has
set_option maxRecDepth 20000 in
theorem ggX0_isFor_X0_drawOf : GoodIn wsX0_isFor wsX0_drawOf := goodIn_r _ [16, 8, 17, 38, 39, 40, 41, 42, 43, 44, 45, 46, 25, 26, 27, 28, 29, 30, 31, 32, 33, 34, 35, 36, 37] (by decide +kernel) (by decide +kernel)
set_option maxRecDepth 20000 in
theorem gX0_isFor_X0_drawOf : GoodIn wsX0_isFor (wsV RX0 64 RX0 yX0_drawOf wsX0_drawOf) := goodIn_app (goodIn_of _ (by decide +kernel)) ggX0_isFor_X0_drawOf
set_option maxRecDepth 20000 in
theorem ggX0_isFor_X0_share : GoodIn wsX0_isFor wsX0_share := goodIn_r _ [21, 22, 23, 24, 25, 26, 27, 28, 29, 30, 31, 32, 33, 34, 35, 36, 37] (by decide +kernel) (by decide +kernel)
set_option maxRecDepth 20000 in
theorem gX0_isFor_X0_share : GoodIn wsX0_isFor (wsV RX0 68 RX0 yX0_share wsX0_share) := goodIn_app (goodIn_of _ (by decide +kernel)) ggX0_isFor_X0_share
set_option maxRecDepth 20000 in
theorem ggX0_judgeRing_X0_beginRing : GoodIn wsX0_judgeRing wsX0_beginRing := goodIn_r _ [11, 6, 2, 4, 12, 13, 14, 15, 16, 17, 18, 19, 20, 21, 22, 23, 24] (by decide +kernel) (by decide +kernel)
set_option maxRecDepth 20000 in
theorem gX0_judgeRing_X0_beginRing : GoodIn wsX0_judgeRing (wsV RX0 73 RX0 yX0_beginRing wsX0_beginRing) := goodIn_app (goodIn_of _ (by decide +kernel)) ggX0_judgeRing_X0_beginRing
set_option maxRecDepth 20000 in
theorem ggX1_canLoad_X1_isInWindow : GoodIn wsX1_canLoad wsX1_isInWindow := goodIn_r _ [7, 8, 9, 10, 11, 12, 13, 14, 15, 16, 17, 18] (by decide +kernel) (by decide +kernel)
set_option maxRecDepth 20000 in
theorem gX1_canLoad_X1_isInWindow : GoodIn wsX1_canLoad (wsV RX1 42 RX1 yX1_isInWindow wsX1_isInWindow) := goodIn_app (goodIn_of _ (by decide +kernel)) ggX1_canLoad_X1_isInWindow
set_option maxRecDepth 20000 in
theorem ggX2_init_J7_fill_53178 : GoodIn wsX2_init wsJ7_fill_53178 := goodIn_r _ [13] (by decide +kernel) (by decide +kernel)
set_option maxRecDepth 20000 in
theorem gX2_init_J7_fill_53178 : GoodIn wsX2_init (va_wsS RX2 26 yJ7_fill_53178 wsJ7_fill_53178) := goodIn_app (goodIn_of _ (by decide +kernel)) ggX2_init_J7_fill_53178
set_option maxRecDepth 20000 in
theorem ggX2_init_X2_measure : GoodIn wsX2_init wsX2_measure := goodIn_r _ [18, 8, 7, 9, 19, 5, 20, 21, 22, 23, 24, 25, 17, 26, 27, 28, 29, 30, 31, 32, 33, 34] (by decide +kernel) (by decide +kernel)
set_option maxRecDepth 20000 in
theorem gX2_init_X2_measure : GoodIn wsX2_init (wsV RX2 32 RX2 yX2_measure wsX2_measure) := goodIn_app (goodIn_of _ (by decide +kernel)) ggX2_init_X2_measure
set_option maxRecDepth 20000 in
theorem ggX2_changeImage_X2_measure : GoodIn wsX2_changeImage wsX2_measure := goodIn_r _ [6, 7, 8, 9, 10, 1, 11, 12, 13, 14, 15, 16, 5, 17, 18, 19, 20, 21, 22, 23, 24, 25] (by decide +kernel) (by decide +kernel)
set_option maxRecDepth 20000 in
theorem gX2_changeImage_X2_measure : GoodIn wsX2_changeImage (wsV RX2 32 RX2 yX2_measure wsX2_measure) := goodIn_app (goodIn_of _ (by decide +kernel)) ggX2_changeImage_X2_measure
set_option maxRecDepth 20000 in
theorem ggX2_changeDelta_X2_measure : GoodIn wsX2_changeDelta wsX2_measure := goodIn_r _ [6, 7, 1, 8, 9, 10, 11, 12, 13, 14, 15, 16, 5, 17, 18, 19, 20, 21, 22, 23, 24, 25] (by decide +kernel) (by decide +kernel)
set_option maxRecDepth 20000 in
theorem gX2_changeDelta_X2_measure : GoodIn wsX2_changeDelta (wsV RX2 32 RX2 yX2_measure wsX2_measure) := goodIn_app (goodIn_of _ (by decide +kernel)) ggX2_changeDelta_X2_measure
set_option maxRecDepth 20000 in
theorem ggX2_leastBytes_X2_orNone : GoodIn wsX2_leastBytes wsX2_orNone := goodIn_r _ [10, 11] (by decide +kernel) (by decide +kernel)
set_option maxRecDepth 20000 in
theorem gX2_leastBytes_X2_orNone : GoodIn wsX2_leastBytes (va_wsS RX2 41 yX2_orNone wsX2_orNone) := goodIn_app (goodIn_of _ (by decide +kernel)) ggX2_leastBytes_X2_orNone
set_option maxRecDepth 20000 in
theorem ggX2_leastBytesOfAllWays_X2_leastAlong : GoodIn wsX2_leastBytesOfAllWays wsX2_leastAlong := goodIn_r _ [10, 11, 3, 4, 5, 6, 12, 13, 14, 7, 8, 9] (by decide +kernel) (by decide +kernel)
set_option maxRecDepth 20000 in
theorem gX2_leastBytesOfAllWays_X2_leastAlong : GoodIn wsX2_leastBytesOfAllWays (va_wsS RX2 45 yX2_leastAlong wsX2_leastAlong) := goodIn_app (goodIn_of _ (by decide +kernel)) ggX2_leastBytesOfAllWays_X2_leastAlong
set_option maxRecDepth 20000 in
theorem ggX2_leastBytesOfAllWays_X2_orNone : GoodIn wsX2_leastBytesOfAllWays wsX2_orNone := goodIn_r _ [17, 11] (by decide +kernel) (by decide +kernel)
set_option maxRecDepth 20000 in
theorem gX2_leastBytesOfAllWays_X2_orNone : GoodIn wsX2_leastBytesOfAllWays (va_wsS RX2 41 yX2_orNone wsX2_orNone) := goodIn_app (goodIn_of _ (by decide +kernel)) ggX2_leastBytesOfAllWays_X2_orNone
set_option maxRecDepth 20000 in
theorem ggX2_leastAlong_X3_has : GoodIn wsX2_leastAlong wsX3_has := goodIn_r _ [8] (by decide +kernel) (by decide +kernel)
set_option maxRecDepth 20000 in
theorem gX2_leastAlong_X3_has_n50 : GoodIn wsX2_leastAlong (wsX3_has) := ggX2_leastAlong_X3_has
set_option maxRecDepth 20000 in
theorem ggX2_leastAlong_X2_leastAlong : GoodIn wsX2_leastAlong wsX2_leastAlong := goodIn_r _ [0, 1, 2, 3, 4, 5, 6, 7, 8, 9, 10, 11] (by decide +kernel) (by decide +kernel)
set_option maxRecDepth 20000 in
theorem gX2_leastAlong_X2_leastAlong : GoodIn wsX2_leastAlong (va_wsS RX2 45 yX2_leastAlong wsX2_leastAlong) := goodIn_app (goodIn_of _ (by decide +kernel)) ggX2_leastAlong_X2_leastAlong
set_option maxRecDepth 20000 in
theorem ggX2_measure_X2_orFar : GoodIn wsX2_measure wsX2_orFar := goodIn_r _ [13, 4] (by decide +kernel) (by decide +kernel)
set_option maxRecDepth 20000 in
theorem gX2_measure_X2_orFar : GoodIn wsX2_measure (va_wsS RX2 54 yX2_orFar wsX2_orFar) := goodIn_app (goodIn_of _ (by decide +kernel)) ggX2_measure_X2_orFar
set_option maxRecDepth 20000 in
theorem ggX2_measure_X2_measureVia : GoodIn wsX2_measure wsX2_measureVia := goodIn_r _ [17, 1, 6, 7, 8, 9, 18, 19, 20, 21] (by decide +kernel) (by decide +kernel)
set_option maxRecDepth 20000 in
theorem gX2_measure_X2_measureVia : GoodIn wsX2_measure (wsV RX2 57 RX2 yX2_measureVia wsX2_measureVia) := goodIn_app (goodIn_of _ (by decide +kernel)) ggX2_measure_X2_measureVia
set_option maxRecDepth 20000 in
theorem ggX3_init_X2_init : GoodIn wsX3_init wsX2_init := goodIn_r _ [23, 24, 2, 3, 4, 25, 26, 27, 28, 29, 30, 31, 32, 33, 34, 35, 36, 8, 37, 38, 39, 40, 41, 42, 43, 44, 45, 46, 47, 48, 49, 88, 89, 90, 91] (by decide +kernel) (by decide +kernel)
set_option maxRecDepth 20000 in
theorem gX3_init_X2_init : GoodIn wsX3_init (wsX2_init) := ggX3_init_X2_init
set_option maxRecDepth 20000 in
theorem ggX3_init_J7_fill_53178 : GoodIn wsX3_init wsJ7_fill_53178 := goodIn_r _ [33] (by decide +kernel) (by decide +kernel)
set_option maxRecDepth 20000 in
theorem gX3_init_J7_fill_53178 : GoodIn wsX3_init (va_wsS RX3 42 yJ7_fill_53178 wsJ7_fill_53178) := goodIn_app (goodIn_of _ (by decide +kernel)) ggX3_init_J7_fill_53178
set_option maxRecDepth 20000 in
theorem ggX3_init_X1_init : GoodIn wsX3_init wsX1_init := goodIn_r _ [53, 54, 2, 3, 55, 56, 57, 58, 59, 60, 61, 62, 63, 92, 93, 94, 95, 96, 97, 98, 99, 100] (by decide +kernel) (by decide +kernel)
set_option maxRecDepth 20000 in
theorem gX3_init_X1_init : GoodIn wsX3_init (wsX1_init) := ggX3_init_X1_init
set_option maxRecDepth 20000 in
theorem ggX3_init_X0_init : GoodIn wsX3_init wsX0_init := goodIn_r _ [66, 67, 2, 3, 68, 69, 70, 71, 72, 73, 74, 75, 76, 77, 78, 79, 80, 101, 102, 103, 104, 105, 106, 107, 108, 109, 110, 111, 112, 113] (by decide +kernel) (by decide +kernel)
set_option maxRecDepth 20000 in
theorem gX3_init_X0_init : GoodIn wsX3_init (wsX0_init) := ggX3_init_X0_init
set_option maxRecDepth 20000 in
theorem ggX3_allow_X3_needVersion : GoodIn wsX3_allow wsX3_needVersion := goodIn_ca (goodIn_r _ [5, 6, 7] (by decide +kernel) (by decide +kernel)) (goodIn_sub (fun _ h => List.mem_cons_of_mem _ (List.mem_append_left _ (List.mem_append_right _ h))) (by decide +kernel))
set_option maxRecDepth 20000 in
theorem gX3_allow_X3_needVersion : GoodIn wsX3_allow (va_wsS RX3 52 yX3_needVersion wsX3_needVersion) := goodIn_app (goodIn_of _ (by decide +kernel)) ggX3_allow_X3_needVersion
set_option maxRecDepth 20000 in
theorem ggX3_allow_X3_needRange : GoodIn wsX3_allow wsX3_needRange := goodIn_ca (goodIn_r _ [10, 11, 12] (by decide +kernel) (by decide +kernel)) (goodIn_sub (fun _ h => List.mem_cons_of_mem _ (List.mem_append_right _ h)) (by decide +kernel))
set_option maxRecDepth 20000 in
theorem gX3_allow_X3_needRange : GoodIn wsX3_allow (va_wsS RX3 55 yX3_needRange wsX3_needRange) := goodIn_app (goodIn_of _ (by decide +kernel)) ggX3_allow_X3_needRange
set_option maxRecDepth 20000 in
theorem ggX3_setImage_X3_needVersion : GoodIn wsX3_setImage wsX3_needVersion := goodIn_ca (goodIn_r _ [5, 6, 7] (by decide +kernel) (by decide +kernel)) (goodIn_sub (fun _ h => List.mem_cons_of_mem _ (List.mem_append_left _ (List.mem_append_right _ h))) (by decide +kernel))
set_option maxRecDepth 20000 in
theorem gX3_setImage_X3_needVersion : GoodIn wsX3_setImage (va_wsS RX3 52 yX3_needVersion wsX3_needVersion) := goodIn_app (goodIn_of _ (by decide +kernel)) ggX3_setImage_X3_needVersion
set_option maxRecDepth 20000 in
theorem ggX3_setImage_X3_needBytesOrNone : GoodIn wsX3_setImage wsX3_needBytesOrNone := goodIn_ca (goodIn_r _ [10, 11, 12, 13, 4, 14, 15, 16] (by decide +kernel) (by decide +kernel)) (goodIn_sub (fun _ h => List.mem_cons_of_mem _ (List.mem_append_right _ h)) (by decide +kernel))
set_option maxRecDepth 20000 in
theorem gX3_setImage_X3_needBytesOrNone : GoodIn wsX3_setImage (va_wsS RX3 59 yX3_needBytesOrNone wsX3_needBytesOrNone) := goodIn_app (goodIn_of _ (by decide +kernel)) ggX3_setImage_X3_needBytesOrNone
set_option maxRecDepth 20000 in
theorem ggX3_setImage_X2_changeImage : GoodIn wsX3_setImage wsX2_changeImage := goodIn_r _ [21, 22, 23, 24, 25, 20, 26, 27, 28, 29, 30, 31, 32, 33, 34, 35, 36, 37, 38, 39, 40, 41, 49, 50, 51, 52] (by decide +kernel) (by decide +kernel)
set_option maxRecDepth 20000 in
theorem gX3_setImage_X2_changeImage : GoodIn wsX3_setImage (wsV RX3 62 RX2 yX2_changeImage wsX2_changeImage) := goodIn_app (goodIn_of _ (by decide +kernel)) ggX3_setImage_X2_changeImage
set_option maxRecDepth 20000 in
theorem ggX3_setDelta_X3_needVersion : GoodIn wsX3_setDelta wsX3_needVersion := goodIn_ca (goodIn_r _ [7, 8, 9] (by decide +kernel) (by decide +kernel)) (goodIn_sub (fun _ h => List.mem_cons_of_mem _ (List.mem_append_right _ h)) (by decide +kernel))
set_option maxRecDepth 20000 in
theorem gX3_setDelta_X3_needVersion : GoodIn wsX3_setDelta (va_wsS RX3 52 yX3_needVersion wsX3_needVersion) := goodIn_app (goodIn_of _ (by decide +kernel)) ggX3_setDelta_X3_needVersion
set_option maxRecDepth 20000 in
theorem ggX3_setDelta_X3_needBytesOrNone : GoodIn wsX3_setDelta wsX3_needBytesOrNone := goodIn_ca (goodIn_r _ [12, 13, 14, 15, 6, 16, 1, 2] (by decide +kernel) (by decide +kernel)) (goodIn_sub (fun _ h => List.mem_cons_of_mem _ (List.mem_append_left _ (List.mem_append_right _ h))) (by decide +kernel))
set_option maxRecDepth 20000 in
theorem gX3_setDelta_X3_needBytesOrNone : GoodIn wsX3_setDelta (va_wsS RX3 59 yX3_needBytesOrNone wsX3_needBytesOrNone) := goodIn_app (goodIn_of _ (by decide +kernel)) ggX3_setDelta_X3_needBytesOrNone
set_option maxRecDepth 20000 in
theorem ggX3_setDelta_X2_changeDelta : GoodIn wsX3_setDelta wsX2_changeDelta := goodIn_r _ [21, 22, 23, 24, 25, 20, 26, 27, 28, 29, 30, 31, 32, 33, 34, 35, 36, 37, 38, 39, 40, 41, 49, 50, 51, 52] (by decide +kernel) (by decide +kernel)
set_option maxRecDepth 20000 in
theorem gX3_setDelta_X2_changeDelta : GoodIn wsX3_setDelta (wsV RX3 73 RX2 yX2_changeDelta wsX2_changeDelta) := goodIn_app (goodIn_of _ (by decide +kernel)) ggX3_setDelta_X2_changeDelta
set_option maxRecDepth 20000 in
theorem ggX3_size_X3_needVersion : GoodIn wsX3_size wsX3_needVersion := goodIn_ca (goodIn_r _ [5, 6, 7] (by decide +kernel) (by decide +kernel)) (goodIn_sub (fun _ h => List.mem_cons_of_mem _ (List.mem_append_right _ h)) (by decide +kernel))
set_option maxRecDepth 20000 in
theorem gX3_size_X3_needVersion : GoodIn wsX3_size (va_wsS RX3 52 yX3_needVersion wsX3_needVersion) := goodIn_app (goodIn_of _ (by decide +kernel)) ggX3_size_X3_needVersion
set_option maxRecDepth 20000 in
theorem ggX3_size_X2_leastBytes : GoodIn wsX3_size wsX2_leastBytes := goodIn_r _ [12, 13, 14, 15, 16, 17, 18, 19, 20, 11, 21, 22, 30, 31, 32, 33] (by decide +kernel) (by decide +kernel)
set_option maxRecDepth 20000 in
theorem gX3_size_X2_leastBytes : GoodIn wsX3_size (wsV RX3 77 RX2 yX2_leastBytes wsX2_leastBytes) := goodIn_app (goodIn_of _ (by decide +kernel)) ggX3_size_X2_leastBytes
set_option maxRecDepth 20000 in
theorem ggX3_sizeByWays_X3_needVersion : GoodIn wsX3_sizeByWays wsX3_needVersion := goodIn_ca (goodIn_r _ [5, 6, 7] (by decide +kernel) (by decide +kernel)) (goodIn_sub (fun _ h => List.mem_cons_of_mem _ (List.mem_append_right _ h)) (by decide +kernel))
set_option maxRecDepth 20000 in
theorem gX3_sizeByWays_X3_needVersion : GoodIn wsX3_sizeByWays (va_wsS RX3 52 yX3_needVersion wsX3_needVersion) := goodIn_app (goodIn_of _ (by decide +kernel)) ggX3_sizeByWays_X3_needVersion
set_option maxRecDepth 20000 in
theorem ggX3_sizeByWays_X2_leastBytesOfAllWays : GoodIn wsX3_sizeByWays wsX2_leastBytesOfAllWays := goodIn_r _ [12, 13, 14, 15, 16, 17, 18, 19, 20, 11, 21, 22, 23, 4, 24, 25, 26, 27, 35, 36, 37, 38] (by decide +kernel) (by decide +kernel)
set_option maxRecDepth 20000 in
theorem gX3_sizeByWays_X2_leastBytesOfAllWays : GoodIn wsX3_sizeByWays (wsV RX3 80 RX2 yX2_leastBytesOfAllWays wsX2_leastBytesOfAllWays) := goodIn_app (goodIn_of _ (by decide +kernel)) ggX3_sizeByWays_X2_leastBytesOfAllWays
set_option maxRecDepth 20000 in
theorem ggX3_addDevice_X3_needVersion : GoodIn wsX3_addDevice wsX3_needVersion := goodIn_ca (goodIn_r _ [14, 1, 2] (by decide +kernel) (by decide +kernel)) (goodIn_sub (fun _ h => List.mem_cons_of_mem _ (List.mem_append_left _ (List.mem_append_right _ h))) (by decide +kernel))
set_option maxRecDepth 20000 in
theorem gX3_addDevice_X3_needVersion : GoodIn wsX3_addDevice (va_wsS RX3 52 yX3_needVersion wsX3_needVersion) := goodIn_app (goodIn_of _ (by decide +kernel)) ggX3_addDevice_X3_needVersion
set_option maxRecDepth 20000 in
theorem ggX3_addDevice_X3_has : GoodIn wsX3_addDevice wsX3_has := goodIn_r _ [17] (by decide +kernel) (by decide +kernel)
set_option maxRecDepth 20000 in
theorem gX3_addDevice_X3_has : GoodIn wsX3_addDevice (va_wsS RX3 93 yX3_has wsX3_has) := goodIn_app (goodIn_of _ (by decide +kernel)) ggX3_addDevice_X3_has
set_option maxRecDepth 20000 in
theorem ggX3_charge_X3_deviceAt : GoodIn wsX3_charge wsX3_deviceAt := goodIn_ca (goodIn_r _ [6, 7, 8, 9, 10, 25, 26, 27, 28, 29, 30, 31] (by decide +kernel) (by decide +kernel)) (goodIn_sub (fun _ h => List.mem_cons_of_mem _ (List.mem_append_left _ (List.mem_append_right _ h))) (by decide +kernel))
set_option maxRecDepth 20000 in
theorem gX3_charge_X3_deviceAt : GoodIn wsX3_charge (wsV RX3 108 RX3 yX3_deviceAt wsX3_deviceAt) := goodIn_app (goodIn_of _ (by decide +kernel)) ggX3_charge_X3_deviceAt
set_option maxRecDepth 20000 in
theorem ggX3_charge_X3_needRange : GoodIn wsX3_charge wsX3_needRange := goodIn_ca (goodIn_r _ [13, 14, 15] (by decide +kernel) (by decide +kernel)) (goodIn_sub (fun _ h => List.mem_cons_of_mem _ (List.mem_append_right _ h)) (by decide +kernel))
set_option maxRecDepth 20000 in
theorem gX3_charge_X3_needRange : GoodIn wsX3_charge (va_wsS RX3 55 yX3_needRange wsX3_needRange) := goodIn_app (goodIn_of _ (by decide +kernel)) ggX3_charge_X3_needRange
set_option maxRecDepth 20000 in
theorem ggX3_setWindow_X3_deviceAt : GoodIn wsX3_setWindow wsX3_deviceAt := goodIn_ca (goodIn_r _ [7, 8, 9, 10, 11, 26, 27, 28, 29, 30, 31, 32] (by decide +kernel) (by decide +kernel)) (goodIn_sub (fun _ h => List.mem_cons_of_mem _ (List.mem_append_left _ (List.mem_append_right _ h))) (by decide +kernel))
set_option maxRecDepth 20000 in
theorem gX3_setWindow_X3_deviceAt : GoodIn wsX3_setWindow (wsV RX3 108 RX3 yX3_deviceAt wsX3_deviceAt) := goodIn_app (goodIn_of _ (by decide +kernel)) ggX3_setWindow_X3_deviceAt
set_option maxRecDepth 20000 in
theorem ggX3_setWindow_X3_needRange : GoodIn wsX3_setWindow wsX3_needRange := goodIn_ca (goodIn_r _ [14, 15, 16] (by decide +kernel) (by decide +kernel)) (goodIn_sub (fun _ h => List.mem_cons_of_mem _ (List.mem_append_right _ h)) (by decide +kernel))
set_option maxRecDepth 20000 in
theorem gX3_setWindow_X3_needRange : GoodIn wsX3_setWindow (va_wsS RX3 55 yX3_needRange wsX3_needRange) := goodIn_app (goodIn_of _ (by decide +kernel)) ggX3_setWindow_X3_needRange
set_option maxRecDepth 20000 in
theorem ggX3_report_X3_deviceAt : GoodIn wsX3_report wsX3_deviceAt := goodIn_ca (goodIn_r _ [11, 12, 13, 14, 15, 69, 70, 71, 72, 73, 74, 75] (by decide +kernel) (by decide +kernel)) (goodIn_sub (fun _ h => List.mem_cons_of_mem _ (List.mem_append_right _ h)) (by decide +kernel))
set_option maxRecDepth 20000 in
theorem gX3_report_X3_deviceAt : GoodIn wsX3_report (wsV RX3 108 RX3 yX3_deviceAt wsX3_deviceAt) := goodIn_app (goodIn_of _ (by decide +kernel)) ggX3_report_X3_deviceAt
set_option maxRecDepth 20000 in
theorem ggX3_report_X3_campaignAt : GoodIn wsX3_report wsX3_campaignAt := goodIn_ca (goodIn_r _ [19, 20, 21, 22, 23, 10, 24, 12, 13, 25, 69, 70, 71, 72, 73, 74, 75] (by decide +kernel) (by decide +kernel)) (goodIn_sub (fun _ h => List.mem_cons_of_mem _ (List.mem_append_right _ h)) (by decide +kernel))
set_option maxRecDepth 20000 in
theorem gX3_report_X3_campaignAt : GoodIn wsX3_report (wsV RX3 129 RX3 yX3_campaignAt wsX3_campaignAt) := goodIn_app (goodIn_of _ (by decide +kernel)) ggX3_report_X3_campaignAt
set_option maxRecDepth 20000 in
theorem ggX3_report_X0_countReport : GoodIn wsX3_report wsX0_countReport := goodIn_r _ [30, 31, 32, 33, 34, 56, 57, 58, 59, 60, 61, 62, 63, 64, 65, 66, 67, 68, 47, 48, 49, 50, 51, 52, 53, 54, 55] (by decide +kernel) (by decide +kernel)
set_option maxRecDepth 20000 in
theorem gX3_report_X0_countReport : GoodIn wsX3_report (wsV RX3 136 RX0 yX0_countReport wsX0_countReport) := goodIn_app (goodIn_of _ (by decide +kernel)) ggX3_report_X0_countReport
set_option maxRecDepth 20000 in
theorem ggX3_report_X0_judgeRing : GoodIn wsX3_report wsX0_judgeRing := goodIn_r _ [38, 39, 33, 40, 34, 41, 42, 43, 44, 45, 29, 46, 56, 57, 58, 59, 60, 61, 62, 63, 64, 65, 66, 67, 68] (by decide +kernel) (by decide +kernel)
set_option maxRecDepth 20000 in
theorem gX3_report_X0_judgeRing : GoodIn wsX3_report (wsV RX3 140 RX0 yX0_judgeRing wsX0_judgeRing) := goodIn_app (goodIn_of _ (by decide +kernel)) ggX3_report_X0_judgeRing
set_option maxRecDepth 20000 in
theorem ggX3_state_X3_deviceAt : GoodIn wsX3_state wsX3_deviceAt := goodIn_ca (goodIn_r _ [6, 7, 8, 9, 10, 20, 21, 22, 23, 24, 25, 26] (by decide +kernel) (by decide +kernel)) (goodIn_sub (fun _ h => List.mem_cons_of_mem _ (List.mem_append_right _ h)) (by decide +kernel))
set_option maxRecDepth 20000 in
theorem gX3_state_X3_deviceAt : GoodIn wsX3_state (wsV RX3 108 RX3 yX3_deviceAt wsX3_deviceAt) := goodIn_app (goodIn_of _ (by decide +kernel)) ggX3_state_X3_deviceAt
set_option maxRecDepth 20000 in
theorem ggX3_version_X3_deviceAt : GoodIn wsX3_version wsX3_deviceAt := goodIn_ca (goodIn_r _ [6, 7, 8, 9, 10, 20, 21, 22, 23, 24, 25, 26] (by decide +kernel) (by decide +kernel)) (goodIn_sub (fun _ h => List.mem_cons_of_mem _ (List.mem_append_right _ h)) (by decide +kernel))
set_option maxRecDepth 20000 in
theorem gX3_version_X3_deviceAt : GoodIn wsX3_version (wsV RX3 108 RX3 yX3_deviceAt wsX3_deviceAt) := goodIn_app (goodIn_of _ (by decide +kernel)) ggX3_version_X3_deviceAt
set_option maxRecDepth 20000 in
theorem ggX3_campaignOf_X3_deviceAt : GoodIn wsX3_campaignOf wsX3_deviceAt := goodIn_ca (goodIn_r _ [6, 7, 8, 9, 10, 20, 21, 22, 23, 24, 25, 26] (by decide +kernel) (by decide +kernel)) (goodIn_sub (fun _ h => List.mem_cons_of_mem _ (List.mem_append_right _ h)) (by decide +kernel))
set_option maxRecDepth 20000 in
theorem gX3_campaignOf_X3_deviceAt : GoodIn wsX3_campaignOf (wsV RX3 108 RX3 yX3_deviceAt wsX3_deviceAt) := goodIn_app (goodIn_of _ (by decide +kernel)) ggX3_campaignOf_X3_deviceAt
set_option maxRecDepth 20000 in
theorem ggX3_toGo_X3_deviceAt : GoodIn wsX3_toGo wsX3_deviceAt := goodIn_ca (goodIn_r _ [6, 7, 8, 9, 10, 20, 21, 22, 23, 24, 25, 26] (by decide +kernel) (by decide +kernel)) (goodIn_sub (fun _ h => List.mem_cons_of_mem _ (List.mem_append_right _ h)) (by decide +kernel))
set_option maxRecDepth 20000 in
theorem gX3_toGo_X3_deviceAt : GoodIn wsX3_toGo (wsV RX3 108 RX3 yX3_deviceAt wsX3_deviceAt) := goodIn_app (goodIn_of _ (by decide +kernel)) ggX3_toGo_X3_deviceAt
set_option maxRecDepth 20000 in
theorem ggX3_battery_X3_deviceAt : GoodIn wsX3_battery wsX3_deviceAt := goodIn_ca (goodIn_r _ [6, 7, 8, 9, 10, 20, 21, 22, 23, 24, 25, 26] (by decide +kernel) (by decide +kernel)) (goodIn_sub (fun _ h => List.mem_cons_of_mem _ (List.mem_append_right _ h)) (by decide +kernel))
set_option maxRecDepth 20000 in
theorem gX3_battery_X3_deviceAt : GoodIn wsX3_battery (wsV RX3 108 RX3 yX3_deviceAt wsX3_deviceAt) := goodIn_app (goodIn_of _ (by decide +kernel)) ggX3_battery_X3_deviceAt
set_option maxRecDepth 20000 in
theorem ggX3_begin_X3_needVersion : GoodIn wsX3_begin wsX3_needVersion := goodIn_ca (goodIn_r _ [13, 14, 15] (by decide +kernel) (by decide +kernel)) (goodIn_sub (fun _ h => List.mem_cons_of_mem _ (List.mem_append_left _ (List.mem_append_right _ h))) (by decide +kernel))
set_option maxRecDepth 20000 in
theorem gX3_begin_X3_needVersion : GoodIn wsX3_begin (va_wsS RX3 52 yX3_needVersion wsX3_needVersion) := goodIn_app (goodIn_of _ (by decide +kernel)) ggX3_begin_X3_needVersion
set_option maxRecDepth 20000 in
theorem ggX3_begin_X3_needCampaign : GoodIn wsX3_begin wsX3_needCampaign := goodIn_ca (goodIn_r _ [19, 14, 15, 3, 29, 30, 31, 32, 33, 34, 35] (by decide +kernel) (by decide +kernel)) (goodIn_sub (fun _ h => List.mem_cons_of_mem _ (List.mem_append_left _ (List.mem_append_right _ h))) (by decide +kernel))
set_option maxRecDepth 20000 in
theorem gX3_begin_X3_needCampaign : GoodIn wsX3_begin (wsV RX3 146 RX3 yX3_needCampaign wsX3_needCampaign) := goodIn_app (goodIn_of _ (by decide +kernel)) ggX3_begin_X3_needCampaign
set_option maxRecDepth 20000 in
theorem ggX3_begin_X3_needRange : GoodIn wsX3_begin wsX3_needRange := goodIn_ca (goodIn_r _ [22, 23, 24] (by decide +kernel) (by decide +kernel)) (goodIn_sub (fun _ h => List.mem_cons_of_mem _ (List.mem_append_right _ h)) (by decide +kernel))
set_option maxRecDepth 20000 in
theorem gX3_begin_X3_needRange : GoodIn wsX3_begin (va_wsS RX3 55 yX3_needRange wsX3_needRange) := goodIn_app (goodIn_of _ (by decide +kernel)) ggX3_begin_X3_needRange
set_option maxRecDepth 20000 in
theorem ggX3_begin_X3_campaignAt : GoodIn wsX3_begin wsX3_campaignAt := goodIn_ca (goodIn_r _ [28, 5, 16, 17, 18, 12, 19, 14, 15, 3, 29, 30, 31, 32, 33, 34, 35] (by decide +kernel) (by decide +kernel)) (goodIn_sub (fun _ h => List.mem_cons_of_mem _ (List.mem_append_left _ (List.mem_append_right _ h))) (by decide +kernel))
set_option maxRecDepth 20000 in
theorem gX3_begin_X3_campaignAt : GoodIn wsX3_begin (wsV RX3 129 RX3 yX3_campaignAt wsX3_campaignAt) := goodIn_app (goodIn_of _ (by decide +kernel)) ggX3_begin_X3_campaignAt
set_option maxRecDepth 20000 in
theorem ggX3_setRules_X3_campaignAt : GoodIn wsX3_setRules wsX3_campaignAt := goodIn_ca (goodIn_r _ [9, 10, 11, 12, 13, 8, 14, 15, 16, 17, 36, 37, 38, 39, 40, 41, 42] (by decide +kernel) (by decide +kernel)) (goodIn_sub (fun _ h => List.mem_cons_of_mem _ (List.mem_append_left _ (List.mem_append_right _ h))) (by decide +kernel))
set_option maxRecDepth 20000 in
theorem gX3_setRules_X3_campaignAt : GoodIn wsX3_setRules (wsV RX3 129 RX3 yX3_campaignAt wsX3_campaignAt) := goodIn_app (goodIn_of _ (by decide +kernel)) ggX3_setRules_X3_campaignAt
set_option maxRecDepth 20000 in
theorem ggX3_setRules_X3_needRange : GoodIn wsX3_setRules wsX3_needRange := goodIn_ca (goodIn_r _ [20, 21, 22] (by decide +kernel) (by decide +kernel)) (goodIn_sub (fun _ h => List.mem_cons_of_mem _ (List.mem_append_right _ h)) (by decide +kernel))
set_option maxRecDepth 20000 in
theorem gX3_setRules_X3_needRange : GoodIn wsX3_setRules (va_wsS RX3 55 yX3_needRange wsX3_needRange) := goodIn_app (goodIn_of _ (by decide +kernel)) ggX3_setRules_X3_needRange
set_option maxRecDepth 20000 in
theorem ggX3_toggle_X3_campaignAt : GoodIn wsX3_toggle wsX3_campaignAt := goodIn_ca (goodIn_r _ [7, 8, 9, 10, 11, 6, 12, 13, 14, 15, 37, 38, 39, 40, 41, 42, 43] (by decide +kernel) (by decide +kernel)) (goodIn_sub (fun _ h => List.mem_cons_of_mem _ (List.mem_append_right _ h)) (by decide +kernel))
set_option maxRecDepth 20000 in
theorem gX3_toggle_X3_campaignAt : GoodIn wsX3_toggle (wsV RX3 129 RX3 yX3_campaignAt wsX3_campaignAt) := goodIn_app (goodIn_of _ (by decide +kernel)) ggX3_toggle_X3_campaignAt
set_option maxRecDepth 20000 in
theorem ggX3_toggle_X0_beginRing : GoodIn wsX3_toggle wsX0_beginRing := goodIn_r _ [20, 21, 22, 23, 24, 25, 26, 27, 28, 29, 30, 31, 32, 33, 34, 35, 36] (by decide +kernel) (by decide +kernel)
set_option maxRecDepth 20000 in
theorem gX3_toggle_X0_beginRing : GoodIn wsX3_toggle (wsV RX3 177 RX0 yX0_beginRing wsX0_beginRing) := goodIn_app (goodIn_of _ (by decide +kernel)) ggX3_toggle_X0_beginRing
set_option maxRecDepth 20000 in
theorem ggX3_isActive_X3_campaignAt : GoodIn wsX3_isActive wsX3_campaignAt := goodIn_ca (goodIn_r _ [6, 7, 8, 9, 10, 5, 11, 12, 13, 14, 28, 29, 30, 31, 32, 33, 34] (by decide +kernel) (by decide +kernel)) (goodIn_sub (fun _ h => List.mem_cons_of_mem _ (List.mem_append_right _ h)) (by decide +kernel))
set_option maxRecDepth 20000 in
theorem gX3_isActive_X3_campaignAt : GoodIn wsX3_isActive (wsV RX3 129 RX3 yX3_campaignAt wsX3_campaignAt) := goodIn_app (goodIn_of _ (by decide +kernel)) ggX3_isActive_X3_campaignAt
set_option maxRecDepth 20000 in
theorem ggX3_ring_X3_campaignAt : GoodIn wsX3_ring wsX3_campaignAt := goodIn_ca (goodIn_r _ [6, 7, 8, 9, 10, 5, 11, 12, 13, 14, 28, 29, 30, 31, 32, 33, 34] (by decide +kernel) (by decide +kernel)) (goodIn_sub (fun _ h => List.mem_cons_of_mem _ (List.mem_append_right _ h)) (by decide +kernel))
set_option maxRecDepth 20000 in
theorem gX3_ring_X3_campaignAt : GoodIn wsX3_ring (wsV RX3 129 RX3 yX3_campaignAt wsX3_campaignAt) := goodIn_app (goodIn_of _ (by decide +kernel)) ggX3_ring_X3_campaignAt
set_option maxRecDepth 20000 in
theorem ggX3_reports_X3_campaignAt : GoodIn wsX3_reports wsX3_campaignAt := goodIn_ca (goodIn_r _ [6, 7, 8, 9, 10, 5, 11, 12, 13, 14, 28, 29, 30, 31, 32, 33, 34] (by decide +kernel) (by decide +kernel)) (goodIn_sub (fun _ h => List.mem_cons_of_mem _ (List.mem_append_right _ h)) (by decide +kernel))
set_option maxRecDepth 20000 in
theorem gX3_reports_X3_campaignAt : GoodIn wsX3_reports (wsV RX3 129 RX3 yX3_campaignAt wsX3_campaignAt) := goodIn_app (goodIn_of _ (by decide +kernel)) ggX3_reports_X3_campaignAt
set_option maxRecDepth 20000 in
theorem ggX3_eligible_X3_campaignAt : GoodIn wsX3_eligible wsX3_campaignAt := goodIn_ca (goodIn_r _ [7, 8, 9, 10, 11, 6, 12, 13, 14, 15, 69, 70, 71, 72, 73, 74, 75] (by decide +kernel) (by decide +kernel)) (goodIn_sub (fun _ h => List.mem_cons_of_mem _ (List.mem_append_right _ h)) (by decide +kernel))
set_option maxRecDepth 20000 in
theorem gX3_eligible_X3_campaignAt : GoodIn wsX3_eligible (wsV RX3 129 RX3 yX3_campaignAt wsX3_campaignAt) := goodIn_app (goodIn_of _ (by decide +kernel)) ggX3_eligible_X3_campaignAt
set_option maxRecDepth 20000 in
theorem ggX3_eligible_X3_mayTake : GoodIn wsX3_eligible wsX3_mayTake := goodIn_r _ [19, 20, 21, 22, 23, 24, 25, 26, 27, 28, 29, 30, 31, 32, 33, 34, 35, 36, 37, 38, 39, 6, 40, 41, 42, 43, 44, 45, 46, 47, 48, 49, 50, 51, 52, 53, 54, 55, 56, 57, 58, 59, 60, 61, 62, 63, 64, 65, 66, 67, 68, 76, 77, 78, 79, 80, 81, 82, 83, 84, 69, 70, 71, 72, 73, 74, 75, 85, 86, 87, 88, 89, 90, 91, 92, 93, 94, 95, 96, 97, 98, 99, 100, 101] (by decide +kernel) (by decide +kernel)
set_option maxRecDepth 20000 in
theorem gX3_eligible_X3_mayTake : GoodIn wsX3_eligible (wsV RX3 183 RX3 yX3_mayTake wsX3_mayTake) := goodIn_app (goodIn_of _ (by decide +kernel)) ggX3_eligible_X3_mayTake
set_option maxRecDepth 20000 in
theorem ggX3_pass_X3_needRange : GoodIn wsX3_pass wsX3_needRange := goodIn_ca (goodIn_r _ [4, 5, 6] (by decide +kernel) (by decide +kernel)) (goodIn_sub (fun _ h => List.mem_cons_of_mem _ (List.mem_append_right _ h)) (by decide +kernel))
set_option maxRecDepth 20000 in
theorem gX3_pass_X3_needRange : GoodIn wsX3_pass (va_wsS RX3 55 yX3_needRange wsX3_needRange) := goodIn_app (goodIn_of _ (by decide +kernel)) ggX3_pass_X3_needRange
set_option maxRecDepth 20000 in
theorem ggX3_pass_X3_passOneHour : GoodIn wsX3_pass wsX3_passOneHour := goodIn_r _ [10, 11, 12, 13, 14, 15, 16, 17, 3, 18, 19, 20, 21, 22, 23, 24, 25, 26, 27, 28, 29, 30, 31, 32, 33, 34, 35, 36, 37, 38, 39, 40, 41, 42, 43, 44, 45, 46, 47, 48, 49, 50, 51, 52, 53, 54, 55, 56, 57, 58, 59, 60, 61, 62, 63, 64, 65, 66, 67, 68, 69, 70, 71, 72, 73, 74, 75, 76, 77, 78, 79, 80, 81, 82, 83, 84, 85, 86, 87, 88, 89, 90, 91, 92, 93, 94, 95, 96, 97, 98, 99, 100, 101, 102, 103, 104, 105, 106, 107, 108, 109, 110, 111, 112, 113, 114, 115, 116, 117, 118, 119, 120, 121, 122, 123, 124, 125, 126, 127, 128, 129, 130, 131, 132] (by decide +kernel) (by decide +kernel)
set_option maxRecDepth 20000 in
theorem gX3_pass_X3_passOneHour : GoodIn wsX3_pass (wsV RX3 187 RX3 yX3_passOneHour wsX3_passOneHour) := goodIn_app (goodIn_of _ (by decide +kernel)) ggX3_pass_X3_passOneHour
set_option maxRecDepth 20000 in
theorem ggX3_passOneHour_X3_takeLowestCampaign : GoodIn wsX3_passOneHour wsX3_takeLowestCampaign := goodIn_r _ [9, 10, 11, 12, 13, 14, 15, 16, 17, 8, 18, 4, 19, 20, 21, 22, 23, 24, 25, 26, 27, 28, 29, 30, 31, 32, 33, 34, 35, 36, 37, 38, 39, 40, 41, 42, 43, 44, 45, 46, 47, 48, 49, 50, 51, 52, 53, 54, 55, 56, 57, 58, 59, 60, 61, 62, 63, 64, 65, 66, 67, 68, 69, 70, 71, 72, 91, 92, 93, 94, 95, 96, 97, 98, 99, 100, 101, 102, 103, 104, 105, 106, 107, 108, 109, 110, 111, 112, 113, 114, 115, 116, 117, 118, 119, 120, 121, 122, 123] (by decide +kernel) (by decide +kernel)
set_option maxRecDepth 20000 in
theorem gX3_passOneHour_X3_takeLowestCampaign : GoodIn wsX3_passOneHour (wsV RX3 191 RX3 yX3_takeLowestCampaign wsX3_takeLowestCampaign) := goodIn_app (goodIn_of _ (by decide +kernel)) ggX3_passOneHour_X3_takeLowestCampaign
set_option maxRecDepth 20000 in
theorem ggX3_passOneHour_X1_canLoad : GoodIn wsX3_passOneHour wsX1_canLoad := goodIn_r _ [76, 69, 77, 78, 79, 80, 67, 81, 82, 83, 98, 99, 100, 101, 102, 103, 104, 105, 106] (by decide +kernel) (by decide +kernel)
set_option maxRecDepth 20000 in
theorem gX3_passOneHour_X1_canLoad : GoodIn wsX3_passOneHour (wsV RX3 195 RX1 yX1_canLoad wsX1_canLoad) := goodIn_app (goodIn_of _ (by decide +kernel)) ggX3_passOneHour_X1_canLoad
set_option maxRecDepth 20000 in
theorem ggX3_passOneHour_X1_load : GoodIn wsX3_passOneHour wsX1_load := goodIn_r _ [87, 72, 88, 89, 58, 90, 77, 69, 98, 99, 100, 101, 102, 103, 104, 105, 106] (by decide +kernel) (by decide +kernel)
set_option maxRecDepth 20000 in
theorem gX3_passOneHour_X1_load : GoodIn wsX3_passOneHour (wsV RX3 199 RX1 yX1_load wsX1_load) := goodIn_app (goodIn_of _ (by decide +kernel)) ggX3_passOneHour_X1_load
set_option maxRecDepth 20000 in
theorem ggX3_takeLowestCampaign_X3_mayTake : GoodIn wsX3_takeLowestCampaign wsX3_mayTake := goodIn_r _ [10, 11, 12, 5, 13, 3, 4, 14, 15, 16, 17, 18, 19, 20, 21, 22, 23, 24, 25, 26, 27, 9, 28, 29, 30, 31, 32, 33, 34, 35, 36, 37, 38, 39, 40, 41, 42, 43, 44, 45, 46, 47, 48, 49, 50, 51, 52, 53, 54, 55, 56, 73, 74, 75, 76, 77, 78, 79, 80, 81, 66, 67, 68, 69, 70, 71, 72, 82, 83, 84, 85, 86, 87, 88, 89, 90, 91, 92, 93, 94, 95, 96, 97, 98] (by decide +kernel) (by decide +kernel)
set_option maxRecDepth 20000 in
theorem gX3_takeLowestCampaign_X3_mayTake : GoodIn wsX3_takeLowestCampaign (wsV RX3 183 RX3 yX3_mayTake wsX3_mayTake) := goodIn_app (goodIn_of _ (by decide +kernel)) ggX3_takeLowestCampaign_X3_mayTake
set_option maxRecDepth 20000 in
theorem ggX3_takeLowestCampaign_X2_leastBytes : GoodIn wsX3_takeLowestCampaign wsX2_leastBytes := goodIn_r _ [46, 47, 48, 49, 50, 51, 52, 53, 54, 45, 55, 56, 95, 96, 97, 98] (by decide +kernel) (by decide +kernel)
set_option maxRecDepth 20000 in
theorem gX3_takeLowestCampaign_X2_leastBytes : GoodIn wsX3_takeLowestCampaign (wsV RX3 77 RX2 yX2_leastBytes wsX2_leastBytes) := goodIn_app (goodIn_of _ (by decide +kernel)) ggX3_takeLowestCampaign_X2_leastBytes
set_option maxRecDepth 20000 in
theorem ggX3_takeLowestCampaign_X1_take : GoodIn wsX3_takeLowestCampaign wsX1_take := goodIn_r _ [61, 62, 63, 64, 65, 73, 74, 75, 76, 77, 78, 79, 80, 81, 82, 83, 84, 85, 86, 87, 88, 89, 90, 91, 92, 93, 94] (by decide +kernel) (by decide +kernel)
set_option maxRecDepth 20000 in
theorem gX3_takeLowestCampaign_X1_take : GoodIn wsX3_takeLowestCampaign (wsV RX3 202 RX1 yX1_take wsX1_take) := goodIn_app (goodIn_of _ (by decide +kernel)) ggX3_takeLowestCampaign_X1_take
set_option maxRecDepth 20000 in
theorem ggX3_mayTake_X0_isFor : GoodIn wsX3_mayTake wsX0_isFor := goodIn_r _ [11, 12, 13, 14, 15, 16, 17, 18, 19, 20, 21, 22, 23, 24, 25, 10, 26, 27, 28, 29, 30, 31, 32, 33, 34, 67, 68, 69, 70, 71, 72, 73, 74, 75, 76, 77, 78, 79, 51, 52, 53, 54, 55, 56, 57, 58, 59] (by decide +kernel) (by decide +kernel)
set_option maxRecDepth 20000 in
theorem gX3_mayTake_X0_isFor : GoodIn wsX3_mayTake (wsV RX3 206 RX0 yX0_isFor wsX0_isFor) := goodIn_app (goodIn_of _ (by decide +kernel)) ggX3_mayTake_X0_isFor
set_option maxRecDepth 20000 in
theorem ggX3_mayTake_X3_has : GoodIn wsX3_mayTake wsX3_has := goodIn_r _ [22] (by decide +kernel) (by decide +kernel)
set_option maxRecDepth 20000 in
theorem gX3_mayTake_X3_has : GoodIn wsX3_mayTake (va_wsS RX3 93 yX3_has wsX3_has) := goodIn_app (goodIn_of _ (by decide +kernel)) ggX3_mayTake_X3_has
set_option maxRecDepth 20000 in
theorem ggX3_mayTake_X2_leastBytes : GoodIn wsX3_mayTake wsX2_leastBytes := goodIn_r _ [40, 41, 42, 43, 44, 45, 46, 47, 48, 39, 49, 50, 80, 81, 82, 83] (by decide +kernel) (by decide +kernel)
set_option maxRecDepth 20000 in
theorem gX3_mayTake_X2_leastBytes : GoodIn wsX3_mayTake (wsV RX3 77 RX2 yX2_leastBytes wsX2_leastBytes) := goodIn_app (goodIn_of _ (by decide +kernel)) ggX3_mayTake_X2_leastBytes
set_option maxRecDepth 20000 in
theorem ggX3_campaignAt_X3_needCampaign : GoodIn wsX3_campaignAt wsX3_needCampaign := goodIn_ca (goodIn_r _ [6, 7, 8, 9, 10, 11, 12, 13, 14, 15, 16] (by decide +kernel) (by decide +kernel)) (goodIn_sub (fun _ h => List.mem_cons_of_mem _ (List.mem_append_right _ h)) (by decide +kernel))
set_option maxRecDepth 20000 in
theorem gX3_campaignAt_X3_needCampaign : GoodIn wsX3_campaignAt (wsV RX3 146 RX3 yX3_needCampaign wsX3_needCampaign) := goodIn_app (goodIn_of _ (by decide +kernel)) ggX3_campaignAt_X3_needCampaign
set_option maxRecDepth 20000 in
theorem ggX3_needBytesOrNone_X3_needRange : GoodIn wsX3_needBytesOrNone wsX3_needRange := goodIn_ca (goodIn_r _ [5, 6, 7] (by decide +kernel) (by decide +kernel)) (goodIn_sub (fun _ h => List.mem_cons_of_mem _ (List.mem_append_right _ h)) (by decide +kernel))
set_option maxRecDepth 20000 in
theorem gX3_needBytesOrNone_X3_needRange : GoodIn wsX3_needBytesOrNone (va_wsS RX3 55 yX3_needRange wsX3_needRange) := goodIn_app (goodIn_of _ (by decide +kernel)) ggX3_needBytesOrNone_X3_needRange
