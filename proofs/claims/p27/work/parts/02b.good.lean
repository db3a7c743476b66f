set_option maxRecDepth 20000 in
theorem ggX0_init_X2_init : GoodIn wsX0_init wsX2_init := goodIn_r _ [10, 11, 2, 3, 12, 13, 14, 15, 16, 17, 18, 19] (by decide +kernel) (by decide +kernel)
set_option maxRecDepth 20000 in
theorem gX0_init_X2_init : GoodIn wsX0_init (wsX2_init) := ggX0_init_X2_init
set_option maxRecDepth 20000 in
theorem ggX0_admitTune_X2_append : GoodIn wsX0_admitTune wsX2_append := goodIn_r _ [6, 7, 8, 10, 11] (by decide +kernel) (by decide +kernel)
set_option maxRecDepth 20000 in
theorem gX0_admitTune_X2_append : GoodIn wsX0_admitTune (wsV RX0 20 RX2 yX2_append wsX2_append) := goodIn_app (goodIn_of _ (by decide +kernel)) ggX0_admitTune_X2_append
set_option maxRecDepth 20000 in
theorem ggX0_areLinked_X2_at : GoodIn wsX0_areLinked wsX2_at := goodIn_r _ [6, 7, 8, 14, 15] (by decide +kernel) (by decide +kernel)
set_option maxRecDepth 20000 in
theorem gX0_areLinked_X2_at : GoodIn wsX0_areLinked (wsV RX0 23 RX2 yX2_at wsX2_at) := goodIn_app (goodIn_of _ (by decide +kernel)) ggX0_areLinked_X2_at
set_option maxRecDepth 20000 in
theorem ggX0_areLinked_X0_setOf : GoodIn wsX0_areLinked wsX0_setOf := goodIn_r _ [12] (by decide +kernel) (by decide +kernel)
set_option maxRecDepth 20000 in
theorem gX0_areLinked_X0_setOf : GoodIn wsX0_areLinked (va_wsS RX0 27 yX0_setOf wsX0_setOf) := goodIn_app (goodIn_of _ (by decide +kernel)) ggX0_areLinked_X0_setOf
set_option maxRecDepth 20000 in
theorem ggX0_toggle_X2_at : GoodIn wsX0_toggle wsX2_at := goodIn_r _ [6, 7, 8, 18, 19] (by decide +kernel) (by decide +kernel)
set_option maxRecDepth 20000 in
theorem gX0_toggle_X2_at : GoodIn wsX0_toggle (wsV RX0 23 RX2 yX2_at wsX2_at) := goodIn_app (goodIn_of _ (by decide +kernel)) ggX0_toggle_X2_at
set_option maxRecDepth 20000 in
theorem ggX0_toggle_X0_setOf : GoodIn wsX0_toggle wsX0_setOf := goodIn_r _ [12] (by decide +kernel) (by decide +kernel)
set_option maxRecDepth 20000 in
theorem gX0_toggle_X0_setOf : GoodIn wsX0_toggle (va_wsS RX0 27 yX0_setOf wsX0_setOf) := goodIn_app (goodIn_of _ (by decide +kernel)) ggX0_toggle_X0_setOf
set_option maxRecDepth 20000 in
theorem ggX0_toggle_X2_put : GoodIn wsX0_toggle wsX2_put := goodIn_r _ [16, 7, 8, 18, 19] (by decide +kernel) (by decide +kernel)
set_option maxRecDepth 20000 in
theorem gX0_toggle_X2_put : GoodIn wsX0_toggle (wsV RX0 30 RX2 yX2_put wsX2_put) := goodIn_app (goodIn_of _ (by decide +kernel)) ggX0_toggle_X2_put
set_option maxRecDepth 20000 in
theorem ggX0_countFamilies_X2_size : GoodIn wsX0_countFamilies wsX2_size := goodIn_r _ [6, 7, 26, 27] (by decide +kernel) (by decide +kernel)
set_option maxRecDepth 20000 in
theorem gX0_countFamilies_X2_size : GoodIn wsX0_countFamilies (wsV RX0 34 RX2 yX2_size wsX2_size) := goodIn_app (goodIn_of _ (by decide +kernel)) ggX0_countFamilies_X2_size
set_option maxRecDepth 20000 in
theorem ggX0_countFamilies_X0_lowestOfFamily : GoodIn wsX0_countFamilies wsX0_lowestOfFamily := goodIn_r _ [12, 1, 13, 14, 11, 15, 2, 3, 4, 5, 6, 7, 16, 17, 18, 19, 20, 21, 22, 23, 24, 25, 26, 27] (by decide +kernel) (by decide +kernel)
set_option maxRecDepth 20000 in
theorem gX0_countFamilies_X0_lowestOfFamily : GoodIn wsX0_countFamilies (wsV RX0 38 RX0 yX0_lowestOfFamily wsX0_lowestOfFamily) := goodIn_app (goodIn_of _ (by decide +kernel)) ggX0_countFamilies_X0_lowestOfFamily
set_option maxRecDepth 20000 in
theorem ggX0_lowestOfFamily_X0_setOf : GoodIn wsX0_lowestOfFamily wsX0_setOf := goodIn_r _ [5] (by decide +kernel) (by decide +kernel)
set_option maxRecDepth 20000 in
theorem gX0_lowestOfFamily_X0_setOf : GoodIn wsX0_lowestOfFamily (va_wsS RX0 27 yX0_setOf wsX0_setOf) := goodIn_app (goodIn_of _ (by decide +kernel)) ggX0_lowestOfFamily_X0_setOf
set_option maxRecDepth 20000 in
theorem ggX0_lowestOfFamily_X2_size : GoodIn wsX0_lowestOfFamily wsX2_size := goodIn_r _ [10, 11, 22, 23] (by decide +kernel) (by decide +kernel)
set_option maxRecDepth 20000 in
theorem gX0_lowestOfFamily_X2_size : GoodIn wsX0_lowestOfFamily (wsV RX0 34 RX2 yX2_size wsX2_size) := goodIn_app (goodIn_of _ (by decide +kernel)) ggX0_lowestOfFamily_X2_size
set_option maxRecDepth 20000 in
theorem ggX0_lowestOfFamily_X0_withPartners : GoodIn wsX0_lowestOfFamily wsX0_withPartners := goodIn_r _ [15, 1, 6, 7, 8, 9, 10, 11, 2, 3, 4, 5, 16, 17, 18, 19, 20, 21, 22, 23] (by decide +kernel) (by decide +kernel)
set_option maxRecDepth 20000 in
theorem gX0_lowestOfFamily_X0_withPartners : GoodIn wsX0_lowestOfFamily (wsV RX0 41 RX0 yX0_withPartners wsX0_withPartners) := goodIn_app (goodIn_of _ (by decide +kernel)) ggX0_lowestOfFamily_X0_withPartners
set_option maxRecDepth 20000 in
theorem ggX0_withPartners_X2_size : GoodIn wsX0_withPartners wsX2_size := goodIn_r _ [6, 7, 18, 19] (by decide +kernel) (by decide +kernel)
set_option maxRecDepth 20000 in
theorem gX0_withPartners_X2_size : GoodIn wsX0_withPartners (wsV RX0 34 RX2 yX2_size wsX2_size) := goodIn_app (goodIn_of _ (by decide +kernel)) ggX0_withPartners_X2_size
set_option maxRecDepth 20000 in
theorem ggX0_withPartners_X0_setOf : GoodIn wsX0_withPartners wsX0_setOf := goodIn_r _ [11] (by decide +kernel) (by decide +kernel)
set_option maxRecDepth 20000 in
theorem gX0_withPartners_X0_setOf : GoodIn wsX0_withPartners (va_wsS RX0 27 yX0_setOf wsX0_setOf) := goodIn_app (goodIn_of _ (by decide +kernel)) ggX0_withPartners_X0_setOf
set_option maxRecDepth 20000 in
theorem ggX0_withPartners_X2_at : GoodIn wsX0_withPartners wsX2_at := goodIn_r _ [15, 7, 16, 18, 19] (by decide +kernel) (by decide +kernel)
set_option maxRecDepth 20000 in
theorem gX0_withPartners_X2_at : GoodIn wsX0_withPartners (wsV RX0 23 RX2 yX2_at wsX2_at) := goodIn_app (goodIn_of _ (by decide +kernel)) ggX0_withPartners_X2_at
set_option maxRecDepth 20000 in
theorem ggX1_init_X2_init : GoodIn wsX1_init wsX2_init := goodIn_r _ [15, 16, 2, 3, 17, 18, 19, 20, 11, 21, 22, 23] (by decide +kernel) (by decide +kernel)
set_option maxRecDepth 20000 in
theorem gX1_init_X2_init : GoodIn wsX1_init (wsX2_init) := ggX1_init_X2_init
set_option maxRecDepth 20000 in
theorem ggX1_cheapestByTable_X2_size : GoodIn wsX1_cheapestByTable wsX2_size := goodIn_r _ [6, 7, 66, 67] (by decide +kernel) (by decide +kernel)
set_option maxRecDepth 20000 in
theorem gX1_cheapestByTable_X2_size : GoodIn wsX1_cheapestByTable (wsV RX1 34 RX2 yX2_size wsX2_size) := goodIn_app (goodIn_of _ (by decide +kernel)) ggX1_cheapestByTable_X2_size
set_option maxRecDepth 20000 in
theorem ggX1_cheapestByTable_X3_size : GoodIn wsX1_cheapestByTable wsX3_size := goodIn_r _ [12, 13, 14, 3, 4, 5, 6, 7, 68, 69, 70, 66, 67] (by decide +kernel) (by decide +kernel)
set_option maxRecDepth 20000 in
theorem gX1_cheapestByTable_X3_size : GoodIn wsX1_cheapestByTable (wsV RX1 38 RX3 yX3_size wsX3_size) := goodIn_app (goodIn_of _ (by decide +kernel)) ggX1_cheapestByTable_X3_size
set_option maxRecDepth 20000 in
theorem ggX1_cheapestByTable_X1_cheapestTo : GoodIn wsX1_cheapestByTable wsX1_cheapestTo := goodIn_r _ [19, 20, 21, 22, 18, 23, 24, 25, 26, 27, 28, 29, 30, 31, 32, 33, 34, 35, 1, 36, 37, 38, 39, 40, 41, 42, 43, 44, 45, 5, 46, 7, 47, 48, 49, 50, 51, 52, 53, 54, 55, 56, 61, 62, 63, 64, 65, 68, 69, 70, 66, 67] (by decide +kernel) (by decide +kernel)
set_option maxRecDepth 20000 in
theorem gX1_cheapestByTable_X1_cheapestTo : GoodIn wsX1_cheapestByTable (wsV RX1 41 RX1 yX1_cheapestTo wsX1_cheapestTo) := goodIn_app (goodIn_of _ (by decide +kernel)) ggX1_cheapestByTable_X1_cheapestTo
set_option maxRecDepth 20000 in
theorem ggX1_cheapestByTable_X1_setTableAt : GoodIn wsX1_cheapestByTable wsX1_setTableAt := goodIn_r _ [60, 28, 61, 62, 63, 64, 65] (by decide +kernel) (by decide +kernel)
set_option maxRecDepth 20000 in
theorem gX1_cheapestByTable_X1_setTableAt : GoodIn wsX1_cheapestByTable (wsV RX1 45 RX1 yX1_setTableAt wsX1_setTableAt) := goodIn_app (goodIn_of _ (by decide +kernel)) ggX1_cheapestByTable_X1_setTableAt
set_option maxRecDepth 20000 in
theorem ggX1_cheapestByTable_X1_tableAt : GoodIn wsX1_cheapestByTable wsX1_tableAt := goodIn_r _ [27, 28, 29, 30, 31, 61, 62, 63, 64, 65] (by decide +kernel) (by decide +kernel)
set_option maxRecDepth 20000 in
theorem gX1_cheapestByTable_X1_tableAt : GoodIn wsX1_cheapestByTable (wsV RX1 49 RX1 yX1_tableAt wsX1_tableAt) := goodIn_app (goodIn_of _ (by decide +kernel)) ggX1_cheapestByTable_X1_tableAt
set_option maxRecDepth 20000 in
theorem ggX1_cheapestByTable_X1_cheaper : GoodIn wsX1_cheapestByTable wsX1_cheaper := goodIn_r _ [50, 51, 52, 39, 53, 54, 55, 56] (by decide +kernel) (by decide +kernel)
set_option maxRecDepth 20000 in
theorem gX1_cheapestByTable_X1_cheaper : GoodIn wsX1_cheapestByTable (va_wsS RX1 53 yX1_cheaper wsX1_cheaper) := goodIn_app (goodIn_of _ (by decide +kernel)) ggX1_cheapestByTable_X1_cheaper
set_option maxRecDepth 20000 in
theorem ggX1_tableAt_X4_isWithin : GoodIn wsX1_tableAt wsX4_isWithin := goodIn_r _ [4] (by decide +kernel) (by decide +kernel)
set_option maxRecDepth 20000 in
theorem gX1_tableAt_X4_isWithin_n60 : GoodIn wsX1_tableAt (wsX4_isWithin) := ggX1_tableAt_X4_isWithin
set_option maxRecDepth 20000 in
theorem ggX1_cheapestTo_X1_costBy : GoodIn wsX1_cheapestTo wsX1_costBy := goodIn_r _ [5, 6, 7, 8, 4, 9, 10, 11, 12, 13, 14, 15, 16, 17, 18, 19, 20, 21, 22, 23, 24, 25, 26, 27, 28, 29, 30, 31, 32, 42, 43, 44, 45, 46, 47, 48, 49, 50, 51] (by decide +kernel) (by decide +kernel)
set_option maxRecDepth 20000 in
theorem gX1_cheapestTo_X1_costBy : GoodIn wsX1_cheapestTo (wsV RX1 64 RX1 yX1_costBy wsX1_costBy) := goodIn_app (goodIn_of _ (by decide +kernel)) ggX1_cheapestTo_X1_costBy
set_option maxRecDepth 20000 in
theorem ggX1_cheapestTo_X1_cheaper : GoodIn wsX1_cheapestTo wsX1_cheaper := goodIn_r _ [35, 36, 37, 22, 38, 39, 40, 41] (by decide +kernel) (by decide +kernel)
set_option maxRecDepth 20000 in
theorem gX1_cheapestTo_X1_cheaper : GoodIn wsX1_cheapestTo (va_wsS RX1 53 yX1_cheaper wsX1_cheaper) := goodIn_app (goodIn_of _ (by decide +kernel)) ggX1_cheapestTo_X1_cheaper
set_option maxRecDepth 20000 in
theorem ggX1_costBy_X1_tableAt : GoodIn wsX1_costBy wsX1_tableAt := goodIn_r _ [5, 6, 7, 8, 9, 29, 30, 31, 32, 33] (by decide +kernel) (by decide +kernel)
set_option maxRecDepth 20000 in
theorem gX1_costBy_X1_tableAt : GoodIn wsX1_costBy (wsV RX1 49 RX1 yX1_tableAt wsX1_tableAt) := goodIn_app (goodIn_of _ (by decide +kernel)) ggX1_costBy_X1_tableAt
set_option maxRecDepth 20000 in
theorem ggX1_costBy_X1_costOfMove : GoodIn wsX1_costBy wsX1_costOfMove := goodIn_r _ [13, 14, 15, 16, 17, 18, 19, 20, 21, 22, 23, 24, 25, 26, 27, 28, 34, 35, 36, 29, 30, 31, 32, 33, 37, 38] (by decide +kernel) (by decide +kernel)
set_option maxRecDepth 20000 in
theorem gX1_costBy_X1_costOfMove : GoodIn wsX1_costBy (wsV RX1 68 RX1 yX1_costOfMove wsX1_costOfMove) := goodIn_app (goodIn_of _ (by decide +kernel)) ggX1_costBy_X1_costOfMove
set_option maxRecDepth 20000 in
theorem ggX1_costOfMove_X2_at : GoodIn wsX1_costOfMove wsX2_at := goodIn_r _ [13, 14, 15, 24, 25] (by decide +kernel) (by decide +kernel)
set_option maxRecDepth 20000 in
theorem gX1_costOfMove_X2_at : GoodIn wsX1_costOfMove (wsV RX1 78 RX2 yX2_at wsX2_at) := goodIn_app (goodIn_of _ (by decide +kernel)) ggX1_costOfMove_X2_at
set_option maxRecDepth 20000 in
theorem ggX2_stepFrom_X2_at : GoodIn wsX2_stepFrom wsX2_at := goodIn_r _ [5, 6, 7, 8, 9] (by decide +kernel) (by decide +kernel)
set_option maxRecDepth 20000 in
theorem gX2_stepFrom_X2_at : GoodIn wsX2_stepFrom (wsV RX2 23 RX2 yX2_at wsX2_at) := goodIn_app (goodIn_of _ (by decide +kernel)) ggX2_stepFrom_X2_at
set_option maxRecDepth 20000 in
theorem ggX2_stepsInCommon_X2_stepFrom : GoodIn wsX2_stepsInCommon wsX2_stepFrom := goodIn_r _ [10, 11, 12, 13, 9, 14, 1, 15, 16, 17] (by decide +kernel) (by decide +kernel)
set_option maxRecDepth 20000 in
theorem gX2_stepsInCommon_X2_stepFrom : GoodIn wsX2_stepsInCommon (wsV RX2 30 RX2 yX2_stepFrom wsX2_stepFrom) := goodIn_app (goodIn_of _ (by decide +kernel)) ggX2_stepsInCommon_X2_stepFrom
set_option maxRecDepth 20000 in
theorem ggX2_beginsWithContourOf_X2_stepFrom : GoodIn wsX2_beginsWithContourOf wsX2_stepFrom := goodIn_r _ [6, 7, 8, 9, 5, 10, 1, 11, 15, 16] (by decide +kernel) (by decide +kernel)
set_option maxRecDepth 20000 in
theorem gX2_beginsWithContourOf_X2_stepFrom : GoodIn wsX2_beginsWithContourOf (wsV RX2 30 RX2 yX2_stepFrom wsX2_stepFrom) := goodIn_app (goodIn_of _ (by decide +kernel)) ggX2_beginsWithContourOf_X2_stepFrom
set_option maxRecDepth 20000 in
theorem ggX2_beginsWithContourOf_X2_direction : GoodIn wsX2_beginsWithContourOf wsX2_direction := goodIn_r _ [14] (by decide +kernel) (by decide +kernel)
set_option maxRecDepth 20000 in
theorem gX2_beginsWithContourOf_X2_direction : GoodIn wsX2_beginsWithContourOf (va_wsS RX2 33 yX2_direction wsX2_direction) := goodIn_app (goodIn_of _ (by decide +kernel)) ggX2_beginsWithContourOf_X2_direction
set_option maxRecDepth 20000 in
theorem ggX3_init_X2_init : GoodIn wsX3_init wsX2_init := goodIn_r _ [11, 12, 2, 3, 13, 14, 15, 16, 17, 18, 19, 20] (by decide +kernel) (by decide +kernel)
set_option maxRecDepth 20000 in
theorem gX3_init_X2_init : GoodIn wsX3_init (wsX2_init) := ggX3_init_X2_init
set_option maxRecDepth 20000 in
theorem ggX3_size_X2_size : GoodIn wsX3_size wsX2_size := goodIn_r _ [6, 7, 11, 12] (by decide +kernel) (by decide +kernel)
set_option maxRecDepth 20000 in
theorem gX3_size_X2_size : GoodIn wsX3_size (wsV RX3 23 RX2 yX2_size wsX2_size) := goodIn_app (goodIn_of _ (by decide +kernel)) ggX3_size_X2_size
set_option maxRecDepth 20000 in
theorem ggX3_append_X2_append : GoodIn wsX3_append wsX2_append := goodIn_r _ [7, 8, 9, 13, 14] (by decide +kernel) (by decide +kernel)
set_option maxRecDepth 20000 in
theorem gX3_append_X2_append : GoodIn wsX3_append (wsV RX3 27 RX2 yX2_append wsX2_append) := goodIn_app (goodIn_of _ (by decide +kernel)) ggX3_append_X2_append
