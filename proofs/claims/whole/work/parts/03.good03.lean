set_option maxRecDepth 20000 in
theorem ggX10_price_X10_priceOfGoing : GoodIn wsX10_price wsX10_priceOfGoing := goodIn_r _ [17, 18, 12, 19, 2, 3, 4, 5, 20, 21, 22, 23, 13, 24, 25, 26, 27, 34, 35, 36, 37, 38, 39, 40, 41] (by decide +kernel) (by decide +kernel)
set_option maxRecDepth 20000 in
theorem gX10_price_X10_priceOfGoing : GoodIn wsX10_price (wsV RX10 58 RX10 yX10_priceOfGoing wsX10_priceOfGoing) := goodIn_app (goodIn_of _ (by decide +kernel)) ggX10_price_X10_priceOfGoing
set_option maxRecDepth 20000 in
theorem ggX10_price_X10_countRound : GoodIn wsX10_price wsX10_countRound := goodIn_r _ [31, 32, 10, 33, 11, 34, 35, 36, 37, 38, 39, 40, 41] (by decide +kernel) (by decide +kernel)
set_option maxRecDepth 20000 in
theorem gX10_price_X10_countRound : GoodIn wsX10_price (wsV RX10 62 RX10 yX10_countRound wsX10_countRound) := goodIn_app (goodIn_of _ (by decide +kernel)) ggX10_price_X10_countRound
set_option maxRecDepth 20000 in
theorem ggX10_traceLength_X10_isPlace : GoodIn wsX10_traceLength wsX10_isPlace := goodIn_r _ [5] (by decide +kernel) (by decide +kernel)
set_option maxRecDepth 20000 in
theorem gX10_traceLength_X10_isPlace : GoodIn wsX10_traceLength (va_wsS RX10 44 yX10_isPlace wsX10_isPlace) := goodIn_app (goodIn_of _ (by decide +kernel)) ggX10_traceLength_X10_isPlace
set_option maxRecDepth 20000 in
theorem ggX10_write_X10_isPlace : GoodIn wsX10_write wsX10_isPlace := goodIn_r _ [8] (by decide +kernel) (by decide +kernel)
set_option maxRecDepth 20000 in
theorem gX10_write_X10_isPlace : GoodIn wsX10_write (va_wsS RX10 44 yX10_isPlace wsX10_isPlace) := goodIn_app (goodIn_of _ (by decide +kernel)) ggX10_write_X10_isPlace
set_option maxRecDepth 20000 in
theorem ggX10_priceOfGoing_X10_isPlace : GoodIn wsX10_priceOfGoing wsX10_isPlace := goodIn_r _ [7] (by decide +kernel) (by decide +kernel)
set_option maxRecDepth 20000 in
theorem gX10_priceOfGoing_X10_isPlace : GoodIn wsX10_priceOfGoing (va_wsS RX10 44 yX10_isPlace wsX10_isPlace) := goodIn_app (goodIn_of _ (by decide +kernel)) ggX10_priceOfGoing_X10_isPlace
set_option maxRecDepth 20000 in
theorem ggX10_priceOfGoing_X10_placeWithin : GoodIn wsX10_priceOfGoing wsX10_placeWithin := goodIn_r _ [11, 1, 3, 12, 4, 5, 6, 7, 17, 18, 19, 20, 21, 22, 23, 24] (by decide +kernel) (by decide +kernel)
set_option maxRecDepth 20000 in
theorem gX10_priceOfGoing_X10_placeWithin : GoodIn wsX10_priceOfGoing (wsV RX10 65 RX10 yX10_placeWithin wsX10_placeWithin) := goodIn_app (goodIn_of _ (by decide +kernel)) ggX10_priceOfGoing_X10_placeWithin
set_option maxRecDepth 20000 in
theorem ggX10_priceOfGoing_X10_goRound : GoodIn wsX10_priceOfGoing wsX10_goRound := goodIn_r _ [16, 3, 1, 2, 4, 5, 6, 7, 17, 18, 19, 20, 21, 22, 23, 24] (by decide +kernel) (by decide +kernel)
set_option maxRecDepth 20000 in
theorem gX10_priceOfGoing_X10_goRound : GoodIn wsX10_priceOfGoing (wsV RX10 69 RX10 yX10_goRound wsX10_goRound) := goodIn_app (goodIn_of _ (by decide +kernel)) ggX10_priceOfGoing_X10_goRound
set_option maxRecDepth 20000 in
theorem ggX10_placeWithin_X10_isPlace : GoodIn wsX10_placeWithin wsX10_isPlace := goodIn_r _ [7] (by decide +kernel) (by decide +kernel)
set_option maxRecDepth 20000 in
theorem gX10_placeWithin_X10_isPlace : GoodIn wsX10_placeWithin (va_wsS RX10 44 yX10_isPlace wsX10_isPlace) := goodIn_app (goodIn_of _ (by decide +kernel)) ggX10_placeWithin_X10_isPlace
set_option maxRecDepth 20000 in
theorem ggX10_goRound_X10_isPlace : GoodIn wsX10_goRound wsX10_isPlace := goodIn_r _ [7] (by decide +kernel) (by decide +kernel)
set_option maxRecDepth 20000 in
theorem gX10_goRound_X10_isPlace : GoodIn wsX10_goRound (va_wsS RX10 44 yX10_isPlace wsX10_isPlace) := goodIn_app (goodIn_of _ (by decide +kernel)) ggX10_goRound_X10_isPlace
set_option maxRecDepth 20000 in
theorem ggX11_init_X9_init : GoodIn wsX11_init wsX9_init := goodIn_r _ [47, 48, 2, 3, 4, 49, 50, 51, 52, 53, 54, 55, 56, 57, 58, 59, 60, 61, 140, 141, 142, 143, 144, 145, 146, 147, 148, 149, 150, 151, 152] (by decide +kernel) (by decide +kernel)
set_option maxRecDepth 20000 in
theorem gX11_init_X9_init_n15 : GoodIn wsX11_init (wsX9_init) := ggX11_init_X9_init
set_option maxRecDepth 20000 in
theorem ggX11_init_X3_init : GoodIn wsX11_init wsX3_init := goodIn_r _ [63, 64, 2, 3, 65, 66, 67, 153, 154] (by decide +kernel) (by decide +kernel)
set_option maxRecDepth 20000 in
theorem gX11_init_X3_init_n22 : GoodIn wsX11_init (wsX3_init) := ggX11_init_X3_init
set_option maxRecDepth 20000 in
theorem ggX11_init_X7_init : GoodIn wsX11_init wsX7_init := goodIn_r _ [70, 71, 72, 73, 74, 75, 2, 3, 155] (by decide +kernel) (by decide +kernel)
set_option maxRecDepth 20000 in
theorem gX11_init_X7_init : GoodIn wsX11_init (wsX7_init) := ggX11_init_X7_init
set_option maxRecDepth 20000 in
theorem ggX11_init_X2_init : GoodIn wsX11_init wsX2_init := goodIn_r _ [78, 65, 79, 4, 80, 81, 82, 72, 73, 74, 75, 2, 3, 156, 157, 158, 159] (by decide +kernel) (by decide +kernel)
set_option maxRecDepth 20000 in
theorem gX11_init_X2_init : GoodIn wsX11_init (wsX2_init) := ggX11_init_X2_init
set_option maxRecDepth 20000 in
theorem ggX11_init_X4_init : GoodIn wsX11_init wsX4_init := goodIn_r _ [84, 85, 72, 73, 74, 75, 2, 3, 160] (by decide +kernel) (by decide +kernel)
set_option maxRecDepth 20000 in
theorem gX11_init_X4_init_n50 : GoodIn wsX11_init (wsX4_init) := ggX11_init_X4_init
set_option maxRecDepth 20000 in
theorem ggX11_init_X10_init : GoodIn wsX11_init wsX10_init := goodIn_r _ [87, 4, 88, 89, 90, 65, 91, 92, 93, 94, 95, 72, 73, 74, 75, 2, 3, 161, 162, 163, 164, 165, 166, 167, 168] (by decide +kernel) (by decide +kernel)
set_option maxRecDepth 20000 in
theorem gX11_init_X10_init_n56 : GoodIn wsX11_init (wsX10_init) := ggX11_init_X10_init
set_option maxRecDepth 20000 in
theorem ggX11_init_X6_init : GoodIn wsX11_init wsX6_init := goodIn_r _ [97, 98, 2, 3, 4, 99, 100, 101, 102, 103, 104, 105, 106, 107, 108, 109, 110, 111, 112, 113, 114, 115, 169, 170, 171, 172, 173, 174, 175, 176, 177, 178, 179, 180, 181, 182, 183, 184, 185] (by decide +kernel) (by decide +kernel)
set_option maxRecDepth 20000 in
theorem gX11_init_X6_init_n62 : GoodIn wsX11_init (wsX6_init) := ggX11_init_X6_init
set_option maxRecDepth 20000 in
theorem ggX11_init_X8_init : GoodIn wsX11_init wsX8_init := goodIn_r _ [117, 118, 2, 3, 4, 119, 120, 65, 121, 122, 186, 187, 188, 189] (by decide +kernel) (by decide +kernel)
set_option maxRecDepth 20000 in
theorem gX11_init_X8_init_n72 : GoodIn wsX11_init (wsX8_init) := ggX11_init_X8_init
set_option maxRecDepth 20000 in
theorem ggX11_feed_X11_append : GoodIn wsX11_feed wsX11_append := goodIn_r _ [6, 1, 7, 8, 9, 10, 11, 12, 13, 14, 15, 16, 17, 18, 19, 20, 21, 22, 23, 24] (by decide +kernel) (by decide +kernel)
set_option maxRecDepth 20000 in
theorem gX11_feed_X11_append : GoodIn wsX11_feed (wsV RX11 96 RX11 yX11_append wsX11_append) := goodIn_app (goodIn_of _ (by decide +kernel)) ggX11_feed_X11_append
set_option maxRecDepth 20000 in
theorem ggX11_program_X11_refuse : GoodIn wsX11_program wsX11_refuse := goodIn_r _ [11, 12, 188, 189, 190, 191, 192, 193, 194, 195, 196, 197, 198, 199, 200, 201, 202, 203, 204] (by decide +kernel) (by decide +kernel)
set_option maxRecDepth 20000 in
theorem gX11_program_X11_refuse : GoodIn wsX11_program (wsV RX11 99 RX11 yX11_refuse wsX11_refuse) := goodIn_app (goodIn_of _ (by decide +kernel)) ggX11_program_X11_refuse
set_option maxRecDepth 20000 in
theorem ggX11_program_X9_read : GoodIn wsX11_program wsX9_read := goodIn_r _ [17, 18, 19, 20, 21, 22, 23, 24, 25, 26, 27, 28, 29, 30, 31, 32, 33, 34, 35, 36, 37, 38, 39, 40, 41, 42, 43, 16, 44, 45, 46, 47, 48, 49, 50, 51, 52, 53, 54, 55, 56, 57, 58, 59, 60, 61, 62, 63, 64, 65, 66, 67, 68, 69, 70, 71, 72, 73, 74, 75, 76, 77, 78, 79, 80, 81, 82, 83, 84, 85, 86, 87, 88, 89, 90, 91, 92, 93, 94, 95, 96, 97, 98, 99, 100, 101, 102, 103, 104, 105, 106, 107, 108, 109, 110, 111, 112, 113, 114, 115, 116, 117, 118, 119, 120, 121, 122, 123, 124, 125, 126, 127, 128, 129, 130, 131, 132, 133, 134, 135, 136, 137, 138, 139, 140, 141, 142, 143, 144, 145, 146, 147, 148, 149, 150, 151, 152, 153, 154, 155, 156, 157, 158, 159, 160, 161, 162, 163, 164, 165, 166, 167, 168, 169, 170, 171, 172, 173, 174, 175, 176, 177, 178, 179, 180, 181, 182, 183, 209, 210, 211, 212, 213, 214, 215, 216, 217, 218, 219, 220, 221, 205, 206, 207, 208] (by decide +kernel) (by decide +kernel)
set_option maxRecDepth 20000 in
theorem gX11_program_X9_read : GoodIn wsX11_program (wsV RX11 103 RX9 yX9_read wsX9_read) := goodIn_app (goodIn_of _ (by decide +kernel)) ggX11_program_X9_read
set_option maxRecDepth 20000 in
theorem ggX11_program_X11_accept : GoodIn wsX11_program wsX11_accept := goodIn_r _ [187, 12, 188, 189, 190, 191, 192, 193, 194, 195, 196, 197, 198, 199, 200, 201, 202, 203, 204] (by decide +kernel) (by decide +kernel)
set_option maxRecDepth 20000 in
theorem gX11_program_X11_accept : GoodIn wsX11_program (wsV RX11 110 RX11 yX11_accept wsX11_accept) := goodIn_app (goodIn_of _ (by decide +kernel)) ggX11_program_X11_accept
set_option maxRecDepth 20000 in
theorem ggX11_order_X8_kindAt : GoodIn wsX11_order wsX8_kindAt := goodIn_r _ [7, 8, 9, 10, 11, 12, 6, 13, 14, 42, 43, 44, 45] (by decide +kernel) (by decide +kernel)
set_option maxRecDepth 20000 in
theorem gX11_order_X8_kindAt : GoodIn wsX11_order (wsV RX11 116 RX8 yX8_kindAt wsX8_kindAt) := goodIn_app (goodIn_of _ (by decide +kernel)) ggX11_order_X8_kindAt
set_option maxRecDepth 20000 in
theorem ggX11_order_X8_operandAt : GoodIn wsX11_order wsX8_operandAt := goodIn_r _ [18, 19, 10, 11, 12, 6, 13, 14, 42, 43, 44, 45] (by decide +kernel) (by decide +kernel)
set_option maxRecDepth 20000 in
theorem gX11_order_X8_operandAt : GoodIn wsX11_order (wsV RX11 125 RX8 yX8_operandAt wsX8_operandAt) := goodIn_app (goodIn_of _ (by decide +kernel)) ggX11_order_X8_operandAt
set_option maxRecDepth 20000 in
theorem ggX11_order_X8_isMarked : GoodIn wsX11_order wsX8_isMarked := goodIn_r _ [23, 24, 10, 11, 12, 6, 13, 14, 42, 43, 44, 45] (by decide +kernel) (by decide +kernel)
set_option maxRecDepth 20000 in
theorem gX11_order_X8_isMarked : GoodIn wsX11_order (wsV RX11 128 RX8 yX8_isMarked wsX8_isMarked) := goodIn_app (goodIn_of _ (by decide +kernel)) ggX11_order_X8_isMarked
set_option maxRecDepth 20000 in
theorem ggX11_join_X11_isKind : GoodIn wsX11_join wsX11_isKind := goodIn_r _ [5] (by decide +kernel) (by decide +kernel)
set_option maxRecDepth 20000 in
theorem gX11_join_X11_isKind : GoodIn wsX11_join (va_wsS RX11 132 yX11_isKind wsX11_isKind) := goodIn_app (goodIn_of _ (by decide +kernel)) ggX11_join_X11_isKind
set_option maxRecDepth 20000 in
theorem ggX11_join_X11_refuse : GoodIn wsX11_join wsX11_refuse := goodIn_r _ [9, 10, 29, 30, 31, 32, 33, 34, 35, 36, 37, 38, 39, 40, 41, 42, 43, 44, 45] (by decide +kernel) (by decide +kernel)
set_option maxRecDepth 20000 in
theorem gX11_join_X11_refuse : GoodIn wsX11_join (wsV RX11 99 RX11 yX11_refuse wsX11_refuse) := goodIn_app (goodIn_of _ (by decide +kernel)) ggX11_join_X11_refuse
set_option maxRecDepth 20000 in
theorem ggX11_join_X11_pairOf : GoodIn wsX11_join wsX11_pairOf := goodIn_r _ [13] (by decide +kernel) (by decide +kernel)
set_option maxRecDepth 20000 in
theorem gX11_join_X11_pairOf : GoodIn wsX11_join (va_wsS RX11 135 yX11_pairOf wsX11_pairOf) := goodIn_app (goodIn_of _ (by decide +kernel)) ggX11_join_X11_pairOf
set_option maxRecDepth 20000 in
theorem ggX11_join_X3_has : GoodIn wsX11_join wsX3_has := goodIn_r _ [18, 19, 46, 47] (by decide +kernel) (by decide +kernel)
set_option maxRecDepth 20000 in
theorem gX11_join_X3_has : GoodIn wsX11_join (wsV RX11 140 RX3 yX3_has wsX3_has) := goodIn_app (goodIn_of _ (by decide +kernel)) ggX11_join_X3_has
set_option maxRecDepth 20000 in
theorem ggX11_join_X3_add : GoodIn wsX11_join wsX3_add := goodIn_r _ [23, 19, 24, 46, 47] (by decide +kernel) (by decide +kernel)
set_option maxRecDepth 20000 in
theorem gX11_join_X3_add : GoodIn wsX11_join (wsV RX11 143 RX3 yX3_add wsX3_add) := goodIn_app (goodIn_of _ (by decide +kernel)) ggX11_join_X3_add
set_option maxRecDepth 20000 in
theorem ggX11_join_X11_accept : GoodIn wsX11_join wsX11_accept := goodIn_r _ [28, 10, 29, 30, 31, 32, 33, 34, 35, 36, 37, 38, 39, 40, 41, 42, 43, 44, 45] (by decide +kernel) (by decide +kernel)
set_option maxRecDepth 20000 in
theorem gX11_join_X11_accept : GoodIn wsX11_join (wsV RX11 110 RX11 yX11_accept wsX11_accept) := goodIn_app (goodIn_of _ (by decide +kernel)) ggX11_join_X11_accept
