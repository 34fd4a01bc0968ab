set_option maxRecDepth 20000 in
theorem ggX2_init_X1_init : GoodIn wsX2_init wsX1_init := goodIn_r _ [9, 10, 11, 12] (by decide +kernel) (by decide +kernel)
set_option maxRecDepth 20000 in
theorem gX2_init_X1_init_n3 : GoodIn wsX2_init (wsX1_init) := ggX2_init_X1_init
set_option maxRecDepth 20000 in
theorem ggX2_begin_X2_pairUp : GoodIn wsX2_begin wsX2_pairUp := goodIn_r _ [7, 8, 9, 10, 11, 6, 12, 13, 14, 15, 16, 17, 18, 19, 20, 21, 22, 23, 24, 25, 26, 27, 28, 29, 30, 31, 32, 33, 34, 35, 36, 37, 38, 39, 40, 41, 46, 47, 48, 49, 50, 51, 52, 53, 54, 55] (by decide +kernel) (by decide +kernel)
set_option maxRecDepth 20000 in
theorem gX2_begin_X2_pairUp : GoodIn wsX2_begin (wsV RX2 27 RX2 yX2_pairUp wsX2_pairUp) := goodIn_app (goodIn_of _ (by decide +kernel)) ggX2_begin_X2_pairUp
set_option maxRecDepth 20000 in
theorem ggX2_begin_J7_fill_53178 : GoodIn wsX2_begin wsJ7_fill_53178 := goodIn_r _ [45] (by decide +kernel) (by decide +kernel)
set_option maxRecDepth 20000 in
theorem gX2_begin_J7_fill_53178 : GoodIn wsX2_begin (va_wsS RX2 31 yJ7_fill_53178 wsJ7_fill_53178) := goodIn_app (goodIn_of _ (by decide +kernel)) ggX2_begin_J7_fill_53178
set_option maxRecDepth 20000 in
theorem ggX2_pairUp_X2_canJoin : GoodIn wsX2_pairUp wsX2_canJoin := goodIn_r _ [6, 7, 8, 9, 10, 11, 12, 13, 14, 15, 16, 17, 18, 19, 20, 21, 22, 23, 24, 25, 26, 27, 28, 29, 30, 31, 32, 33, 34, 35, 36, 37, 38, 39, 40, 41, 42, 43, 44, 45] (by decide +kernel) (by decide +kernel)
set_option maxRecDepth 20000 in
theorem gX2_pairUp_X2_canJoin : GoodIn wsX2_pairUp (wsV RX2 37 RX2 yX2_canJoin wsX2_canJoin) := goodIn_app (goodIn_of _ (by decide +kernel)) ggX2_pairUp_X2_canJoin
set_option maxRecDepth 20000 in
theorem ggX2_savedWith_X2_pairUp : GoodIn wsX2_savedWith wsX2_pairUp := goodIn_r _ [7, 1, 8, 9, 10, 6, 11, 12, 13, 14, 15, 16, 17, 18, 19, 20, 21, 22, 23, 24, 25, 26, 27, 28, 29, 30, 31, 32, 33, 34, 35, 36, 37, 38, 39, 40, 41, 42, 43, 44, 45, 46, 47, 48, 49, 50] (by decide +kernel) (by decide +kernel)
set_option maxRecDepth 20000 in
theorem gX2_savedWith_X2_pairUp : GoodIn wsX2_savedWith (wsV RX2 27 RX2 yX2_pairUp wsX2_pairUp) := goodIn_app (goodIn_of _ (by decide +kernel)) ggX2_savedWith_X2_pairUp
set_option maxRecDepth 20000 in
theorem ggX2_canJoin_X8_has : GoodIn wsX2_canJoin wsX8_has := goodIn_r _ [7, 8, 34, 35, 36, 37] (by decide +kernel) (by decide +kernel)
set_option maxRecDepth 20000 in
theorem gX2_canJoin_X8_has : GoodIn wsX2_canJoin (wsV RX2 41 RX8 yX8_has wsX8_has) := goodIn_app (goodIn_of _ (by decide +kernel)) ggX2_canJoin_X8_has
set_option maxRecDepth 20000 in
theorem ggX2_canJoin_X8_isMarked : GoodIn wsX2_canJoin wsX8_isMarked := goodIn_r _ [12, 13, 14, 4, 5, 6, 7, 8, 34, 35, 36, 37] (by decide +kernel) (by decide +kernel)
set_option maxRecDepth 20000 in
theorem gX2_canJoin_X8_isMarked : GoodIn wsX2_canJoin (wsV RX2 47 RX8 yX8_isMarked wsX8_isMarked) := goodIn_app (goodIn_of _ (by decide +kernel)) ggX2_canJoin_X8_isMarked
set_option maxRecDepth 20000 in
theorem ggX2_canJoin_X8_kindAt : GoodIn wsX2_canJoin wsX8_kindAt := goodIn_r _ [18, 19, 20, 14, 4, 5, 6, 7, 8, 34, 35, 36, 37] (by decide +kernel) (by decide +kernel)
set_option maxRecDepth 20000 in
theorem gX2_canJoin_X8_kindAt : GoodIn wsX2_canJoin (wsV RX2 50 RX8 yX8_kindAt wsX8_kindAt) := goodIn_app (goodIn_of _ (by decide +kernel)) ggX2_canJoin_X8_kindAt
set_option maxRecDepth 20000 in
theorem ggX2_canJoin_X11_pairOf : GoodIn wsX2_canJoin wsX11_pairOf := goodIn_r _ [23] (by decide +kernel) (by decide +kernel)
set_option maxRecDepth 20000 in
theorem gX2_canJoin_X11_pairOf_n59 : GoodIn wsX2_canJoin (wsX11_pairOf) := ggX2_canJoin_X11_pairOf
set_option maxRecDepth 20000 in
theorem ggX2_canJoin_X3_has : GoodIn wsX2_canJoin wsX3_has := goodIn_r _ [28, 29, 38, 39] (by decide +kernel) (by decide +kernel)
set_option maxRecDepth 20000 in
theorem gX2_canJoin_X3_has : GoodIn wsX2_canJoin (wsV RX2 63 RX3 yX3_has wsX3_has) := goodIn_app (goodIn_of _ (by decide +kernel)) ggX2_canJoin_X3_has
set_option maxRecDepth 20000 in
theorem ggX4_init_X1_init : GoodIn wsX4_init wsX1_init := goodIn_r _ [4, 5, 6, 7] (by decide +kernel) (by decide +kernel)
set_option maxRecDepth 20000 in
theorem gX4_init_X1_init_n3 : GoodIn wsX4_init (wsX1_init) := ggX4_init_X1_init
set_option maxRecDepth 20000 in
theorem ggX6_go_X6_clear : GoodIn wsX6_go wsX6_clear := goodIn_r _ [10, 11, 12, 13, 5, 14, 15, 3, 16, 17, 18, 19, 20, 21, 22, 226, 227, 228, 229, 230, 231, 232, 233, 234, 235, 236, 237, 238, 239, 240, 241, 242] (by decide +kernel) (by decide +kernel)
set_option maxRecDepth 20000 in
theorem gX6_go_X6_clear : GoodIn wsX6_go (wsV RX6 65 RX6 yX6_clear wsX6_clear) := goodIn_app (goodIn_of _ (by decide +kernel)) ggX6_go_X6_clear
set_option maxRecDepth 20000 in
theorem ggX6_go_X6_put : GoodIn wsX6_go wsX6_put := goodIn_r _ [26, 3, 27, 226, 227, 228, 229, 230, 231, 232, 233, 234, 235, 236, 237, 238, 239, 240, 241, 242] (by decide +kernel) (by decide +kernel)
set_option maxRecDepth 20000 in
theorem gX6_go_X6_put : GoodIn wsX6_go (wsV RX6 73 RX6 yX6_put wsX6_put) := goodIn_app (goodIn_of _ (by decide +kernel)) ggX6_go_X6_put
set_option maxRecDepth 20000 in
theorem ggX6_go_X2_begin : GoodIn wsX6_go wsX2_begin := goodIn_r _ [33, 34, 35, 36, 37, 38, 32, 39, 40, 41, 42, 43, 44, 45, 46, 47, 48, 49, 50, 51, 52, 53, 54, 55, 56, 57, 58, 59, 60, 61, 62, 63, 64, 65, 66, 67, 68, 69, 70, 71, 72, 73, 74, 20, 21, 22, 247, 248, 249, 250, 243, 244, 245, 246, 251, 252] (by decide +kernel) (by decide +kernel)
set_option maxRecDepth 20000 in
theorem gX6_go_X2_begin_u77X2 : GoodIn wsX6_go (va_wsU RX6 77 RX2 "StepperHearts$Heart" ⟨"StepperHearts$Heart", "begin", "(LStepperHearts$Program;)V"⟩ yX2_begin wsX2_begin) := goodIn_app (goodIn_of _ (by decide +kernel)) ggX6_go_X2_begin
set_option maxRecDepth 20000 in
theorem ggX6_go_X4_begin : GoodIn wsX6_go wsX4_begin := goodIn_r _ [78, 79, 253] (by decide +kernel) (by decide +kernel)
set_option maxRecDepth 20000 in
theorem gX6_go_X4_begin_u77X4 : GoodIn wsX6_go (va_wsU RX6 77 RX4 "StepperHearts$Heart" ⟨"StepperHearts$Heart", "begin", "(LStepperHearts$Program;)V"⟩ yX4_begin wsX4_begin) := goodIn_app (goodIn_of _ (by decide +kernel)) ggX6_go_X4_begin
set_option maxRecDepth 20000 in
theorem ggX6_go_X7_begin : GoodIn wsX6_go wsX7_begin := goodIn_r _ [83] (by decide +kernel) (by decide +kernel)
set_option maxRecDepth 20000 in
theorem gX6_go_X7_begin_u77X7 : GoodIn wsX6_go (va_wsU RX6 77 RX7 "StepperHearts$Heart" ⟨"StepperHearts$Heart", "begin", "(LStepperHearts$Program;)V"⟩ yX7_begin wsX7_begin) := goodIn_app (goodIn_of _ (by decide +kernel)) ggX6_go_X7_begin
set_option maxRecDepth 20000 in
theorem ggX6_go_X10_begin : GoodIn wsX6_go wsX10_begin := goodIn_r _ [87, 88, 89, 90, 91, 92, 93, 94, 95, 20, 21, 22, 254, 255, 256, 257, 258, 259, 260, 261] (by decide +kernel) (by decide +kernel)
set_option maxRecDepth 20000 in
theorem gX6_go_X10_begin_u77X10 : GoodIn wsX6_go (va_wsU RX6 77 RX10 "StepperHearts$Heart" ⟨"StepperHearts$Heart", "begin", "(LStepperHearts$Program;)V"⟩ yX10_begin wsX10_begin) := goodIn_app (goodIn_of _ (by decide +kernel)) ggX6_go_X10_begin
set_option maxRecDepth 20000 in
theorem ggX6_go_X6_endAhead : GoodIn wsX6_go wsX6_endAhead := goodIn_r _ [99, 17, 14, 3, 100, 101, 102, 48, 49, 50, 51, 52, 103, 60, 61, 62, 63, 64, 58, 226, 227, 228, 229, 230, 231, 232, 233, 234, 235, 236, 237, 238, 239, 240, 241, 242, 243, 244, 245, 246] (by decide +kernel) (by decide +kernel)
set_option maxRecDepth 20000 in
theorem gX6_go_X6_endAhead : GoodIn wsX6_go (wsV RX6 83 RX6 yX6_endAhead wsX6_endAhead) := goodIn_app (goodIn_of _ (by decide +kernel)) ggX6_go_X6_endAhead
set_option maxRecDepth 20000 in
theorem ggX6_go_X6_step : GoodIn wsX6_go wsX6_step := goodIn_r _ [107, 17, 15, 14, 4, 3, 108, 109, 110, 111, 112, 113, 5, 103, 60, 61, 50, 62, 63, 64, 58, 48, 49, 51, 52, 114, 115, 116, 117, 118, 119, 120, 121, 9, 122, 123, 124, 125, 126, 127, 128, 129, 130, 23, 24, 25, 26, 27, 131, 132, 133, 134, 11, 135, 136, 137, 138, 139, 140, 141, 142, 143, 144, 145, 146, 16, 147, 148, 149, 150, 151, 100, 152, 153, 154, 155, 32, 156, 35, 34, 40, 157, 158, 77, 159, 79, 160, 161, 162, 163, 82, 164, 165, 166, 167, 86, 168, 169, 170, 171, 172, 173, 174, 175, 176, 91, 92, 88, 177, 178, 179, 180, 181, 93, 94, 182, 183, 184, 185, 186, 187, 188, 189, 190, 191, 192, 193, 89, 90, 194, 195, 196, 197, 198, 199, 200, 201, 202, 203, 204, 205, 12, 18, 13, 206, 66, 207, 65, 67, 226, 227, 228, 229, 230, 231, 232, 233, 234, 235, 236, 237, 238, 239, 240, 241, 242, 243, 244, 245, 246, 247, 248, 249, 250, 253, 262, 254, 255, 256, 257, 258, 259, 260, 261] (by decide +kernel) (by decide +kernel)
set_option maxRecDepth 20000 in
theorem gX6_go_X6_step : GoodIn wsX6_go (wsV RX6 87 RX6 yX6_step wsX6_step) := goodIn_app (goodIn_of _ (by decide +kernel)) ggX6_go_X6_step
set_option maxRecDepth 20000 in
theorem ggX6_go_X6_keepTraces : GoodIn wsX6_go wsX6_keepTraces := goodIn_r _ [211, 212, 213, 214, 215, 216, 217, 218, 219, 220, 221, 222, 223, 224, 86, 225, 88, 170, 171, 172, 226, 227, 228, 229, 230, 231, 232, 233, 234, 235, 236, 237, 238, 239, 240, 241, 242, 254, 255, 256, 257, 258, 259, 260, 261] (by decide +kernel) (by decide +kernel)
set_option maxRecDepth 20000 in
theorem gX6_go_X6_keepTraces : GoodIn wsX6_go (wsV RX6 91 RX6 yX6_keepTraces wsX6_keepTraces) := goodIn_app (goodIn_of _ (by decide +kernel)) ggX6_go_X6_keepTraces
set_option maxRecDepth 20000 in
theorem ggX6_clear_J7_fill_53178 : GoodIn wsX6_clear wsJ7_fill_53178 := goodIn_r _ [14] (by decide +kernel) (by decide +kernel)
set_option maxRecDepth 20000 in
theorem gX6_clear_J7_fill_53178 : GoodIn wsX6_clear (va_wsS RX6 95 yJ7_fill_53178 wsJ7_fill_53178) := goodIn_app (goodIn_of _ (by decide +kernel)) ggX6_clear_J7_fill_53178
set_option maxRecDepth 20000 in
theorem ggX6_endAhead_X8_has : GoodIn wsX6_endAhead wsX8_has := goodIn_r _ [10, 11, 36, 37, 38, 39] (by decide +kernel) (by decide +kernel)
set_option maxRecDepth 20000 in
theorem gX6_endAhead_X8_has : GoodIn wsX6_endAhead (wsV RX6 101 RX8 yX8_has wsX8_has) := goodIn_app (goodIn_of _ (by decide +kernel)) ggX6_endAhead_X8_has
set_option maxRecDepth 20000 in
theorem ggX6_endAhead_X8_kindAt : GoodIn wsX6_endAhead wsX8_kindAt := goodIn_r _ [15, 16, 17, 18, 7, 8, 9, 10, 11, 36, 37, 38, 39] (by decide +kernel) (by decide +kernel)
set_option maxRecDepth 20000 in
theorem gX6_endAhead_X8_kindAt : GoodIn wsX6_endAhead (wsV RX6 105 RX8 yX8_kindAt wsX8_kindAt) := goodIn_app (goodIn_of _ (by decide +kernel)) ggX6_endAhead_X8_kindAt
set_option maxRecDepth 20000 in
theorem ggX6_step_X8_kindAt : GoodIn wsX6_step wsX8_kindAt := goodIn_r _ [17, 18, 19, 20, 21, 22, 16, 23, 24, 166, 167, 168, 169] (by decide +kernel) (by decide +kernel)
set_option maxRecDepth 20000 in
theorem gX6_step_X8_kindAt : GoodIn wsX6_step (wsV RX6 105 RX8 yX8_kindAt wsX8_kindAt) := goodIn_app (goodIn_of _ (by decide +kernel)) ggX6_step_X8_kindAt
set_option maxRecDepth 20000 in
theorem ggX6_step_X8_operandAt : GoodIn wsX6_step wsX8_operandAt := goodIn_r _ [28, 29, 20, 21, 22, 16, 23, 24, 166, 167, 168, 169] (by decide +kernel) (by decide +kernel)
set_option maxRecDepth 20000 in
theorem gX6_step_X8_operandAt : GoodIn wsX6_step (wsV RX6 117 RX8 yX8_operandAt wsX8_operandAt) := goodIn_app (goodIn_of _ (by decide +kernel)) ggX6_step_X8_operandAt
set_option maxRecDepth 20000 in
theorem ggX6_step_X6_perform : GoodIn wsX6_step wsX6_perform := goodIn_r _ [34, 35, 36, 37, 38, 39, 40, 41, 42, 43, 44, 45, 33, 46, 5, 47, 48, 49, 50, 51, 52, 53, 54, 55, 56, 57, 58, 59, 60, 61, 62, 63, 64, 65, 66, 67, 68, 69, 70, 71, 149, 150, 151, 152, 153, 154, 155, 156, 157, 158, 159, 160, 161, 162, 163, 164, 165] (by decide +kernel) (by decide +kernel)
set_option maxRecDepth 20000 in
theorem gX6_step_X6_perform : GoodIn wsX6_step (wsV RX6 121 RX6 yX6_perform wsX6_perform) := goodIn_app (goodIn_of _ (by decide +kernel)) ggX6_step_X6_perform
set_option maxRecDepth 20000 in
theorem ggX6_step_X2_price : GoodIn wsX6_step wsX2_price := goodIn_r _ [77, 78, 79, 80, 170, 171, 172, 173] (by decide +kernel) (by decide +kernel)
set_option maxRecDepth 20000 in
theorem gX6_step_X2_price_u125X2 : GoodIn wsX6_step (va_wsU RX6 125 RX2 "StepperHearts$Heart" ⟨"StepperHearts$Heart", "price", "(ILStepperHearts$Kind;I)I"⟩ yX2_price wsX2_price) := goodIn_app (goodIn_of _ (by decide +kernel)) ggX6_step_X2_price
set_option maxRecDepth 20000 in
theorem ggX6_step_X4_price : GoodIn wsX6_step wsX4_price := goodIn_r _ [84, 85, 86, 87, 174] (by decide +kernel) (by decide +kernel)
set_option maxRecDepth 20000 in
theorem gX6_step_X4_price_u125X4 : GoodIn wsX6_step (va_wsU RX6 125 RX4 "StepperHearts$Heart" ⟨"StepperHearts$Heart", "price", "(ILStepperHearts$Kind;I)I"⟩ yX4_price wsX4_price) := goodIn_app (goodIn_of _ (by decide +kernel)) ggX6_step_X4_price
set_option maxRecDepth 20000 in
theorem ggX6_step_X7_price : GoodIn wsX6_step wsX7_price := goodIn_r _ [91, 92, 175] (by decide +kernel) (by decide +kernel)
set_option maxRecDepth 20000 in
theorem gX6_step_X7_price_u125X7 : GoodIn wsX6_step (va_wsU RX6 125 RX7 "StepperHearts$Heart" ⟨"StepperHearts$Heart", "price", "(ILStepperHearts$Kind;I)I"⟩ yX7_price wsX7_price) := goodIn_app (goodIn_of _ (by decide +kernel)) ggX6_step_X7_price
set_option maxRecDepth 20000 in
theorem ggX6_step_X10_price : GoodIn wsX6_step wsX10_price := goodIn_r _ [96, 97, 98, 99, 95, 100, 101, 102, 103, 104, 105, 106, 107, 108, 109, 110, 111, 112, 113, 114, 115, 116, 117, 118, 119, 120, 121, 122, 123, 124, 125, 126, 127, 128, 176, 177, 178, 179, 180, 181, 182, 183] (by decide +kernel) (by decide +kernel)
set_option maxRecDepth 20000 in
theorem gX6_step_X10_price_u125X10 : GoodIn wsX6_step (va_wsU RX6 125 RX10 "StepperHearts$Heart" ⟨"StepperHearts$Heart", "price", "(ILStepperHearts$Kind;I)I"⟩ yX10_price wsX10_price) := goodIn_app (goodIn_of _ (by decide +kernel)) ggX6_step_X10_price
