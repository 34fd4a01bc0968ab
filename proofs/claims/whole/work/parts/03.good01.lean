set_option maxRecDepth 20000 in
theorem ggX6_step_X5_ownPrice : GoodIn wsX6_step wsX5_ownPrice := goodIn_r _ [133, 134, 135, 136] (by decide +kernel) (by decide +kernel)
set_option maxRecDepth 20000 in
theorem gX6_step_X5_ownPrice : GoodIn wsX6_step (wsV RX6 129 RX5 yX5_ownPrice wsX5_ownPrice) := goodIn_app (goodIn_of _ (by decide +kernel)) ggX6_step_X5_ownPrice
set_option maxRecDepth 20000 in
theorem ggX6_step_X6_tally : GoodIn wsX6_step wsX6_tally := goodIn_r _ [140, 141, 142, 143, 144, 145, 146, 147, 148, 149, 150, 151, 152, 153, 154, 155, 156, 157, 158, 159, 160, 161, 162, 163, 164, 165] (by decide +kernel) (by decide +kernel)
set_option maxRecDepth 20000 in
theorem gX6_step_X6_tally : GoodIn wsX6_step (wsV RX6 142 RX6 yX6_tally wsX6_tally) := goodIn_app (goodIn_of _ (by decide +kernel)) ggX6_step_X6_tally
set_option maxRecDepth 20000 in
theorem ggX6_tally_X11_isKind : GoodIn wsX6_tally wsX11_isKind := goodIn_r _ [6] (by decide +kernel) (by decide +kernel)
set_option maxRecDepth 20000 in
theorem gX6_tally_X11_isKind_n149 : GoodIn wsX6_tally (wsX11_isKind) := ggX6_tally_X11_isKind
set_option maxRecDepth 20000 in
theorem ggX6_tally_X11_pairOf : GoodIn wsX6_tally wsX11_pairOf := goodIn_r _ [8] (by decide +kernel) (by decide +kernel)
set_option maxRecDepth 20000 in
theorem gX6_tally_X11_pairOf_n152 : GoodIn wsX6_tally (wsX11_pairOf) := ggX6_tally_X11_pairOf
set_option maxRecDepth 20000 in
theorem ggX6_perform_Jx29ce0_ordinal_8abf5 : GoodIn wsX6_perform wsJx29ce0_ordinal_8abf5 := goodIn_r _ [7, 8] (by decide +kernel) (by decide +kernel)
set_option maxRecDepth 20000 in
theorem gX6_perform_Jx29ce0_ordinal_8abf5_u160X5 : GoodIn wsX6_perform (va_wsU RX6 160 RX5 "java/lang/Enum" ⟨"StepperHearts$Kind", "ordinal", "()I"⟩ yJx29ce0_ordinal_8abf5 wsJx29ce0_ordinal_8abf5) := goodIn_app (goodIn_of _ (by decide +kernel)) ggX6_perform_Jx29ce0_ordinal_8abf5
set_option maxRecDepth 20000 in
theorem ggX6_perform_X6_put : GoodIn wsX6_perform wsX6_put := goodIn_r _ [13, 14, 15, 40, 41, 42, 43, 44, 45, 46, 47, 48, 49, 50, 51, 52, 53, 54, 55, 56] (by decide +kernel) (by decide +kernel)
set_option maxRecDepth 20000 in
theorem gX6_perform_X6_put : GoodIn wsX6_perform (wsV RX6 73 RX6 yX6_put wsX6_put) := goodIn_app (goodIn_of _ (by decide +kernel)) ggX6_perform_X6_put
set_option maxRecDepth 20000 in
theorem ggX6_perform_X6_cellAt : GoodIn wsX6_perform wsX6_cellAt := goodIn_r _ [19, 20, 40, 41, 42, 43, 44, 45, 46, 47, 48, 49, 50, 51, 52, 53, 54, 55, 56] (by decide +kernel) (by decide +kernel)
set_option maxRecDepth 20000 in
theorem gX6_perform_X6_cellAt : GoodIn wsX6_perform (wsV RX6 163 RX6 yX6_cellAt wsX6_cellAt) := goodIn_app (goodIn_of _ (by decide +kernel)) ggX6_perform_X6_cellAt
set_option maxRecDepth 20000 in
theorem ggX6_perform_X6_take : GoodIn wsX6_perform wsX6_take := goodIn_r _ [24, 14, 15, 40, 41, 42, 43, 44, 45, 46, 47, 48, 49, 50, 51, 52, 53, 54, 55, 56] (by decide +kernel) (by decide +kernel)
set_option maxRecDepth 20000 in
theorem gX6_perform_X6_take : GoodIn wsX6_perform (wsV RX6 166 RX6 yX6_take wsX6_take) := goodIn_app (goodIn_of _ (by decide +kernel)) ggX6_perform_X6_take
set_option maxRecDepth 20000 in
theorem ggX6_perform_X6_setCell : GoodIn wsX6_perform wsX6_setCell := goodIn_r _ [28, 20, 40, 41, 42, 43, 44, 45, 46, 47, 48, 49, 50, 51, 52, 53, 54, 55, 56] (by decide +kernel) (by decide +kernel)
set_option maxRecDepth 20000 in
theorem gX6_perform_X6_setCell : GoodIn wsX6_perform (wsV RX6 169 RX6 yX6_setCell wsX6_setCell) := goodIn_app (goodIn_of _ (by decide +kernel)) ggX6_perform_X6_setCell
set_option maxRecDepth 20000 in
theorem ggX6_perform_X6_tellOut : GoodIn wsX6_perform wsX6_tellOut := goodIn_r _ [32, 33, 34, 40, 41, 42, 43, 44, 45, 46, 47, 48, 49, 50, 51, 52, 53, 54, 55, 56] (by decide +kernel) (by decide +kernel)
set_option maxRecDepth 20000 in
theorem gX6_perform_X6_tellOut : GoodIn wsX6_perform (wsV RX6 173 RX6 yX6_tellOut wsX6_tellOut) := goodIn_app (goodIn_of _ (by decide +kernel)) ggX6_perform_X6_tellOut
set_option maxRecDepth 20000 in
theorem ggX6_perform_X6_rearrange : GoodIn wsX6_perform wsX6_rearrange := goodIn_r _ [38, 39, 1, 21, 22, 23, 12, 24, 14, 15, 2, 3, 4, 5, 6, 7, 8, 9, 10, 11, 13, 40, 41, 42, 43, 44, 45, 46, 47, 48, 49, 50, 51, 52, 53, 54, 55, 56] (by decide +kernel) (by decide +kernel)
set_option maxRecDepth 20000 in
theorem gX6_perform_X6_rearrange : GoodIn wsX6_perform (wsV RX6 176 RX6 yX6_rearrange wsX6_rearrange) := goodIn_app (goodIn_of _ (by decide +kernel)) ggX6_perform_X6_rearrange
set_option maxRecDepth 20000 in
theorem ggX6_rearrange_X6_take : GoodIn wsX6_rearrange wsX6_take := goodIn_r _ [7, 8, 9, 21, 22, 23, 24, 25, 26, 27, 28, 29, 30, 31, 32, 33, 34, 35, 36, 37] (by decide +kernel) (by decide +kernel)
set_option maxRecDepth 20000 in
theorem gX6_rearrange_X6_take : GoodIn wsX6_rearrange (wsV RX6 166 RX6 yX6_take wsX6_take) := goodIn_app (goodIn_of _ (by decide +kernel)) ggX6_rearrange_X6_take
set_option maxRecDepth 20000 in
theorem ggX6_rearrange_Jx29ce0_ordinal_8abf5 : GoodIn wsX6_rearrange wsJx29ce0_ordinal_8abf5 := goodIn_r _ [15, 16] (by decide +kernel) (by decide +kernel)
set_option maxRecDepth 20000 in
theorem gX6_rearrange_Jx29ce0_ordinal_8abf5_u160X5 : GoodIn wsX6_rearrange (va_wsU RX6 160 RX5 "java/lang/Enum" ⟨"StepperHearts$Kind", "ordinal", "()I"⟩ yJx29ce0_ordinal_8abf5 wsJx29ce0_ordinal_8abf5) := goodIn_app (goodIn_of _ (by decide +kernel)) ggX6_rearrange_Jx29ce0_ordinal_8abf5
set_option maxRecDepth 20000 in
theorem ggX6_rearrange_X6_put : GoodIn wsX6_rearrange wsX6_put := goodIn_r _ [20, 8, 9, 21, 22, 23, 24, 25, 26, 27, 28, 29, 30, 31, 32, 33, 34, 35, 36, 37] (by decide +kernel) (by decide +kernel)
set_option maxRecDepth 20000 in
theorem gX6_rearrange_X6_put : GoodIn wsX6_rearrange (wsV RX6 73 RX6 yX6_put wsX6_put) := goodIn_app (goodIn_of _ (by decide +kernel)) ggX6_rearrange_X6_put
set_option maxRecDepth 20000 in
theorem ggX6_keepTraces_X1_traceLength : GoodIn wsX6_keepTraces wsX1_traceLength := goodIn_r _ [8] (by decide +kernel) (by decide +kernel)
set_option maxRecDepth 20000 in
theorem gX6_keepTraces_X1_traceLength_u180X2 : GoodIn wsX6_keepTraces (va_wsU RX6 180 RX2 "StepperHearts$Heart" ⟨"StepperHearts$Heart", "traceLength", "(I)I"⟩ yX1_traceLength wsX1_traceLength) := goodIn_app (goodIn_of _ (by decide +kernel)) ggX6_keepTraces_X1_traceLength
set_option maxRecDepth 20000 in
theorem gX6_keepTraces_X1_traceLength_u180X4 : GoodIn wsX6_keepTraces (va_wsU RX6 180 RX4 "StepperHearts$Heart" ⟨"StepperHearts$Heart", "traceLength", "(I)I"⟩ yX1_traceLength wsX1_traceLength) := goodIn_app (goodIn_of _ (by decide +kernel)) ggX6_keepTraces_X1_traceLength
set_option maxRecDepth 20000 in
theorem gX6_keepTraces_X1_traceLength_u180X7 : GoodIn wsX6_keepTraces (va_wsU RX6 180 RX7 "StepperHearts$Heart" ⟨"StepperHearts$Heart", "traceLength", "(I)I"⟩ yX1_traceLength wsX1_traceLength) := goodIn_app (goodIn_of _ (by decide +kernel)) ggX6_keepTraces_X1_traceLength
set_option maxRecDepth 20000 in
theorem ggX6_keepTraces_X10_traceLength : GoodIn wsX6_keepTraces wsX10_traceLength := goodIn_r _ [15, 16, 17, 18, 14, 19, 37, 38, 39, 40, 41, 42, 43, 44] (by decide +kernel) (by decide +kernel)
set_option maxRecDepth 20000 in
theorem gX6_keepTraces_X10_traceLength_u180X10 : GoodIn wsX6_keepTraces (va_wsO RX6 180 RX10 "StepperHearts$Heart" ⟨"StepperHearts$Heart", "traceLength", "(I)I"⟩ yX10_traceLength wsX10_traceLength) := goodIn_app (goodIn_of _ (by decide +kernel)) ggX6_keepTraces_X10_traceLength
set_option maxRecDepth 20000 in
theorem ggX7_init_X1_init : GoodIn wsX7_init wsX1_init := goodIn_r _ [4, 5, 6, 7] (by decide +kernel) (by decide +kernel)
set_option maxRecDepth 20000 in
theorem gX7_init_X1_init_n1 : GoodIn wsX7_init (wsX1_init) := ggX7_init_X1_init
set_option maxRecDepth 20000 in
theorem ggX8_kindAt_X8_has : GoodIn wsX8_kindAt wsX8_has := goodIn_r _ [7, 8, 9, 10, 11, 12] (by decide +kernel) (by decide +kernel)
set_option maxRecDepth 20000 in
theorem gX8_kindAt_X8_has : GoodIn wsX8_kindAt (wsV RX8 26 RX8 yX8_has wsX8_has) := goodIn_app (goodIn_of _ (by decide +kernel)) ggX8_kindAt_X8_has
set_option maxRecDepth 20000 in
theorem ggX8_operandAt_X8_has : GoodIn wsX8_operandAt wsX8_has := goodIn_r _ [6, 7, 8, 9, 10, 11] (by decide +kernel) (by decide +kernel)
set_option maxRecDepth 20000 in
theorem gX8_operandAt_X8_has : GoodIn wsX8_operandAt (wsV RX8 26 RX8 yX8_has wsX8_has) := goodIn_app (goodIn_of _ (by decide +kernel)) ggX8_operandAt_X8_has
set_option maxRecDepth 20000 in
theorem ggX8_setOperand_X8_has : GoodIn wsX8_setOperand wsX8_has := goodIn_r _ [6, 7, 8, 9, 10, 11] (by decide +kernel) (by decide +kernel)
set_option maxRecDepth 20000 in
theorem gX8_setOperand_X8_has : GoodIn wsX8_setOperand (wsV RX8 26 RX8 yX8_has wsX8_has) := goodIn_app (goodIn_of _ (by decide +kernel)) ggX8_setOperand_X8_has
set_option maxRecDepth 20000 in
theorem ggX8_isMarked_X8_has : GoodIn wsX8_isMarked wsX8_has := goodIn_r _ [6, 7, 8, 9, 10, 11] (by decide +kernel) (by decide +kernel)
set_option maxRecDepth 20000 in
theorem gX8_isMarked_X8_has : GoodIn wsX8_isMarked (wsV RX8 26 RX8 yX8_has wsX8_has) := goodIn_app (goodIn_of _ (by decide +kernel)) ggX8_isMarked_X8_has
set_option maxRecDepth 20000 in
theorem ggX9_read_X8_clear : GoodIn wsX9_read wsX8_clear := goodIn_r _ [22, 23, 181, 182, 183, 184] (by decide +kernel) (by decide +kernel)
set_option maxRecDepth 20000 in
theorem gX9_read_X8_clear : GoodIn wsX9_read (wsV RX9 67 RX8 yX8_clear wsX8_clear) := goodIn_app (goodIn_of _ (by decide +kernel)) ggX9_read_X8_clear
set_option maxRecDepth 20000 in
theorem ggX9_read_X9_advance : GoodIn wsX9_read wsX9_advance := goodIn_r _ [28, 16, 8, 29, 17, 30, 31, 32, 27, 33, 9, 34, 35, 36, 37, 38, 39, 40, 41, 42, 168, 169, 170, 171, 172, 173, 174, 175, 176, 177, 178, 179, 180] (by decide +kernel) (by decide +kernel)
set_option maxRecDepth 20000 in
theorem gX9_read_X9_advance : GoodIn wsX9_read (wsV RX9 72 RX9 yX9_advance wsX9_advance) := goodIn_app (goodIn_of _ (by decide +kernel)) ggX9_read_X9_advance
set_option maxRecDepth 20000 in
theorem ggX9_read_X9_readItem : GoodIn wsX9_read wsX9_readItem := goodIn_r _ [46, 17, 47, 48, 49, 50, 51, 27, 52, 29, 16, 53, 54, 55, 56, 14, 15, 24, 25, 26, 28, 8, 30, 31, 32, 33, 9, 34, 35, 36, 37, 38, 39, 40, 41, 42, 57, 58, 59, 60, 61, 62, 63, 64, 65, 66, 67, 68, 69, 70, 71, 72, 73, 74, 75, 76, 77, 78, 79, 80, 81, 82, 83, 84, 85, 86, 87, 88, 89, 90, 91, 92, 93, 94, 95, 96, 97, 98, 99, 100, 101, 102, 103, 104, 105, 106, 107, 108, 109, 110, 111, 112, 113, 114, 115, 116, 117, 118, 119, 120, 121, 122, 123, 124, 125, 126, 127, 128, 129, 130, 131, 132, 133, 134, 135, 136, 137, 138, 139, 140, 141, 142, 143, 144, 145, 146, 21, 147, 23, 148, 149, 150, 168, 169, 170, 171, 172, 173, 174, 175, 176, 177, 178, 179, 180, 181, 182, 183, 184] (by decide +kernel) (by decide +kernel)
set_option maxRecDepth 20000 in
theorem gX9_read_X9_readItem : GoodIn wsX9_read (wsV RX9 75 RX9 yX9_readItem wsX9_readItem) := goodIn_app (goodIn_of _ (by decide +kernel)) ggX9_read_X9_readItem
set_option maxRecDepth 20000 in
theorem ggX9_read_X9_resolveGoals : GoodIn wsX9_read wsX9_resolveGoals := goodIn_r _ [154, 75, 138, 139, 155, 156, 157, 21, 158, 148, 159, 160, 161, 162, 163, 23, 57, 58, 59, 27, 60, 61, 62, 63, 64, 65, 66, 30, 31, 32, 33, 8, 9, 53, 54, 55, 56, 14, 15, 164, 165, 166, 167, 149, 181, 182, 183, 184, 168, 169, 170, 171, 172, 173, 174, 175, 176, 177, 178, 179, 180] (by decide +kernel) (by decide +kernel)
set_option maxRecDepth 20000 in
theorem gX9_read_X9_resolveGoals : GoodIn wsX9_read (wsV RX9 79 RX9 yX9_resolveGoals wsX9_resolveGoals) := goodIn_app (goodIn_of _ (by decide +kernel)) ggX9_read_X9_resolveGoals
set_option maxRecDepth 20000 in
theorem ggX9_readItem_X9_readWord : GoodIn wsX9_readItem wsX9_readWord := goodIn_r _ [8, 1, 9, 2, 10, 3, 11, 12, 13, 7, 14, 15, 16, 17, 18, 19, 20, 21, 22, 23, 24, 25, 26, 27, 28, 29, 30, 31, 32, 33, 34, 35, 132, 133, 134, 135, 136, 137, 138, 139, 140, 141, 142, 143, 144] (by decide +kernel) (by decide +kernel)
set_option maxRecDepth 20000 in
theorem gX9_readItem_X9_readWord : GoodIn wsX9_readItem (wsV RX9 83 RX9 yX9_readWord wsX9_readWord) := goodIn_app (goodIn_of _ (by decide +kernel)) ggX9_readItem_X9_readWord
set_option maxRecDepth 20000 in
theorem ggX9_readItem_X9_placeOfMark : GoodIn wsX9_readItem wsX9_placeOfMark := goodIn_r _ [39, 40, 41, 42, 43, 44, 7, 45, 22, 23, 24, 25, 21, 26, 132, 133, 134, 135, 136, 137, 138, 139, 140, 141, 142, 143, 144] (by decide +kernel) (by decide +kernel)
set_option maxRecDepth 20000 in
theorem gX9_readItem_X9_placeOfMark : GoodIn wsX9_readItem (wsV RX9 90 RX9 yX9_placeOfMark wsX9_placeOfMark) := goodIn_app (goodIn_of _ (by decide +kernel)) ggX9_readItem_X9_placeOfMark
set_option maxRecDepth 20000 in
theorem ggX9_readItem_X9_fail : GoodIn wsX9_readItem wsX9_fail := goodIn_r _ [14, 15, 16, 132, 133, 134, 135, 136, 137, 138, 139, 140, 141, 142, 143, 144] (by decide +kernel) (by decide +kernel)
set_option maxRecDepth 20000 in
theorem gX9_readItem_X9_fail : GoodIn wsX9_readItem (wsV RX9 94 RX9 yX9_fail wsX9_fail) := goodIn_app (goodIn_of _ (by decide +kernel)) ggX9_readItem_X9_fail
set_option maxRecDepth 20000 in
theorem ggX9_readItem_X9_keepMark : GoodIn wsX9_readItem wsX9_keepMark := goodIn_r _ [49, 40, 41, 132, 133, 134, 135, 136, 137, 138, 139, 140, 141, 142, 143, 144] (by decide +kernel) (by decide +kernel)
set_option maxRecDepth 20000 in
theorem gX9_readItem_X9_keepMark : GoodIn wsX9_readItem (wsV RX9 98 RX9 yX9_keepMark wsX9_keepMark) := goodIn_app (goodIn_of _ (by decide +kernel)) ggX9_readItem_X9_keepMark
