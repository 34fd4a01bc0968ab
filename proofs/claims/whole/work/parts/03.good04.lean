set_option maxRecDepth 20000 in
theorem ggX11_part_X3_clear : GoodIn wsX11_part wsX3_clear := goodIn_r _ [6, 7, 8, 26, 27] (by decide +kernel) (by decide +kernel)
set_option maxRecDepth 20000 in
theorem gX11_part_X3_clear : GoodIn wsX11_part (wsV RX11 146 RX3 yX3_clear wsX3_clear) := goodIn_app (goodIn_of _ (by decide +kernel)) ggX11_part_X3_clear
set_option maxRecDepth 20000 in
theorem ggX11_joined_X11_refuse : GoodIn wsX11_joined wsX11_refuse := goodIn_r _ [7, 8, 51, 52, 53, 54, 55, 56, 57, 58, 59, 60, 61, 62, 63, 64, 65, 66, 67] (by decide +kernel) (by decide +kernel)
set_option maxRecDepth 20000 in
theorem gX11_joined_X11_refuse : GoodIn wsX11_joined (wsV RX11 99 RX11 yX11_refuse wsX11_refuse) := goodIn_app (goodIn_of _ (by decide +kernel)) ggX11_joined_X11_refuse
set_option maxRecDepth 20000 in
theorem ggX11_joined_X2_pairUp : GoodIn wsX11_joined wsX2_pairUp := goodIn_r _ [13, 14, 15, 16, 17, 12, 18, 19, 20, 21, 22, 23, 24, 25, 26, 27, 28, 29, 30, 31, 32, 33, 34, 35, 36, 37, 38, 39, 6, 40, 41, 42, 43, 44, 45, 46, 72, 73, 74, 75, 68, 69, 70, 71, 76, 77] (by decide +kernel) (by decide +kernel)
set_option maxRecDepth 20000 in
theorem gX11_joined_X2_pairUp : GoodIn wsX11_joined (wsV RX11 149 RX2 yX2_pairUp wsX2_pairUp) := goodIn_app (goodIn_of _ (by decide +kernel)) ggX11_joined_X2_pairUp
set_option maxRecDepth 20000 in
theorem ggX11_joined_X11_accept : GoodIn wsX11_joined wsX11_accept := goodIn_r _ [50, 8, 51, 52, 53, 54, 55, 56, 57, 58, 59, 60, 61, 62, 63, 64, 65, 66, 67] (by decide +kernel) (by decide +kernel)
set_option maxRecDepth 20000 in
theorem gX11_joined_X11_accept : GoodIn wsX11_joined (wsV RX11 110 RX11 yX11_accept wsX11_accept) := goodIn_app (goodIn_of _ (by decide +kernel)) ggX11_joined_X11_accept
set_option maxRecDepth 20000 in
theorem ggX11_run_X11_refusalOf : GoodIn wsX11_run wsX11_refusalOf := goodIn_r _ [8, 2, 255, 256, 257, 258, 259, 260, 261, 262, 263, 264, 265, 266, 267, 268, 269, 270, 271, 289, 290, 291, 292] (by decide +kernel) (by decide +kernel)
set_option maxRecDepth 20000 in
theorem gX11_run_X11_refusalOf : GoodIn wsX11_run (wsV RX11 153 RX11 yX11_refusalOf wsX11_refusalOf) := goodIn_app (goodIn_of _ (by decide +kernel)) ggX11_run_X11_refusalOf
set_option maxRecDepth 20000 in
theorem ggX11_run_X11_refuse : GoodIn wsX11_run wsX11_refuse := goodIn_r _ [12, 13, 255, 256, 257, 258, 259, 260, 261, 262, 263, 264, 265, 266, 267, 268, 269, 270, 271] (by decide +kernel) (by decide +kernel)
set_option maxRecDepth 20000 in
theorem gX11_run_X11_refuse : GoodIn wsX11_run (wsV RX11 99 RX11 yX11_refuse wsX11_refuse) := goodIn_app (goodIn_of _ (by decide +kernel)) ggX11_run_X11_refuse
set_option maxRecDepth 20000 in
theorem ggX11_run_X11_heartNumbered : GoodIn wsX11_run wsX11_heartNumbered := goodIn_r _ [17, 18, 19, 20, 21, 22, 255, 256, 257, 258, 259, 260, 261, 262, 263, 264, 265, 266, 267, 268, 269, 270, 271] (by decide +kernel) (by decide +kernel)
set_option maxRecDepth 20000 in
theorem gX11_run_X11_heartNumbered : GoodIn wsX11_run (wsV RX11 156 RX11 yX11_heartNumbered wsX11_heartNumbered) := goodIn_app (goodIn_of _ (by decide +kernel)) ggX11_run_X11_heartNumbered
set_option maxRecDepth 20000 in
theorem ggX11_run_X6_go : GoodIn wsX11_run wsX6_go := goodIn_r _ [27, 28, 29, 30, 31, 32, 33, 34, 35, 26, 36, 37, 38, 39, 40, 41, 42, 43, 44, 45, 46, 47, 48, 49, 50, 51, 52, 53, 54, 55, 56, 57, 58, 59, 60, 61, 62, 63, 64, 65, 66, 67, 68, 69, 70, 71, 72, 73, 74, 75, 76, 77, 78, 79, 80, 81, 82, 83, 84, 85, 86, 87, 88, 89, 90, 91, 7, 92, 93, 94, 95, 96, 97, 98, 99, 100, 101, 102, 103, 104, 105, 106, 107, 108, 109, 110, 111, 112, 113, 114, 115, 116, 117, 118, 119, 120, 121, 122, 123, 124, 125, 126, 127, 128, 129, 130, 131, 132, 133, 134, 135, 136, 137, 138, 139, 140, 141, 142, 143, 144, 145, 146, 147, 148, 149, 150, 151, 152, 153, 154, 155, 156, 157, 158, 159, 160, 161, 162, 163, 164, 165, 166, 167, 168, 169, 170, 171, 172, 173, 174, 175, 176, 177, 178, 179, 180, 181, 182, 183, 184, 185, 186, 187, 188, 189, 190, 191, 192, 193, 194, 195, 196, 197, 198, 199, 200, 201, 202, 203, 204, 205, 206, 207, 208, 209, 210, 211, 212, 213, 214, 215, 216, 217, 218, 219, 220, 221, 222, 223, 224, 225, 226, 227, 228, 229, 230, 231, 232, 233, 234, 235, 236, 237, 238, 239, 240, 241, 242, 243, 244, 245, 246, 247, 248, 249, 250, 272, 273, 274, 275, 276, 277, 278, 279, 280, 281, 282, 283, 284, 285, 286, 287, 288, 289, 290, 291, 292, 293, 294, 295, 296, 297, 298, 299, 300, 301, 302, 303, 304, 305, 306, 307, 308] (by decide +kernel) (by decide +kernel)
set_option maxRecDepth 20000 in
theorem gX11_run_X6_go : GoodIn wsX11_run (wsV RX11 160 RX6 yX6_go wsX6_go) := goodIn_app (goodIn_of _ (by decide +kernel)) ggX11_run_X6_go
set_option maxRecDepth 20000 in
theorem ggX11_run_X11_accept : GoodIn wsX11_run wsX11_accept := goodIn_r _ [254, 13, 255, 256, 257, 258, 259, 260, 261, 262, 263, 264, 265, 266, 267, 268, 269, 270, 271] (by decide +kernel) (by decide +kernel)
set_option maxRecDepth 20000 in
theorem gX11_run_X11_accept : GoodIn wsX11_run (wsV RX11 110 RX11 yX11_accept wsX11_accept) := goodIn_app (goodIn_of _ (by decide +kernel)) ggX11_run_X11_accept
set_option maxRecDepth 20000 in
theorem ggX11_told_X11_refuse : GoodIn wsX11_told wsX11_refuse := goodIn_r _ [6, 7, 12, 13, 14, 15, 16, 17, 18, 19, 20, 21, 22, 23, 24, 25, 26, 27, 28] (by decide +kernel) (by decide +kernel)
set_option maxRecDepth 20000 in
theorem gX11_told_X11_refuse : GoodIn wsX11_told (wsV RX11 99 RX11 yX11_refuse wsX11_refuse) := goodIn_app (goodIn_of _ (by decide +kernel)) ggX11_told_X11_refuse
set_option maxRecDepth 20000 in
theorem ggX11_told_X11_accept : GoodIn wsX11_told wsX11_accept := goodIn_r _ [11, 7, 12, 13, 14, 15, 16, 17, 18, 19, 20, 21, 22, 23, 24, 25, 26, 27, 28] (by decide +kernel) (by decide +kernel)
set_option maxRecDepth 20000 in
theorem gX11_told_X11_accept : GoodIn wsX11_told (wsV RX11 110 RX11 yX11_accept wsX11_accept) := goodIn_app (goodIn_of _ (by decide +kernel)) ggX11_told_X11_accept
set_option maxRecDepth 20000 in
theorem ggX11_cell_X6_cellAt : GoodIn wsX11_cell wsX6_cellAt := goodIn_r _ [6, 7, 25, 26, 27, 28, 29, 30, 31, 32, 33, 34, 35, 36, 37, 38, 39, 40, 41] (by decide +kernel) (by decide +kernel)
set_option maxRecDepth 20000 in
theorem gX11_cell_X6_cellAt : GoodIn wsX11_cell (wsV RX11 204 RX6 yX6_cellAt wsX6_cellAt) := goodIn_app (goodIn_of _ (by decide +kernel)) ggX11_cell_X6_cellAt
set_option maxRecDepth 20000 in
theorem ggX11_did_X11_isKind : GoodIn wsX11_did wsX11_isKind := goodIn_r _ [5] (by decide +kernel) (by decide +kernel)
set_option maxRecDepth 20000 in
theorem gX11_did_X11_isKind : GoodIn wsX11_did (va_wsS RX11 132 yX11_isKind wsX11_isKind) := goodIn_app (goodIn_of _ (by decide +kernel)) ggX11_did_X11_isKind
set_option maxRecDepth 20000 in
theorem ggX11_follows_X11_isKind : GoodIn wsX11_follows wsX11_isKind := goodIn_r _ [5] (by decide +kernel) (by decide +kernel)
set_option maxRecDepth 20000 in
theorem gX11_follows_X11_isKind : GoodIn wsX11_follows (va_wsS RX11 132 yX11_isKind wsX11_isKind) := goodIn_app (goodIn_of _ (by decide +kernel)) ggX11_follows_X11_isKind
set_option maxRecDepth 20000 in
theorem ggX11_follows_X11_pairOf : GoodIn wsX11_follows wsX11_pairOf := goodIn_r _ [8] (by decide +kernel) (by decide +kernel)
set_option maxRecDepth 20000 in
theorem gX11_follows_X11_pairOf : GoodIn wsX11_follows (va_wsS RX11 135 yX11_pairOf wsX11_pairOf) := goodIn_app (goodIn_of _ (by decide +kernel)) ggX11_follows_X11_pairOf
set_option maxRecDepth 20000 in
theorem ggX11_most_X11_refuse : GoodIn wsX11_most wsX11_refuse := goodIn_r _ [6, 7, 21, 22, 23, 24, 25, 26, 27, 28, 29, 30, 31, 32, 33, 34, 35, 36, 37] (by decide +kernel) (by decide +kernel)
set_option maxRecDepth 20000 in
theorem gX11_most_X11_refuse : GoodIn wsX11_most (wsV RX11 99 RX11 yX11_refuse wsX11_refuse) := goodIn_app (goodIn_of _ (by decide +kernel)) ggX11_most_X11_refuse
set_option maxRecDepth 20000 in
theorem ggX11_most_X6_mostFollowed : GoodIn wsX11_most wsX6_mostFollowed := goodIn_r _ [12, 13, 38, 39, 40, 41, 42, 43, 44, 45, 46, 47, 48, 49, 50, 51, 52, 53, 54] (by decide +kernel) (by decide +kernel)
set_option maxRecDepth 20000 in
theorem gX11_most_X6_mostFollowed : GoodIn wsX11_most (wsV RX11 213 RX6 yX6_mostFollowed wsX6_mostFollowed) := goodIn_app (goodIn_of _ (by decide +kernel)) ggX11_most_X6_mostFollowed
set_option maxRecDepth 20000 in
theorem ggX11_most_X11_tellPair : GoodIn wsX11_most wsX11_tellPair := goodIn_r _ [16] (by decide +kernel) (by decide +kernel)
set_option maxRecDepth 20000 in
theorem gX11_most_X11_tellPair : GoodIn wsX11_most (va_wsS RX11 217 yX11_tellPair wsX11_tellPair) := goodIn_app (goodIn_of _ (by decide +kernel)) ggX11_most_X11_tellPair
set_option maxRecDepth 20000 in
theorem ggX11_most_X11_accept : GoodIn wsX11_most wsX11_accept := goodIn_r _ [20, 7, 21, 22, 23, 24, 25, 26, 27, 28, 29, 30, 31, 32, 33, 34, 35, 36, 37] (by decide +kernel) (by decide +kernel)
set_option maxRecDepth 20000 in
theorem gX11_most_X11_accept : GoodIn wsX11_most (wsV RX11 110 RX11 yX11_accept wsX11_accept) := goodIn_app (goodIn_of _ (by decide +kernel)) ggX11_most_X11_accept
set_option maxRecDepth 20000 in
theorem ggX11_traces_X11_refuse : GoodIn wsX11_traces wsX11_refuse := goodIn_r _ [6, 7, 12, 13, 14, 15, 16, 17, 18, 19, 20, 21, 22, 23, 24, 25, 26, 27, 28] (by decide +kernel) (by decide +kernel)
set_option maxRecDepth 20000 in
theorem gX11_traces_X11_refuse : GoodIn wsX11_traces (wsV RX11 99 RX11 yX11_refuse wsX11_refuse) := goodIn_app (goodIn_of _ (by decide +kernel)) ggX11_traces_X11_refuse
set_option maxRecDepth 20000 in
theorem ggX11_traces_X11_accept : GoodIn wsX11_traces wsX11_accept := goodIn_r _ [11, 7, 12, 13, 14, 15, 16, 17, 18, 19, 20, 21, 22, 23, 24, 25, 26, 27, 28] (by decide +kernel) (by decide +kernel)
set_option maxRecDepth 20000 in
theorem gX11_traces_X11_accept : GoodIn wsX11_traces (wsV RX11 110 RX11 yX11_accept wsX11_accept) := goodIn_app (goodIn_of _ (by decide +kernel)) ggX11_traces_X11_accept
set_option maxRecDepth 20000 in
theorem ggX11_cost_X11_refusalOf : GoodIn wsX11_cost wsX11_refusalOf := goodIn_r _ [5, 6, 259, 260, 261, 262, 263, 264, 265, 266, 267, 268, 269, 270, 271, 272, 273, 274, 275, 276, 277, 278, 279] (by decide +kernel) (by decide +kernel)
set_option maxRecDepth 20000 in
theorem gX11_cost_X11_refusalOf : GoodIn wsX11_cost (wsV RX11 153 RX11 yX11_refusalOf wsX11_refusalOf) := goodIn_app (goodIn_of _ (by decide +kernel)) ggX11_cost_X11_refusalOf
set_option maxRecDepth 20000 in
theorem ggX11_cost_X11_refuse : GoodIn wsX11_cost wsX11_refuse := goodIn_r _ [10, 11, 259, 260, 261, 262, 263, 264, 265, 266, 267, 268, 269, 270, 271, 272, 273, 274, 275] (by decide +kernel) (by decide +kernel)
set_option maxRecDepth 20000 in
theorem gX11_cost_X11_refuse : GoodIn wsX11_cost (wsV RX11 99 RX11 yX11_refuse wsX11_refuse) := goodIn_app (goodIn_of _ (by decide +kernel)) ggX11_cost_X11_refuse
set_option maxRecDepth 20000 in
theorem ggX11_cost_X11_tryOut : GoodIn wsX11_cost wsX11_tryOut := goodIn_r _ [15, 16, 6, 17, 18, 19, 20, 4, 21, 22, 23, 24, 25, 26, 27, 28, 29, 30, 31, 32, 33, 34, 35, 36, 37, 38, 39, 40, 41, 42, 43, 44, 45, 46, 47, 48, 49, 50, 51, 52, 53, 54, 55, 56, 57, 58, 59, 60, 61, 62, 63, 64, 65, 66, 67, 68, 69, 70, 71, 72, 73, 74, 75, 76, 77, 78, 79, 80, 81, 82, 83, 84, 85, 86, 87, 88, 89, 90, 91, 92, 93, 94, 95, 96, 97, 98, 99, 100, 101, 102, 103, 104, 105, 106, 107, 108, 109, 110, 111, 112, 113, 114, 115, 116, 117, 118, 119, 120, 121, 122, 123, 124, 125, 126, 127, 128, 129, 130, 131, 132, 133, 134, 135, 136, 137, 138, 139, 140, 141, 142, 143, 144, 145, 146, 147, 148, 149, 150, 151, 152, 153, 154, 155, 156, 157, 158, 159, 160, 161, 162, 163, 164, 165, 166, 167, 168, 169, 170, 171, 172, 173, 174, 175, 176, 177, 178, 179, 180, 181, 182, 183, 184, 185, 186, 187, 188, 189, 190, 191, 192, 193, 194, 195, 196, 197, 198, 199, 200, 201, 202, 203, 204, 205, 206, 207, 208, 209, 210, 211, 212, 213, 214, 215, 216, 217, 218, 219, 220, 221, 222, 223, 224, 225, 226, 227, 228, 229, 230, 231, 232, 233, 234, 235, 236, 237, 238, 239, 240, 241, 242, 243, 244, 245, 246, 247, 248, 249, 250, 251, 252, 253, 254, 259, 260, 261, 262, 263, 264, 265, 266, 267, 268, 269, 270, 271, 272, 273, 274, 275, 280, 281, 282, 283, 284, 285, 286, 287, 288, 289, 290, 291, 292, 293, 294, 295, 296, 276, 277, 278, 279, 297, 298, 299, 300, 301, 302, 303, 304, 305, 306, 307, 308, 309, 310, 311, 312] (by decide +kernel) (by decide +kernel)
set_option maxRecDepth 20000 in
theorem gX11_cost_X11_tryOut : GoodIn wsX11_cost (wsV RX11 229 RX11 yX11_tryOut wsX11_tryOut) := goodIn_app (goodIn_of _ (by decide +kernel)) ggX11_cost_X11_tryOut
set_option maxRecDepth 20000 in
theorem ggX11_cost_X11_accept : GoodIn wsX11_cost wsX11_accept := goodIn_r _ [258, 11, 259, 260, 261, 262, 263, 264, 265, 266, 267, 268, 269, 270, 271, 272, 273, 274, 275] (by decide +kernel) (by decide +kernel)
set_option maxRecDepth 20000 in
theorem gX11_cost_X11_accept : GoodIn wsX11_cost (wsV RX11 110 RX11 yX11_accept wsX11_accept) := goodIn_app (goodIn_of _ (by decide +kernel)) ggX11_cost_X11_accept
set_option maxRecDepth 20000 in
theorem ggX11_cheapest_X11_refusalOf : GoodIn wsX11_cheapest wsX11_refusalOf := goodIn_r _ [5, 6, 259, 260, 261, 262, 263, 264, 265, 266, 267, 268, 269, 270, 271, 272, 273, 274, 275, 276, 277, 278, 279] (by decide +kernel) (by decide +kernel)
set_option maxRecDepth 20000 in
theorem gX11_cheapest_X11_refusalOf : GoodIn wsX11_cheapest (wsV RX11 153 RX11 yX11_refusalOf wsX11_refusalOf) := goodIn_app (goodIn_of _ (by decide +kernel)) ggX11_cheapest_X11_refusalOf
set_option maxRecDepth 20000 in
theorem ggX11_cheapest_X11_refuse : GoodIn wsX11_cheapest wsX11_refuse := goodIn_r _ [10, 11, 259, 260, 261, 262, 263, 264, 265, 266, 267, 268, 269, 270, 271, 272, 273, 274, 275] (by decide +kernel) (by decide +kernel)
set_option maxRecDepth 20000 in
theorem gX11_cheapest_X11_refuse : GoodIn wsX11_cheapest (wsV RX11 99 RX11 yX11_refuse wsX11_refuse) := goodIn_app (goodIn_of _ (by decide +kernel)) ggX11_cheapest_X11_refuse
set_option maxRecDepth 20000 in
theorem ggX11_cheapest_X11_tryOut : GoodIn wsX11_cheapest wsX11_tryOut := goodIn_r _ [15, 16, 6, 17, 18, 19, 20, 4, 21, 22, 23, 24, 25, 26, 27, 28, 29, 30, 31, 32, 33, 34, 35, 36, 37, 38, 39, 40, 41, 42, 43, 44, 45, 46, 47, 48, 49, 50, 51, 52, 53, 54, 55, 56, 57, 58, 59, 60, 61, 62, 63, 64, 65, 66, 67, 68, 69, 70, 71, 72, 73, 74, 75, 76, 77, 78, 79, 80, 81, 82, 83, 84, 85, 86, 87, 88, 89, 90, 91, 92, 93, 94, 95, 96, 97, 98, 99, 100, 101, 102, 103, 104, 105, 106, 107, 108, 109, 110, 111, 112, 113, 114, 115, 116, 117, 118, 119, 120, 121, 122, 123, 124, 125, 126, 127, 128, 129, 130, 131, 132, 133, 134, 135, 136, 137, 138, 139, 140, 141, 142, 143, 144, 145, 146, 147, 148, 149, 150, 151, 152, 153, 154, 155, 156, 157, 158, 159, 160, 161, 162, 163, 164, 165, 166, 167, 168, 169, 170, 171, 172, 173, 174, 175, 176, 177, 178, 179, 180, 181, 182, 183, 184, 185, 186, 187, 188, 189, 190, 191, 192, 193, 194, 195, 196, 197, 198, 199, 200, 201, 202, 203, 204, 205, 206, 207, 208, 209, 210, 211, 212, 213, 214, 215, 216, 217, 218, 219, 220, 221, 222, 223, 224, 225, 226, 227, 228, 229, 230, 231, 232, 233, 234, 235, 236, 237, 238, 239, 240, 241, 242, 243, 244, 245, 246, 247, 248, 249, 250, 251, 252, 253, 254, 259, 260, 261, 262, 263, 264, 265, 266, 267, 268, 269, 270, 271, 272, 273, 274, 275, 280, 281, 282, 283, 284, 285, 286, 287, 288, 289, 290, 291, 292, 293, 294, 295, 296, 276, 277, 278, 279, 297, 298, 299, 300, 301, 302, 303, 304, 305, 306, 307, 308, 309, 310, 311, 312] (by decide +kernel) (by decide +kernel)
set_option maxRecDepth 20000 in
theorem gX11_cheapest_X11_tryOut : GoodIn wsX11_cheapest (wsV RX11 229 RX11 yX11_tryOut wsX11_tryOut) := goodIn_app (goodIn_of _ (by decide +kernel)) ggX11_cheapest_X11_tryOut
set_option maxRecDepth 20000 in
theorem ggX11_cheapest_X11_accept : GoodIn wsX11_cheapest wsX11_accept := goodIn_r _ [258, 11, 259, 260, 261, 262, 263, 264, 265, 266, 267, 268, 269, 270, 271, 272, 273, 274, 275] (by decide +kernel) (by decide +kernel)
set_option maxRecDepth 20000 in
theorem gX11_cheapest_X11_accept : GoodIn wsX11_cheapest (wsV RX11 110 RX11 yX11_accept wsX11_accept) := goodIn_app (goodIn_of _ (by decide +kernel)) ggX11_cheapest_X11_accept
set_option maxRecDepth 20000 in
theorem ggX11_gain_X11_refusalOf : GoodIn wsX11_gain wsX11_refusalOf := goodIn_r _ [9, 2, 266, 267, 268, 269, 270, 271, 272, 273, 274, 275, 276, 277, 278, 279, 280, 281, 282, 283, 284, 285, 286] (by decide +kernel) (by decide +kernel)
set_option maxRecDepth 20000 in
theorem gX11_gain_X11_refusalOf : GoodIn wsX11_gain (wsV RX11 153 RX11 yX11_refusalOf wsX11_refusalOf) := goodIn_app (goodIn_of _ (by decide +kernel)) ggX11_gain_X11_refusalOf
