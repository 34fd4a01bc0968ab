set_option maxRecDepth 20000 in
theorem ggX11_gain_X11_refuse : GoodIn wsX11_gain wsX11_refuse := goodIn_r _ [13, 14, 266, 267, 268, 269, 270, 271, 272, 273, 274, 275, 276, 277, 278, 279, 280, 281, 282] (by decide +kernel) (by decide +kernel)
set_option maxRecDepth 20000 in
theorem gX11_gain_X11_refuse : GoodIn wsX11_gain (wsV RX11 99 RX11 yX11_refuse wsX11_refuse) := goodIn_app (goodIn_of _ (by decide +kernel)) ggX11_gain_X11_refuse
set_option maxRecDepth 20000 in
theorem ggX11_gain_X11_tryOut : GoodIn wsX11_gain wsX11_tryOut := goodIn_r _ [18, 19, 2, 20, 21, 22, 23, 8, 24, 25, 1, 26, 27, 28, 29, 30, 31, 32, 33, 34, 35, 36, 37, 38, 39, 40, 41, 42, 43, 44, 45, 46, 47, 48, 49, 50, 51, 52, 53, 54, 55, 56, 57, 58, 59, 60, 61, 62, 63, 64, 65, 66, 67, 68, 69, 70, 71, 72, 73, 74, 75, 76, 77, 78, 79, 80, 81, 82, 83, 84, 85, 86, 87, 88, 89, 90, 91, 92, 93, 94, 95, 96, 97, 98, 99, 100, 101, 102, 103, 104, 105, 106, 107, 108, 109, 110, 111, 112, 113, 114, 115, 116, 117, 118, 119, 120, 121, 122, 123, 124, 125, 126, 127, 128, 129, 130, 131, 132, 133, 134, 135, 136, 137, 138, 139, 140, 141, 142, 143, 144, 145, 146, 147, 148, 149, 150, 151, 152, 153, 154, 155, 156, 157, 158, 159, 160, 161, 162, 163, 164, 165, 166, 167, 168, 169, 170, 171, 172, 173, 174, 175, 176, 177, 178, 179, 180, 181, 182, 183, 184, 185, 186, 187, 188, 189, 190, 191, 192, 193, 194, 195, 196, 197, 198, 199, 200, 201, 202, 203, 204, 205, 206, 207, 208, 209, 210, 211, 212, 213, 214, 215, 216, 217, 218, 219, 220, 221, 222, 223, 224, 225, 226, 227, 228, 229, 230, 231, 232, 233, 234, 235, 236, 237, 238, 239, 240, 241, 242, 243, 244, 245, 246, 247, 248, 249, 250, 251, 252, 253, 254, 255, 256, 266, 267, 268, 269, 270, 271, 272, 273, 274, 275, 276, 277, 278, 279, 280, 281, 282, 287, 288, 289, 290, 291, 292, 293, 294, 295, 296, 297, 298, 299, 300, 301, 302, 303, 283, 284, 285, 286, 304, 305, 306, 307, 308, 309, 310, 311, 312, 313, 314, 315, 316, 317, 318, 319] (by decide +kernel) (by decide +kernel)
set_option maxRecDepth 20000 in
theorem gX11_gain_X11_tryOut : GoodIn wsX11_gain (wsV RX11 229 RX11 yX11_tryOut wsX11_tryOut) := goodIn_app (goodIn_of _ (by decide +kernel)) ggX11_gain_X11_tryOut
set_option maxRecDepth 20000 in
theorem ggX11_gain_X2_savedWith : GoodIn wsX11_gain wsX2_savedWith := goodIn_r _ [260, 72, 66, 68, 69, 70, 64, 71, 73, 74, 75, 76, 77, 78, 79, 80, 81, 82, 83, 84, 85, 86, 87, 88, 89, 90, 91, 92, 93, 94, 95, 96, 97, 8, 98, 99, 100, 101, 102, 103, 104, 304, 305, 306, 307, 283, 284, 285, 286, 308, 309] (by decide +kernel) (by decide +kernel)
set_option maxRecDepth 20000 in
theorem gX11_gain_X2_savedWith : GoodIn wsX11_gain (wsV RX11 232 RX2 yX2_savedWith wsX2_savedWith) := goodIn_app (goodIn_of _ (by decide +kernel)) ggX11_gain_X2_savedWith
set_option maxRecDepth 20000 in
theorem ggX11_gain_X3_has : GoodIn wsX11_gain wsX3_has := goodIn_r _ [103, 104, 308, 309] (by decide +kernel) (by decide +kernel)
set_option maxRecDepth 20000 in
theorem gX11_gain_X3_has : GoodIn wsX11_gain (wsV RX11 140 RX3 yX3_has wsX3_has) := goodIn_app (goodIn_of _ (by decide +kernel)) ggX11_gain_X3_has
set_option maxRecDepth 20000 in
theorem ggX11_gain_X11_accept : GoodIn wsX11_gain wsX11_accept := goodIn_r _ [265, 14, 266, 267, 268, 269, 270, 271, 272, 273, 274, 275, 276, 277, 278, 279, 280, 281, 282] (by decide +kernel) (by decide +kernel)
set_option maxRecDepth 20000 in
theorem gX11_gain_X11_accept : GoodIn wsX11_gain (wsV RX11 110 RX11 yX11_accept wsX11_accept) := goodIn_app (goodIn_of _ (by decide +kernel)) ggX11_gain_X11_accept
set_option maxRecDepth 20000 in
theorem ggX11_better_X11_tellPair : GoodIn wsX11_better wsX11_tellPair := goodIn_r _ [5] (by decide +kernel) (by decide +kernel)
set_option maxRecDepth 20000 in
theorem gX11_better_X11_tellPair : GoodIn wsX11_better (va_wsS RX11 217 yX11_tellPair wsX11_tellPair) := goodIn_app (goodIn_of _ (by decide +kernel)) ggX11_better_X11_tellPair
set_option maxRecDepth 20000 in
theorem ggX11_tryOut_X11_heartNumbered : GoodIn wsX11_tryOut wsX11_heartNumbered := goodIn_r _ [8, 9, 10, 11, 12, 13, 242, 243, 244, 245, 246, 247, 248, 249, 250, 251, 252, 253, 254, 255, 256, 257, 258] (by decide +kernel) (by decide +kernel)
set_option maxRecDepth 20000 in
theorem gX11_tryOut_X11_heartNumbered : GoodIn wsX11_tryOut (wsV RX11 156 RX11 yX11_heartNumbered wsX11_heartNumbered) := goodIn_app (goodIn_of _ (by decide +kernel)) ggX11_tryOut_X11_heartNumbered
set_option maxRecDepth 20000 in
theorem ggX11_tryOut_X6_go : GoodIn wsX11_tryOut wsX6_go := goodIn_r _ [18, 19, 20, 21, 22, 23, 24, 25, 26, 17, 27, 28, 29, 30, 31, 32, 33, 34, 35, 36, 37, 38, 39, 40, 41, 42, 43, 44, 45, 46, 47, 48, 49, 50, 51, 52, 53, 54, 55, 56, 57, 58, 59, 60, 61, 62, 63, 64, 65, 66, 67, 68, 69, 70, 71, 72, 73, 74, 75, 76, 77, 78, 79, 80, 81, 82, 7, 83, 84, 85, 86, 87, 88, 89, 90, 91, 92, 93, 94, 95, 96, 97, 98, 99, 100, 101, 102, 103, 104, 105, 106, 107, 108, 109, 110, 111, 112, 113, 114, 115, 116, 117, 118, 119, 120, 121, 122, 123, 124, 125, 126, 127, 128, 129, 130, 131, 132, 133, 134, 135, 136, 137, 138, 139, 140, 141, 142, 143, 144, 145, 146, 147, 148, 149, 150, 151, 152, 153, 154, 155, 156, 157, 158, 159, 160, 161, 162, 163, 164, 165, 166, 167, 168, 169, 170, 171, 172, 173, 174, 175, 176, 177, 178, 179, 180, 181, 182, 183, 184, 185, 186, 187, 188, 189, 190, 191, 192, 193, 194, 195, 196, 197, 198, 199, 200, 201, 202, 203, 204, 205, 206, 207, 208, 209, 210, 211, 212, 213, 214, 215, 216, 217, 218, 219, 220, 221, 222, 223, 224, 225, 226, 227, 228, 229, 230, 231, 232, 233, 234, 235, 236, 237, 238, 239, 240, 241, 259, 260, 261, 262, 263, 264, 265, 266, 267, 268, 269, 270, 271, 272, 273, 274, 275, 276, 277, 278, 279, 280, 281, 282, 283, 284, 285, 286, 287, 288, 289, 290, 291, 292, 293, 294, 295] (by decide +kernel) (by decide +kernel)
set_option maxRecDepth 20000 in
theorem gX11_tryOut_X6_go : GoodIn wsX11_tryOut (wsV RX11 160 RX6 yX6_go wsX6_go) := goodIn_app (goodIn_of _ (by decide +kernel)) ggX11_tryOut_X6_go
set_option maxRecDepth 20000 in
theorem ggX14_init_X12_init : GoodIn wsX14_init wsX12_init := goodIn_r _ [40, 41, 2, 3, 21, 42, 43, 44, 45, 46, 47, 48, 18, 49, 108, 109, 110, 111, 112, 113, 114, 115, 116] (by decide +kernel) (by decide +kernel)
set_option maxRecDepth 20000 in
theorem gX14_init_X12_init_n15 : GoodIn wsX14_init (wsX12_init) := ggX14_init_X12_init
set_option maxRecDepth 20000 in
theorem ggX14_init_X13_init : GoodIn wsX14_init wsX13_init := goodIn_r _ [52] (by decide +kernel) (by decide +kernel)
set_option maxRecDepth 20000 in
theorem gX14_init_X13_init : GoodIn wsX14_init (wsX13_init) := ggX14_init_X13_init
set_option maxRecDepth 20000 in
theorem ggX14_wordOf_J0_length_8abf5 : GoodIn wsX14_wordOf wsJ0_length_8abf5 := goodIn_r _ [6, 7, 8, 9, 10, 5, 11, 12, 13] (by decide +kernel) (by decide +kernel)
set_option maxRecDepth 20000 in
theorem gX14_wordOf_J0_length_8abf5 : GoodIn wsX14_wordOf (wsV RX14 144 RJ0 yJ0_length_8abf5 wsJ0_length_8abf5) := goodIn_app (goodIn_of _ (by decide +kernel)) ggX14_wordOf_J0_length_8abf5
set_option maxRecDepth 20000 in
theorem ggX14_wordOf_J0_charAt_5068e : GoodIn wsX14_wordOf wsJ0_charAt_5068e := goodIn_r _ [17, 7, 18, 19, 20, 5, 21, 12, 13, 22, 23, 24, 25, 26, 27, 28, 29, 30, 31, 32, 33, 34, 35, 36, 37, 38, 39, 40, 41, 42, 43, 44, 45, 46, 47, 48, 49, 50] (by decide +kernel) (by decide +kernel)
set_option maxRecDepth 20000 in
theorem gX14_wordOf_J0_charAt_5068e : GoodIn wsX14_wordOf (wsV RX14 150 RJ0 yJ0_charAt_5068e wsJ0_charAt_5068e) := goodIn_app (goodIn_of _ (by decide +kernel)) ggX14_wordOf_J0_charAt_5068e
set_option maxRecDepth 20000 in
theorem ggX14_next_X14_byteAt : GoodIn wsX14_next wsX14_byteAt := goodIn_r _ [12, 13, 14, 21, 22, 23, 24, 25, 26, 27, 28, 29, 30, 31, 32, 33, 34, 35, 36, 37, 38, 39, 40, 41, 42, 43, 44, 45, 46, 47, 48, 49, 50, 51, 52, 53, 54, 55, 56, 57, 58, 59, 60, 61, 62, 63, 64, 65, 66, 67, 68, 69, 70, 71, 72, 73, 74, 75] (by decide +kernel) (by decide +kernel)
set_option maxRecDepth 20000 in
theorem gX14_next_X14_byteAt : GoodIn wsX14_next (wsV RX14 157 RX14 yX14_byteAt wsX14_byteAt) := goodIn_app (goodIn_of _ (by decide +kernel)) ggX14_next_X14_byteAt
set_option maxRecDepth 20000 in
theorem ggX14_next_X14_isLetter : GoodIn wsX14_next wsX14_isLetter := goodIn_r _ [17] (by decide +kernel) (by decide +kernel)
set_option maxRecDepth 20000 in
theorem gX14_next_X14_isLetter : GoodIn wsX14_next (va_wsS RX14 168 yX14_isLetter wsX14_isLetter) := goodIn_app (goodIn_of _ (by decide +kernel)) ggX14_next_X14_isLetter
set_option maxRecDepth 20000 in
theorem ggX14_next_X14_isDigit : GoodIn wsX14_next wsX14_isDigit := goodIn_r _ [20] (by decide +kernel) (by decide +kernel)
set_option maxRecDepth 20000 in
theorem gX14_next_X14_isDigit : GoodIn wsX14_next (va_wsS RX14 176 yX14_isDigit wsX14_isDigit) := goodIn_app (goodIn_of _ (by decide +kernel)) ggX14_next_X14_isDigit
set_option maxRecDepth 20000 in
theorem ggX14_kindOf_X14_wordOf : GoodIn wsX14_kindOf wsX14_wordOf := goodIn_r _ [5, 6, 7, 8, 9, 10, 11, 12, 13, 14, 15, 16, 17, 18, 19, 20, 21, 22, 23, 24, 25, 26, 27, 28, 29, 30, 31, 32, 33, 34, 35, 36, 37, 38, 39, 40, 41, 42, 43, 44, 45, 46, 47, 48, 49, 50, 51, 52, 53, 54, 55] (by decide +kernel) (by decide +kernel)
set_option maxRecDepth 20000 in
theorem gX14_kindOf_X14_wordOf : GoodIn wsX14_kindOf (va_wsS RX14 182 yX14_wordOf wsX14_wordOf) := goodIn_app (goodIn_of _ (by decide +kernel)) ggX14_kindOf_X14_wordOf
set_option maxRecDepth 20000 in
theorem ggX14_reads_X14_next : GoodIn wsX14_reads wsX14_next := goodIn_r _ [7, 8, 9, 2, 10, 11, 12, 13, 14, 15, 16, 6, 17, 18, 19, 20, 21, 22, 23, 24, 25, 99, 100, 101, 102, 103, 104, 105, 106, 107, 108, 109, 110, 111, 112, 113, 114, 115, 116, 117, 118, 119, 120, 121, 122, 123, 124, 125, 126, 127, 128, 129, 130, 131, 132, 133, 134, 135, 136, 137, 138, 139, 140, 141, 142, 143, 144, 145, 146, 147, 148, 149, 150, 151, 152, 153] (by decide +kernel) (by decide +kernel)
set_option maxRecDepth 20000 in
theorem gX14_reads_X14_next : GoodIn wsX14_reads (wsV RX14 195 RX14 yX14_next wsX14_next) := goodIn_app (goodIn_of _ (by decide +kernel)) ggX14_reads_X14_next
set_option maxRecDepth 20000 in
theorem ggX14_reads_X14_readItem : GoodIn wsX14_reads wsX14_readItem := goodIn_r _ [29, 2, 9, 11, 1, 13, 3, 4, 5, 6, 7, 8, 10, 12, 14, 15, 16, 17, 18, 19, 20, 21, 22, 23, 24, 25, 30, 31, 32, 33, 34, 35, 36, 37, 38, 39, 40, 41, 42, 43, 44, 45, 46, 47, 48, 49, 50, 51, 52, 53, 54, 55, 56, 57, 58, 59, 60, 61, 62, 63, 64, 65, 66, 67, 68, 69, 70, 71, 72, 73, 74, 75, 76, 77, 78, 79, 80, 81, 82, 83, 84, 85, 86, 87, 88, 89, 90, 91, 92, 93, 94, 95, 96, 97, 98, 99, 100, 101, 102, 103, 104, 105, 106, 107, 108, 109, 110, 111, 112, 113, 114, 115, 116, 117, 118, 119, 120, 121, 122, 123, 124, 125, 126, 127, 128, 129, 130, 131, 132, 133, 134, 135, 136, 137, 138, 139, 140, 141, 142, 143, 144, 145, 146, 147, 148, 149, 150, 151, 152, 153, 154, 155, 156, 157, 158, 159, 160, 161, 162] (by decide +kernel) (by decide +kernel)
set_option maxRecDepth 20000 in
theorem gX14_reads_X14_readItem : GoodIn wsX14_reads (wsV RX14 198 RX14 yX14_readItem wsX14_readItem) := goodIn_app (goodIn_of _ (by decide +kernel)) ggX14_reads_X14_readItem
set_option maxRecDepth 20000 in
theorem ggX14_reads_X12_find : GoodIn wsX14_reads wsX12_find := goodIn_r _ [38, 39, 40, 41, 154, 155, 156, 157, 158, 159, 160, 161, 162] (by decide +kernel) (by decide +kernel)
set_option maxRecDepth 20000 in
theorem gX14_reads_X12_find : GoodIn wsX14_reads (wsV RX14 210 RX12 yX12_find wsX12_find) := goodIn_app (goodIn_of _ (by decide +kernel)) ggX14_reads_X12_find
set_option maxRecDepth 20000 in
theorem ggX14_readItem_X14_next : GoodIn wsX14_readItem wsX14_next := goodIn_r _ [10, 11, 2, 1, 12, 3, 13, 5, 14, 15, 16, 9, 17, 18, 19, 20, 21, 22, 23, 24, 25, 95, 96, 97, 98, 99, 100, 101, 102, 103, 104, 105, 106, 107, 108, 109, 110, 111, 112, 113, 114, 115, 116, 117, 118, 119, 120, 121, 122, 123, 124, 125, 126, 127, 128, 129, 130, 131, 132, 133, 134, 135, 136, 137, 138, 139, 140, 141, 142, 143, 144, 145, 146, 147, 148, 149] (by decide +kernel) (by decide +kernel)
set_option maxRecDepth 20000 in
theorem gX14_readItem_X14_next : GoodIn wsX14_readItem (wsV RX14 195 RX14 yX14_next wsX14_next) := goodIn_app (goodIn_of _ (by decide +kernel)) ggX14_readItem_X14_next
set_option maxRecDepth 20000 in
theorem ggX14_readItem_X14_is : GoodIn wsX14_readItem wsX14_is := goodIn_r _ [29, 1, 12, 95, 96, 97, 98, 99, 100, 101, 102, 103, 104, 105, 106, 107, 108, 109, 110, 111, 112, 113, 114, 115, 116, 117, 118, 119, 120, 121, 122, 123, 124, 125, 126, 127, 128, 129, 130, 131, 132, 133, 134, 135, 136, 137, 138, 139, 140, 141, 142, 143, 144, 145, 146, 147, 148, 149] (by decide +kernel) (by decide +kernel)
set_option maxRecDepth 20000 in
theorem gX14_readItem_X14_is : GoodIn wsX14_readItem (wsV RX14 219 RX14 yX14_is wsX14_is) := goodIn_app (goodIn_of _ (by decide +kernel)) ggX14_readItem_X14_is
set_option maxRecDepth 20000 in
theorem ggX14_readItem_X12_find : GoodIn wsX14_readItem wsX12_find := goodIn_r _ [34, 35, 36, 37, 150, 151, 152, 153, 154, 155, 156, 157, 158] (by decide +kernel) (by decide +kernel)
set_option maxRecDepth 20000 in
theorem gX14_readItem_X12_find : GoodIn wsX14_readItem (wsV RX14 210 RX12 yX12_find wsX12_find) := goodIn_app (goodIn_of _ (by decide +kernel)) ggX14_readItem_X12_find
set_option maxRecDepth 20000 in
theorem ggX14_readItem_X14_kindOf : GoodIn wsX14_readItem wsX14_kindOf := goodIn_r _ [41, 42, 43, 44, 9, 45, 13, 46, 47, 48, 49, 50, 51, 52, 53, 54, 55, 56, 57, 58, 59, 60, 61, 62, 63, 64, 65, 66, 67, 68, 69, 70, 71, 72, 73, 74, 75, 76, 77, 78, 79, 80, 81, 82, 83, 84, 85, 86, 87, 88, 89, 90, 91, 92, 93, 94, 95, 96, 97, 98, 99, 100, 101, 102, 103, 104, 105, 106, 107, 108, 109, 110, 111, 112, 113, 114, 115, 116, 117, 118, 119, 120, 121, 122, 123, 124, 125, 126, 127, 128, 129, 130, 131, 132, 133, 134, 135, 136, 137, 138, 139, 140, 141, 142, 143, 144, 145, 146, 147, 148, 149] (by decide +kernel) (by decide +kernel)
set_option maxRecDepth 20000 in
theorem gX14_readItem_X14_kindOf : GoodIn wsX14_readItem (wsV RX14 228 RX14 yX14_kindOf wsX14_kindOf) := goodIn_app (goodIn_of _ (by decide +kernel)) ggX14_readItem_X14_kindOf
set_option maxRecDepth 20000 in
theorem ggX14_program_X14_refused : GoodIn wsX14_program wsX14_refused := goodIn_r _ [15, 6, 7, 118, 119, 120, 121, 122, 123, 124, 125, 126, 127, 128, 129, 130, 131, 132, 133, 134, 135, 136, 137, 138, 139, 140, 141, 142, 143, 144, 145, 146, 147, 148, 149, 150, 151, 152, 153, 154, 155, 156, 157, 158, 159, 160, 161, 162, 163, 164, 165, 166, 167, 168, 169, 170, 171, 172] (by decide +kernel) (by decide +kernel)
set_option maxRecDepth 20000 in
theorem gX14_program_X14_refused : GoodIn wsX14_program (wsV RX14 234 RX14 yX14_refused wsX14_refused) := goodIn_app (goodIn_of _ (by decide +kernel)) ggX14_program_X14_refused
set_option maxRecDepth 20000 in
theorem ggX14_program_X14_reads : GoodIn wsX14_program wsX14_reads := goodIn_r _ [19, 9, 20, 21, 22, 23, 14, 24, 4, 25, 26, 27, 28, 29, 30, 31, 32, 33, 3, 34, 35, 36, 37, 38, 39, 40, 41, 42, 43, 44, 45, 46, 47, 48, 49, 50, 51, 52, 53, 54, 55, 56, 57, 58, 59, 60, 61, 62, 63, 64, 65, 66, 67, 68, 69, 70, 71, 72, 73, 74, 75, 76, 77, 78, 79, 80, 81, 82, 83, 84, 85, 86, 87, 88, 89, 90, 91, 92, 93, 94, 95, 96, 97, 98, 99, 100, 101, 102, 103, 104, 105, 106, 107, 108, 109, 110, 111, 112, 113, 118, 119, 120, 121, 122, 123, 124, 125, 126, 127, 128, 129, 130, 131, 132, 133, 134, 135, 136, 137, 138, 139, 140, 141, 142, 143, 144, 145, 146, 147, 148, 149, 150, 151, 152, 153, 154, 155, 156, 157, 158, 159, 160, 161, 162, 163, 164, 165, 166, 167, 168, 169, 170, 171, 172, 181, 182, 183, 184, 185, 186, 187, 188, 189] (by decide +kernel) (by decide +kernel)
set_option maxRecDepth 20000 in
theorem gX14_program_X14_reads : GoodIn wsX14_program (wsV RX14 240 RX14 yX14_reads wsX14_reads) := goodIn_app (goodIn_of _ (by decide +kernel)) ggX14_program_X14_reads
set_option maxRecDepth 20000 in
theorem ggX14_program_X14_done : GoodIn wsX14_program wsX14_done := goodIn_r _ [117, 6, 7, 118, 119, 120, 121, 122, 123, 124, 125, 126, 127, 128, 129, 130, 131, 132, 133, 134, 135, 136, 137, 138, 139, 140, 141, 142, 143, 144, 145, 146, 147, 148, 149, 150, 151, 152, 153, 154, 155, 156, 157, 158, 159, 160, 161, 162, 163, 164, 165, 166, 167, 168, 169, 170, 171, 172] (by decide +kernel) (by decide +kernel)
set_option maxRecDepth 20000 in
theorem gX14_program_X14_done : GoodIn wsX14_program (wsV RX14 246 RX14 yX14_done wsX14_done) := goodIn_app (goodIn_of _ (by decide +kernel)) ggX14_program_X14_done
set_option maxRecDepth 20000 in
theorem ggX14_join_X14_in : GoodIn wsX14_join wsX14_in := goodIn_r _ [7] (by decide +kernel) (by decide +kernel)
set_option maxRecDepth 20000 in
theorem gX14_join_X14_in : GoodIn wsX14_join (va_wsS RX14 252 yX14_in wsX14_in) := goodIn_app (goodIn_of _ (by decide +kernel)) ggX14_join_X14_in
set_option maxRecDepth 20000 in
theorem ggX14_join_X14_refused : GoodIn wsX14_join wsX14_refused := goodIn_r _ [11, 12, 13, 18, 19, 20, 21, 22, 23, 24, 25, 26, 27, 28, 29, 30, 31, 32, 33, 34, 35, 36, 37, 38, 39, 40, 41, 42, 43, 44, 45, 46, 47, 48, 49, 50, 51, 52, 53, 54, 55, 56, 57, 58, 59, 60, 61, 62, 63, 64, 65, 66, 67, 68, 69, 70, 71, 72] (by decide +kernel) (by decide +kernel)
set_option maxRecDepth 20000 in
theorem gX14_join_X14_refused : GoodIn wsX14_join (wsV RX14 234 RX14 yX14_refused wsX14_refused) := goodIn_app (goodIn_of _ (by decide +kernel)) ggX14_join_X14_refused
set_option maxRecDepth 20000 in
theorem ggX14_join_X14_done : GoodIn wsX14_join wsX14_done := goodIn_r _ [17, 12, 13, 18, 19, 20, 21, 22, 23, 24, 25, 26, 27, 28, 29, 30, 31, 32, 33, 34, 35, 36, 37, 38, 39, 40, 41, 42, 43, 44, 45, 46, 47, 48, 49, 50, 51, 52, 53, 54, 55, 56, 57, 58, 59, 60, 61, 62, 63, 64, 65, 66, 67, 68, 69, 70, 71, 72] (by decide +kernel) (by decide +kernel)
set_option maxRecDepth 20000 in
theorem gX14_join_X14_done : GoodIn wsX14_join (wsV RX14 246 RX14 yX14_done wsX14_done) := goodIn_app (goodIn_of _ (by decide +kernel)) ggX14_join_X14_done
set_option maxRecDepth 20000 in
theorem ggX14_joined_X14_pairs : GoodIn wsX14_joined wsX14_pairs := goodIn_r _ [7, 8, 9, 10, 21, 22, 23, 24, 25, 26, 27, 28, 29, 30, 31, 32, 33, 34, 35, 36, 37, 38, 39, 40, 41, 42, 43, 44, 45, 46, 47, 48, 49, 50, 51, 52, 53, 54, 55, 56, 57, 58, 59, 60, 61, 62, 63, 64, 65, 66, 67, 68, 69, 70, 71, 72, 73, 74, 75, 76, 77, 78, 79, 80, 81, 82, 83, 84] (by decide +kernel) (by decide +kernel)
set_option maxRecDepth 20000 in
theorem gX14_joined_X14_pairs : GoodIn wsX14_joined (wsV RX14 259 RX14 yX14_pairs wsX14_pairs) := goodIn_app (goodIn_of _ (by decide +kernel)) ggX14_joined_X14_pairs
