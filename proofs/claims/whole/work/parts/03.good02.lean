set_option maxRecDepth 20000 in
theorem ggX9_readItem_X9_advance : GoodIn wsX9_readItem wsX9_advance := goodIn_r _ [20, 10, 21, 9, 1, 22, 23, 24, 7, 25, 26, 27, 28, 29, 30, 31, 32, 33, 34, 35, 132, 133, 134, 135, 136, 137, 138, 139, 140, 141, 142, 143, 144] (by decide +kernel) (by decide +kernel)
set_option maxRecDepth 20000 in
theorem gX9_readItem_X9_advance : GoodIn wsX9_readItem (wsV RX9 72 RX9 yX9_advance wsX9_advance) := goodIn_app (goodIn_of _ (by decide +kernel)) ggX9_readItem_X9_advance
set_option maxRecDepth 20000 in
theorem ggX9_readItem_X9_readOrder : GoodIn wsX9_readItem wsX9_readOrder := goodIn_r _ [53, 2, 54, 1, 9, 55, 56, 57, 7, 58, 59, 60, 61, 62, 63, 3, 64, 65, 66, 67, 68, 69, 70, 71, 72, 73, 74, 75, 22, 23, 24, 25, 21, 26, 76, 77, 78, 79, 80, 81, 82, 83, 84, 85, 86, 87, 88, 89, 90, 91, 92, 93, 94, 95, 96, 97, 98, 99, 100, 101, 102, 103, 104, 105, 106, 107, 108, 109, 110, 111, 112, 11, 12, 13, 14, 15, 16, 4, 5, 6, 8, 10, 17, 18, 19, 20, 27, 28, 29, 30, 31, 32, 33, 34, 35, 113, 114, 115, 116, 117, 118, 119, 120, 121, 122, 123, 124, 125, 126, 127, 128, 129, 130, 131, 132, 133, 134, 135, 136, 137, 138, 139, 140, 141, 142, 143, 144, 145, 146, 147, 148] (by decide +kernel) (by decide +kernel)
set_option maxRecDepth 20000 in
theorem gX9_readItem_X9_readOrder : GoodIn wsX9_readItem (wsV RX9 102 RX9 yX9_readOrder wsX9_readOrder) := goodIn_app (goodIn_of _ (by decide +kernel)) ggX9_readItem_X9_readOrder
set_option maxRecDepth 20000 in
theorem ggX9_readWord_X9_fail : GoodIn wsX9_readWord wsX9_fail := goodIn_r _ [10, 11, 12, 32, 33, 34, 35, 36, 37, 38, 39, 40, 41, 42, 43, 44] (by decide +kernel) (by decide +kernel)
set_option maxRecDepth 20000 in
theorem gX9_readWord_X9_fail : GoodIn wsX9_readWord (wsV RX9 94 RX9 yX9_fail wsX9_fail) := goodIn_app (goodIn_of _ (by decide +kernel)) ggX9_readWord_X9_fail
set_option maxRecDepth 20000 in
theorem ggX9_readWord_X9_advance : GoodIn wsX9_readWord wsX9_advance := goodIn_r _ [16, 4, 17, 2, 1, 18, 19, 20, 9, 21, 22, 23, 24, 25, 26, 27, 28, 29, 30, 31, 32, 33, 34, 35, 36, 37, 38, 39, 40, 41, 42, 43, 44] (by decide +kernel) (by decide +kernel)
set_option maxRecDepth 20000 in
theorem gX9_readWord_X9_advance : GoodIn wsX9_readWord (wsV RX9 72 RX9 yX9_advance wsX9_advance) := goodIn_app (goodIn_of _ (by decide +kernel)) ggX9_readWord_X9_advance
set_option maxRecDepth 20000 in
theorem ggX9_readOrder_X9_kindOfWord : GoodIn wsX9_readOrder wsX9_kindOfWord := goodIn_r _ [9, 10, 11, 12, 13, 8, 14, 15, 1, 16, 17, 18, 19, 20, 21, 22, 23, 24, 25, 26, 27, 28, 29, 30, 31, 32, 33, 34, 35, 36, 37, 38, 39, 40, 41, 42, 43, 44, 45, 46, 47, 48, 49, 50, 51, 52, 53, 54, 55, 56, 57, 58, 59, 60, 61, 62, 63, 64, 65, 66, 67, 68, 69, 70, 114, 115, 116, 117, 118, 119, 120, 121, 122, 123, 124, 125, 126] (by decide +kernel) (by decide +kernel)
set_option maxRecDepth 20000 in
theorem gX9_readOrder_X9_kindOfWord : GoodIn wsX9_readOrder (wsV RX9 106 RX9 yX9_kindOfWord wsX9_kindOfWord) := goodIn_app (goodIn_of _ (by decide +kernel)) ggX9_readOrder_X9_kindOfWord
set_option maxRecDepth 20000 in
theorem ggX9_readOrder_X9_fail : GoodIn wsX9_readOrder wsX9_fail := goodIn_r _ [74, 75, 76, 114, 115, 116, 117, 118, 119, 120, 121, 122, 123, 124, 125, 126] (by decide +kernel) (by decide +kernel)
set_option maxRecDepth 20000 in
theorem gX9_readOrder_X9_fail : GoodIn wsX9_readOrder (wsV RX9 94 RX9 yX9_fail wsX9_fail) := goodIn_app (goodIn_of _ (by decide +kernel)) ggX9_readOrder_X9_fail
set_option maxRecDepth 20000 in
theorem ggX9_readOrder_X9_readWord : GoodIn wsX9_readOrder wsX9_readWord := goodIn_r _ [80, 3, 4, 1, 81, 15, 71, 72, 73, 8, 74, 75, 76, 82, 83, 84, 85, 32, 28, 29, 30, 31, 33, 86, 87, 88, 89, 90, 91, 92, 93, 94, 114, 115, 116, 117, 118, 119, 120, 121, 122, 123, 124, 125, 126] (by decide +kernel) (by decide +kernel)
set_option maxRecDepth 20000 in
theorem gX9_readOrder_X9_readWord : GoodIn wsX9_readOrder (wsV RX9 83 RX9 yX9_readWord wsX9_readWord) := goodIn_app (goodIn_of _ (by decide +kernel)) ggX9_readOrder_X9_readWord
set_option maxRecDepth 20000 in
theorem ggX9_readOrder_X9_keepGoal : GoodIn wsX9_readOrder wsX9_keepGoal := goodIn_r _ [98, 99, 1, 100, 15, 114, 115, 116, 117, 118, 119, 120, 121, 122, 123, 124, 125, 126] (by decide +kernel) (by decide +kernel)
set_option maxRecDepth 20000 in
theorem gX9_readOrder_X9_keepGoal : GoodIn wsX9_readOrder (wsV RX9 119 RX9 yX9_keepGoal wsX9_keepGoal) := goodIn_app (goodIn_of _ (by decide +kernel)) ggX9_readOrder_X9_keepGoal
set_option maxRecDepth 20000 in
theorem ggX9_readOrder_X9_tokenNumber : GoodIn wsX9_readOrder wsX9_tokenNumber := goodIn_r _ [104, 4, 81, 28, 29, 30, 8, 31, 32, 33, 114, 115, 116, 117, 118, 119, 120, 121, 122, 123, 124, 125, 126] (by decide +kernel) (by decide +kernel)
set_option maxRecDepth 20000 in
theorem gX9_readOrder_X9_tokenNumber : GoodIn wsX9_readOrder (wsV RX9 123 RX9 yX9_tokenNumber wsX9_tokenNumber) := goodIn_app (goodIn_of _ (by decide +kernel)) ggX9_readOrder_X9_tokenNumber
set_option maxRecDepth 20000 in
theorem ggX9_readOrder_X9_advance : GoodIn wsX9_readOrder wsX9_advance := goodIn_r _ [85, 81, 32, 4, 3, 28, 29, 30, 8, 31, 33, 86, 87, 88, 89, 90, 91, 92, 93, 94, 114, 115, 116, 117, 118, 119, 120, 121, 122, 123, 124, 125, 126] (by decide +kernel) (by decide +kernel)
set_option maxRecDepth 20000 in
theorem gX9_readOrder_X9_advance : GoodIn wsX9_readOrder (wsV RX9 72 RX9 yX9_advance wsX9_advance) := goodIn_app (goodIn_of _ (by decide +kernel)) ggX9_readOrder_X9_advance
set_option maxRecDepth 20000 in
theorem ggX9_readOrder_X8_add : GoodIn wsX9_readOrder wsX8_add := goodIn_r _ [109, 110, 111, 112, 113, 127, 128, 129, 130] (by decide +kernel) (by decide +kernel)
set_option maxRecDepth 20000 in
theorem gX9_readOrder_X8_add : GoodIn wsX9_readOrder (wsV RX9 126 RX8 yX8_add wsX8_add) := goodIn_app (goodIn_of _ (by decide +kernel)) ggX9_readOrder_X8_add
set_option maxRecDepth 20000 in
theorem ggX9_resolveGoals_X8_kindAt : GoodIn wsX9_resolveGoals wsX8_kindAt := goodIn_r _ [8, 9, 10, 11, 12, 13, 7, 14, 15, 44, 45, 46, 47] (by decide +kernel) (by decide +kernel)
set_option maxRecDepth 20000 in
theorem gX9_resolveGoals_X8_kindAt : GoodIn wsX9_resolveGoals (wsV RX9 130 RX8 yX8_kindAt wsX8_kindAt) := goodIn_app (goodIn_of _ (by decide +kernel)) ggX9_resolveGoals_X8_kindAt
set_option maxRecDepth 20000 in
theorem ggX9_resolveGoals_X9_placeOfMark : GoodIn wsX9_resolveGoals wsX9_placeOfMark := goodIn_r _ [20, 21, 22, 23, 24, 25, 19, 26, 27, 28, 29, 30, 31, 32, 48, 49, 50, 51, 52, 53, 54, 55, 56, 57, 58, 59, 60] (by decide +kernel) (by decide +kernel)
set_option maxRecDepth 20000 in
theorem gX9_resolveGoals_X9_placeOfMark : GoodIn wsX9_resolveGoals (wsV RX9 90 RX9 yX9_placeOfMark wsX9_placeOfMark) := goodIn_app (goodIn_of _ (by decide +kernel)) ggX9_resolveGoals_X9_placeOfMark
set_option maxRecDepth 20000 in
theorem ggX9_resolveGoals_X9_fail : GoodIn wsX9_resolveGoals wsX9_fail := goodIn_r _ [36, 37, 38, 48, 49, 50, 51, 52, 53, 54, 55, 56, 57, 58, 59, 60] (by decide +kernel) (by decide +kernel)
set_option maxRecDepth 20000 in
theorem gX9_resolveGoals_X9_fail : GoodIn wsX9_resolveGoals (wsV RX9 94 RX9 yX9_fail wsX9_fail) := goodIn_app (goodIn_of _ (by decide +kernel)) ggX9_resolveGoals_X9_fail
set_option maxRecDepth 20000 in
theorem ggX9_resolveGoals_X8_setOperand : GoodIn wsX9_resolveGoals wsX8_setOperand := goodIn_r _ [42, 43, 11, 12, 13, 7, 14, 15, 44, 45, 46, 47] (by decide +kernel) (by decide +kernel)
set_option maxRecDepth 20000 in
theorem gX9_resolveGoals_X8_setOperand : GoodIn wsX9_resolveGoals (wsV RX9 134 RX8 yX8_setOperand wsX8_setOperand) := goodIn_app (goodIn_of _ (by decide +kernel)) ggX9_resolveGoals_X8_setOperand
set_option maxRecDepth 20000 in
theorem ggX9_placeOfMark_X9_sameWords : GoodIn wsX9_placeOfMark wsX9_sameWords := goodIn_r _ [7, 8, 9, 10, 6, 11, 12, 13, 14, 15, 16, 17, 18, 19, 20, 21, 22, 23, 24, 25, 26] (by decide +kernel) (by decide +kernel)
set_option maxRecDepth 20000 in
theorem gX9_placeOfMark_X9_sameWords : GoodIn wsX9_placeOfMark (wsV RX9 138 RX9 yX9_sameWords wsX9_sameWords) := goodIn_app (goodIn_of _ (by decide +kernel)) ggX9_placeOfMark_X9_sameWords
set_option maxRecDepth 20000 in
theorem ggX9_sameWords_X9_byteAt : GoodIn wsX9_sameWords wsX9_byteAt := goodIn_r _ [5, 6, 7, 8, 9, 10, 11, 12, 13, 14, 15, 16, 17, 18, 19, 20] (by decide +kernel) (by decide +kernel)
set_option maxRecDepth 20000 in
theorem gX9_sameWords_X9_byteAt : GoodIn wsX9_sameWords (wsV RX9 142 RX9 yX9_byteAt wsX9_byteAt) := goodIn_app (goodIn_of _ (by decide +kernel)) ggX9_sameWords_X9_byteAt
set_option maxRecDepth 20000 in
theorem ggX9_kindOfWord_X9_wordIs : GoodIn wsX9_kindOfWord wsX9_wordIs := goodIn_r _ [6, 7, 8, 9, 10, 11, 12, 13, 14, 15, 16, 17, 18, 19, 20, 21, 22, 23, 5, 24, 25, 26, 27, 28, 29, 30, 31, 32, 33, 34, 35, 36, 37, 38, 39, 40, 41, 42, 43, 44, 45, 46, 47, 48, 49, 50, 51, 52, 53, 54, 55, 56, 57, 58, 59, 60, 61, 62, 63, 64, 65, 66, 67, 68, 69, 70, 71, 72, 73, 74, 75, 76] (by decide +kernel) (by decide +kernel)
set_option maxRecDepth 20000 in
theorem gX9_kindOfWord_X9_wordIs : GoodIn wsX9_kindOfWord (wsV RX9 150 RX9 yX9_wordIs wsX9_wordIs) := goodIn_app (goodIn_of _ (by decide +kernel)) ggX9_kindOfWord_X9_wordIs
set_option maxRecDepth 20000 in
theorem ggX9_wordIs_J0_length_8abf5 : GoodIn wsX9_wordIs wsJ0_length_8abf5 := goodIn_r _ [7, 8, 9, 10, 11, 6, 12, 13, 14] (by decide +kernel) (by decide +kernel)
set_option maxRecDepth 20000 in
theorem gX9_wordIs_J0_length_8abf5 : GoodIn wsX9_wordIs (wsV RX9 154 RJ0 yJ0_length_8abf5 wsJ0_length_8abf5) := goodIn_app (goodIn_of _ (by decide +kernel)) ggX9_wordIs_J0_length_8abf5
set_option maxRecDepth 20000 in
theorem ggX9_wordIs_X9_byteAt : GoodIn wsX9_wordIs wsX9_byteAt := goodIn_r _ [19, 20, 21, 59, 60, 61, 62, 63, 64, 65, 66, 67, 68, 69, 70, 71] (by decide +kernel) (by decide +kernel)
set_option maxRecDepth 20000 in
theorem gX9_wordIs_X9_byteAt : GoodIn wsX9_wordIs (wsV RX9 142 RX9 yX9_byteAt wsX9_byteAt) := goodIn_app (goodIn_of _ (by decide +kernel)) ggX9_wordIs_X9_byteAt
set_option maxRecDepth 20000 in
theorem ggX9_wordIs_J0_charAt_5068e : GoodIn wsX9_wordIs wsJ0_charAt_5068e := goodIn_r _ [25, 8, 26, 27, 28, 6, 29, 13, 14, 30, 31, 32, 33, 34, 35, 36, 37, 38, 39, 40, 41, 42, 43, 44, 45, 46, 47, 48, 49, 50, 51, 52, 53, 54, 55, 56, 57, 58] (by decide +kernel) (by decide +kernel)
set_option maxRecDepth 20000 in
theorem gX9_wordIs_J0_charAt_5068e : GoodIn wsX9_wordIs (wsV RX9 158 RJ0 yJ0_charAt_5068e wsJ0_charAt_5068e) := goodIn_app (goodIn_of _ (by decide +kernel)) ggX9_wordIs_J0_charAt_5068e
set_option maxRecDepth 20000 in
theorem ggX9_tokenNumber_X9_byteAt : GoodIn wsX9_tokenNumber wsX9_byteAt := goodIn_r _ [7, 8, 9, 10, 11, 12, 13, 14, 15, 16, 17, 18, 19, 20, 21, 22] (by decide +kernel) (by decide +kernel)
set_option maxRecDepth 20000 in
theorem gX9_tokenNumber_X9_byteAt : GoodIn wsX9_tokenNumber (wsV RX9 142 RX9 yX9_byteAt wsX9_byteAt) := goodIn_app (goodIn_of _ (by decide +kernel)) ggX9_tokenNumber_X9_byteAt
set_option maxRecDepth 20000 in
theorem ggX9_advance_X9_byteAt : GoodIn wsX9_advance wsX9_byteAt := goodIn_r _ [9, 2, 10, 20, 21, 22, 23, 24, 25, 26, 27, 28, 29, 30, 31, 32] (by decide +kernel) (by decide +kernel)
set_option maxRecDepth 20000 in
theorem gX9_advance_X9_byteAt : GoodIn wsX9_advance (wsV RX9 142 RX9 yX9_byteAt wsX9_byteAt) := goodIn_app (goodIn_of _ (by decide +kernel)) ggX9_advance_X9_byteAt
set_option maxRecDepth 20000 in
theorem ggX9_advance_X9_isBlank : GoodIn wsX9_advance wsX9_isBlank := goodIn_r _ [13] (by decide +kernel) (by decide +kernel)
set_option maxRecDepth 20000 in
theorem gX9_advance_X9_isBlank : GoodIn wsX9_advance (va_wsS RX9 162 yX9_isBlank wsX9_isBlank) := goodIn_app (goodIn_of _ (by decide +kernel)) ggX9_advance_X9_isBlank
set_option maxRecDepth 20000 in
theorem ggX9_advance_X9_isLetter : GoodIn wsX9_advance wsX9_isLetter := goodIn_r _ [16] (by decide +kernel) (by decide +kernel)
set_option maxRecDepth 20000 in
theorem gX9_advance_X9_isLetter : GoodIn wsX9_advance (va_wsS RX9 166 yX9_isLetter wsX9_isLetter) := goodIn_app (goodIn_of _ (by decide +kernel)) ggX9_advance_X9_isLetter
set_option maxRecDepth 20000 in
theorem ggX9_advance_X9_isDigit : GoodIn wsX9_advance wsX9_isDigit := goodIn_r _ [19] (by decide +kernel) (by decide +kernel)
set_option maxRecDepth 20000 in
theorem gX9_advance_X9_isDigit : GoodIn wsX9_advance (va_wsS RX9 169 yX9_isDigit wsX9_isDigit) := goodIn_app (goodIn_of _ (by decide +kernel)) ggX9_advance_X9_isDigit
set_option maxRecDepth 20000 in
theorem ggX10_init_X1_init : GoodIn wsX10_init wsX1_init := goodIn_r _ [13, 14, 15, 16] (by decide +kernel) (by decide +kernel)
set_option maxRecDepth 20000 in
theorem gX10_init_X1_init_n3 : GoodIn wsX10_init (wsX1_init) := ggX10_init_X1_init
set_option maxRecDepth 20000 in
theorem ggX10_begin_J7_fill_53178 : GoodIn wsX10_begin wsJ7_fill_53178 := goodIn_r _ [11] (by decide +kernel) (by decide +kernel)
set_option maxRecDepth 20000 in
theorem gX10_begin_J7_fill_53178 : GoodIn wsX10_begin (va_wsS RX10 38 yJ7_fill_53178 wsJ7_fill_53178) := goodIn_app (goodIn_of _ (by decide +kernel)) ggX10_begin_J7_fill_53178
set_option maxRecDepth 20000 in
theorem ggX10_price_X10_isPlace : GoodIn wsX10_price wsX10_isPlace := goodIn_r _ [5] (by decide +kernel) (by decide +kernel)
set_option maxRecDepth 20000 in
theorem gX10_price_X10_isPlace : GoodIn wsX10_price (va_wsS RX10 44 yX10_isPlace wsX10_isPlace) := goodIn_app (goodIn_of _ (by decide +kernel)) ggX10_price_X10_isPlace
set_option maxRecDepth 20000 in
theorem ggX10_price_X10_write : GoodIn wsX10_price wsX10_write := goodIn_r _ [9, 10, 11, 12, 13, 2, 3, 4, 5, 34, 35, 36, 37, 38, 39, 40, 41] (by decide +kernel) (by decide +kernel)
set_option maxRecDepth 20000 in
theorem gX10_price_X10_write : GoodIn wsX10_price (wsV RX10 48 RX10 yX10_write wsX10_write) := goodIn_app (goodIn_of _ (by decide +kernel)) ggX10_price_X10_write
