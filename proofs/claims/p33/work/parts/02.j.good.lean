set_option maxRecDepth 20000 in
theorem ggX8_addPiece_X8_isLabel : GoodIn wsX8_addPiece wsX8_isLabel := goodIn_r _ [14, 9, 10, 7, 11] (by decide +kernel) (by decide +kernel)
set_option maxRecDepth 20000 in
theorem gX8_addPiece_X8_isLabel : GoodIn wsX8_addPiece (va_wsS RX8 112 yX8_isLabel wsX8_isLabel) := goodIn_app (goodIn_of _ (by decide +kernel)) ggX8_addPiece_X8_isLabel
set_option maxRecDepth 20000 in
theorem ggX8_addPiece_X8_isIn : GoodIn wsX8_addPiece wsX8_isIn := goodIn_r _ [11] (by decide +kernel) (by decide +kernel)
set_option maxRecDepth 20000 in
theorem gX8_addPiece_X8_isIn : GoodIn wsX8_addPiece (va_wsS RX8 39 yX8_isIn wsX8_isIn) := goodIn_app (goodIn_of _ (by decide +kernel)) ggX8_addPiece_X8_isIn
set_option maxRecDepth 20000 in
theorem ggX8_addPiece_X8_isTown : GoodIn wsX8_addPiece wsX8_isTown := goodIn_r _ [17, 9, 10, 7, 11] (by decide +kernel) (by decide +kernel)
set_option maxRecDepth 20000 in
theorem gX8_addPiece_X8_isTown : GoodIn wsX8_addPiece (va_wsS RX8 79 yX8_isTown wsX8_isTown) := goodIn_app (goodIn_of _ (by decide +kernel)) ggX8_addPiece_X8_isTown
set_option maxRecDepth 20000 in
theorem ggX8_addPiece_X4_init : GoodIn wsX8_addPiece wsX4_init := goodIn_r _ [20, 21, 22, 23, 24, 25, 26, 27, 28, 29, 30, 31, 51, 52, 53, 54, 55, 56, 57, 58, 59, 60, 61, 62] (by decide +kernel) (by decide +kernel)
set_option maxRecDepth 20000 in
theorem gX8_addPiece_X4_init : GoodIn wsX8_addPiece (wsX4_init) := ggX8_addPiece_X4_init
set_option maxRecDepth 20000 in
theorem ggX8_addPiece_X2_keep : GoodIn wsX8_addPiece wsX2_keep := goodIn_r _ [36, 37, 38, 43, 44, 45, 46, 47, 48, 49, 50, 51, 52, 53, 54, 55, 56, 57, 58, 59, 60, 61, 62] (by decide +kernel) (by decide +kernel)
set_option maxRecDepth 20000 in
theorem gX8_addPiece_X2_keep : GoodIn wsX8_addPiece (wsV RX8 325 RX2 yX2_keep wsX2_keep) := goodIn_app (goodIn_of _ (by decide +kernel)) ggX8_addPiece_X2_keep
set_option maxRecDepth 20000 in
theorem ggX8_isBookingAsTold_X8_isLabel : GoodIn wsX8_isBookingAsTold wsX8_isLabel := goodIn_r _ [4, 5, 6, 3, 7] (by decide +kernel) (by decide +kernel)
set_option maxRecDepth 20000 in
theorem gX8_isBookingAsTold_X8_isLabel : GoodIn wsX8_isBookingAsTold (va_wsS RX8 112 yX8_isLabel wsX8_isLabel) := goodIn_app (goodIn_of _ (by decide +kernel)) ggX8_isBookingAsTold_X8_isLabel
set_option maxRecDepth 20000 in
theorem ggX8_isBookingAsTold_X8_isIn : GoodIn wsX8_isBookingAsTold wsX8_isIn := goodIn_r _ [7] (by decide +kernel) (by decide +kernel)
set_option maxRecDepth 20000 in
theorem gX8_isBookingAsTold_X8_isIn : GoodIn wsX8_isBookingAsTold (va_wsS RX8 39 yX8_isIn wsX8_isIn) := goodIn_app (goodIn_of _ (by decide +kernel)) ggX8_isBookingAsTold_X8_isIn
set_option maxRecDepth 20000 in
theorem ggX8_isBookingAsTold_X8_isTown : GoodIn wsX8_isBookingAsTold wsX8_isTown := goodIn_r _ [10, 5, 6, 3, 7] (by decide +kernel) (by decide +kernel)
set_option maxRecDepth 20000 in
theorem gX8_isBookingAsTold_X8_isTown : GoodIn wsX8_isBookingAsTold (va_wsS RX8 79 yX8_isTown wsX8_isTown) := goodIn_app (goodIn_of _ (by decide +kernel)) ggX8_isBookingAsTold_X8_isTown
set_option maxRecDepth 20000 in
theorem ggX8_isBookingAsTold_X8_isDay : GoodIn wsX8_isBookingAsTold wsX8_isDay := goodIn_r _ [13, 5, 6, 3, 7] (by decide +kernel) (by decide +kernel)
set_option maxRecDepth 20000 in
theorem gX8_isBookingAsTold_X8_isDay : GoodIn wsX8_isBookingAsTold (va_wsS RX8 160 yX8_isDay wsX8_isDay) := goodIn_app (goodIn_of _ (by decide +kernel)) ggX8_isBookingAsTold_X8_isDay
set_option maxRecDepth 20000 in
theorem ggX8_isBookingOnSheet_X5_get : GoodIn wsX8_isBookingOnSheet wsX5_get := goodIn_r _ [5, 6, 23, 24, 25, 26] (by decide +kernel) (by decide +kernel)
set_option maxRecDepth 20000 in
theorem gX8_isBookingOnSheet_X5_get : GoodIn wsX8_isBookingOnSheet (wsV RX8 328 RX5 yX5_get wsX5_get) := goodIn_app (goodIn_of _ (by decide +kernel)) ggX8_isBookingOnSheet_X5_get
set_option maxRecDepth 20000 in
theorem ggX8_isBookingOnSheet_X8_isBookingAsTold : GoodIn wsX8_isBookingOnSheet wsX8_isBookingAsTold := goodIn_r _ [10, 11, 12, 9, 13, 14, 15, 16, 17, 18, 19, 20, 21, 22] (by decide +kernel) (by decide +kernel)
set_option maxRecDepth 20000 in
theorem gX8_isBookingOnSheet_X8_isBookingAsTold : GoodIn wsX8_isBookingOnSheet (va_wsS RX8 142 yX8_isBookingAsTold wsX8_isBookingAsTold) := goodIn_app (goodIn_of _ (by decide +kernel)) ggX8_isBookingOnSheet_X8_isBookingAsTold
set_option maxRecDepth 20000 in
theorem ggX8_addBookingOnSheet_X5_get : GoodIn wsX8_addBookingOnSheet wsX5_get := goodIn_r _ [6, 7, 41, 42, 43, 44] (by decide +kernel) (by decide +kernel)
set_option maxRecDepth 20000 in
theorem gX8_addBookingOnSheet_X5_get : GoodIn wsX8_addBookingOnSheet (wsV RX8 328 RX5 yX5_get wsX5_get) := goodIn_app (goodIn_of _ (by decide +kernel)) ggX8_addBookingOnSheet_X5_get
set_option maxRecDepth 20000 in
theorem ggX8_addBookingOnSheet_X2_addBooking : GoodIn wsX8_addBookingOnSheet wsX2_addBooking := goodIn_r _ [12, 13, 14, 15, 16, 17, 18, 19, 20, 11, 21, 22, 23, 24, 25, 26, 27, 28, 29, 30, 31, 32, 33, 34, 35, 36, 45, 46, 47, 48, 49, 50, 51, 52, 53, 54, 55, 56, 57, 58, 59, 60, 61, 62, 63, 64, 65, 66] (by decide +kernel) (by decide +kernel)
set_option maxRecDepth 20000 in
theorem gX8_addBookingOnSheet_X2_addBooking : GoodIn wsX8_addBookingOnSheet (wsV RX8 149 RX2 yX2_addBooking wsX2_addBooking) := goodIn_app (goodIn_of _ (by decide +kernel)) ggX8_addBookingOnSheet_X2_addBooking
set_option maxRecDepth 20000 in
theorem ggX9_type_X9_in : GoodIn wsX9_type wsX9_in := goodIn_r _ [10] (by decide +kernel) (by decide +kernel)
set_option maxRecDepth 20000 in
theorem gX9_type_X9_in : GoodIn wsX9_type (va_wsS RX9 148 yX9_in wsX9_in) := goodIn_app (goodIn_of _ (by decide +kernel)) ggX9_type_X9_in
set_option maxRecDepth 20000 in
theorem ggX9_number_X9_next : GoodIn wsX9_number wsX9_next := goodIn_r _ [10, 1, 2, 3, 14, 15, 16, 17, 18, 19, 20, 21, 22, 23, 24, 25, 26, 27, 28, 29, 30, 31, 32, 33, 34, 35, 36, 37, 38, 39, 40, 41, 42, 43, 44, 45, 46, 47, 48, 49, 50, 51, 52, 53, 54, 55, 56, 57, 58, 59, 60, 61, 62, 63, 64] (by decide +kernel) (by decide +kernel)
set_option maxRecDepth 20000 in
theorem gX9_number_X9_next : GoodIn wsX9_number (wsV RX9 165 RX9 yX9_next wsX9_next) := goodIn_app (goodIn_of _ (by decide +kernel)) ggX9_number_X9_next
set_option maxRecDepth 20000 in
theorem ggX9_number_X9_in : GoodIn wsX9_number wsX9_in := goodIn_r _ [13] (by decide +kernel) (by decide +kernel)
set_option maxRecDepth 20000 in
theorem gX9_number_X9_in : GoodIn wsX9_number (va_wsS RX9 148 yX9_in wsX9_in) := goodIn_app (goodIn_of _ (by decide +kernel)) ggX9_number_X9_in
set_option maxRecDepth 20000 in
theorem ggX9_readAll_X9_next : GoodIn wsX9_readAll wsX9_next := goodIn_r _ [9, 1, 10, 11, 26, 27, 28, 29, 30, 31, 32, 33, 34, 35, 36, 37, 38, 39, 40, 41, 42, 43, 44, 45, 46, 47, 48, 49, 50, 51, 52, 53, 54, 55, 56, 57, 58, 59, 60, 61, 62, 63, 64, 65, 66, 67, 68, 69, 70, 71, 72, 73, 74, 75, 76] (by decide +kernel) (by decide +kernel)
set_option maxRecDepth 20000 in
theorem gX9_readAll_X9_next : GoodIn wsX9_readAll (wsV RX9 165 RX9 yX9_next wsX9_next) := goodIn_app (goodIn_of _ (by decide +kernel)) ggX9_readAll_X9_next
set_option maxRecDepth 20000 in
theorem ggX9_readAll_X9_termOf : GoodIn wsX9_readAll wsX9_termOf := goodIn_r _ [15, 16, 26, 27, 28, 29, 30, 31, 32, 33, 34, 35, 36, 37, 38, 39, 40, 41, 42, 43, 44, 45, 46, 47, 48, 49, 50, 51, 52, 53, 54, 55, 56, 57, 58, 59, 60, 61, 62, 63, 64, 65, 66, 67, 68, 69, 70, 71, 72, 73, 74, 75, 76] (by decide +kernel) (by decide +kernel)
set_option maxRecDepth 20000 in
theorem gX9_readAll_X9_termOf : GoodIn wsX9_readAll (wsV RX9 173 RX9 yX9_termOf wsX9_termOf) := goodIn_app (goodIn_of _ (by decide +kernel)) ggX9_readAll_X9_termOf
set_option maxRecDepth 20000 in
theorem ggX9_readAll_X9_number : GoodIn wsX9_readAll wsX9_number := goodIn_r _ [20, 1, 10, 11, 21, 22, 5, 6, 7, 8, 9, 23, 24, 25, 26, 27, 28, 29, 30, 31, 32, 33, 34, 35, 36, 37, 38, 39, 40, 41, 42, 43, 44, 45, 46, 47, 48, 49, 50, 51, 52, 53, 54, 55, 56, 57, 58, 59, 60, 61, 62, 63, 64, 65, 66, 67, 68, 69, 70, 71, 72, 73, 74, 75, 76] (by decide +kernel) (by decide +kernel)
set_option maxRecDepth 20000 in
theorem gX9_readAll_X9_number : GoodIn wsX9_readAll (wsV RX9 177 RX9 yX9_number wsX9_number) := goodIn_app (goodIn_of _ (by decide +kernel)) ggX9_readAll_X9_number
set_option maxRecDepth 20000 in
theorem ggX9_terms_X9_readAll : GoodIn wsX9_terms wsX9_readAll := goodIn_r _ [9, 2, 4, 3, 10, 11, 12, 13, 8, 14, 1, 15, 16, 17, 18, 19, 20, 21, 22, 23, 24, 25, 26, 27, 28, 29, 30, 31, 32, 33, 34, 35, 36, 37, 38, 39, 40, 41, 42, 43, 44, 45, 46, 47, 48, 49, 50, 51, 52, 53, 54, 55, 56, 57, 58, 59, 60, 61, 62, 63, 64, 65, 66, 67, 68, 69, 70, 71, 72, 73, 74, 75, 76, 77, 78, 79, 80] (by decide +kernel) (by decide +kernel)
set_option maxRecDepth 20000 in
theorem gX9_terms_X9_readAll : GoodIn wsX9_terms (wsV RX9 180 RX9 yX9_readAll wsX9_readAll) := goodIn_app (goodIn_of _ (by decide +kernel)) ggX9_terms_X9_readAll
set_option maxRecDepth 20000 in
theorem ggX9_term_X9_termOf : GoodIn wsX9_term wsX9_termOf := goodIn_r _ [6, 7, 8, 9, 10, 11, 12, 13, 14, 15, 16, 17, 18, 19, 20, 21, 22, 23, 24, 25, 26, 27, 28, 29, 30, 31, 32, 33, 34, 35, 36, 37, 38, 39, 40, 41, 42, 43, 44, 45, 46, 47, 48, 49, 50, 51, 52, 53, 54, 55, 56, 57, 58] (by decide +kernel) (by decide +kernel)
set_option maxRecDepth 20000 in
theorem gX9_term_X9_termOf : GoodIn wsX9_term (wsV RX9 173 RX9 yX9_termOf wsX9_termOf) := goodIn_app (goodIn_of _ (by decide +kernel)) ggX9_term_X9_termOf
set_option maxRecDepth 20000 in
theorem ggX9_isTown_X9_in : GoodIn wsX9_isTown wsX9_in := goodIn_r _ [5] (by decide +kernel) (by decide +kernel)
set_option maxRecDepth 20000 in
theorem gX9_isTown_X9_in : GoodIn wsX9_isTown (va_wsS RX9 148 yX9_in wsX9_in) := goodIn_app (goodIn_of _ (by decide +kernel)) ggX9_isTown_X9_in
set_option maxRecDepth 20000 in
theorem ggX9_post_X9_isTown : GoodIn wsX9_post wsX9_isTown := goodIn_r _ [6, 7, 8, 9, 5, 10] (by decide +kernel) (by decide +kernel)
set_option maxRecDepth 20000 in
theorem gX9_post_X9_isTown : GoodIn wsX9_post (va_wsS RX9 183 yX9_isTown wsX9_isTown) := goodIn_app (goodIn_of _ (by decide +kernel)) ggX9_post_X9_isTown
set_option maxRecDepth 20000 in
theorem ggX9_post_X9_in : GoodIn wsX9_post wsX9_in := goodIn_r _ [10] (by decide +kernel) (by decide +kernel)
set_option maxRecDepth 20000 in
theorem gX9_post_X9_in : GoodIn wsX9_post (va_wsS RX9 148 yX9_in wsX9_in) := goodIn_app (goodIn_of _ (by decide +kernel)) ggX9_post_X9_in
set_option maxRecDepth 20000 in
theorem ggX9_isMaker_X9_in : GoodIn wsX9_isMaker wsX9_in := goodIn_r _ [5] (by decide +kernel) (by decide +kernel)
set_option maxRecDepth 20000 in
theorem gX9_isMaker_X9_in : GoodIn wsX9_isMaker (va_wsS RX9 148 yX9_in wsX9_in) := goodIn_app (goodIn_of _ (by decide +kernel)) ggX9_isMaker_X9_in
set_option maxRecDepth 20000 in
theorem ggX9_isLabel_X9_in : GoodIn wsX9_isLabel wsX9_in := goodIn_r _ [5] (by decide +kernel) (by decide +kernel)
set_option maxRecDepth 20000 in
theorem gX9_isLabel_X9_in : GoodIn wsX9_isLabel (va_wsS RX9 148 yX9_in wsX9_in) := goodIn_app (goodIn_of _ (by decide +kernel)) ggX9_isLabel_X9_in
set_option maxRecDepth 20000 in
theorem ggX9_add_X9_isMaker : GoodIn wsX9_add wsX9_isMaker := goodIn_r _ [15, 16, 17, 18, 14, 19] (by decide +kernel) (by decide +kernel)
set_option maxRecDepth 20000 in
theorem gX9_add_X9_isMaker : GoodIn wsX9_add (va_wsS RX9 193 yX9_isMaker wsX9_isMaker) := goodIn_app (goodIn_of _ (by decide +kernel)) ggX9_add_X9_isMaker
set_option maxRecDepth 20000 in
theorem ggX9_add_X9_isLabel : GoodIn wsX9_add wsX9_isLabel := goodIn_r _ [22, 23, 17, 18, 14, 19] (by decide +kernel) (by decide +kernel)
set_option maxRecDepth 20000 in
theorem gX9_add_X9_isLabel : GoodIn wsX9_add (va_wsS RX9 196 yX9_isLabel wsX9_isLabel) := goodIn_app (goodIn_of _ (by decide +kernel)) ggX9_add_X9_isLabel
set_option maxRecDepth 20000 in
theorem ggX9_add_X9_in : GoodIn wsX9_add wsX9_in := goodIn_r _ [19] (by decide +kernel) (by decide +kernel)
set_option maxRecDepth 20000 in
theorem gX9_add_X9_in : GoodIn wsX9_add (va_wsS RX9 148 yX9_in wsX9_in) := goodIn_app (goodIn_of _ (by decide +kernel)) ggX9_add_X9_in
set_option maxRecDepth 20000 in
theorem ggX9_add_X9_isTown : GoodIn wsX9_add wsX9_isTown := goodIn_r _ [26, 27, 17, 18, 14, 19] (by decide +kernel) (by decide +kernel)
set_option maxRecDepth 20000 in
theorem gX9_add_X9_isTown : GoodIn wsX9_add (va_wsS RX9 183 yX9_isTown wsX9_isTown) := goodIn_app (goodIn_of _ (by decide +kernel)) ggX9_add_X9_isTown
set_option maxRecDepth 20000 in
theorem ggX9_gown_X9_add : GoodIn wsX9_gown wsX9_add := goodIn_r _ [5, 6, 7, 8, 9, 10, 11, 12, 13, 14, 15, 16, 17, 18, 4, 19, 20, 21, 22, 23, 24, 25, 26, 27, 28, 29, 30, 31, 32, 33, 34, 35, 36, 37, 38, 39, 40, 41, 42, 43, 44, 45, 46, 47, 48, 49, 50, 51, 52, 53, 54, 55, 56, 57, 58, 59, 60, 61, 62, 63, 64, 65, 66, 67, 68, 69, 70, 71, 72, 73, 74, 75, 76, 77, 78, 79, 80, 81, 82] (by decide +kernel) (by decide +kernel)
set_option maxRecDepth 20000 in
theorem gX9_gown_X9_add : GoodIn wsX9_gown (wsV RX9 206 RX9 yX9_add wsX9_add) := goodIn_app (goodIn_of _ (by decide +kernel)) ggX9_gown_X9_add
set_option maxRecDepth 20000 in
theorem ggX9_longGown_X9_add : GoodIn wsX9_longGown wsX9_add := goodIn_r _ [5, 6, 7, 8, 9, 10, 11, 12, 13, 14, 15, 16, 17, 18, 4, 19, 20, 21, 22, 23, 24, 25, 26, 27, 28, 29, 30, 31, 32, 33, 34, 35, 36, 37, 38, 39, 40, 41, 42, 43, 44, 45, 46, 47, 48, 49, 50, 51, 52, 53, 54, 55, 56, 57, 58, 59, 60, 61, 62, 63, 64, 65, 66, 67, 68, 69, 70, 71, 72, 73, 74, 75, 76, 77, 78, 79, 80, 81, 82] (by decide +kernel) (by decide +kernel)
set_option maxRecDepth 20000 in
theorem gX9_longGown_X9_add : GoodIn wsX9_longGown (wsV RX9 206 RX9 yX9_add wsX9_add) := goodIn_app (goodIn_of _ (by decide +kernel)) ggX9_longGown_X9_add
set_option maxRecDepth 20000 in
theorem ggX9_suit_X9_add : GoodIn wsX9_suit wsX9_add := goodIn_r _ [5, 6, 7, 8, 9, 10, 11, 12, 13, 14, 15, 16, 17, 18, 4, 19, 20, 21, 22, 23, 24, 25, 26, 27, 28, 29, 30, 31, 32, 33, 34, 35, 36, 37, 38, 39, 40, 41, 42, 43, 44, 45, 46, 47, 48, 49, 50, 51, 52, 53, 54, 55, 56, 57, 58, 59, 60, 61, 62, 63, 64, 65, 66, 67, 68, 69, 70, 71, 72, 73, 74, 75, 76, 77, 78, 79, 80, 81, 82] (by decide +kernel) (by decide +kernel)
set_option maxRecDepth 20000 in
theorem gX9_suit_X9_add : GoodIn wsX9_suit (wsV RX9 206 RX9 yX9_add wsX9_add) := goodIn_app (goodIn_of _ (by decide +kernel)) ggX9_suit_X9_add
set_option maxRecDepth 20000 in
theorem ggX9_isPiece_X9_in : GoodIn wsX9_isPiece wsX9_in := goodIn_r _ [5] (by decide +kernel) (by decide +kernel)
set_option maxRecDepth 20000 in
theorem gX9_isPiece_X9_in : GoodIn wsX9_isPiece (va_wsS RX9 148 yX9_in wsX9_in) := goodIn_app (goodIn_of _ (by decide +kernel)) ggX9_isPiece_X9_in
set_option maxRecDepth 20000 in
theorem ggX9_hem_X9_isPiece : GoodIn wsX9_hem wsX9_isPiece := goodIn_r _ [8, 9, 10, 11, 7, 12, 13, 14, 15, 16, 17, 18, 19, 20, 21, 22, 23, 24, 25, 26, 27, 28, 29, 30, 31, 32, 33, 34, 35, 36, 37, 38, 39, 40, 41, 42, 43, 44, 45, 46, 47, 48, 49, 50, 51, 52, 53, 54, 55, 56, 57, 58, 59, 60, 61, 62, 63] (by decide +kernel) (by decide +kernel)
set_option maxRecDepth 20000 in
theorem gX9_hem_X9_isPiece : GoodIn wsX9_hem (wsV RX9 210 RX9 yX9_isPiece wsX9_isPiece) := goodIn_app (goodIn_of _ (by decide +kernel)) ggX9_hem_X9_isPiece
set_option maxRecDepth 20000 in
theorem ggX9_hem_X9_in : GoodIn wsX9_hem wsX9_in := goodIn_r _ [12] (by decide +kernel) (by decide +kernel)
set_option maxRecDepth 20000 in
theorem gX9_hem_X9_in : GoodIn wsX9_hem (va_wsS RX9 148 yX9_in wsX9_in) := goodIn_app (goodIn_of _ (by decide +kernel)) ggX9_hem_X9_in
set_option maxRecDepth 20000 in
theorem ggX9_told_X9_isPiece : GoodIn wsX9_told wsX9_isPiece := goodIn_r _ [14, 15, 16, 17, 13, 18, 29, 30, 31, 32, 33, 34, 35, 36, 37, 38, 39, 40, 41, 42, 43, 44, 45, 46, 47, 48, 49, 50, 51, 52, 53, 54, 55, 56, 57, 58, 59, 60, 61, 62, 63, 64, 65, 66, 67, 68, 69, 70, 71, 72, 73, 74, 75, 76, 77, 78, 79] (by decide +kernel) (by decide +kernel)
set_option maxRecDepth 20000 in
theorem gX9_told_X9_isPiece : GoodIn wsX9_told (wsV RX9 210 RX9 yX9_isPiece wsX9_isPiece) := goodIn_app (goodIn_of _ (by decide +kernel)) ggX9_told_X9_isPiece
set_option maxRecDepth 20000 in
theorem ggX9_told_X9_worthOf : GoodIn wsX9_told wsX9_worthOf := goodIn_r _ [22, 23, 7, 6, 29, 30, 31, 32, 33, 34, 35, 36, 37, 38, 39, 40, 41, 42, 43, 44, 45, 46, 47, 48, 49, 50, 51, 52, 53, 54, 55, 56, 57, 58, 59, 60, 61, 62, 63, 64, 65, 66, 67, 68, 69, 70, 71, 72, 73, 74, 75, 76, 77, 78, 79] (by decide +kernel) (by decide +kernel)
set_option maxRecDepth 20000 in
theorem gX9_told_X9_worthOf : GoodIn wsX9_told (wsV RX9 215 RX9 yX9_worthOf wsX9_worthOf) := goodIn_app (goodIn_of _ (by decide +kernel)) ggX9_told_X9_worthOf
set_option maxRecDepth 20000 in
theorem ggX9_told_X9_isRetired : GoodIn wsX9_told wsX9_isRetired := goodIn_r _ [27, 28, 7, 23, 29, 30, 31, 32, 33, 34, 35, 36, 37, 38, 39, 40, 41, 42, 43, 44, 45, 46, 47, 48, 49, 50, 51, 52, 53, 54, 55, 56, 57, 58, 59, 60, 61, 62, 63, 64, 65, 66, 67, 68, 69, 70, 71, 72, 73, 74, 75, 76, 77, 78, 79] (by decide +kernel) (by decide +kernel)
set_option maxRecDepth 20000 in
theorem gX9_told_X9_isRetired : GoodIn wsX9_told (wsV RX9 218 RX9 yX9_isRetired wsX9_isRetired) := goodIn_app (goodIn_of _ (by decide +kernel)) ggX9_told_X9_isRetired
set_option maxRecDepth 20000 in
theorem ggX9_same_X9_isMaker : GoodIn wsX9_same wsX9_isMaker := goodIn_r _ [9, 10, 11, 12, 8, 13] (by decide +kernel) (by decide +kernel)
set_option maxRecDepth 20000 in
theorem gX9_same_X9_isMaker : GoodIn wsX9_same (va_wsS RX9 193 yX9_isMaker wsX9_isMaker) := goodIn_app (goodIn_of _ (by decide +kernel)) ggX9_same_X9_isMaker
set_option maxRecDepth 20000 in
theorem ggX9_same_X9_isLabel : GoodIn wsX9_same wsX9_isLabel := goodIn_r _ [16, 17, 11, 12, 8, 13] (by decide +kernel) (by decide +kernel)
set_option maxRecDepth 20000 in
theorem gX9_same_X9_isLabel : GoodIn wsX9_same (va_wsS RX9 196 yX9_isLabel wsX9_isLabel) := goodIn_app (goodIn_of _ (by decide +kernel)) ggX9_same_X9_isLabel
set_option maxRecDepth 20000 in
theorem ggX9_findLies_X9_clearLies : GoodIn wsX9_findLies wsX9_clearLies := goodIn_r _ [13, 7, 8, 18, 19, 20, 21, 22, 23, 24, 25, 26, 27, 28, 29, 30, 31, 32, 33, 34, 35, 36, 37, 38, 39, 40, 41, 42, 43, 44, 45, 46, 47, 48, 49, 50, 51, 52, 53, 54, 55, 56, 57, 58, 59, 60, 61, 62, 63, 64, 65, 66, 67, 68] (by decide +kernel) (by decide +kernel)
set_option maxRecDepth 20000 in
theorem gX9_findLies_X9_clearLies : GoodIn wsX9_findLies (wsV RX9 224 RX9 yX9_clearLies wsX9_clearLies) := goodIn_app (goodIn_of _ (by decide +kernel)) ggX9_findLies_X9_clearLies
set_option maxRecDepth 20000 in
theorem ggX9_findLies_X9_bind : GoodIn wsX9_findLies wsX9_bind := goodIn_r _ [17, 7, 8, 18, 19, 20, 21, 22, 23, 24, 25, 26, 27, 28, 29, 30, 31, 32, 33, 34, 35, 36, 37, 38, 39, 40, 41, 42, 43, 44, 45, 46, 47, 48, 49, 50, 51, 52, 53, 54, 55, 56, 57, 58, 59, 60, 61, 62, 63, 64, 65, 66, 67, 68] (by decide +kernel) (by decide +kernel)
set_option maxRecDepth 20000 in
theorem gX9_findLies_X9_bind : GoodIn wsX9_findLies (wsV RX9 231 RX9 yX9_bind wsX9_bind) := goodIn_app (goodIn_of _ (by decide +kernel)) ggX9_findLies_X9_bind
set_option maxRecDepth 20000 in
theorem ggX9_lie_X9_isMaker : GoodIn wsX9_lie wsX9_isMaker := goodIn_r _ [6, 7, 8, 9, 5, 10] (by decide +kernel) (by decide +kernel)
set_option maxRecDepth 20000 in
theorem gX9_lie_X9_isMaker : GoodIn wsX9_lie (va_wsS RX9 193 yX9_isMaker wsX9_isMaker) := goodIn_app (goodIn_of _ (by decide +kernel)) ggX9_lie_X9_isMaker
set_option maxRecDepth 20000 in
theorem ggX9_lie_X9_in : GoodIn wsX9_lie wsX9_in := goodIn_r _ [10] (by decide +kernel) (by decide +kernel)
set_option maxRecDepth 20000 in
theorem gX9_lie_X9_in : GoodIn wsX9_lie (va_wsS RX9 148 yX9_in wsX9_in) := goodIn_app (goodIn_of _ (by decide +kernel)) ggX9_lie_X9_in
set_option maxRecDepth 20000 in
theorem ggX9_lie_X9_findLies : GoodIn wsX9_lie wsX9_findLies := goodIn_r _ [14, 15, 16, 17, 18, 19, 20, 1, 2, 21, 22, 23, 5, 24, 25, 26, 27, 28, 29, 30, 31, 32, 33, 34, 35, 36, 37, 38, 39, 40, 41, 42, 43, 44, 45, 46, 47, 48, 49, 50, 51, 52, 53, 54, 55, 56, 57, 58, 59, 60, 61, 62, 63, 64, 65, 66, 67, 68, 69, 70, 71, 72, 73, 74, 75, 76, 77, 78, 79] (by decide +kernel) (by decide +kernel)
set_option maxRecDepth 20000 in
theorem gX9_lie_X9_findLies : GoodIn wsX9_lie (wsV RX9 235 RX9 yX9_findLies wsX9_findLies) := goodIn_app (goodIn_of _ (by decide +kernel)) ggX9_lie_X9_findLies
set_option maxRecDepth 20000 in
theorem ggX9_quarrel_X9_findLies : GoodIn wsX9_quarrel wsX9_findLies := goodIn_r _ [6, 1, 7, 8, 9, 10, 11, 12, 13, 14, 15, 16, 5, 17, 18, 19, 20, 21, 22, 23, 24, 25, 26, 27, 28, 29, 30, 31, 32, 33, 34, 35, 36, 37, 38, 39, 40, 41, 42, 43, 44, 45, 46, 47, 48, 49, 50, 51, 52, 53, 54, 55, 56, 57, 58, 59, 60, 61, 62, 63, 64, 65, 66, 67, 68, 69, 70, 71, 72] (by decide +kernel) (by decide +kernel)
set_option maxRecDepth 20000 in
theorem gX9_quarrel_X9_findLies : GoodIn wsX9_quarrel (wsV RX9 235 RX9 yX9_findLies wsX9_findLies) := goodIn_app (goodIn_of _ (by decide +kernel)) ggX9_quarrel_X9_findLies
set_option maxRecDepth 20000 in
theorem ggX9_fitOf_X9_size : GoodIn wsX9_fitOf wsX9_size := goodIn_r _ [11] (by decide +kernel) (by decide +kernel)
set_option maxRecDepth 20000 in
theorem gX9_fitOf_X9_size : GoodIn wsX9_fitOf (va_wsS RX9 238 yX9_size wsX9_size) := goodIn_app (goodIn_of _ (by decide +kernel)) ggX9_fitOf_X9_size
set_option maxRecDepth 20000 in
theorem ggX9_fits_X9_isPiece : GoodIn wsX9_fits wsX9_isPiece := goodIn_r _ [7, 8, 9, 10, 6, 11, 44, 45, 46, 47, 48, 49, 50, 51, 52, 53, 54, 55, 56, 57, 58, 59, 60, 61, 62, 63, 64, 65, 66, 67, 68, 69, 70, 71, 72, 73, 74, 75, 76, 77, 78, 79, 80, 81, 82, 83, 84, 85, 86, 87, 88, 89, 90, 91, 92, 93, 94] (by decide +kernel) (by decide +kernel)
set_option maxRecDepth 20000 in
theorem gX9_fits_X9_isPiece : GoodIn wsX9_fits (wsV RX9 210 RX9 yX9_isPiece wsX9_isPiece) := goodIn_app (goodIn_of _ (by decide +kernel)) ggX9_fits_X9_isPiece
set_option maxRecDepth 20000 in
theorem ggX9_fits_X9_in : GoodIn wsX9_fits wsX9_in := goodIn_r _ [11] (by decide +kernel) (by decide +kernel)
set_option maxRecDepth 20000 in
theorem gX9_fits_X9_in : GoodIn wsX9_fits (va_wsS RX9 148 yX9_in wsX9_in) := goodIn_app (goodIn_of _ (by decide +kernel)) ggX9_fits_X9_in
set_option maxRecDepth 20000 in
theorem ggX9_fits_X9_findLies : GoodIn wsX9_fits wsX9_findLies := goodIn_r _ [15, 16, 17, 18, 19, 20, 21, 22, 23, 24, 25, 26, 6, 27, 28, 29, 30, 31, 44, 45, 46, 47, 48, 49, 50, 51, 52, 53, 54, 55, 56, 57, 58, 59, 60, 61, 62, 63, 64, 65, 66, 67, 68, 69, 70, 71, 72, 73, 74, 75, 76, 77, 78, 79, 80, 81, 82, 83, 84, 85, 86, 87, 88, 89, 90, 91, 92, 93, 94] (by decide +kernel) (by decide +kernel)
set_option maxRecDepth 20000 in
theorem gX9_fits_X9_findLies : GoodIn wsX9_fits (wsV RX9 235 RX9 yX9_findLies wsX9_findLies) := goodIn_app (goodIn_of _ (by decide +kernel)) ggX9_fits_X9_findLies
set_option maxRecDepth 20000 in
theorem ggX9_fits_X9_fitOf : GoodIn wsX9_fits wsX9_fitOf := goodIn_r _ [35, 36, 37, 22, 23, 38, 39, 40, 41, 42, 6, 43, 44, 45, 46, 47, 48, 49, 50, 51, 52, 53, 54, 55, 56, 57, 58, 59, 60, 61, 62, 63, 64, 65, 66, 67, 68, 69, 70, 71, 72, 73, 74, 75, 76, 77, 78, 79, 80, 81, 82, 83, 84, 85, 86, 87, 88, 89, 90, 91, 92, 93, 94] (by decide +kernel) (by decide +kernel)
set_option maxRecDepth 20000 in
theorem gX9_fits_X9_fitOf : GoodIn wsX9_fits (wsV RX9 243 RX9 yX9_fitOf wsX9_fitOf) := goodIn_app (goodIn_of _ (by decide +kernel)) ggX9_fits_X9_fitOf
set_option maxRecDepth 20000 in
theorem ggX9_isBooking_X9_in : GoodIn wsX9_isBooking wsX9_in := goodIn_r _ [11] (by decide +kernel) (by decide +kernel)
set_option maxRecDepth 20000 in
theorem gX9_isBooking_X9_in : GoodIn wsX9_isBooking (va_wsS RX9 148 yX9_in wsX9_in) := goodIn_app (goodIn_of _ (by decide +kernel)) ggX9_isBooking_X9_in
set_option maxRecDepth 20000 in
theorem ggX9_isBooking_X9_isTown : GoodIn wsX9_isBooking wsX9_isTown := goodIn_r _ [14, 15, 8, 9, 10, 11] (by decide +kernel) (by decide +kernel)
set_option maxRecDepth 20000 in
theorem gX9_isBooking_X9_isTown : GoodIn wsX9_isBooking (va_wsS RX9 183 yX9_isTown wsX9_isTown) := goodIn_app (goodIn_of _ (by decide +kernel)) ggX9_isBooking_X9_isTown
set_option maxRecDepth 20000 in
theorem ggX9_book_X9_isBooking : GoodIn wsX9_book wsX9_isBooking := goodIn_r _ [5, 6, 7, 8, 9, 10, 11, 12, 13, 14, 4, 15, 16, 17, 18, 19] (by decide +kernel) (by decide +kernel)
set_option maxRecDepth 20000 in
theorem gX9_book_X9_isBooking : GoodIn wsX9_book (va_wsS RX9 260 yX9_isBooking wsX9_isBooking) := goodIn_app (goodIn_of _ (by decide +kernel)) ggX9_book_X9_isBooking
set_option maxRecDepth 20000 in
theorem ggX9_book_X9_addBooking : GoodIn wsX9_book wsX9_addBooking := goodIn_r _ [23, 24, 1, 25, 26, 27, 28, 29, 30, 31, 32, 33, 34, 35, 36, 37, 38, 39, 40, 41, 42, 43, 44, 45, 46, 47, 48, 49, 50, 51, 52, 53, 54, 55, 56, 57, 58, 59, 60, 61, 62, 63, 64, 65, 66, 67, 68, 69, 70, 71, 72, 73, 74, 75, 76, 77, 78, 79, 80, 81, 82] (by decide +kernel) (by decide +kernel)
set_option maxRecDepth 20000 in
theorem gX9_book_X9_addBooking : GoodIn wsX9_book (wsV RX9 264 RX9 yX9_addBooking wsX9_addBooking) := goodIn_app (goodIn_of _ (by decide +kernel)) ggX9_book_X9_addBooking
set_option maxRecDepth 20000 in
theorem ggX9_isThere_X9_in : GoodIn wsX9_isThere wsX9_in := goodIn_r _ [5] (by decide +kernel) (by decide +kernel)
set_option maxRecDepth 20000 in
theorem gX9_isThere_X9_in : GoodIn wsX9_isThere (va_wsS RX9 148 yX9_in wsX9_in) := goodIn_app (goodIn_of _ (by decide +kernel)) ggX9_isThere_X9_in
set_option maxRecDepth 20000 in
theorem ggX9_off_X9_isThere : GoodIn wsX9_off wsX9_isThere := goodIn_r _ [10, 11, 12, 13, 9, 14, 15, 16, 17, 18, 19, 20, 21, 22, 23, 24, 25, 26, 27, 28, 29, 30, 31, 32, 33, 34, 35, 36, 37, 38, 39, 40, 41, 42, 43, 44, 45, 46, 47, 48, 49, 50, 51, 52, 53, 54, 55, 56, 57, 58, 59, 60, 61, 62, 63, 64, 65] (by decide +kernel) (by decide +kernel)
set_option maxRecDepth 20000 in
theorem gX9_off_X9_isThere : GoodIn wsX9_off (wsV RX9 268 RX9 yX9_isThere wsX9_isThere) := goodIn_app (goodIn_of _ (by decide +kernel)) ggX9_off_X9_isThere
set_option maxRecDepth 20000 in
theorem ggX9_off_X9_in : GoodIn wsX9_off wsX9_in := goodIn_r _ [14] (by decide +kernel) (by decide +kernel)
set_option maxRecDepth 20000 in
theorem gX9_off_X9_in : GoodIn wsX9_off (va_wsS RX9 148 yX9_in wsX9_in) := goodIn_app (goodIn_of _ (by decide +kernel)) ggX9_off_X9_in
set_option maxRecDepth 20000 in
theorem ggX9_firstAway_X9_postOf : GoodIn wsX9_firstAway wsX9_postOf := goodIn_r _ [7, 8, 9, 10, 11, 12, 13, 14, 15, 16, 17, 18, 19, 20, 21, 22, 23, 24, 25, 26, 27, 28, 29, 30, 31, 32, 33, 34, 35, 36, 37, 38, 39, 40, 41, 42, 43, 44, 45, 46, 47, 48, 49, 50, 51, 52, 53, 54, 55, 56, 57, 58, 59, 60, 61] (by decide +kernel) (by decide +kernel)
set_option maxRecDepth 20000 in
theorem gX9_firstAway_X9_postOf : GoodIn wsX9_firstAway (wsV RX9 271 RX9 yX9_postOf wsX9_postOf) := goodIn_app (goodIn_of _ (by decide +kernel)) ggX9_firstAway_X9_postOf
set_option maxRecDepth 20000 in
theorem ggX9_lastAway_X9_postOf : GoodIn wsX9_lastAway wsX9_postOf := goodIn_r _ [7, 8, 9, 10, 11, 12, 13, 14, 15, 16, 17, 18, 19, 20, 21, 22, 23, 24, 25, 26, 27, 28, 29, 30, 31, 32, 33, 34, 35, 36, 37, 38, 39, 40, 41, 42, 43, 44, 45, 46, 47, 48, 49, 50, 51, 52, 53, 54, 55, 56, 57, 58, 59, 60, 61] (by decide +kernel) (by decide +kernel)
set_option maxRecDepth 20000 in
theorem gX9_lastAway_X9_postOf : GoodIn wsX9_lastAway (wsV RX9 271 RX9 yX9_postOf wsX9_postOf) := goodIn_app (goodIn_of _ (by decide +kernel)) ggX9_lastAway_X9_postOf
set_option maxRecDepth 20000 in
theorem ggX9_meet_X9_firstAway : GoodIn wsX9_meet wsX9_firstAway := goodIn_r _ [5, 6, 7, 8, 9, 10, 4, 11, 12, 13, 14, 19, 20, 21, 22, 23, 24, 25, 26, 27, 28, 29, 30, 31, 32, 33, 34, 35, 36, 37, 38, 39, 40, 41, 42, 43, 44, 45, 46, 47, 48, 49, 50, 51, 52, 53, 54, 55, 56, 57, 58, 59, 60, 61, 62, 63, 64, 65, 66, 67, 68, 69] (by decide +kernel) (by decide +kernel)
set_option maxRecDepth 20000 in
theorem gX9_meet_X9_firstAway : GoodIn wsX9_meet (wsV RX9 275 RX9 yX9_firstAway wsX9_firstAway) := goodIn_app (goodIn_of _ (by decide +kernel)) ggX9_meet_X9_firstAway
set_option maxRecDepth 20000 in
theorem ggX9_meet_X9_lastAway : GoodIn wsX9_meet wsX9_lastAway := goodIn_r _ [18, 6, 7, 8, 9, 10, 4, 11, 12, 13, 14, 19, 20, 21, 22, 23, 24, 25, 26, 27, 28, 29, 30, 31, 32, 33, 34, 35, 36, 37, 38, 39, 40, 41, 42, 43, 44, 45, 46, 47, 48, 49, 50, 51, 52, 53, 54, 55, 56, 57, 58, 59, 60, 61, 62, 63, 64, 65, 66, 67, 68, 69] (by decide +kernel) (by decide +kernel)
set_option maxRecDepth 20000 in
theorem gX9_meet_X9_lastAway : GoodIn wsX9_meet (wsV RX9 278 RX9 yX9_lastAway wsX9_lastAway) := goodIn_app (goodIn_of _ (by decide +kernel)) ggX9_meet_X9_lastAway
set_option maxRecDepth 20000 in
theorem ggX9_isWell_X9_isRetired : GoodIn wsX9_isWell wsX9_isRetired := goodIn_r _ [8, 9, 10, 11, 12, 13, 14, 15, 16, 17, 18, 19, 20, 21, 22, 23, 24, 25, 26, 27, 28, 29, 30, 31, 32, 33, 34, 35, 36, 37, 38, 39, 40, 41, 42, 43, 44, 45, 46, 47, 48, 49, 50, 51, 52, 53, 54, 55, 56, 57, 58, 59, 60, 61, 62] (by decide +kernel) (by decide +kernel)
set_option maxRecDepth 20000 in
theorem gX9_isWell_X9_isRetired : GoodIn wsX9_isWell (wsV RX9 218 RX9 yX9_isRetired wsX9_isRetired) := goodIn_app (goodIn_of _ (by decide +kernel)) ggX9_isWell_X9_isRetired
set_option maxRecDepth 20000 in
theorem ggX9_holderOf_X9_meet : GoodIn wsX9_holderOf wsX9_meet := goodIn_r _ [7, 8, 9, 10, 6, 11, 12, 13, 14, 15, 16, 17, 18, 19, 20, 21, 22, 23, 24, 25, 26, 27, 28, 29, 30, 31, 32, 33, 34, 35, 36, 37, 38, 39, 40, 41, 42, 43, 44, 45, 46, 47, 48, 49, 50, 51, 52, 53, 54, 55, 56, 57, 58, 59, 60, 61, 62, 63, 64, 65, 66, 67, 68, 69, 70, 71, 72, 73, 74, 75] (by decide +kernel) (by decide +kernel)
set_option maxRecDepth 20000 in
theorem gX9_holderOf_X9_meet : GoodIn wsX9_holderOf (wsV RX9 281 RX9 yX9_meet wsX9_meet) := goodIn_app (goodIn_of _ (by decide +kernel)) ggX9_holderOf_X9_meet
set_option maxRecDepth 20000 in
theorem ggX9_isFree_X9_isWell : GoodIn wsX9_isFree wsX9_isWell := goodIn_r _ [5, 6, 7, 8, 9, 10, 11, 4, 12, 13, 14, 15, 42, 43, 44, 45, 46, 47, 48, 49, 50, 51, 52, 53, 54, 55, 56, 57, 58, 59, 60, 61, 62, 63, 64, 65, 66, 67, 68, 69, 70, 71, 72, 73, 74, 75, 76, 77, 78, 79, 80, 81, 82, 83, 84, 85, 86, 87, 88, 89, 90, 91, 92] (by decide +kernel) (by decide +kernel)
set_option maxRecDepth 20000 in
theorem gX9_isFree_X9_isWell : GoodIn wsX9_isFree (wsV RX9 284 RX9 yX9_isWell wsX9_isWell) := goodIn_app (goodIn_of _ (by decide +kernel)) ggX9_isFree_X9_isWell
set_option maxRecDepth 20000 in
theorem ggX9_isFree_X9_holderOf : GoodIn wsX9_isFree wsX9_holderOf := goodIn_r _ [19, 20, 21, 22, 23, 24, 4, 25, 26, 27, 28, 29, 8, 30, 31, 32, 33, 34, 35, 36, 37, 38, 39, 40, 41, 42, 43, 44, 45, 46, 47, 48, 49, 50, 51, 52, 53, 54, 55, 56, 57, 58, 59, 60, 61, 62, 63, 64, 65, 66, 67, 68, 69, 70, 71, 72, 73, 74, 75, 76, 77, 78, 79, 80, 81, 82, 83, 84, 85, 86, 87, 88, 89, 90, 91, 92] (by decide +kernel) (by decide +kernel)
set_option maxRecDepth 20000 in
theorem gX9_isFree_X9_holderOf : GoodIn wsX9_isFree (wsV RX9 288 RX9 yX9_holderOf wsX9_holderOf) := goodIn_app (goodIn_of _ (by decide +kernel)) ggX9_isFree_X9_holderOf
set_option maxRecDepth 20000 in
theorem ggX9_givenOf_X9_fitOf : GoodIn wsX9_givenOf wsX9_fitOf := goodIn_r _ [13, 14, 7, 6, 15, 5, 8, 16, 17, 18, 12, 19, 63, 64, 65, 66, 67, 68, 69, 70, 71, 72, 73, 74, 75, 76, 77, 78, 79, 80, 81, 82, 83, 84, 85, 86, 87, 88, 89, 90, 91, 92, 93, 94, 95, 96, 97, 98, 99, 100, 101, 102, 103, 104, 105, 106, 107, 108, 109, 110, 111, 112, 113] (by decide +kernel) (by decide +kernel)
set_option maxRecDepth 20000 in
theorem gX9_givenOf_X9_fitOf : GoodIn wsX9_givenOf (wsV RX9 243 RX9 yX9_fitOf wsX9_fitOf) := goodIn_app (goodIn_of _ (by decide +kernel)) ggX9_givenOf_X9_fitOf
set_option maxRecDepth 20000 in
theorem ggX9_givenOf_X9_isFree : GoodIn wsX9_givenOf wsX9_isFree := goodIn_r _ [23, 24, 25, 26, 12, 27, 28, 29, 30, 31, 32, 33, 34, 35, 36, 37, 38, 39, 40, 41, 42, 43, 44, 45, 46, 47, 48, 49, 50, 51, 16, 52, 53, 54, 55, 56, 57, 58, 59, 60, 61, 62, 63, 64, 65, 66, 67, 68, 69, 70, 71, 72, 73, 74, 75, 76, 77, 78, 79, 80, 81, 82, 83, 84, 85, 86, 87, 88, 89, 90, 91, 92, 93, 94, 95, 96, 97, 98, 99, 100, 101, 102, 103, 104, 105, 106, 107, 108, 109, 110, 111, 112, 113] (by decide +kernel) (by decide +kernel)
set_option maxRecDepth 20000 in
theorem gX9_givenOf_X9_isFree : GoodIn wsX9_givenOf (wsV RX9 291 RX9 yX9_isFree wsX9_isFree) := goodIn_app (goodIn_of _ (by decide +kernel)) ggX9_givenOf_X9_isFree
set_option maxRecDepth 20000 in
theorem ggX9_givenOf_X9_size : GoodIn wsX9_givenOf wsX9_size := goodIn_r _ [19] (by decide +kernel) (by decide +kernel)
set_option maxRecDepth 20000 in
theorem gX9_givenOf_X9_size : GoodIn wsX9_givenOf (va_wsS RX9 238 yX9_size wsX9_size) := goodIn_app (goodIn_of _ (by decide +kernel)) ggX9_givenOf_X9_size
set_option maxRecDepth 20000 in
theorem ggX9_givenOf_X9_postOf : GoodIn wsX9_givenOf wsX9_postOf := goodIn_r _ [55, 56, 57, 58, 63, 64, 65, 66, 67, 68, 69, 70, 71, 72, 73, 74, 75, 76, 77, 78, 79, 80, 81, 82, 83, 84, 85, 86, 87, 88, 89, 90, 91, 92, 93, 94, 95, 96, 97, 98, 99, 100, 101, 102, 103, 104, 105, 106, 107, 108, 109, 110, 111, 112, 113] (by decide +kernel) (by decide +kernel)
set_option maxRecDepth 20000 in
theorem gX9_givenOf_X9_postOf : GoodIn wsX9_givenOf (wsV RX9 271 RX9 yX9_postOf wsX9_postOf) := goodIn_app (goodIn_of _ (by decide +kernel)) ggX9_givenOf_X9_postOf
set_option maxRecDepth 20000 in
theorem ggX9_give_X9_isThere : GoodIn wsX9_give wsX9_isThere := goodIn_r _ [6, 7, 8, 9, 5, 10, 97, 98, 99, 100, 101, 102, 103, 104, 105, 106, 107, 108, 109, 110, 111, 112, 113, 114, 115, 116, 117, 118, 119, 120, 121, 122, 123, 124, 125, 126, 127, 128, 129, 130, 131, 132, 133, 134, 135, 136, 137, 138, 139, 140, 141, 142, 143, 144, 145, 146, 147] (by decide +kernel) (by decide +kernel)
set_option maxRecDepth 20000 in
theorem gX9_give_X9_isThere : GoodIn wsX9_give (wsV RX9 268 RX9 yX9_isThere wsX9_isThere) := goodIn_app (goodIn_of _ (by decide +kernel)) ggX9_give_X9_isThere
set_option maxRecDepth 20000 in
theorem ggX9_give_X9_isOpen : GoodIn wsX9_give wsX9_isOpen := goodIn_r _ [14, 1, 15, 97, 98, 99, 100, 101, 102, 103, 104, 105, 106, 107, 108, 109, 110, 111, 112, 113, 114, 115, 116, 117, 118, 119, 120, 121, 122, 123, 124, 125, 126, 127, 128, 129, 130, 131, 132, 133, 134, 135, 136, 137, 138, 139, 140, 141, 142, 143, 144, 145, 146, 147] (by decide +kernel) (by decide +kernel)
set_option maxRecDepth 20000 in
theorem gX9_give_X9_isOpen : GoodIn wsX9_give (wsV RX9 294 RX9 yX9_isOpen wsX9_isOpen) := goodIn_app (goodIn_of _ (by decide +kernel)) ggX9_give_X9_isOpen
set_option maxRecDepth 20000 in
theorem ggX9_give_X9_findLies : GoodIn wsX9_give wsX9_findLies := goodIn_r _ [19, 20, 21, 22, 23, 24, 25, 26, 27, 28, 29, 30, 5, 31, 32, 33, 34, 35, 97, 98, 99, 100, 101, 102, 103, 104, 105, 106, 107, 108, 109, 110, 111, 112, 113, 114, 115, 116, 117, 118, 119, 120, 121, 122, 123, 124, 125, 126, 127, 128, 129, 130, 131, 132, 133, 134, 135, 136, 137, 138, 139, 140, 141, 142, 143, 144, 145, 146, 147] (by decide +kernel) (by decide +kernel)
set_option maxRecDepth 20000 in
theorem gX9_give_X9_findLies : GoodIn wsX9_give (wsV RX9 235 RX9 yX9_findLies wsX9_findLies) := goodIn_app (goodIn_of _ (by decide +kernel)) ggX9_give_X9_findLies
set_option maxRecDepth 20000 in
theorem ggX9_give_X9_givenOf : GoodIn wsX9_give wsX9_givenOf := goodIn_r _ [39, 40, 41, 42, 43, 44, 26, 45, 46, 47, 48, 49, 5, 50, 51, 27, 52, 53, 54, 55, 56, 57, 58, 59, 60, 61, 62, 63, 64, 65, 66, 67, 68, 69, 70, 71, 72, 73, 74, 75, 76, 77, 7, 1, 78, 79, 80, 81, 82, 83, 84, 85, 86, 87, 88, 89, 90, 91, 92, 93, 94, 95, 96, 97, 98, 99, 100, 101, 102, 103, 104, 105, 106, 107, 108, 109, 110, 111, 112, 113, 114, 115, 116, 117, 118, 119, 120, 121, 122, 123, 124, 125, 126, 127, 128, 129, 130, 131, 132, 133, 134, 135, 136, 137, 138, 139, 140, 141, 142, 143, 144, 145, 146, 147] (by decide +kernel) (by decide +kernel)
set_option maxRecDepth 20000 in
theorem gX9_give_X9_givenOf : GoodIn wsX9_give (wsV RX9 297 RX9 yX9_givenOf wsX9_givenOf) := goodIn_app (goodIn_of _ (by decide +kernel)) ggX9_give_X9_givenOf
