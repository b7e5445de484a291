set_option maxRecDepth 20000 in
theorem ggX2_tallyBookings_X0_tally : GoodIn wsX2_tallyBookings wsX0_tally := goodIn_r _ [12, 13, 14, 15, 16, 11, 17, 18, 27, 28, 29, 30, 31, 32, 33, 34, 35, 36, 37, 38, 39, 40] (by decide +kernel) (by decide +kernel)
set_option maxRecDepth 20000 in
theorem gX2_tallyBookings_X0_tally : GoodIn wsX2_tallyBookings (wsV RX2 214 RX0 yX0_tally wsX0_tally) := goodIn_app (goodIn_of _ (by decide +kernel)) ggX2_tallyBookings_X0_tally
set_option maxRecDepth 20000 in
theorem ggX3_init_X3_readEnds : GoodIn wsX3_init wsX3_readEnds := goodIn_r _ [12, 6, 13, 7, 14, 15, 16, 11, 17, 5, 18, 19, 20, 21, 22] (by decide +kernel) (by decide +kernel)
set_option maxRecDepth 20000 in
theorem gX3_init_X3_readEnds : GoodIn wsX3_init (wsV RX3 19 RX3 yX3_readEnds wsX3_readEnds) := goodIn_app (goodIn_of _ (by decide +kernel)) ggX3_init_X3_readEnds
set_option maxRecDepth 20000 in
theorem ggX3_learn_X3_tighten : GoodIn wsX3_learn wsX3_tighten := goodIn_r _ [7, 8, 23, 24, 25, 26, 27] (by decide +kernel) (by decide +kernel)
set_option maxRecDepth 20000 in
theorem gX3_learn_X3_tighten : GoodIn wsX3_learn (wsV RX3 30 RX3 yX3_tighten wsX3_tighten) := goodIn_app (goodIn_of _ (by decide +kernel)) ggX3_learn_X3_tighten
set_option maxRecDepth 20000 in
theorem ggX3_learn_X3_close : GoodIn wsX3_learn wsX3_close := goodIn_r _ [12, 2, 13, 14, 15, 6, 16, 8, 3, 4, 5, 7, 23, 24, 25, 26, 27] (by decide +kernel) (by decide +kernel)
set_option maxRecDepth 20000 in
theorem gX3_learn_X3_close : GoodIn wsX3_learn (wsV RX3 34 RX3 yX3_close wsX3_close) := goodIn_app (goodIn_of _ (by decide +kernel)) ggX3_learn_X3_close
set_option maxRecDepth 20000 in
theorem ggX3_learn_X3_readEnds : GoodIn wsX3_learn wsX3_readEnds := goodIn_r _ [20, 21, 2, 22, 13, 14, 15, 6, 16, 8, 23, 24, 25, 26, 27] (by decide +kernel) (by decide +kernel)
set_option maxRecDepth 20000 in
theorem gX3_learn_X3_readEnds : GoodIn wsX3_learn (wsV RX3 19 RX3 yX3_readEnds wsX3_readEnds) := goodIn_app (goodIn_of _ (by decide +kernel)) ggX3_learn_X3_readEnds
set_option maxRecDepth 20000 in
theorem ggX3_close_X3_spanOf : GoodIn wsX3_close wsX3_spanOf := goodIn_r _ [6, 7, 12, 13, 14, 15, 16] (by decide +kernel) (by decide +kernel)
set_option maxRecDepth 20000 in
theorem gX3_close_X3_spanOf : GoodIn wsX3_close (wsV RX3 37 RX3 yX3_spanOf wsX3_spanOf) := goodIn_app (goodIn_of _ (by decide +kernel)) ggX3_close_X3_spanOf
set_option maxRecDepth 20000 in
theorem ggX3_close_X3_tighten : GoodIn wsX3_close wsX3_tighten := goodIn_r _ [11, 7, 12, 13, 14, 15, 16] (by decide +kernel) (by decide +kernel)
set_option maxRecDepth 20000 in
theorem gX3_close_X3_tighten : GoodIn wsX3_close (wsV RX3 30 RX3 yX3_tighten wsX3_tighten) := goodIn_app (goodIn_of _ (by decide +kernel)) ggX3_close_X3_tighten
set_option maxRecDepth 20000 in
theorem ggX3_readEnds_X3_spanOf : GoodIn wsX3_readEnds wsX3_spanOf := goodIn_r _ [8, 9, 10, 11, 12, 13, 14] (by decide +kernel) (by decide +kernel)
set_option maxRecDepth 20000 in
theorem gX3_readEnds_X3_spanOf : GoodIn wsX3_readEnds (wsV RX3 37 RX3 yX3_spanOf wsX3_spanOf) := goodIn_app (goodIn_of _ (by decide +kernel)) ggX3_readEnds_X3_spanOf
set_option maxRecDepth 20000 in
theorem ggX4_isTornBy_X4_isTorn : GoodIn wsX4_isTornBy wsX4_isTorn := goodIn_r _ [6, 1, 7, 8, 9, 10, 11, 12, 13, 14, 15, 16, 17, 18] (by decide +kernel) (by decide +kernel)
set_option maxRecDepth 20000 in
theorem gX4_isTornBy_X4_isTorn : GoodIn wsX4_isTornBy (wsV RX4 43 RX4 yX4_isTorn wsX4_isTorn) := goodIn_app (goodIn_of _ (by decide +kernel)) ggX4_isTornBy_X4_isTorn
set_option maxRecDepth 20000 in
theorem ggX4_canBeWornOn_X4_isRetired : GoodIn wsX4_canBeWornOn wsX4_isRetired := goodIn_r _ [5, 6, 7, 8, 18, 19, 20, 21, 22, 23, 24, 25, 26, 27, 28, 29] (by decide +kernel) (by decide +kernel)
set_option maxRecDepth 20000 in
theorem gX4_canBeWornOn_X4_isRetired : GoodIn wsX4_canBeWornOn (wsV RX4 47 RX4 yX4_isRetired wsX4_isRetired) := goodIn_app (goodIn_of _ (by decide +kernel)) ggX4_canBeWornOn_X4_isRetired
set_option maxRecDepth 20000 in
theorem ggX4_canBeWornOn_X4_isTornBy : GoodIn wsX4_canBeWornOn wsX4_isTornBy := goodIn_r _ [12, 13, 14, 15, 16, 4, 17, 18, 19, 20, 21, 22, 23, 24, 25, 26, 27, 28, 29] (by decide +kernel) (by decide +kernel)
set_option maxRecDepth 20000 in
theorem gX4_canBeWornOn_X4_isTornBy : GoodIn wsX4_canBeWornOn (wsV RX4 50 RX4 yX4_isTornBy wsX4_isTornBy) := goodIn_app (goodIn_of _ (by decide +kernel)) ggX4_canBeWornOn_X4_isTornBy
set_option maxRecDepth 20000 in
theorem ggX4_tally_X4_isRetired : GoodIn wsX4_tally wsX4_isRetired := goodIn_r _ [6, 7, 1, 8, 14, 15, 16, 17, 18, 19, 20, 21, 22, 23, 24, 25] (by decide +kernel) (by decide +kernel)
set_option maxRecDepth 20000 in
theorem gX4_tally_X4_isRetired : GoodIn wsX4_tally (wsV RX4 47 RX4 yX4_isRetired wsX4_isRetired) := goodIn_app (goodIn_of _ (by decide +kernel)) ggX4_tally_X4_isRetired
set_option maxRecDepth 20000 in
theorem ggX4_tally_X4_isTorn : GoodIn wsX4_tally wsX4_isTorn := goodIn_r _ [12, 13, 14, 15, 16, 17, 18, 19, 20, 21, 22, 23, 24, 25] (by decide +kernel) (by decide +kernel)
set_option maxRecDepth 20000 in
theorem gX4_tally_X4_isTorn : GoodIn wsX4_tally (wsV RX4 43 RX4 yX4_isTorn wsX4_isTorn) := goodIn_app (goodIn_of _ (by decide +kernel)) ggX4_tally_X4_isTorn
set_option maxRecDepth 20000 in
theorem ggX4_detail_X4_worth : GoodIn wsX4_detail wsX4_worth := goodIn_r _ [13, 14, 6, 7, 15, 16, 17, 18, 24, 25, 26, 27, 28, 29, 30, 31, 32, 33, 34, 35] (by decide +kernel) (by decide +kernel)
set_option maxRecDepth 20000 in
theorem gX4_detail_X4_worth : GoodIn wsX4_detail (wsV RX4 60 RX4 yX4_worth wsX4_worth) := goodIn_app (goodIn_of _ (by decide +kernel)) ggX4_detail_X4_worth
set_option maxRecDepth 20000 in
theorem ggX4_detail_X4_isRetired : GoodIn wsX4_detail wsX4_isRetired := goodIn_r _ [22, 23, 7, 14, 24, 25, 26, 27, 28, 29, 30, 31, 32, 33, 34, 35] (by decide +kernel) (by decide +kernel)
set_option maxRecDepth 20000 in
theorem gX4_detail_X4_isRetired : GoodIn wsX4_detail (wsV RX4 47 RX4 yX4_isRetired wsX4_isRetired) := goodIn_app (goodIn_of _ (by decide +kernel)) ggX4_detail_X4_isRetired
set_option maxRecDepth 20000 in
theorem ggX6_isDigitAt_X6_signAt : GoodIn wsX6_isDigitAt wsX6_signAt := goodIn_r _ [5, 6, 7, 8, 9] (by decide +kernel) (by decide +kernel)
set_option maxRecDepth 20000 in
theorem gX6_isDigitAt_X6_signAt : GoodIn wsX6_isDigitAt (wsV RX6 17 RX6 yX6_signAt wsX6_signAt) := goodIn_app (goodIn_of _ (by decide +kernel)) ggX6_isDigitAt_X6_signAt
set_option maxRecDepth 20000 in
theorem ggX6_behindBlanks_X6_signAt : GoodIn wsX6_behindBlanks wsX6_signAt := goodIn_r _ [6, 1, 7, 8, 9] (by decide +kernel) (by decide +kernel)
set_option maxRecDepth 20000 in
theorem gX6_behindBlanks_X6_signAt : GoodIn wsX6_behindBlanks (wsV RX6 17 RX6 yX6_signAt wsX6_signAt) := goodIn_app (goodIn_of _ (by decide +kernel)) ggX6_behindBlanks_X6_signAt
set_option maxRecDepth 20000 in
theorem ggX6_behindDigits_X6_isDigitAt : GoodIn wsX6_behindDigits wsX6_isDigitAt := goodIn_r _ [6, 7, 8, 9, 5, 10, 1, 11, 12, 13] (by decide +kernel) (by decide +kernel)
set_option maxRecDepth 20000 in
theorem gX6_behindDigits_X6_isDigitAt : GoodIn wsX6_behindDigits (wsV RX6 21 RX6 yX6_isDigitAt wsX6_isDigitAt) := goodIn_app (goodIn_of _ (by decide +kernel)) ggX6_behindDigits_X6_isDigitAt
set_option maxRecDepth 20000 in
theorem ggX6_numberIn_X6_signAt : GoodIn wsX6_numberIn wsX6_signAt := goodIn_r _ [9, 10, 11, 12, 13] (by decide +kernel) (by decide +kernel)
set_option maxRecDepth 20000 in
theorem gX6_numberIn_X6_signAt : GoodIn wsX6_numberIn (wsV RX6 17 RX6 yX6_signAt wsX6_signAt) := goodIn_app (goodIn_of _ (by decide +kernel)) ggX6_numberIn_X6_signAt
set_option maxRecDepth 20000 in
theorem ggX7_read_X7_copy : GoodIn wsX7_read wsX7_copy := goodIn_r _ [6] (by decide +kernel) (by decide +kernel)
set_option maxRecDepth 20000 in
theorem gX7_read_X7_copy : GoodIn wsX7_read (va_wsS RX7 20 yX7_copy wsX7_copy) := goodIn_app (goodIn_of _ (by decide +kernel)) ggX7_read_X7_copy
set_option maxRecDepth 20000 in
theorem ggX7_read_X7_readClause : GoodIn wsX7_read wsX7_readClause := goodIn_r _ [10, 11, 2, 12, 13, 14, 15, 16, 17, 18, 19, 20, 21, 22, 23, 24, 25, 5, 26, 27, 28, 29, 30, 31, 32, 33, 34, 35, 36, 37, 38, 39, 40, 41, 42, 43, 44, 45, 46, 47] (by decide +kernel) (by decide +kernel)
set_option maxRecDepth 20000 in
theorem gX7_read_X7_readClause : GoodIn wsX7_read (wsV RX7 24 RX7 yX7_readClause wsX7_readClause) := goodIn_app (goodIn_of _ (by decide +kernel)) ggX7_read_X7_readClause
set_option maxRecDepth 20000 in
theorem ggX7_read_X6_signAt : GoodIn wsX7_read wsX6_signAt := goodIn_r _ [21, 17, 22, 46, 47] (by decide +kernel) (by decide +kernel)
set_option maxRecDepth 20000 in
theorem gX7_read_X6_signAt : GoodIn wsX7_read (wsV RX7 34 RX6 yX6_signAt wsX6_signAt) := goodIn_app (goodIn_of _ (by decide +kernel)) ggX7_read_X6_signAt
set_option maxRecDepth 20000 in
theorem ggX7_readClause_X6_behindBlanks : GoodIn wsX7_readClause wsX6_behindBlanks := goodIn_r _ [7, 8, 9, 10, 11, 6, 12, 13, 38, 39] (by decide +kernel) (by decide +kernel)
set_option maxRecDepth 20000 in
theorem gX7_readClause_X6_behindBlanks : GoodIn wsX7_readClause (wsV RX7 38 RX6 yX6_behindBlanks wsX6_behindBlanks) := goodIn_app (goodIn_of _ (by decide +kernel)) ggX7_readClause_X6_behindBlanks
set_option maxRecDepth 20000 in
theorem ggX7_readClause_X6_signAt : GoodIn wsX7_readClause wsX6_signAt := goodIn_r _ [12, 8, 13, 38, 39] (by decide +kernel) (by decide +kernel)
set_option maxRecDepth 20000 in
theorem gX7_readClause_X6_signAt : GoodIn wsX7_readClause (wsV RX7 34 RX6 yX6_signAt wsX6_signAt) := goodIn_app (goodIn_of _ (by decide +kernel)) ggX7_readClause_X6_signAt
set_option maxRecDepth 20000 in
theorem ggX7_readClause_X7_placeOf : GoodIn wsX7_readClause wsX7_placeOf := goodIn_r _ [18, 19] (by decide +kernel) (by decide +kernel)
set_option maxRecDepth 20000 in
theorem gX7_readClause_X7_placeOf : GoodIn wsX7_readClause (va_wsS RX7 41 yX7_placeOf wsX7_placeOf) := goodIn_app (goodIn_of _ (by decide +kernel)) ggX7_readClause_X7_placeOf
set_option maxRecDepth 20000 in
theorem ggX7_readClause_X6_behindDigits : GoodIn wsX7_readClause wsX6_behindDigits := goodIn_r _ [23, 8, 24, 25, 26, 6, 27, 9, 10, 11, 12, 13, 38, 39] (by decide +kernel) (by decide +kernel)
set_option maxRecDepth 20000 in
theorem gX7_readClause_X6_behindDigits : GoodIn wsX7_readClause (wsV RX7 44 RX6 yX6_behindDigits wsX6_behindDigits) := goodIn_app (goodIn_of _ (by decide +kernel)) ggX7_readClause_X6_behindDigits
set_option maxRecDepth 20000 in
theorem ggX7_readClause_X6_numberIn : GoodIn wsX7_readClause wsX6_numberIn := goodIn_r _ [31, 32, 33, 34, 35, 9, 10, 11, 6, 12, 8, 13, 38, 39] (by decide +kernel) (by decide +kernel)
set_option maxRecDepth 20000 in
theorem gX7_readClause_X6_numberIn : GoodIn wsX7_readClause (wsV RX7 50 RX6 yX6_numberIn wsX6_numberIn) := goodIn_app (goodIn_of _ (by decide +kernel)) ggX7_readClause_X6_numberIn
set_option maxRecDepth 20000 in
theorem ggX8_init_X6_init : GoodIn wsX8_init wsX6_init := goodIn_r _ [21, 22, 2, 3, 23, 24, 79, 80] (by decide +kernel) (by decide +kernel)
set_option maxRecDepth 20000 in
theorem gX8_init_X6_init_n9 : GoodIn wsX8_init (wsX6_init) := ggX8_init_X6_init
set_option maxRecDepth 20000 in
theorem ggX8_init_X2_init : GoodIn wsX8_init wsX2_init := goodIn_r _ [27, 28, 2, 3, 29, 30, 31, 32, 33, 34, 35, 36, 37, 38, 39, 40, 41, 42, 43, 44, 45, 46, 47, 48, 49, 50, 51, 52, 53, 54, 55, 56, 57, 58, 59, 60, 61, 62, 63, 64, 65, 103, 104, 85, 86, 87, 88, 89, 90, 91, 92, 105, 106, 107, 108, 109] (by decide +kernel) (by decide +kernel)
set_option maxRecDepth 20000 in
theorem gX8_init_X2_init : GoodIn wsX8_init (wsX2_init) := ggX8_init_X2_init
set_option maxRecDepth 20000 in
theorem ggX8_init_X1_init : GoodIn wsX8_init wsX1_init := goodIn_r _ [68, 69, 2, 3, 37, 70, 71, 72, 73, 74, 93, 94, 95, 96, 97, 98] (by decide +kernel) (by decide +kernel)
set_option maxRecDepth 20000 in
theorem gX8_init_X1_init : GoodIn wsX8_init (wsX1_init) := ggX8_init_X1_init
set_option maxRecDepth 20000 in
theorem ggX8_init_X5_init : GoodIn wsX8_init wsX5_init := goodIn_r _ [76, 77, 2, 3, 37, 78, 99, 100, 101, 102] (by decide +kernel) (by decide +kernel)
set_option maxRecDepth 20000 in
theorem gX8_init_X5_init_n34 : GoodIn wsX8_init (wsX5_init) := ggX8_init_X5_init
set_option maxRecDepth 20000 in
theorem ggX8_type_X8_isIn : GoodIn wsX8_type wsX8_isIn := goodIn_r _ [5] (by decide +kernel) (by decide +kernel)
set_option maxRecDepth 20000 in
theorem gX8_type_X8_isIn : GoodIn wsX8_type (va_wsS RX8 39 yX8_isIn wsX8_isIn) := goodIn_app (goodIn_of _ (by decide +kernel)) ggX8_type_X8_isIn
set_option maxRecDepth 20000 in
theorem ggX8_type_X8_byteOf : GoodIn wsX8_type wsX8_byteOf := goodIn_r _ [8] (by decide +kernel) (by decide +kernel)
set_option maxRecDepth 20000 in
theorem gX8_type_X8_byteOf : GoodIn wsX8_type (va_wsS RX8 43 yX8_byteOf wsX8_byteOf) := goodIn_app (goodIn_of _ (by decide +kernel)) ggX8_type_X8_byteOf
set_option maxRecDepth 20000 in
theorem ggX8_type_X6_hasRoomFor : GoodIn wsX8_type wsX6_hasRoomFor := goodIn_r _ [13, 14, 24, 25] (by decide +kernel) (by decide +kernel)
set_option maxRecDepth 20000 in
theorem gX8_type_X6_hasRoomFor : GoodIn wsX8_type (wsV RX8 47 RX6 yX6_hasRoomFor wsX6_hasRoomFor) := goodIn_app (goodIn_of _ (by decide +kernel)) ggX8_type_X6_hasRoomFor
set_option maxRecDepth 20000 in
theorem ggX8_type_X6_append : GoodIn wsX8_type wsX6_append := goodIn_r _ [18, 14, 19, 24, 25] (by decide +kernel) (by decide +kernel)
set_option maxRecDepth 20000 in
theorem gX8_type_X6_append : GoodIn wsX8_type (wsV RX8 51 RX6 yX6_append wsX6_append) := goodIn_app (goodIn_of _ (by decide +kernel)) ggX8_type_X6_append
set_option maxRecDepth 20000 in
theorem ggX8_terms_X7_read : GoodIn wsX8_terms wsX7_read := goodIn_r _ [7, 8, 9, 10, 11, 6, 12, 13, 14, 15, 16, 17, 18, 19, 20, 21, 22, 23, 24, 25, 26, 27, 28, 29, 30, 31, 32, 33, 34, 35, 36, 37, 38, 39, 40, 41, 42, 43, 44, 45, 46, 47, 48, 49, 66, 67, 68, 69] (by decide +kernel) (by decide +kernel)
set_option maxRecDepth 20000 in
theorem gX8_terms_X7_read : GoodIn wsX8_terms (wsV RX8 63 RX7 yX7_read wsX7_read) := goodIn_app (goodIn_of _ (by decide +kernel)) ggX8_terms_X7_read
set_option maxRecDepth 20000 in
theorem ggX8_terms_X6_clear : GoodIn wsX8_terms wsX6_clear := goodIn_r _ [53, 23, 68, 69] (by decide +kernel) (by decide +kernel)
set_option maxRecDepth 20000 in
theorem gX8_terms_X6_clear : GoodIn wsX8_terms (wsV RX8 69 RX6 yX6_clear wsX6_clear) := goodIn_app (goodIn_of _ (by decide +kernel)) ggX8_terms_X6_clear
set_option maxRecDepth 20000 in
theorem ggX8_term_X7_placeOf : GoodIn wsX8_term wsX7_placeOf := goodIn_r _ [5, 6] (by decide +kernel) (by decide +kernel)
set_option maxRecDepth 20000 in
theorem gX8_term_X7_placeOf : GoodIn wsX8_term (va_wsS RX8 72 yX7_placeOf wsX7_placeOf) := goodIn_app (goodIn_of _ (by decide +kernel)) ggX8_term_X7_placeOf
set_option maxRecDepth 20000 in
theorem ggX8_term_X7_at : GoodIn wsX8_term wsX7_at := goodIn_r _ [10, 11, 24, 25] (by decide +kernel) (by decide +kernel)
set_option maxRecDepth 20000 in
theorem gX8_term_X7_at : GoodIn wsX8_term (wsV RX8 76 RX7 yX7_at wsX7_at) := goodIn_app (goodIn_of _ (by decide +kernel)) ggX8_term_X7_at
set_option maxRecDepth 20000 in
theorem ggX8_post_X8_isTown : GoodIn wsX8_post wsX8_isTown := goodIn_r _ [5, 6, 7, 4, 8] (by decide +kernel) (by decide +kernel)
set_option maxRecDepth 20000 in
theorem gX8_post_X8_isTown : GoodIn wsX8_post (va_wsS RX8 79 yX8_isTown wsX8_isTown) := goodIn_app (goodIn_of _ (by decide +kernel)) ggX8_post_X8_isTown
set_option maxRecDepth 20000 in
theorem ggX8_post_X8_isIn : GoodIn wsX8_post wsX8_isIn := goodIn_r _ [8] (by decide +kernel) (by decide +kernel)
set_option maxRecDepth 20000 in
theorem gX8_post_X8_isIn : GoodIn wsX8_post (va_wsS RX8 39 yX8_isIn wsX8_isIn) := goodIn_app (goodIn_of _ (by decide +kernel)) ggX8_post_X8_isIn
set_option maxRecDepth 20000 in
theorem ggX8_post_X2_postBetween : GoodIn wsX8_post wsX2_postBetween := goodIn_r _ [13, 14, 23, 24, 25, 26, 27, 28, 29, 30] (by decide +kernel) (by decide +kernel)
set_option maxRecDepth 20000 in
theorem gX8_post_X2_postBetween : GoodIn wsX8_post (wsV RX8 82 RX2 yX2_postBetween wsX2_postBetween) := goodIn_app (goodIn_of _ (by decide +kernel)) ggX8_post_X2_postBetween
set_option maxRecDepth 20000 in
theorem ggX8_post_X2_setPost : GoodIn wsX8_post wsX2_setPost := goodIn_r _ [18, 14, 3, 4, 5, 6, 7, 8, 23, 24, 25, 26, 27, 28, 29, 30] (by decide +kernel) (by decide +kernel)
set_option maxRecDepth 20000 in
theorem gX8_post_X2_setPost : GoodIn wsX8_post (wsV RX8 86 RX2 yX2_setPost wsX2_setPost) := goodIn_app (goodIn_of _ (by decide +kernel)) ggX8_post_X2_setPost
set_option maxRecDepth 20000 in
theorem ggX8_gown_X8_addPiece : GoodIn wsX8_gown wsX8_addPiece := goodIn_r _ [5, 6, 7, 8, 9, 10, 11, 4, 12, 13, 14, 15, 16, 17, 18, 19, 20, 21, 22, 23, 24, 25, 26, 27, 28, 29, 30, 31, 32, 33, 34, 35, 36, 37, 38, 39, 40, 41, 42, 43, 44, 45, 46, 47, 48, 49, 50, 51, 52, 53, 54, 55, 56, 57, 58, 59, 60, 61, 62, 63, 64, 65, 66] (by decide +kernel) (by decide +kernel)
set_option maxRecDepth 20000 in
theorem gX8_gown_X8_addPiece : GoodIn wsX8_gown (wsV RX8 92 RX8 yX8_addPiece wsX8_addPiece) := goodIn_app (goodIn_of _ (by decide +kernel)) ggX8_gown_X8_addPiece
set_option maxRecDepth 20000 in
theorem ggX8_longGown_X8_addPiece : GoodIn wsX8_longGown wsX8_addPiece := goodIn_r _ [5, 6, 7, 8, 9, 10, 11, 4, 12, 13, 14, 15, 16, 17, 18, 19, 20, 21, 22, 23, 24, 25, 26, 27, 28, 29, 30, 31, 32, 33, 34, 35, 36, 37, 38, 39, 40, 41, 42, 43, 44, 45, 46, 47, 48, 49, 50, 51, 52, 53, 54, 55, 56, 57, 58, 59, 60, 61, 62, 63, 64, 65, 66] (by decide +kernel) (by decide +kernel)
set_option maxRecDepth 20000 in
theorem gX8_longGown_X8_addPiece : GoodIn wsX8_longGown (wsV RX8 92 RX8 yX8_addPiece wsX8_addPiece) := goodIn_app (goodIn_of _ (by decide +kernel)) ggX8_longGown_X8_addPiece
set_option maxRecDepth 20000 in
theorem ggX8_suit_X8_addPiece : GoodIn wsX8_suit wsX8_addPiece := goodIn_r _ [5, 6, 7, 8, 9, 10, 11, 4, 12, 13, 14, 15, 16, 17, 18, 19, 20, 21, 22, 23, 24, 25, 26, 27, 28, 29, 30, 31, 32, 33, 34, 35, 36, 37, 38, 39, 40, 41, 42, 43, 44, 45, 46, 47, 48, 49, 50, 51, 52, 53, 54, 55, 56, 57, 58, 59, 60, 61, 62, 63, 64, 65, 66] (by decide +kernel) (by decide +kernel)
set_option maxRecDepth 20000 in
theorem gX8_suit_X8_addPiece : GoodIn wsX8_suit (wsV RX8 92 RX8 yX8_addPiece wsX8_addPiece) := goodIn_app (goodIn_of _ (by decide +kernel)) ggX8_suit_X8_addPiece
set_option maxRecDepth 20000 in
theorem ggX8_hem_X2_pieceAt : GoodIn wsX8_hem wsX2_pieceAt := goodIn_r _ [6, 7, 8, 29, 30, 31, 32, 33, 34, 35, 36] (by decide +kernel) (by decide +kernel)
set_option maxRecDepth 20000 in
theorem gX8_hem_X2_pieceAt : GoodIn wsX8_hem (wsV RX8 96 RX2 yX2_pieceAt wsX2_pieceAt) := goodIn_app (goodIn_of _ (by decide +kernel)) ggX8_hem_X2_pieceAt
set_option maxRecDepth 20000 in
theorem ggX8_hem_X8_isIn : GoodIn wsX8_hem wsX8_isIn := goodIn_r _ [12] (by decide +kernel) (by decide +kernel)
set_option maxRecDepth 20000 in
theorem gX8_hem_X8_isIn : GoodIn wsX8_hem (va_wsS RX8 39 yX8_isIn wsX8_isIn) := goodIn_app (goodIn_of _ (by decide +kernel)) ggX8_hem_X8_isIn
set_option maxRecDepth 20000 in
theorem ggX8_told_X2_pieceAt : GoodIn wsX8_told wsX2_pieceAt := goodIn_r _ [6, 7, 8, 44, 45, 46, 47, 48, 49, 50, 51] (by decide +kernel) (by decide +kernel)
set_option maxRecDepth 20000 in
theorem gX8_told_X2_pieceAt : GoodIn wsX8_told (wsV RX8 96 RX2 yX2_pieceAt wsX2_pieceAt) := goodIn_app (goodIn_of _ (by decide +kernel)) ggX8_told_X2_pieceAt
set_option maxRecDepth 20000 in
theorem ggX8_told_X8_isIn : GoodIn wsX8_told wsX8_isIn := goodIn_r _ [12] (by decide +kernel) (by decide +kernel)
set_option maxRecDepth 20000 in
theorem gX8_told_X8_isIn : GoodIn wsX8_told (va_wsS RX8 39 yX8_isIn wsX8_isIn) := goodIn_app (goodIn_of _ (by decide +kernel)) ggX8_told_X8_isIn
set_option maxRecDepth 20000 in
theorem ggX8_told_X4_detail : GoodIn wsX8_told wsX4_detail := goodIn_r _ [17, 18, 19, 20, 21, 22, 23, 24, 25, 26, 27, 28, 16, 29, 30, 31, 32, 33, 34, 35, 36, 37, 38, 39, 52, 53, 54, 55, 56, 57, 58, 59, 60, 61, 62, 63] (by decide +kernel) (by decide +kernel)
set_option maxRecDepth 20000 in
theorem gX8_told_X4_detail : GoodIn wsX8_told (wsV RX8 106 RX4 yX4_detail wsX4_detail) := goodIn_app (goodIn_of _ (by decide +kernel)) ggX8_told_X4_detail
set_option maxRecDepth 20000 in
theorem ggX8_same_X8_isMaker : GoodIn wsX8_same wsX8_isMaker := goodIn_r _ [5, 6, 7, 4, 8] (by decide +kernel) (by decide +kernel)
set_option maxRecDepth 20000 in
theorem gX8_same_X8_isMaker : GoodIn wsX8_same (va_wsS RX8 109 yX8_isMaker wsX8_isMaker) := goodIn_app (goodIn_of _ (by decide +kernel)) ggX8_same_X8_isMaker
set_option maxRecDepth 20000 in
theorem ggX8_same_X8_isLabel : GoodIn wsX8_same wsX8_isLabel := goodIn_r _ [11, 6, 7, 4, 8] (by decide +kernel) (by decide +kernel)
set_option maxRecDepth 20000 in
theorem gX8_same_X8_isLabel : GoodIn wsX8_same (va_wsS RX8 112 yX8_isLabel wsX8_isLabel) := goodIn_app (goodIn_of _ (by decide +kernel)) ggX8_same_X8_isLabel
set_option maxRecDepth 20000 in
theorem ggX8_same_X3_learn : GoodIn wsX8_same wsX3_learn := goodIn_r _ [16, 17, 18, 19, 20, 21, 15, 22, 23, 24, 25, 26, 27, 28, 29, 30, 31, 32, 33, 34, 35, 36, 37, 50, 51, 52, 53, 54] (by decide +kernel) (by decide +kernel)
set_option maxRecDepth 20000 in
theorem gX8_same_X3_learn : GoodIn wsX8_same (wsV RX8 124 RX3 yX3_learn wsX3_learn) := goodIn_app (goodIn_of _ (by decide +kernel)) ggX8_same_X3_learn
set_option maxRecDepth 20000 in
theorem ggX8_lie_X8_isMaker : GoodIn wsX8_lie wsX8_isMaker := goodIn_r _ [5, 6, 7, 4, 8] (by decide +kernel) (by decide +kernel)
set_option maxRecDepth 20000 in
theorem gX8_lie_X8_isMaker : GoodIn wsX8_lie (va_wsS RX8 109 yX8_isMaker wsX8_isMaker) := goodIn_app (goodIn_of _ (by decide +kernel)) ggX8_lie_X8_isMaker
set_option maxRecDepth 20000 in
theorem ggX8_lie_X8_isIn : GoodIn wsX8_lie wsX8_isIn := goodIn_r _ [8] (by decide +kernel) (by decide +kernel)
set_option maxRecDepth 20000 in
theorem gX8_lie_X8_isIn : GoodIn wsX8_lie (va_wsS RX8 39 yX8_isIn wsX8_isIn) := goodIn_app (goodIn_of _ (by decide +kernel)) ggX8_lie_X8_isIn
set_option maxRecDepth 20000 in
theorem ggX8_lie_X3_low : GoodIn wsX8_lie wsX3_low := goodIn_r _ [13, 14, 32, 33, 34, 35, 36] (by decide +kernel) (by decide +kernel)
set_option maxRecDepth 20000 in
theorem gX8_lie_X3_low : GoodIn wsX8_lie (wsV RX8 128 RX3 yX3_low wsX3_low) := goodIn_app (goodIn_of _ (by decide +kernel)) ggX8_lie_X3_low
set_option maxRecDepth 20000 in
theorem ggX8_lie_X3_high : GoodIn wsX8_lie wsX3_high := goodIn_r _ [18, 19, 32, 33, 34, 35, 36] (by decide +kernel) (by decide +kernel)
set_option maxRecDepth 20000 in
theorem gX8_lie_X3_high : GoodIn wsX8_lie (wsV RX8 131 RX3 yX3_high wsX3_high) := goodIn_app (goodIn_of _ (by decide +kernel)) ggX8_lie_X3_high
set_option maxRecDepth 20000 in
theorem ggX8_fits_X2_pieceAt : GoodIn wsX8_fits wsX2_pieceAt := goodIn_r _ [6, 7, 8, 49, 50, 51, 52, 53, 54, 55, 56] (by decide +kernel) (by decide +kernel)
set_option maxRecDepth 20000 in
theorem gX8_fits_X2_pieceAt : GoodIn wsX8_fits (wsV RX8 96 RX2 yX2_pieceAt wsX2_pieceAt) := goodIn_app (goodIn_of _ (by decide +kernel)) ggX8_fits_X2_pieceAt
set_option maxRecDepth 20000 in
theorem ggX8_fits_X8_isLabel : GoodIn wsX8_fits wsX8_isLabel := goodIn_r _ [12, 13, 14, 11, 15] (by decide +kernel) (by decide +kernel)
set_option maxRecDepth 20000 in
theorem gX8_fits_X8_isLabel : GoodIn wsX8_fits (va_wsS RX8 112 yX8_isLabel wsX8_isLabel) := goodIn_app (goodIn_of _ (by decide +kernel)) ggX8_fits_X8_isLabel
set_option maxRecDepth 20000 in
theorem ggX8_fits_X8_isIn : GoodIn wsX8_fits wsX8_isIn := goodIn_r _ [15] (by decide +kernel) (by decide +kernel)
set_option maxRecDepth 20000 in
theorem gX8_fits_X8_isIn : GoodIn wsX8_fits (va_wsS RX8 39 yX8_isIn wsX8_isIn) := goodIn_app (goodIn_of _ (by decide +kernel)) ggX8_fits_X8_isIn
set_option maxRecDepth 20000 in
theorem ggX8_fits_X2_fitOf : GoodIn wsX8_fits wsX2_fitOf := goodIn_r _ [19, 20, 21, 22, 23, 24, 25, 26, 27, 28, 29, 30, 31, 32, 33, 34, 35, 36, 37, 38, 39, 40, 41, 42, 43, 44, 49, 50, 51, 52, 53, 54, 55, 56, 57, 58, 59, 60, 61, 62, 63, 64, 65, 66, 67, 68, 69, 70, 71, 72, 73, 74, 75] (by decide +kernel) (by decide +kernel)
set_option maxRecDepth 20000 in
theorem gX8_fits_X2_fitOf : GoodIn wsX8_fits (wsV RX8 138 RX2 yX2_fitOf wsX2_fitOf) := goodIn_app (goodIn_of _ (by decide +kernel)) ggX8_fits_X2_fitOf
set_option maxRecDepth 20000 in
theorem ggX8_book_X8_isBookingAsTold : GoodIn wsX8_book wsX8_isBookingAsTold := goodIn_r _ [5, 6, 7, 4, 8, 9, 10, 11, 12, 13, 14, 15, 16, 17] (by decide +kernel) (by decide +kernel)
set_option maxRecDepth 20000 in
theorem gX8_book_X8_isBookingAsTold : GoodIn wsX8_book (va_wsS RX8 142 yX8_isBookingAsTold wsX8_isBookingAsTold) := goodIn_app (goodIn_of _ (by decide +kernel)) ggX8_book_X8_isBookingAsTold
set_option maxRecDepth 20000 in
theorem ggX8_book_X2_hasRoomForBookings : GoodIn wsX8_book wsX2_hasRoomForBookings := goodIn_r _ [22, 23, 52, 53, 54, 55, 56, 57, 58, 59] (by decide +kernel) (by decide +kernel)
set_option maxRecDepth 20000 in
theorem gX8_book_X2_hasRoomForBookings : GoodIn wsX8_book (wsV RX8 146 RX2 yX2_hasRoomForBookings wsX2_hasRoomForBookings) := goodIn_app (goodIn_of _ (by decide +kernel)) ggX8_book_X2_hasRoomForBookings
set_option maxRecDepth 20000 in
theorem ggX8_book_X2_addBooking : GoodIn wsX8_book wsX2_addBooking := goodIn_r _ [27, 28, 23, 29, 30, 31, 32, 19, 20, 21, 22, 33, 34, 35, 36, 37, 38, 39, 40, 41, 42, 43, 44, 45, 46, 47, 52, 53, 54, 55, 56, 57, 58, 59, 60, 61, 62, 63, 64, 65, 66, 67, 68, 69, 70, 71, 72, 73] (by decide +kernel) (by decide +kernel)
set_option maxRecDepth 20000 in
theorem gX8_book_X2_addBooking : GoodIn wsX8_book (wsV RX8 149 RX2 yX2_addBooking wsX2_addBooking) := goodIn_app (goodIn_of _ (by decide +kernel)) ggX8_book_X2_addBooking
set_option maxRecDepth 20000 in
theorem ggX8_off_X2_bookingAt : GoodIn wsX8_off wsX2_bookingAt := goodIn_r _ [6, 7, 8, 45, 46, 47, 48, 49, 50, 51, 52] (by decide +kernel) (by decide +kernel)
set_option maxRecDepth 20000 in
theorem gX8_off_X2_bookingAt : GoodIn wsX8_off (wsV RX8 156 RX2 yX2_bookingAt wsX2_bookingAt) := goodIn_app (goodIn_of _ (by decide +kernel)) ggX8_off_X2_bookingAt
set_option maxRecDepth 20000 in
theorem ggX8_off_X8_isDay : GoodIn wsX8_off wsX8_isDay := goodIn_r _ [12, 13, 14, 11, 15] (by decide +kernel) (by decide +kernel)
set_option maxRecDepth 20000 in
theorem gX8_off_X8_isDay : GoodIn wsX8_off (va_wsS RX8 160 yX8_isDay wsX8_isDay) := goodIn_app (goodIn_of _ (by decide +kernel)) ggX8_off_X8_isDay
set_option maxRecDepth 20000 in
theorem ggX8_off_X0_isCalledOff : GoodIn wsX8_off wsX0_isCalledOff := goodIn_r _ [20, 21, 31, 32, 33, 34, 35, 36, 37, 38, 39, 40, 41, 42, 43, 44] (by decide +kernel) (by decide +kernel)
set_option maxRecDepth 20000 in
theorem gX8_off_X0_isCalledOff : GoodIn wsX8_off (wsV RX8 168 RX0 yX0_isCalledOff wsX0_isCalledOff) := goodIn_app (goodIn_of _ (by decide +kernel)) ggX8_off_X0_isCalledOff
set_option maxRecDepth 20000 in
theorem ggX8_off_X0_wentOut : GoodIn wsX8_off wsX0_wentOut := goodIn_r _ [25, 26, 31, 32, 33, 34, 35, 36, 37, 38, 39, 40, 41, 42, 43, 44] (by decide +kernel) (by decide +kernel)
set_option maxRecDepth 20000 in
theorem gX8_off_X0_wentOut : GoodIn wsX8_off (wsV RX8 172 RX0 yX0_wentOut wsX0_wentOut) := goodIn_app (goodIn_of _ (by decide +kernel)) ggX8_off_X0_wentOut
set_option maxRecDepth 20000 in
theorem ggX8_give_X2_bookingAt : GoodIn wsX8_give wsX2_bookingAt := goodIn_r _ [6, 7, 8, 135, 136, 137, 138, 139, 140, 141, 142] (by decide +kernel) (by decide +kernel)
set_option maxRecDepth 20000 in
theorem gX8_give_X2_bookingAt : GoodIn wsX8_give (wsV RX8 156 RX2 yX2_bookingAt wsX2_bookingAt) := goodIn_app (goodIn_of _ (by decide +kernel)) ggX8_give_X2_bookingAt
set_option maxRecDepth 20000 in
theorem ggX8_give_X0_waits : GoodIn wsX8_give wsX0_waits := goodIn_r _ [13, 14, 15, 16, 17, 12, 18, 19, 121, 122, 123, 124, 125, 126, 127, 128, 129, 130, 131, 132, 133, 134] (by decide +kernel) (by decide +kernel)
set_option maxRecDepth 20000 in
theorem gX8_give_X0_waits : GoodIn wsX8_give (wsV RX8 182 RX0 yX0_waits wsX0_waits) := goodIn_app (goodIn_of _ (by decide +kernel)) ggX8_give_X0_waits
set_option maxRecDepth 20000 in
theorem ggX8_give_X2_bestFor : GoodIn wsX8_give wsX2_bestFor := goodIn_r _ [23, 24, 25, 26, 27, 5, 28, 29, 30, 31, 32, 33, 34, 35, 36, 37, 38, 39, 40, 41, 42, 43, 44, 45, 46, 47, 48, 49, 50, 51, 52, 53, 54, 55, 56, 57, 58, 59, 60, 61, 62, 63, 64, 65, 66, 67, 68, 69, 70, 71, 72, 73, 74, 75, 76, 77, 78, 79, 80, 81, 82, 83, 84, 85, 86, 87, 88, 89, 90, 7, 91, 3, 4, 6, 8, 92, 93, 94, 95, 96, 97, 98, 99, 100, 101, 102, 103, 104, 105, 106, 107, 108, 109, 110, 111, 112, 135, 136, 137, 138, 139, 140, 141, 142, 143, 144, 145, 146, 147, 148, 149, 150, 151, 152, 153, 154, 121, 122, 123, 124, 125, 126, 127, 128, 129, 130, 131, 132, 133, 134, 155, 156, 157, 158, 159, 160, 161] (by decide +kernel) (by decide +kernel)
set_option maxRecDepth 20000 in
theorem gX8_give_X2_bestFor : GoodIn wsX8_give (wsV RX8 185 RX2 yX2_bestFor wsX2_bestFor) := goodIn_app (goodIn_of _ (by decide +kernel)) ggX8_give_X2_bestFor
set_option maxRecDepth 20000 in
theorem ggX8_give_X0_pieceNumber : GoodIn wsX8_give wsX0_pieceNumber := goodIn_r _ [116, 14, 121, 122, 123, 124, 125, 126, 127, 128, 129, 130, 131, 132, 133, 134, 143, 144, 145, 146, 147, 148, 149, 150, 151, 152, 153, 154] (by decide +kernel) (by decide +kernel)
set_option maxRecDepth 20000 in
theorem gX8_give_X0_pieceNumber : GoodIn wsX8_give (wsV RX8 189 RX0 yX0_pieceNumber wsX0_pieceNumber) := goodIn_app (goodIn_of _ (by decide +kernel)) ggX8_give_X0_pieceNumber
set_option maxRecDepth 20000 in
theorem ggX8_has_X2_bookingAt : GoodIn wsX8_has wsX2_bookingAt := goodIn_r _ [6, 7, 8, 19, 20, 21, 22, 23, 24, 25, 26] (by decide +kernel) (by decide +kernel)
set_option maxRecDepth 20000 in
theorem gX8_has_X2_bookingAt : GoodIn wsX8_has (wsV RX8 156 RX2 yX2_bookingAt wsX2_bookingAt) := goodIn_app (goodIn_of _ (by decide +kernel)) ggX8_has_X2_bookingAt
set_option maxRecDepth 20000 in
theorem ggX8_has_X0_pieceNumber : GoodIn wsX8_has wsX0_pieceNumber := goodIn_r _ [13, 14, 27, 28, 29, 30, 31, 32, 33, 34, 35, 36, 37, 38, 39, 40, 41, 42, 43, 44, 45, 46, 47, 48, 49, 50, 51, 52] (by decide +kernel) (by decide +kernel)
set_option maxRecDepth 20000 in
theorem gX8_has_X0_pieceNumber : GoodIn wsX8_has (wsV RX8 189 RX0 yX0_pieceNumber wsX0_pieceNumber) := goodIn_app (goodIn_of _ (by decide +kernel)) ggX8_has_X0_pieceNumber
