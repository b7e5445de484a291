set_option maxRecDepth 20000 in
theorem ggX8_free_X2_pieceAt : GoodIn wsX8_free wsX2_pieceAt := goodIn_r _ [6, 7, 8, 69, 70, 71, 72, 73, 74, 75, 76] (by decide +kernel) (by decide +kernel)
set_option maxRecDepth 20000 in
theorem gX8_free_X2_pieceAt : GoodIn wsX8_free (wsV RX8 96 RX2 yX2_pieceAt wsX2_pieceAt) := goodIn_app (goodIn_of _ (by decide +kernel)) ggX8_free_X2_pieceAt
set_option maxRecDepth 20000 in
theorem ggX8_free_X2_bookingAt : GoodIn wsX8_free wsX2_bookingAt := goodIn_r _ [12, 13, 14, 69, 70, 71, 72, 73, 74, 75, 76] (by decide +kernel) (by decide +kernel)
set_option maxRecDepth 20000 in
theorem gX8_free_X2_bookingAt : GoodIn wsX8_free (wsV RX8 156 RX2 yX2_bookingAt wsX2_bookingAt) := goodIn_app (goodIn_of _ (by decide +kernel)) ggX8_free_X2_bookingAt
set_option maxRecDepth 20000 in
theorem ggX8_free_X2_isFree : GoodIn wsX8_free wsX2_isFree := goodIn_r _ [18, 19, 20, 21, 22, 23, 24, 25, 26, 27, 28, 29, 30, 31, 32, 33, 34, 35, 36, 37, 38, 39, 40, 41, 42, 5, 43, 13, 44, 10, 11, 12, 14, 45, 46, 47, 48, 49, 50, 51, 52, 53, 54, 55, 56, 57, 58, 59, 60, 61, 62, 63, 64, 77, 78, 79, 80, 81, 82, 83, 84, 85, 86, 87, 88, 89, 90, 91, 92, 93, 94, 95, 96, 97, 98, 99, 100, 101, 102, 69, 70, 71, 72, 73, 74, 75, 76, 103, 104] (by decide +kernel) (by decide +kernel)
set_option maxRecDepth 20000 in
theorem gX8_free_X2_isFree : GoodIn wsX8_free (wsV RX8 193 RX2 yX2_isFree wsX2_isFree) := goodIn_app (goodIn_of _ (by decide +kernel)) ggX8_free_X2_isFree
set_option maxRecDepth 20000 in
theorem ggX8_away_X2_pieceAt : GoodIn wsX8_away wsX2_pieceAt := goodIn_r _ [6, 7, 8, 43, 44, 45, 46, 47, 48, 49, 50] (by decide +kernel) (by decide +kernel)
set_option maxRecDepth 20000 in
theorem gX8_away_X2_pieceAt : GoodIn wsX8_away (wsV RX8 96 RX2 yX2_pieceAt wsX2_pieceAt) := goodIn_app (goodIn_of _ (by decide +kernel)) ggX8_away_X2_pieceAt
set_option maxRecDepth 20000 in
theorem ggX8_away_X2_bookingAt : GoodIn wsX8_away wsX2_bookingAt := goodIn_r _ [12, 13, 14, 43, 44, 45, 46, 47, 48, 49, 50] (by decide +kernel) (by decide +kernel)
set_option maxRecDepth 20000 in
theorem gX8_away_X2_bookingAt : GoodIn wsX8_away (wsV RX8 156 RX2 yX2_bookingAt wsX2_bookingAt) := goodIn_app (goodIn_of _ (by decide +kernel)) ggX8_away_X2_bookingAt
set_option maxRecDepth 20000 in
theorem ggX8_away_X8_isIn : GoodIn wsX8_away wsX8_isIn := goodIn_r _ [18] (by decide +kernel) (by decide +kernel)
set_option maxRecDepth 20000 in
theorem gX8_away_X8_isIn : GoodIn wsX8_away (va_wsS RX8 39 yX8_isIn wsX8_isIn) := goodIn_app (goodIn_of _ (by decide +kernel)) ggX8_away_X8_isIn
set_option maxRecDepth 20000 in
theorem ggX8_away_X2_firstAway : GoodIn wsX8_away wsX2_firstAway := goodIn_r _ [22, 23, 24, 25, 26, 27, 28, 29, 30, 31, 32, 5, 33, 34, 51, 52, 53, 54, 55, 56, 57, 58, 59, 60, 61, 62, 63, 64, 43, 44, 45, 46, 47, 48, 49, 50, 65, 66, 67, 68, 69, 70, 71, 72, 73, 74, 75, 76, 77, 78] (by decide +kernel) (by decide +kernel)
set_option maxRecDepth 20000 in
theorem gX8_away_X2_firstAway : GoodIn wsX8_away (wsV RX8 197 RX2 yX2_firstAway wsX2_firstAway) := goodIn_app (goodIn_of _ (by decide +kernel)) ggX8_away_X2_firstAway
set_option maxRecDepth 20000 in
theorem ggX8_away_X2_lastAway : GoodIn wsX8_away wsX2_lastAway := goodIn_r _ [38, 23, 30, 31, 32, 5, 33, 34, 24, 25, 26, 27, 28, 29, 51, 52, 53, 54, 55, 56, 57, 58, 59, 60, 61, 62, 63, 64, 65, 66, 67, 68, 69, 70, 71, 72, 73, 74, 75, 76, 43, 44, 45, 46, 47, 48, 49, 50, 77, 78] (by decide +kernel) (by decide +kernel)
set_option maxRecDepth 20000 in
theorem gX8_away_X2_lastAway : GoodIn wsX8_away (wsV RX8 201 RX2 yX2_lastAway wsX2_lastAway) := goodIn_app (goodIn_of _ (by decide +kernel)) ggX8_away_X2_lastAway
set_option maxRecDepth 20000 in
theorem ggX8_tear_X2_pieceAt : GoodIn wsX8_tear wsX2_pieceAt := goodIn_r _ [6, 7, 8, 58, 59, 60, 61, 62, 63, 64, 65] (by decide +kernel) (by decide +kernel)
set_option maxRecDepth 20000 in
theorem gX8_tear_X2_pieceAt : GoodIn wsX8_tear (wsV RX8 96 RX2 yX2_pieceAt wsX2_pieceAt) := goodIn_app (goodIn_of _ (by decide +kernel)) ggX8_tear_X2_pieceAt
set_option maxRecDepth 20000 in
theorem ggX8_tear_X8_isDay : GoodIn wsX8_tear wsX8_isDay := goodIn_r _ [12, 13, 14, 11, 15] (by decide +kernel) (by decide +kernel)
set_option maxRecDepth 20000 in
theorem gX8_tear_X8_isDay : GoodIn wsX8_tear (va_wsS RX8 160 yX8_isDay wsX8_isDay) := goodIn_app (goodIn_of _ (by decide +kernel)) ggX8_tear_X8_isDay
set_option maxRecDepth 20000 in
theorem ggX8_tear_X4_isTornBy : GoodIn wsX8_tear wsX4_isTornBy := goodIn_r _ [20, 21, 22, 23, 24, 19, 25, 46, 47, 48, 49, 50, 51, 52, 53, 54, 55, 56, 57] (by decide +kernel) (by decide +kernel)
set_option maxRecDepth 20000 in
theorem gX8_tear_X4_isTornBy : GoodIn wsX8_tear (wsV RX8 204 RX4 yX4_isTornBy wsX4_isTornBy) := goodIn_app (goodIn_of _ (by decide +kernel)) ggX8_tear_X4_isTornBy
set_option maxRecDepth 20000 in
theorem ggX8_tear_X2_takeFromNights : GoodIn wsX8_tear wsX2_takeFromNights := goodIn_r _ [29, 30, 31, 32, 33, 5, 34, 35, 36, 37, 38, 39, 40, 41, 58, 59, 60, 61, 62, 63, 64, 65, 66, 67, 68, 69, 70, 71, 72, 73, 74, 75, 76, 77, 78, 79] (by decide +kernel) (by decide +kernel)
set_option maxRecDepth 20000 in
theorem gX8_tear_X2_takeFromNights : GoodIn wsX8_tear (wsV RX8 210 RX2 yX2_takeFromNights wsX2_takeFromNights) := goodIn_app (goodIn_of _ (by decide +kernel)) ggX8_tear_X2_takeFromNights
set_option maxRecDepth 20000 in
theorem ggX8_mend_X2_pieceAt : GoodIn wsX8_mend wsX2_pieceAt := goodIn_r _ [6, 7, 8, 31, 32, 33, 34, 35, 36, 37, 38] (by decide +kernel) (by decide +kernel)
set_option maxRecDepth 20000 in
theorem gX8_mend_X2_pieceAt : GoodIn wsX8_mend (wsV RX8 96 RX2 yX2_pieceAt wsX2_pieceAt) := goodIn_app (goodIn_of _ (by decide +kernel)) ggX8_mend_X2_pieceAt
set_option maxRecDepth 20000 in
theorem ggX8_mend_X4_isTorn : GoodIn wsX8_mend wsX4_isTorn := goodIn_r _ [13, 14, 19, 20, 21, 22, 23, 24, 25, 26, 27, 28, 29, 30] (by decide +kernel) (by decide +kernel)
set_option maxRecDepth 20000 in
theorem gX8_mend_X4_isTorn : GoodIn wsX8_mend (wsV RX8 214 RX4 yX4_isTorn wsX4_isTorn) := goodIn_app (goodIn_of _ (by decide +kernel)) ggX8_mend_X4_isTorn
set_option maxRecDepth 20000 in
theorem ggX8_chain_X2_bookingAt : GoodIn wsX8_chain wsX2_bookingAt := goodIn_r _ [7, 8, 9, 146, 147, 148, 149, 150, 151, 152, 153] (by decide +kernel) (by decide +kernel)
set_option maxRecDepth 20000 in
theorem gX8_chain_X2_bookingAt : GoodIn wsX8_chain (wsV RX8 156 RX2 yX2_bookingAt wsX2_bookingAt) := goodIn_app (goodIn_of _ (by decide +kernel)) ggX8_chain_X2_bookingAt
set_option maxRecDepth 20000 in
theorem ggX8_chain_X0_waits : GoodIn wsX8_chain wsX0_waits := goodIn_r _ [14, 15, 16, 17, 18, 13, 19, 20, 154, 155, 156, 157, 158, 159, 160, 161, 162, 163, 164, 165, 166, 167] (by decide +kernel) (by decide +kernel)
set_option maxRecDepth 20000 in
theorem gX8_chain_X0_waits : GoodIn wsX8_chain (wsV RX8 182 RX0 yX0_waits wsX0_waits) := goodIn_app (goodIn_of _ (by decide +kernel)) ggX8_chain_X0_waits
set_option maxRecDepth 20000 in
theorem ggX8_chain_X1_find : GoodIn wsX8_chain wsX1_find := goodIn_r _ [25, 26, 27, 28, 29, 30, 31, 32, 33, 34, 35, 36, 37, 38, 39, 4, 5, 6, 7, 8, 9, 40, 41, 42, 24, 43, 44, 45, 46, 47, 48, 49, 50, 51, 52, 53, 54, 55, 56, 57, 58, 59, 60, 61, 62, 63, 64, 65, 66, 67, 68, 69, 70, 71, 72, 73, 74, 75, 76, 77, 78, 79, 80, 81, 82, 83, 84, 85, 86, 87, 88, 89, 90, 91, 92, 93, 94, 95, 96, 97, 98, 99, 100, 101, 102, 103, 104, 105, 106, 107, 108, 109, 110, 111, 112, 113, 114, 115, 116, 117, 118, 119, 13, 120, 121, 122, 123, 124, 125, 126, 127, 128, 129, 130, 131, 132, 133, 134, 135, 136, 137, 138, 139, 140, 141, 168, 169, 170, 171, 172, 173, 146, 147, 148, 149, 150, 151, 152, 153, 154, 155, 156, 157, 158, 159, 160, 161, 162, 163, 164, 165, 166, 167, 174, 175, 176, 177, 178, 179, 180, 181, 182, 183, 184, 185, 186, 187, 188, 189, 190, 191, 192] (by decide +kernel) (by decide +kernel)
set_option maxRecDepth 20000 in
theorem gX8_chain_X1_find : GoodIn wsX8_chain (wsV RX8 217 RX1 yX1_find wsX1_find) := goodIn_app (goodIn_of _ (by decide +kernel)) ggX8_chain_X1_find
set_option maxRecDepth 20000 in
theorem ggX8_link_X8_isIn : GoodIn wsX8_link wsX8_isIn := goodIn_r _ [5] (by decide +kernel) (by decide +kernel)
set_option maxRecDepth 20000 in
theorem gX8_link_X8_isIn : GoodIn wsX8_link (va_wsS RX8 39 yX8_isIn wsX8_isIn) := goodIn_app (goodIn_of _ (by decide +kernel)) ggX8_link_X8_isIn
set_option maxRecDepth 20000 in
theorem ggX8_link_X8_chain : GoodIn wsX8_link wsX8_chain := goodIn_r _ [9, 10, 1, 11, 12, 13, 14, 15, 16, 17, 18, 19, 20, 21, 22, 23, 24, 25, 26, 27, 28, 29, 30, 31, 32, 33, 34, 35, 36, 37, 38, 39, 40, 41, 42, 43, 44, 45, 46, 47, 48, 49, 50, 51, 52, 53, 54, 55, 56, 57, 58, 59, 60, 61, 62, 63, 64, 65, 66, 67, 68, 69, 70, 71, 72, 73, 74, 75, 76, 77, 78, 79, 80, 81, 82, 83, 84, 85, 86, 87, 88, 89, 90, 91, 92, 93, 94, 95, 96, 97, 98, 99, 100, 101, 102, 103, 104, 105, 106, 107, 108, 109, 110, 111, 112, 113, 114, 115, 116, 117, 118, 119, 120, 121, 122, 123, 124, 125, 126, 127, 128, 129, 130, 131, 132, 133, 134, 135, 136, 137, 138, 139, 140, 141, 142, 143, 144, 145, 146, 147, 148, 149, 158, 159, 160, 161, 162, 163, 164, 165, 166, 167, 168, 169, 170, 171, 172, 173, 174, 175, 176, 177, 178, 179, 180, 181, 182, 183, 184, 185, 186, 187, 188, 189, 190, 191, 192, 193, 194, 195, 196, 197, 198, 199, 200, 201, 202, 203, 204, 205, 206, 207, 208] (by decide +kernel) (by decide +kernel)
set_option maxRecDepth 20000 in
theorem gX8_link_X8_chain : GoodIn wsX8_link (wsV RX8 221 RX8 yX8_chain wsX8_chain) := goodIn_app (goodIn_of _ (by decide +kernel)) ggX8_link_X8_chain
set_option maxRecDepth 20000 in
theorem ggX8_link_X1_bookingIn : GoodIn wsX8_link wsX1_bookingIn := goodIn_r _ [153, 39, 40, 184, 185, 186, 187, 188, 189] (by decide +kernel) (by decide +kernel)
set_option maxRecDepth 20000 in
theorem gX8_link_X1_bookingIn : GoodIn wsX8_link (wsV RX8 223 RX1 yX1_bookingIn wsX1_bookingIn) := goodIn_app (goodIn_of _ (by decide +kernel)) ggX8_link_X1_bookingIn
set_option maxRecDepth 20000 in
theorem ggX8_link_X1_pieceIn : GoodIn wsX8_link wsX1_pieceIn := goodIn_r _ [157, 39, 145, 184, 185, 186, 187, 188, 189] (by decide +kernel) (by decide +kernel)
set_option maxRecDepth 20000 in
theorem gX8_link_X1_pieceIn : GoodIn wsX8_link (wsV RX8 226 RX1 yX1_pieceIn wsX1_pieceIn) := goodIn_app (goodIn_of _ (by decide +kernel)) ggX8_link_X1_pieceIn
set_option maxRecDepth 20000 in
theorem ggX8_swap_X8_chain : GoodIn wsX8_swap wsX8_chain := goodIn_r _ [6, 7, 1, 8, 9, 10, 11, 12, 13, 14, 15, 16, 17, 18, 19, 20, 21, 22, 23, 24, 25, 26, 27, 28, 29, 30, 31, 32, 33, 34, 35, 36, 37, 38, 39, 40, 41, 42, 43, 44, 45, 46, 47, 48, 49, 50, 51, 52, 53, 54, 55, 56, 57, 58, 59, 60, 61, 62, 63, 64, 65, 66, 67, 68, 69, 70, 71, 72, 73, 74, 75, 76, 77, 78, 79, 80, 81, 82, 83, 84, 85, 86, 87, 88, 89, 90, 91, 92, 93, 94, 95, 96, 97, 98, 99, 100, 101, 102, 103, 104, 105, 106, 107, 108, 109, 110, 111, 112, 113, 114, 115, 116, 117, 118, 119, 120, 121, 122, 123, 124, 125, 126, 127, 128, 129, 130, 131, 132, 133, 134, 135, 136, 137, 138, 139, 140, 141, 142, 143, 144, 145, 146, 159, 160, 161, 162, 163, 164, 165, 166, 167, 168, 169, 170, 171, 172, 173, 174, 175, 176, 177, 178, 179, 180, 181, 182, 183, 184, 185, 186, 187, 188, 189, 190, 191, 192, 193, 194, 195, 196, 197, 198, 199, 200, 201, 202, 203, 204, 205, 206, 207, 208, 209] (by decide +kernel) (by decide +kernel)
set_option maxRecDepth 20000 in
theorem gX8_swap_X8_chain : GoodIn wsX8_swap (wsV RX8 221 RX8 yX8_chain wsX8_chain) := goodIn_app (goodIn_of _ (by decide +kernel)) ggX8_swap_X8_chain
set_option maxRecDepth 20000 in
theorem ggX8_swap_X1_perform : GoodIn wsX8_swap wsX1_perform := goodIn_r _ [150, 36, 31, 151, 152, 153, 29, 154, 37, 44, 9, 10, 11, 12, 13, 14, 155, 156, 157, 158, 142, 51, 52, 53, 54, 55, 56, 185, 186, 187, 188, 189, 190, 171, 172, 173, 174, 175, 176, 177, 178, 179, 180, 181, 182, 183, 184, 163, 164, 165, 166, 167, 168, 169, 170] (by decide +kernel) (by decide +kernel)
set_option maxRecDepth 20000 in
theorem gX8_swap_X1_perform : GoodIn wsX8_swap (wsV RX8 229 RX1 yX1_perform wsX1_perform) := goodIn_app (goodIn_of _ (by decide +kernel)) ggX8_swap_X1_perform
set_option maxRecDepth 20000 in
theorem ggX8_match_X8_isIn : GoodIn wsX8_match wsX8_isIn := goodIn_r _ [5] (by decide +kernel) (by decide +kernel)
set_option maxRecDepth 20000 in
theorem gX8_match_X8_isIn : GoodIn wsX8_match (va_wsS RX8 39 yX8_isIn wsX8_isIn) := goodIn_app (goodIn_of _ (by decide +kernel)) ggX8_match_X8_isIn
set_option maxRecDepth 20000 in
theorem ggX8_match_X2_membersOf : GoodIn wsX8_match wsX2_membersOf := goodIn_r _ [10, 11, 12, 13, 14, 9, 15, 16, 17, 18, 19, 20, 21, 22, 23, 24, 25, 26, 132, 133, 134, 135, 136, 137, 138, 139, 140, 141, 142, 143, 144, 145, 146, 147, 148, 149, 150, 151, 152, 153] (by decide +kernel) (by decide +kernel)
set_option maxRecDepth 20000 in
theorem gX8_match_X2_membersOf : GoodIn wsX8_match (wsV RX8 232 RX2 yX2_membersOf wsX2_membersOf) := goodIn_app (goodIn_of _ (by decide +kernel)) ggX8_match_X2_membersOf
set_option maxRecDepth 20000 in
theorem ggX8_match_X2_matchedIn : GoodIn wsX8_match wsX2_matchedIn := goodIn_r _ [30, 11, 31, 12, 13, 14, 9, 15, 16, 17, 18, 19, 20, 21, 22, 23, 24, 25, 26, 32, 33, 34, 35, 36, 37, 38, 39, 40, 41, 42, 43, 44, 45, 46, 47, 48, 49, 50, 51, 52, 53, 54, 55, 56, 57, 58, 59, 60, 61, 62, 63, 64, 65, 66, 67, 68, 69, 70, 71, 72, 73, 74, 75, 76, 77, 78, 79, 80, 81, 82, 83, 84, 85, 86, 87, 88, 89, 90, 91, 92, 93, 94, 95, 96, 97, 98, 99, 100, 101, 102, 103, 104, 105, 106, 107, 108, 109, 110, 111, 112, 113, 114, 115, 116, 117, 118, 119, 120, 121, 122, 123, 124, 125, 126, 127, 132, 133, 134, 135, 136, 137, 138, 139, 140, 141, 142, 143, 144, 145, 146, 147, 148, 149, 150, 151, 152, 153, 154, 155, 156, 157, 158, 159, 160, 161, 162, 163, 164, 165, 166, 167, 168, 169, 170, 171, 172] (by decide +kernel) (by decide +kernel)
set_option maxRecDepth 20000 in
theorem gX8_match_X2_matchedIn : GoodIn wsX8_match (wsV RX8 235 RX2 yX2_matchedIn wsX2_matchedIn) := goodIn_app (goodIn_of _ (by decide +kernel)) ggX8_match_X2_matchedIn
set_option maxRecDepth 20000 in
theorem ggX8_asOf_X8_isDay : GoodIn wsX8_asOf wsX8_isDay := goodIn_r _ [5, 6, 7, 4, 8] (by decide +kernel) (by decide +kernel)
set_option maxRecDepth 20000 in
theorem gX8_asOf_X8_isDay : GoodIn wsX8_asOf (va_wsS RX8 160 yX8_isDay wsX8_isDay) := goodIn_app (goodIn_of _ (by decide +kernel)) ggX8_asOf_X8_isDay
set_option maxRecDepth 20000 in
theorem ggX8_asOf_X8_isIn : GoodIn wsX8_asOf wsX8_isIn := goodIn_r _ [8] (by decide +kernel) (by decide +kernel)
set_option maxRecDepth 20000 in
theorem gX8_asOf_X8_isIn : GoodIn wsX8_asOf (va_wsS RX8 39 yX8_isIn wsX8_isIn) := goodIn_app (goodIn_of _ (by decide +kernel)) ggX8_asOf_X8_isIn
set_option maxRecDepth 20000 in
theorem ggX8_asOf_X2_knownOn : GoodIn wsX8_asOf wsX2_knownOn := goodIn_r _ [13, 14, 15, 16, 17, 12, 18, 19, 20, 21, 22, 23, 24, 25, 26, 27, 28, 29, 30, 7, 4, 8, 35, 36, 37, 38, 39, 40, 41, 42, 43, 44, 45, 46, 47, 48, 49, 50, 51, 52, 53, 54, 55, 56] (by decide +kernel) (by decide +kernel)
set_option maxRecDepth 20000 in
theorem gX8_asOf_X2_knownOn : GoodIn wsX8_asOf (wsV RX8 238 RX2 yX2_knownOn wsX2_knownOn) := goodIn_app (goodIn_of _ (by decide +kernel)) ggX8_asOf_X2_knownOn
set_option maxRecDepth 20000 in
theorem ggX8_out_X2_bookingAt : GoodIn wsX8_out wsX2_bookingAt := goodIn_r _ [6, 7, 8, 54, 55, 56, 57, 58, 59, 60, 61] (by decide +kernel) (by decide +kernel)
set_option maxRecDepth 20000 in
theorem gX8_out_X2_bookingAt : GoodIn wsX8_out (wsV RX8 156 RX2 yX2_bookingAt wsX2_bookingAt) := goodIn_app (goodIn_of _ (by decide +kernel)) ggX8_out_X2_bookingAt
set_option maxRecDepth 20000 in
theorem ggX8_out_X8_isIn : GoodIn wsX8_out wsX8_isIn := goodIn_r _ [12] (by decide +kernel) (by decide +kernel)
set_option maxRecDepth 20000 in
theorem gX8_out_X8_isIn : GoodIn wsX8_out (va_wsS RX8 39 yX8_isIn wsX8_isIn) := goodIn_app (goodIn_of _ (by decide +kernel)) ggX8_out_X8_isIn
set_option maxRecDepth 20000 in
theorem ggX8_out_X0_wentOut : GoodIn wsX8_out wsX0_wentOut := goodIn_r _ [17, 18, 40, 41, 42, 43, 44, 45, 46, 47, 48, 49, 50, 51, 52, 53] (by decide +kernel) (by decide +kernel)
set_option maxRecDepth 20000 in
theorem gX8_out_X0_wentOut : GoodIn wsX8_out (wsV RX8 172 RX0 yX0_wentOut wsX0_wentOut) := goodIn_app (goodIn_of _ (by decide +kernel)) ggX8_out_X0_wentOut
set_option maxRecDepth 20000 in
theorem ggX8_out_X2_depositOn : GoodIn wsX8_out wsX2_depositOn := goodIn_r _ [22, 23, 24, 25, 26, 27, 28, 29, 62, 63, 64, 65, 66, 67, 68, 69, 70, 71, 72, 73, 54, 55, 56, 57, 58, 59, 60, 61, 74, 75] (by decide +kernel) (by decide +kernel)
set_option maxRecDepth 20000 in
theorem gX8_out_X2_depositOn : GoodIn wsX8_out (wsV RX8 242 RX2 yX2_depositOn wsX2_depositOn) := goodIn_app (goodIn_of _ (by decide +kernel)) ggX8_out_X2_depositOn
set_option maxRecDepth 20000 in
theorem ggX8_out_X0_goOut : GoodIn wsX8_out wsX0_goOut := goodIn_r _ [33, 18, 34, 35, 40, 41, 42, 43, 44, 45, 46, 47, 48, 49, 50, 51, 52, 53] (by decide +kernel) (by decide +kernel)
set_option maxRecDepth 20000 in
theorem gX8_out_X0_goOut : GoodIn wsX8_out (wsV RX8 246 RX0 yX0_goOut wsX0_goOut) := goodIn_app (goodIn_of _ (by decide +kernel)) ggX8_out_X0_goOut
set_option maxRecDepth 20000 in
theorem ggX8_home_X2_bookingAt : GoodIn wsX8_home wsX2_bookingAt := goodIn_r _ [8, 9, 10, 99, 100, 101, 102, 103, 104, 105, 106] (by decide +kernel) (by decide +kernel)
set_option maxRecDepth 20000 in
theorem gX8_home_X2_bookingAt : GoodIn wsX8_home (wsV RX8 156 RX2 yX2_bookingAt wsX2_bookingAt) := goodIn_app (goodIn_of _ (by decide +kernel)) ggX8_home_X2_bookingAt
set_option maxRecDepth 20000 in
theorem ggX8_home_X8_isDay : GoodIn wsX8_home wsX8_isDay := goodIn_r _ [14, 15, 16, 13, 17] (by decide +kernel) (by decide +kernel)
set_option maxRecDepth 20000 in
theorem gX8_home_X8_isDay : GoodIn wsX8_home (va_wsS RX8 160 yX8_isDay wsX8_isDay) := goodIn_app (goodIn_of _ (by decide +kernel)) ggX8_home_X8_isDay
set_option maxRecDepth 20000 in
theorem ggX8_home_X8_isIn : GoodIn wsX8_home wsX8_isIn := goodIn_r _ [17] (by decide +kernel) (by decide +kernel)
set_option maxRecDepth 20000 in
theorem gX8_home_X8_isIn : GoodIn wsX8_home (va_wsS RX8 39 yX8_isIn wsX8_isIn) := goodIn_app (goodIn_of _ (by decide +kernel)) ggX8_home_X8_isIn
set_option maxRecDepth 20000 in
theorem ggX8_home_X2_firstAway : GoodIn wsX8_home wsX2_firstAway := goodIn_r _ [21, 22, 23, 24, 25, 26, 27, 28, 29, 30, 31, 7, 32, 33, 73, 74, 75, 76, 77, 78, 79, 80, 81, 82, 83, 84, 85, 86, 99, 100, 101, 102, 103, 104, 105, 106, 87, 88, 89, 90, 91, 92, 93, 94, 95, 96, 97, 98, 107, 108] (by decide +kernel) (by decide +kernel)
set_option maxRecDepth 20000 in
theorem gX8_home_X2_firstAway : GoodIn wsX8_home (wsV RX8 197 RX2 yX2_firstAway wsX2_firstAway) := goodIn_app (goodIn_of _ (by decide +kernel)) ggX8_home_X2_firstAway
set_option maxRecDepth 20000 in
theorem ggX8_home_X0_comeHome : GoodIn wsX8_home wsX0_comeHome := goodIn_r _ [38, 39, 40, 41, 73, 74, 75, 76, 77, 78, 79, 80, 81, 82, 83, 84, 85, 86] (by decide +kernel) (by decide +kernel)
set_option maxRecDepth 20000 in
theorem gX8_home_X0_comeHome : GoodIn wsX8_home (wsV RX8 258 RX0 yX0_comeHome wsX0_comeHome) := goodIn_app (goodIn_of _ (by decide +kernel)) ggX8_home_X0_comeHome
set_option maxRecDepth 20000 in
theorem ggX8_home_X2_owedFor : GoodIn wsX8_home wsX2_owedFor := goodIn_r _ [45, 22, 46, 47, 48, 7, 49, 50, 51, 52, 53, 54, 55, 56, 23, 24, 25, 26, 27, 28, 57, 58, 59, 60, 61, 62, 63, 64, 65, 66, 67, 68, 29, 30, 31, 32, 33, 99, 100, 101, 102, 103, 104, 105, 106, 73, 74, 75, 76, 77, 78, 79, 80, 81, 82, 83, 84, 85, 86, 107, 108, 87, 88, 89, 90, 91, 92, 93, 94, 95, 96, 97, 98] (by decide +kernel) (by decide +kernel)
set_option maxRecDepth 20000 in
theorem gX8_home_X2_owedFor : GoodIn wsX8_home (wsV RX8 264 RX2 yX2_owedFor wsX2_owedFor) := goodIn_app (goodIn_of _ (by decide +kernel)) ggX8_home_X2_owedFor
set_option maxRecDepth 20000 in
theorem ggX8_about_X2_bookingAt : GoodIn wsX8_about wsX2_bookingAt := goodIn_r _ [6, 7, 8, 78, 79, 80, 81, 82, 83, 84, 85] (by decide +kernel) (by decide +kernel)
set_option maxRecDepth 20000 in
theorem gX8_about_X2_bookingAt : GoodIn wsX8_about (wsV RX8 156 RX2 yX2_bookingAt wsX2_bookingAt) := goodIn_app (goodIn_of _ (by decide +kernel)) ggX8_about_X2_bookingAt
set_option maxRecDepth 20000 in
theorem ggX8_about_X8_isIn : GoodIn wsX8_about wsX8_isIn := goodIn_r _ [12] (by decide +kernel) (by decide +kernel)
set_option maxRecDepth 20000 in
theorem gX8_about_X8_isIn : GoodIn wsX8_about (va_wsS RX8 39 yX8_isIn wsX8_isIn) := goodIn_app (goodIn_of _ (by decide +kernel)) ggX8_about_X8_isIn
set_option maxRecDepth 20000 in
theorem ggX8_about_X0_wentOut : GoodIn wsX8_about wsX0_wentOut := goodIn_r _ [17, 18, 64, 65, 66, 67, 68, 69, 70, 71, 72, 73, 74, 75, 76, 77] (by decide +kernel) (by decide +kernel)
set_option maxRecDepth 20000 in
theorem gX8_about_X0_wentOut : GoodIn wsX8_about (wsV RX8 172 RX0 yX0_wentOut wsX0_wentOut) := goodIn_app (goodIn_of _ (by decide +kernel)) ggX8_about_X0_wentOut
set_option maxRecDepth 20000 in
theorem ggX8_about_X2_daysLate : GoodIn wsX8_about wsX2_daysLate := goodIn_r _ [22, 23, 24, 25, 26, 27, 28, 29, 30, 5, 31, 32, 33, 34, 35, 36, 37, 38, 39, 40, 41, 42, 64, 65, 66, 67, 68, 69, 70, 71, 72, 73, 74, 75, 76, 77, 78, 79, 80, 81, 82, 83, 84, 85, 86, 87, 88, 89, 90, 91, 92, 93, 94, 95, 96, 97, 98, 99] (by decide +kernel) (by decide +kernel)
set_option maxRecDepth 20000 in
theorem gX8_about_X2_daysLate : GoodIn wsX8_about (wsV RX8 267 RX2 yX2_daysLate wsX2_daysLate) := goodIn_app (goodIn_of _ (by decide +kernel)) ggX8_about_X2_daysLate
set_option maxRecDepth 20000 in
theorem ggX8_about_X2_harmOf : GoodIn wsX8_about wsX2_harmOf := goodIn_r _ [46, 23, 47, 48, 49, 50, 51, 52, 53, 37, 38, 39, 40, 41, 42, 64, 65, 66, 67, 68, 69, 70, 71, 72, 73, 74, 75, 76, 77, 78, 79, 80, 81, 82, 83, 84, 85, 98, 99] (by decide +kernel) (by decide +kernel)
set_option maxRecDepth 20000 in
theorem gX8_about_X2_harmOf : GoodIn wsX8_about (wsV RX8 270 RX2 yX2_harmOf wsX2_harmOf) := goodIn_app (goodIn_of _ (by decide +kernel)) ggX8_about_X2_harmOf
set_option maxRecDepth 20000 in
theorem ggX8_about_X2_owedFor : GoodIn wsX8_about wsX2_owedFor := goodIn_r _ [57, 23, 58, 44, 45, 5, 46, 47, 48, 49, 50, 51, 52, 53, 37, 38, 39, 40, 41, 42, 59, 20, 21, 22, 24, 25, 26, 27, 28, 29, 30, 31, 32, 33, 34, 35, 36, 78, 79, 80, 81, 82, 83, 84, 85, 64, 65, 66, 67, 68, 69, 70, 71, 72, 73, 74, 75, 76, 77, 98, 99, 86, 87, 88, 89, 90, 91, 92, 93, 94, 95, 96, 97] (by decide +kernel) (by decide +kernel)
set_option maxRecDepth 20000 in
theorem gX8_about_X2_owedFor : GoodIn wsX8_about (wsV RX8 264 RX2 yX2_owedFor wsX2_owedFor) := goodIn_app (goodIn_of _ (by decide +kernel)) ggX8_about_X2_owedFor
set_option maxRecDepth 20000 in
theorem ggX8_retire_X2_pieceAt : GoodIn wsX8_retire wsX2_pieceAt := goodIn_r _ [6, 7, 8, 42, 43, 44, 45, 46, 47, 48, 49] (by decide +kernel) (by decide +kernel)
set_option maxRecDepth 20000 in
theorem gX8_retire_X2_pieceAt : GoodIn wsX8_retire (wsV RX8 96 RX2 yX2_pieceAt wsX2_pieceAt) := goodIn_app (goodIn_of _ (by decide +kernel)) ggX8_retire_X2_pieceAt
set_option maxRecDepth 20000 in
theorem ggX8_retire_X4_isRetired : GoodIn wsX8_retire wsX4_isRetired := goodIn_r _ [13, 14, 15, 16, 30, 31, 32, 33, 34, 35, 36, 37, 38, 39, 40, 41] (by decide +kernel) (by decide +kernel)
set_option maxRecDepth 20000 in
theorem gX8_retire_X4_isRetired : GoodIn wsX8_retire (wsV RX8 273 RX4 yX4_isRetired wsX4_isRetired) := goodIn_app (goodIn_of _ (by decide +kernel)) ggX8_retire_X4_isRetired
set_option maxRecDepth 20000 in
theorem ggX8_retire_X4_worth : GoodIn wsX8_retire wsX4_worth := goodIn_r _ [20, 16, 21, 15, 22, 23, 24, 25, 30, 31, 32, 33, 34, 35, 36, 37, 38, 39, 40, 41] (by decide +kernel) (by decide +kernel)
set_option maxRecDepth 20000 in
theorem gX8_retire_X4_worth : GoodIn wsX8_retire (wsV RX8 279 RX4 yX4_worth wsX4_worth) := goodIn_app (goodIn_of _ (by decide +kernel)) ggX8_retire_X4_worth
set_option maxRecDepth 20000 in
theorem ggX8_count_X2_tallyPieces : GoodIn wsX8_count wsX2_tallyPieces := goodIn_r _ [6, 7, 8, 9, 10, 5, 11, 12, 13, 14, 15, 16, 17, 18, 19, 20, 21, 22, 23, 24, 25, 26, 27, 28, 29, 55, 56, 57, 58, 59, 60, 61, 62, 68, 69, 70, 71, 72, 73, 74, 75, 76, 77, 78, 79] (by decide +kernel) (by decide +kernel)
set_option maxRecDepth 20000 in
theorem gX8_count_X2_tallyPieces : GoodIn wsX8_count (wsV RX8 285 RX2 yX2_tallyPieces wsX2_tallyPieces) := goodIn_app (goodIn_of _ (by decide +kernel)) ggX8_count_X2_tallyPieces
set_option maxRecDepth 20000 in
theorem ggX8_count_X2_tallyBookings : GoodIn wsX8_count wsX2_tallyBookings := goodIn_r _ [33, 34, 35, 36, 37, 5, 38, 39, 40, 41, 42, 43, 44, 45, 46, 47, 48, 49, 50, 55, 56, 57, 58, 59, 60, 61, 62, 80, 81, 82, 83, 84, 85, 86, 87, 88, 89, 90, 91, 92, 93] (by decide +kernel) (by decide +kernel)
set_option maxRecDepth 20000 in
theorem gX8_count_X2_tallyBookings : GoodIn wsX8_count (wsV RX8 288 RX2 yX2_tallyBookings wsX2_tallyBookings) := goodIn_app (goodIn_of _ (by decide +kernel)) ggX8_count_X2_tallyBookings
set_option maxRecDepth 20000 in
theorem ggX8_sheet_X8_isSheet : GoodIn wsX8_sheet wsX8_isSheet := goodIn_r _ [5, 6, 7, 4, 8] (by decide +kernel) (by decide +kernel)
set_option maxRecDepth 20000 in
theorem gX8_sheet_X8_isSheet : GoodIn wsX8_sheet (va_wsS RX8 291 yX8_isSheet wsX8_isSheet) := goodIn_app (goodIn_of _ (by decide +kernel)) ggX8_sheet_X8_isSheet
set_option maxRecDepth 20000 in
theorem ggX8_sheet_X8_isLane : GoodIn wsX8_sheet wsX8_isLane := goodIn_r _ [11, 6, 7, 4, 8] (by decide +kernel) (by decide +kernel)
set_option maxRecDepth 20000 in
theorem gX8_sheet_X8_isLane : GoodIn wsX8_sheet (va_wsS RX8 294 yX8_isLane wsX8_isLane) := goodIn_app (goodIn_of _ (by decide +kernel)) ggX8_sheet_X8_isLane
set_option maxRecDepth 20000 in
theorem ggX8_sheet_X5_begin : GoodIn wsX8_sheet wsX5_begin := goodIn_r _ [16, 17, 18, 19, 20, 25, 26, 27, 28] (by decide +kernel) (by decide +kernel)
set_option maxRecDepth 20000 in
theorem gX8_sheet_X5_begin : GoodIn wsX8_sheet (wsV RX8 297 RX5 yX5_begin wsX5_begin) := goodIn_app (goodIn_of _ (by decide +kernel)) ggX8_sheet_X5_begin
set_option maxRecDepth 20000 in
theorem ggX8_drop_X8_isSheet : GoodIn wsX8_drop wsX8_isSheet := goodIn_r _ [5, 6, 7, 4, 8] (by decide +kernel) (by decide +kernel)
set_option maxRecDepth 20000 in
theorem gX8_drop_X8_isSheet : GoodIn wsX8_drop (va_wsS RX8 291 yX8_isSheet wsX8_isSheet) := goodIn_app (goodIn_of _ (by decide +kernel)) ggX8_drop_X8_isSheet
set_option maxRecDepth 20000 in
theorem ggX8_item_X8_isSheet : GoodIn wsX8_item wsX8_isSheet := goodIn_r _ [5, 6, 7, 4, 8] (by decide +kernel) (by decide +kernel)
set_option maxRecDepth 20000 in
theorem gX8_item_X8_isSheet : GoodIn wsX8_item (va_wsS RX8 291 yX8_isSheet wsX8_isSheet) := goodIn_app (goodIn_of _ (by decide +kernel)) ggX8_item_X8_isSheet
set_option maxRecDepth 20000 in
theorem ggX8_item_X8_isLane : GoodIn wsX8_item wsX8_isLane := goodIn_r _ [11, 6, 7, 4, 8] (by decide +kernel) (by decide +kernel)
set_option maxRecDepth 20000 in
theorem gX8_item_X8_isLane : GoodIn wsX8_item (va_wsS RX8 294 yX8_isLane wsX8_isLane) := goodIn_app (goodIn_of _ (by decide +kernel)) ggX8_item_X8_isLane
set_option maxRecDepth 20000 in
theorem ggX8_item_X5_refusalAs : GoodIn wsX8_item wsX5_refusalAs := goodIn_r _ [16, 17, 18, 33, 34, 35, 36] (by decide +kernel) (by decide +kernel)
set_option maxRecDepth 20000 in
theorem gX8_item_X5_refusalAs : GoodIn wsX8_item (wsV RX8 304 RX5 yX5_refusalAs wsX5_refusalAs) := goodIn_app (goodIn_of _ (by decide +kernel)) ggX8_item_X5_refusalAs
set_option maxRecDepth 20000 in
theorem ggX8_item_X5_hasItems : GoodIn wsX8_item wsX5_hasItems := goodIn_r _ [22, 23, 33, 34, 35, 36] (by decide +kernel) (by decide +kernel)
set_option maxRecDepth 20000 in
theorem gX8_item_X5_hasItems : GoodIn wsX8_item (wsV RX8 307 RX5 yX5_hasItems wsX5_hasItems) := goodIn_app (goodIn_of _ (by decide +kernel)) ggX8_item_X5_hasItems
set_option maxRecDepth 20000 in
theorem ggX8_item_X5_put : GoodIn wsX8_item wsX5_put := goodIn_r _ [27, 28, 18, 33, 34, 35, 36] (by decide +kernel) (by decide +kernel)
set_option maxRecDepth 20000 in
theorem gX8_item_X5_put : GoodIn wsX8_item (wsV RX8 311 RX5 yX5_put wsX5_put) := goodIn_app (goodIn_of _ (by decide +kernel)) ggX8_item_X5_put
set_option maxRecDepth 20000 in
theorem ggX8_books_X8_isSheet : GoodIn wsX8_books wsX8_isSheet := goodIn_r _ [6, 7, 8, 5, 9] (by decide +kernel) (by decide +kernel)
set_option maxRecDepth 20000 in
theorem gX8_books_X8_isSheet : GoodIn wsX8_books (va_wsS RX8 291 yX8_isSheet wsX8_isSheet) := goodIn_app (goodIn_of _ (by decide +kernel)) ggX8_books_X8_isSheet
set_option maxRecDepth 20000 in
theorem ggX8_books_X8_isLane : GoodIn wsX8_books wsX8_isLane := goodIn_r _ [12, 7, 8, 5, 9] (by decide +kernel) (by decide +kernel)
set_option maxRecDepth 20000 in
theorem gX8_books_X8_isLane : GoodIn wsX8_books (va_wsS RX8 294 yX8_isLane wsX8_isLane) := goodIn_app (goodIn_of _ (by decide +kernel)) ggX8_books_X8_isLane
set_option maxRecDepth 20000 in
theorem ggX8_books_X8_isIn : GoodIn wsX8_books wsX8_isIn := goodIn_r _ [9] (by decide +kernel) (by decide +kernel)
set_option maxRecDepth 20000 in
theorem gX8_books_X8_isIn : GoodIn wsX8_books (va_wsS RX8 39 yX8_isIn wsX8_isIn) := goodIn_app (goodIn_of _ (by decide +kernel)) ggX8_books_X8_isIn
set_option maxRecDepth 20000 in
theorem ggX8_books_X5_refusalAs : GoodIn wsX8_books wsX5_refusalAs := goodIn_r _ [17, 18, 19, 91, 92, 93, 94] (by decide +kernel) (by decide +kernel)
set_option maxRecDepth 20000 in
theorem gX8_books_X5_refusalAs : GoodIn wsX8_books (wsV RX8 304 RX5 yX5_refusalAs wsX5_refusalAs) := goodIn_app (goodIn_of _ (by decide +kernel)) ggX8_books_X5_refusalAs
set_option maxRecDepth 20000 in
theorem ggX8_books_X5_hasItems : GoodIn wsX8_books wsX5_hasItems := goodIn_r _ [23, 24, 91, 92, 93, 94] (by decide +kernel) (by decide +kernel)
set_option maxRecDepth 20000 in
theorem gX8_books_X5_hasItems : GoodIn wsX8_books (wsV RX8 307 RX5 yX5_hasItems wsX5_hasItems) := goodIn_app (goodIn_of _ (by decide +kernel)) ggX8_books_X5_hasItems
set_option maxRecDepth 20000 in
theorem ggX8_books_X8_isBookingOnSheet : GoodIn wsX8_books wsX8_isBookingOnSheet := goodIn_r _ [27, 28, 29, 30, 16, 31, 32, 33, 34, 5, 35, 36, 37, 38, 7, 8, 9, 39, 40, 41, 42, 43, 44, 91, 92, 93, 94] (by decide +kernel) (by decide +kernel)
set_option maxRecDepth 20000 in
theorem gX8_books_X8_isBookingOnSheet : GoodIn wsX8_books (va_wsS RX8 314 yX8_isBookingOnSheet wsX8_isBookingOnSheet) := goodIn_app (goodIn_of _ (by decide +kernel)) ggX8_books_X8_isBookingOnSheet
set_option maxRecDepth 20000 in
theorem ggX8_books_X2_hasRoomForBookings : GoodIn wsX8_books wsX2_hasRoomForBookings := goodIn_r _ [49, 50, 83, 84, 85, 86, 87, 88, 89, 90] (by decide +kernel) (by decide +kernel)
set_option maxRecDepth 20000 in
theorem gX8_books_X2_hasRoomForBookings : GoodIn wsX8_books (wsV RX8 146 RX2 yX2_hasRoomForBookings wsX2_hasRoomForBookings) := goodIn_app (goodIn_of _ (by decide +kernel)) ggX8_books_X2_hasRoomForBookings
set_option maxRecDepth 20000 in
theorem ggX8_books_X8_addBookingOnSheet : GoodIn wsX8_books wsX8_addBookingOnSheet := goodIn_r _ [54, 2, 28, 29, 30, 16, 31, 32, 55, 56, 57, 48, 58, 59, 50, 60, 61, 62, 63, 46, 47, 49, 64, 65, 66, 67, 68, 69, 70, 71, 72, 73, 74, 75, 76, 77, 78, 79, 80, 81, 82, 91, 92, 93, 94, 83, 84, 85, 86, 87, 88, 89, 90, 95, 96, 97, 98, 99, 100, 101, 102, 103, 104, 105, 106, 107, 108] (by decide +kernel) (by decide +kernel)
set_option maxRecDepth 20000 in
theorem gX8_books_X8_addBookingOnSheet : GoodIn wsX8_books (wsV RX8 318 RX8 yX8_addBookingOnSheet wsX8_addBookingOnSheet) := goodIn_app (goodIn_of _ (by decide +kernel)) ggX8_books_X8_addBookingOnSheet
set_option maxRecDepth 20000 in
theorem ggX8_isTown_X8_isIn : GoodIn wsX8_isTown wsX8_isIn := goodIn_r _ [4] (by decide +kernel) (by decide +kernel)
set_option maxRecDepth 20000 in
theorem gX8_isTown_X8_isIn : GoodIn wsX8_isTown (va_wsS RX8 39 yX8_isIn wsX8_isIn) := goodIn_app (goodIn_of _ (by decide +kernel)) ggX8_isTown_X8_isIn
set_option maxRecDepth 20000 in
theorem ggX8_isMaker_X8_isIn : GoodIn wsX8_isMaker wsX8_isIn := goodIn_r _ [4] (by decide +kernel) (by decide +kernel)
set_option maxRecDepth 20000 in
theorem gX8_isMaker_X8_isIn : GoodIn wsX8_isMaker (va_wsS RX8 39 yX8_isIn wsX8_isIn) := goodIn_app (goodIn_of _ (by decide +kernel)) ggX8_isMaker_X8_isIn
set_option maxRecDepth 20000 in
theorem ggX8_isLabel_X8_isIn : GoodIn wsX8_isLabel wsX8_isIn := goodIn_r _ [4] (by decide +kernel) (by decide +kernel)
set_option maxRecDepth 20000 in
theorem gX8_isLabel_X8_isIn : GoodIn wsX8_isLabel (va_wsS RX8 39 yX8_isIn wsX8_isIn) := goodIn_app (goodIn_of _ (by decide +kernel)) ggX8_isLabel_X8_isIn
set_option maxRecDepth 20000 in
theorem ggX8_isDay_X8_isIn : GoodIn wsX8_isDay wsX8_isIn := goodIn_r _ [4] (by decide +kernel) (by decide +kernel)
set_option maxRecDepth 20000 in
theorem gX8_isDay_X8_isIn : GoodIn wsX8_isDay (va_wsS RX8 39 yX8_isIn wsX8_isIn) := goodIn_app (goodIn_of _ (by decide +kernel)) ggX8_isDay_X8_isIn
set_option maxRecDepth 20000 in
theorem ggX8_isSheet_X8_isIn : GoodIn wsX8_isSheet wsX8_isIn := goodIn_r _ [4] (by decide +kernel) (by decide +kernel)
set_option maxRecDepth 20000 in
theorem gX8_isSheet_X8_isIn : GoodIn wsX8_isSheet (va_wsS RX8 39 yX8_isIn wsX8_isIn) := goodIn_app (goodIn_of _ (by decide +kernel)) ggX8_isSheet_X8_isIn
set_option maxRecDepth 20000 in
theorem ggX8_isLane_X8_isIn : GoodIn wsX8_isLane wsX8_isIn := goodIn_r _ [4] (by decide +kernel) (by decide +kernel)
set_option maxRecDepth 20000 in
theorem gX8_isLane_X8_isIn : GoodIn wsX8_isLane (va_wsS RX8 39 yX8_isIn wsX8_isIn) := goodIn_app (goodIn_of _ (by decide +kernel)) ggX8_isLane_X8_isIn
set_option maxRecDepth 20000 in
theorem ggX8_addPiece_X8_isMaker : GoodIn wsX8_addPiece wsX8_isMaker := goodIn_r _ [8, 9, 10, 7, 11] (by decide +kernel) (by decide +kernel)
set_option maxRecDepth 20000 in
theorem gX8_addPiece_X8_isMaker : GoodIn wsX8_addPiece (va_wsS RX8 109 yX8_isMaker wsX8_isMaker) := goodIn_app (goodIn_of _ (by decide +kernel)) ggX8_addPiece_X8_isMaker
