set_option maxRecDepth 20000 in
theorem ggX9_has_X9_isThere : GoodIn wsX9_has wsX9_isThere := goodIn_r _ [6, 7, 8, 9, 5, 10, 11, 12, 13, 14, 15, 16, 17, 18, 19, 20, 21, 22, 23, 24, 25, 26, 27, 28, 29, 30, 31, 32, 33, 34, 35, 36, 37, 38, 39, 40, 41, 42, 43, 44, 45, 46, 47, 48, 49, 50, 51, 52, 53, 54, 55, 56, 57, 58, 59, 60, 61] (by decide +kernel) (by decide +kernel)
set_option maxRecDepth 20000 in
theorem gX9_has_X9_isThere : GoodIn wsX9_has (wsV RX9 268 RX9 yX9_isThere wsX9_isThere) := goodIn_app (goodIn_of _ (by decide +kernel)) ggX9_has_X9_isThere
set_option maxRecDepth 20000 in
theorem ggX9_free_X9_isPiece : GoodIn wsX9_free wsX9_isPiece := goodIn_r _ [5, 6, 7, 8, 4, 9, 58, 59, 60, 61, 62, 63, 64, 65, 66, 67, 68, 69, 70, 71, 72, 73, 74, 75, 76, 77, 78, 79, 80, 81, 82, 83, 84, 85, 86, 87, 88, 89, 90, 91, 92, 93, 94, 95, 96, 97, 98, 99, 100, 101, 102, 103, 104, 105, 106, 107, 108] (by decide +kernel) (by decide +kernel)
set_option maxRecDepth 20000 in
theorem gX9_free_X9_isPiece : GoodIn wsX9_free (wsV RX9 210 RX9 yX9_isPiece wsX9_isPiece) := goodIn_app (goodIn_of _ (by decide +kernel)) ggX9_free_X9_isPiece
set_option maxRecDepth 20000 in
theorem ggX9_free_X9_isThere : GoodIn wsX9_free wsX9_isThere := goodIn_r _ [13, 14, 7, 8, 4, 9, 58, 59, 60, 61, 62, 63, 64, 65, 66, 67, 68, 69, 70, 71, 72, 73, 74, 75, 76, 77, 78, 79, 80, 81, 82, 83, 84, 85, 86, 87, 88, 89, 90, 91, 92, 93, 94, 95, 96, 97, 98, 99, 100, 101, 102, 103, 104, 105, 106, 107, 108] (by decide +kernel) (by decide +kernel)
set_option maxRecDepth 20000 in
theorem gX9_free_X9_isThere : GoodIn wsX9_free (wsV RX9 268 RX9 yX9_isThere wsX9_isThere) := goodIn_app (goodIn_of _ (by decide +kernel)) ggX9_free_X9_isThere
set_option maxRecDepth 20000 in
theorem ggX9_free_X9_isFree : GoodIn wsX9_free wsX9_isFree := goodIn_r _ [18, 19, 20, 21, 4, 22, 23, 24, 25, 26, 27, 28, 29, 30, 31, 32, 33, 34, 35, 36, 14, 37, 38, 39, 40, 41, 42, 43, 44, 45, 46, 47, 48, 49, 50, 51, 52, 53, 54, 55, 56, 57, 58, 59, 60, 61, 62, 63, 64, 65, 66, 67, 68, 69, 70, 71, 72, 73, 74, 75, 76, 77, 78, 79, 80, 81, 82, 83, 84, 85, 86, 87, 88, 89, 90, 91, 92, 93, 94, 95, 96, 97, 98, 99, 100, 101, 102, 103, 104, 105, 106, 107, 108] (by decide +kernel) (by decide +kernel)
set_option maxRecDepth 20000 in
theorem gX9_free_X9_isFree : GoodIn wsX9_free (wsV RX9 291 RX9 yX9_isFree wsX9_isFree) := goodIn_app (goodIn_of _ (by decide +kernel)) ggX9_free_X9_isFree
set_option maxRecDepth 20000 in
theorem ggX9_away_X9_isPiece : GoodIn wsX9_away wsX9_isPiece := goodIn_r _ [5, 6, 7, 8, 4, 9, 32, 33, 34, 35, 36, 37, 38, 39, 40, 41, 42, 43, 44, 45, 46, 47, 48, 49, 50, 51, 52, 53, 54, 55, 56, 57, 58, 59, 60, 61, 62, 63, 64, 65, 66, 67, 68, 69, 70, 71, 72, 73, 74, 75, 76, 77, 78, 79, 80, 81, 82] (by decide +kernel) (by decide +kernel)
set_option maxRecDepth 20000 in
theorem gX9_away_X9_isPiece : GoodIn wsX9_away (wsV RX9 210 RX9 yX9_isPiece wsX9_isPiece) := goodIn_app (goodIn_of _ (by decide +kernel)) ggX9_away_X9_isPiece
set_option maxRecDepth 20000 in
theorem ggX9_away_X9_isThere : GoodIn wsX9_away wsX9_isThere := goodIn_r _ [13, 14, 7, 8, 4, 9, 32, 33, 34, 35, 36, 37, 38, 39, 40, 41, 42, 43, 44, 45, 46, 47, 48, 49, 50, 51, 52, 53, 54, 55, 56, 57, 58, 59, 60, 61, 62, 63, 64, 65, 66, 67, 68, 69, 70, 71, 72, 73, 74, 75, 76, 77, 78, 79, 80, 81, 82] (by decide +kernel) (by decide +kernel)
set_option maxRecDepth 20000 in
theorem gX9_away_X9_isThere : GoodIn wsX9_away (wsV RX9 268 RX9 yX9_isThere wsX9_isThere) := goodIn_app (goodIn_of _ (by decide +kernel)) ggX9_away_X9_isThere
set_option maxRecDepth 20000 in
theorem ggX9_away_X9_in : GoodIn wsX9_away wsX9_in := goodIn_r _ [9] (by decide +kernel) (by decide +kernel)
set_option maxRecDepth 20000 in
theorem gX9_away_X9_in : GoodIn wsX9_away (va_wsS RX9 148 yX9_in wsX9_in) := goodIn_app (goodIn_of _ (by decide +kernel)) ggX9_away_X9_in
set_option maxRecDepth 20000 in
theorem ggX9_away_X9_firstAway : GoodIn wsX9_away wsX9_firstAway := goodIn_r _ [18, 19, 20, 21, 22, 23, 4, 24, 25, 26, 27, 32, 33, 34, 35, 36, 37, 38, 39, 40, 41, 42, 43, 44, 45, 46, 47, 48, 49, 50, 51, 52, 53, 54, 55, 56, 57, 58, 59, 60, 61, 62, 63, 64, 65, 66, 67, 68, 69, 70, 71, 72, 73, 74, 75, 76, 77, 78, 79, 80, 81, 82] (by decide +kernel) (by decide +kernel)
set_option maxRecDepth 20000 in
theorem gX9_away_X9_firstAway : GoodIn wsX9_away (wsV RX9 275 RX9 yX9_firstAway wsX9_firstAway) := goodIn_app (goodIn_of _ (by decide +kernel)) ggX9_away_X9_firstAway
set_option maxRecDepth 20000 in
theorem ggX9_away_X9_lastAway : GoodIn wsX9_away wsX9_lastAway := goodIn_r _ [31, 19, 20, 21, 22, 23, 4, 24, 25, 26, 27, 32, 33, 34, 35, 36, 37, 38, 39, 40, 41, 42, 43, 44, 45, 46, 47, 48, 49, 50, 51, 52, 53, 54, 55, 56, 57, 58, 59, 60, 61, 62, 63, 64, 65, 66, 67, 68, 69, 70, 71, 72, 73, 74, 75, 76, 77, 78, 79, 80, 81, 82] (by decide +kernel) (by decide +kernel)
set_option maxRecDepth 20000 in
theorem gX9_away_X9_lastAway : GoodIn wsX9_away (wsV RX9 278 RX9 yX9_lastAway wsX9_lastAway) := goodIn_app (goodIn_of _ (by decide +kernel)) ggX9_away_X9_lastAway
set_option maxRecDepth 20000 in
theorem ggX9_tear_X9_isPiece : GoodIn wsX9_tear wsX9_isPiece := goodIn_r _ [12, 13, 14, 15, 11, 16, 17, 18, 19, 20, 21, 22, 23, 24, 25, 26, 27, 28, 29, 30, 31, 32, 33, 34, 35, 36, 37, 38, 39, 40, 41, 42, 43, 44, 45, 46, 47, 48, 49, 50, 51, 52, 53, 54, 55, 56, 57, 58, 59, 60, 61, 62, 63, 64, 65, 66, 67] (by decide +kernel) (by decide +kernel)
set_option maxRecDepth 20000 in
theorem gX9_tear_X9_isPiece : GoodIn wsX9_tear (wsV RX9 210 RX9 yX9_isPiece wsX9_isPiece) := goodIn_app (goodIn_of _ (by decide +kernel)) ggX9_tear_X9_isPiece
set_option maxRecDepth 20000 in
theorem ggX9_tear_X9_in : GoodIn wsX9_tear wsX9_in := goodIn_r _ [16] (by decide +kernel) (by decide +kernel)
set_option maxRecDepth 20000 in
theorem gX9_tear_X9_in : GoodIn wsX9_tear (va_wsS RX9 148 yX9_in wsX9_in) := goodIn_app (goodIn_of _ (by decide +kernel)) ggX9_tear_X9_in
set_option maxRecDepth 20000 in
theorem ggX9_mend_X9_isPiece : GoodIn wsX9_mend wsX9_isPiece := goodIn_r _ [6, 7, 8, 9, 5, 10, 11, 12, 13, 14, 15, 16, 17, 18, 19, 20, 21, 22, 23, 24, 25, 26, 27, 28, 29, 30, 31, 32, 33, 34, 35, 36, 37, 38, 39, 40, 41, 42, 43, 44, 45, 46, 47, 48, 49, 50, 51, 52, 53, 54, 55, 56, 57, 58, 59, 60, 61] (by decide +kernel) (by decide +kernel)
set_option maxRecDepth 20000 in
theorem gX9_mend_X9_isPiece : GoodIn wsX9_mend (wsV RX9 210 RX9 yX9_isPiece wsX9_isPiece) := goodIn_app (goodIn_of _ (by decide +kernel)) ggX9_mend_X9_isPiece
set_option maxRecDepth 20000 in
theorem ggX9_fromWhom_X9_fitOf : GoodIn wsX9_fromWhom wsX9_fitOf := goodIn_r _ [8, 9, 10, 11, 12, 13, 14, 15, 16, 17, 7, 18, 58, 59, 60, 61, 62, 63, 64, 65, 66, 67, 68, 69, 70, 71, 72, 73, 74, 75, 76, 77, 78, 79, 80, 81, 82, 83, 84, 85, 86, 87, 88, 89, 90, 91, 92, 93, 94, 95, 96, 97, 98, 99, 100, 101, 102, 103, 104, 105, 106, 107, 108] (by decide +kernel) (by decide +kernel)
set_option maxRecDepth 20000 in
theorem gX9_fromWhom_X9_fitOf : GoodIn wsX9_fromWhom (wsV RX9 243 RX9 yX9_fitOf wsX9_fitOf) := goodIn_app (goodIn_of _ (by decide +kernel)) ggX9_fromWhom_X9_fitOf
set_option maxRecDepth 20000 in
theorem ggX9_fromWhom_X9_isWell : GoodIn wsX9_fromWhom wsX9_isWell := goodIn_r _ [22, 23, 24, 25, 26, 27, 28, 7, 29, 30, 31, 32, 58, 59, 60, 61, 62, 63, 64, 65, 66, 67, 68, 69, 70, 71, 72, 73, 74, 75, 76, 77, 78, 79, 80, 81, 82, 83, 84, 85, 86, 87, 88, 89, 90, 91, 92, 93, 94, 95, 96, 97, 98, 99, 100, 101, 102, 103, 104, 105, 106, 107, 108] (by decide +kernel) (by decide +kernel)
set_option maxRecDepth 20000 in
theorem gX9_fromWhom_X9_isWell : GoodIn wsX9_fromWhom (wsV RX9 284 RX9 yX9_isWell wsX9_isWell) := goodIn_app (goodIn_of _ (by decide +kernel)) ggX9_fromWhom_X9_isWell
set_option maxRecDepth 20000 in
theorem ggX9_fromWhom_X9_holderOf : GoodIn wsX9_fromWhom wsX9_holderOf := goodIn_r _ [36, 37, 38, 39, 40, 41, 7, 42, 43, 44, 45, 46, 25, 15, 47, 48, 49, 50, 51, 52, 53, 54, 55, 56, 57, 58, 59, 60, 61, 62, 63, 64, 65, 66, 67, 68, 69, 70, 71, 72, 73, 74, 75, 76, 77, 78, 79, 80, 81, 82, 83, 84, 85, 86, 87, 88, 89, 90, 91, 92, 93, 94, 95, 96, 97, 98, 99, 100, 101, 102, 103, 104, 105, 106, 107, 108] (by decide +kernel) (by decide +kernel)
set_option maxRecDepth 20000 in
theorem gX9_fromWhom_X9_holderOf : GoodIn wsX9_fromWhom (wsV RX9 288 RX9 yX9_holderOf wsX9_holderOf) := goodIn_app (goodIn_of _ (by decide +kernel)) ggX9_fromWhom_X9_holderOf
set_option maxRecDepth 20000 in
theorem ggX9_findFar_X9_givenOf : GoodIn wsX9_findFar wsX9_givenOf := goodIn_r _ [8, 3, 9, 10, 11, 12, 13, 14, 15, 16, 17, 18, 7, 19, 20, 21, 22, 23, 24, 25, 26, 27, 28, 29, 30, 31, 32, 33, 34, 35, 36, 37, 38, 39, 40, 41, 42, 43, 44, 45, 46, 47, 1, 48, 49, 50, 51, 52, 53, 54, 55, 56, 57, 58, 59, 60, 61, 62, 63, 64, 65, 66, 67, 73, 74, 75, 76, 77, 78, 79, 80, 81, 82, 83, 84, 85, 86, 87, 88, 89, 90, 91, 92, 93, 94, 95, 96, 97, 98, 99, 100, 101, 102, 103, 104, 105, 106, 107, 108, 109, 110, 111, 112, 113, 114, 115, 116, 117, 118, 119, 120, 121, 122, 123] (by decide +kernel) (by decide +kernel)
set_option maxRecDepth 20000 in
theorem gX9_findFar_X9_givenOf : GoodIn wsX9_findFar (wsV RX9 297 RX9 yX9_givenOf wsX9_givenOf) := goodIn_app (goodIn_of _ (by decide +kernel)) ggX9_findFar_X9_givenOf
set_option maxRecDepth 20000 in
theorem ggX9_findFar_X9_fromWhom : GoodIn wsX9_findFar wsX9_fromWhom := goodIn_r _ [71, 10, 11, 72, 16, 17, 18, 7, 19, 20, 14, 13, 21, 12, 15, 22, 23, 24, 25, 30, 31, 32, 33, 34, 35, 36, 37, 38, 39, 40, 41, 42, 43, 44, 45, 46, 47, 1, 48, 49, 50, 51, 52, 53, 54, 55, 56, 57, 58, 59, 60, 61, 62, 63, 64, 65, 66, 67, 73, 74, 75, 76, 77, 78, 79, 80, 81, 82, 83, 84, 85, 86, 87, 88, 89, 90, 91, 92, 93, 94, 95, 96, 97, 98, 99, 100, 101, 102, 103, 104, 105, 106, 107, 108, 109, 110, 111, 112, 113, 114, 115, 116, 117, 118, 119, 120, 121, 122, 123] (by decide +kernel) (by decide +kernel)
set_option maxRecDepth 20000 in
theorem gX9_findFar_X9_fromWhom : GoodIn wsX9_findFar (wsV RX9 300 RX9 yX9_fromWhom wsX9_fromWhom) := goodIn_app (goodIn_of _ (by decide +kernel)) ggX9_findFar_X9_fromWhom
set_option maxRecDepth 20000 in
theorem ggX9_canTake_X9_isTakenBy : GoodIn wsX9_canTake wsX9_isTakenBy := goodIn_r _ [9, 10, 77, 78, 79, 80, 81, 82, 83, 84, 85, 86, 87, 88, 89, 90, 91, 92, 93, 94, 95, 96, 97, 98, 99, 100, 101, 102, 103, 104, 105, 106, 107, 108, 109, 110, 111, 112, 113, 114, 115, 116, 117, 118, 119, 120, 121, 122, 123, 124, 125, 126, 127] (by decide +kernel) (by decide +kernel)
set_option maxRecDepth 20000 in
theorem gX9_canTake_X9_isTakenBy : GoodIn wsX9_canTake (wsV RX9 303 RX9 yX9_isTakenBy wsX9_isTakenBy) := goodIn_app (goodIn_of _ (by decide +kernel)) ggX9_canTake_X9_isTakenBy
set_option maxRecDepth 20000 in
theorem ggX9_canTake_X9_fitOf : GoodIn wsX9_canTake wsX9_fitOf := goodIn_r _ [14, 15, 16, 17, 18, 19, 20, 21, 22, 23, 8, 24, 77, 78, 79, 80, 81, 82, 83, 84, 85, 86, 87, 88, 89, 90, 91, 92, 93, 94, 95, 96, 97, 98, 99, 100, 101, 102, 103, 104, 105, 106, 107, 108, 109, 110, 111, 112, 113, 114, 115, 116, 117, 118, 119, 120, 121, 122, 123, 124, 125, 126, 127] (by decide +kernel) (by decide +kernel)
set_option maxRecDepth 20000 in
theorem gX9_canTake_X9_fitOf : GoodIn wsX9_canTake (wsV RX9 243 RX9 yX9_fitOf wsX9_fitOf) := goodIn_app (goodIn_of _ (by decide +kernel)) ggX9_canTake_X9_fitOf
set_option maxRecDepth 20000 in
theorem ggX9_canTake_X9_isFree : GoodIn wsX9_canTake wsX9_isFree := goodIn_r _ [28, 29, 30, 31, 8, 32, 33, 34, 35, 36, 37, 38, 39, 40, 41, 42, 43, 44, 45, 46, 47, 48, 49, 50, 51, 52, 53, 54, 55, 56, 21, 57, 58, 59, 60, 61, 62, 63, 64, 65, 66, 67, 77, 78, 79, 80, 81, 82, 83, 84, 85, 86, 87, 88, 89, 90, 91, 92, 93, 94, 95, 96, 97, 98, 99, 100, 101, 102, 103, 104, 105, 106, 107, 108, 109, 110, 111, 112, 113, 114, 115, 116, 117, 118, 119, 120, 121, 122, 123, 124, 125, 126, 127] (by decide +kernel) (by decide +kernel)
set_option maxRecDepth 20000 in
theorem gX9_canTake_X9_isFree : GoodIn wsX9_canTake (wsV RX9 291 RX9 yX9_isFree wsX9_isFree) := goodIn_app (goodIn_of _ (by decide +kernel)) ggX9_canTake_X9_isFree
set_option maxRecDepth 20000 in
theorem ggX9_canTake_X9_fromWhom : GoodIn wsX9_canTake wsX9_fromWhom := goodIn_r _ [71, 2, 3, 72, 11, 12, 13, 8, 14, 15, 16, 17, 18, 19, 20, 21, 22, 23, 24, 29, 30, 31, 32, 33, 34, 35, 36, 37, 38, 39, 40, 41, 42, 43, 44, 45, 46, 47, 48, 49, 50, 51, 52, 53, 54, 55, 56, 57, 58, 59, 60, 61, 62, 63, 64, 65, 66, 67, 77, 78, 79, 80, 81, 82, 83, 84, 85, 86, 87, 88, 89, 90, 91, 92, 93, 94, 95, 96, 97, 98, 99, 100, 101, 102, 103, 104, 105, 106, 107, 108, 109, 110, 111, 112, 113, 114, 115, 116, 117, 118, 119, 120, 121, 122, 123, 124, 125, 126, 127] (by decide +kernel) (by decide +kernel)
set_option maxRecDepth 20000 in
theorem gX9_canTake_X9_fromWhom : GoodIn wsX9_canTake (wsV RX9 300 RX9 yX9_fromWhom wsX9_fromWhom) := goodIn_app (goodIn_of _ (by decide +kernel)) ggX9_canTake_X9_fromWhom
set_option maxRecDepth 20000 in
theorem ggX9_canTake_X9_isInChain : GoodIn wsX9_canTake wsX9_isInChain := goodIn_r _ [76, 1, 77, 78, 79, 80, 81, 82, 83, 84, 85, 86, 87, 88, 89, 90, 91, 92, 93, 94, 95, 96, 97, 98, 99, 100, 101, 102, 103, 104, 105, 106, 107, 108, 109, 110, 111, 112, 113, 114, 115, 116, 117, 118, 119, 120, 121, 122, 123, 124, 125, 126, 127] (by decide +kernel) (by decide +kernel)
set_option maxRecDepth 20000 in
theorem gX9_canTake_X9_isInChain : GoodIn wsX9_canTake (wsV RX9 306 RX9 yX9_isInChain wsX9_isInChain) := goodIn_app (goodIn_of _ (by decide +kernel)) ggX9_canTake_X9_isInChain
set_option maxRecDepth 20000 in
theorem ggX9_findChainOf_X9_canTake : GoodIn wsX9_findChainOf wsX9_canTake := goodIn_r _ [8, 1, 9, 10, 11, 12, 13, 14, 7, 15, 3, 16, 17, 18, 19, 20, 21, 22, 23, 24, 25, 26, 27, 28, 29, 30, 31, 32, 33, 34, 35, 36, 37, 38, 39, 40, 41, 42, 43, 44, 45, 46, 47, 48, 49, 50, 51, 52, 53, 54, 55, 56, 57, 58, 59, 60, 61, 62, 63, 64, 65, 66, 67, 68, 69, 70, 71, 72, 73, 74, 75, 76, 77, 78, 79, 80, 81, 82, 83, 84, 85, 86, 87, 88, 89, 90, 91, 92, 93, 94, 95, 96, 97, 98, 99, 100, 101, 102, 103, 104, 105, 106, 107, 108, 109, 110, 111, 112, 113, 114, 115, 116, 117, 118, 119, 120, 121, 122, 123, 124, 125, 126, 127, 128, 129, 130, 131, 132] (by decide +kernel) (by decide +kernel)
set_option maxRecDepth 20000 in
theorem gX9_findChainOf_X9_canTake : GoodIn wsX9_findChainOf (wsV RX9 309 RX9 yX9_canTake wsX9_canTake) := goodIn_app (goodIn_of _ (by decide +kernel)) ggX9_findChainOf_X9_canTake
set_option maxRecDepth 20000 in
theorem ggX9_findChainOf_X9_fromWhom : GoodIn wsX9_findChainOf wsX9_fromWhom := goodIn_r _ [76, 9, 10, 77, 16, 17, 18, 7, 19, 20, 21, 22, 23, 24, 25, 26, 27, 28, 29, 34, 35, 36, 37, 38, 39, 40, 41, 42, 43, 44, 45, 46, 47, 48, 49, 50, 51, 52, 53, 54, 55, 56, 57, 58, 59, 60, 61, 62, 63, 64, 65, 66, 67, 68, 69, 70, 71, 72, 82, 83, 84, 85, 86, 87, 88, 89, 90, 91, 92, 93, 94, 95, 96, 97, 98, 99, 100, 101, 102, 103, 104, 105, 106, 107, 108, 109, 110, 111, 112, 113, 114, 115, 116, 117, 118, 119, 120, 121, 122, 123, 124, 125, 126, 127, 128, 129, 130, 131, 132] (by decide +kernel) (by decide +kernel)
set_option maxRecDepth 20000 in
theorem gX9_findChainOf_X9_fromWhom : GoodIn wsX9_findChainOf (wsV RX9 300 RX9 yX9_fromWhom wsX9_fromWhom) := goodIn_app (goodIn_of _ (by decide +kernel)) ggX9_findChainOf_X9_fromWhom
set_option maxRecDepth 20000 in
theorem ggX9_findChain_X9_findLies : GoodIn wsX9_findChain wsX9_findLies := goodIn_r _ [7, 8, 9, 10, 11, 12, 13, 14, 15, 16, 17, 18, 6, 19, 20, 21, 22, 23, 113, 114, 115, 116, 117, 118, 119, 120, 121, 122, 123, 124, 125, 126, 127, 128, 129, 130, 131, 132, 133, 134, 135, 136, 137, 138, 139, 140, 141, 142, 143, 144, 145, 146, 147, 148, 149, 150, 151, 152, 153, 154, 155, 156, 157, 158, 159, 160, 161, 162, 163] (by decide +kernel) (by decide +kernel)
set_option maxRecDepth 20000 in
theorem gX9_findChain_X9_findLies : GoodIn wsX9_findChain (wsV RX9 235 RX9 yX9_findLies wsX9_findLies) := goodIn_app (goodIn_of _ (by decide +kernel)) ggX9_findChain_X9_findLies
set_option maxRecDepth 20000 in
theorem ggX9_findChain_X9_findFar : GoodIn wsX9_findChain wsX9_findFar := goodIn_r _ [27, 28, 2, 29, 30, 31, 32, 6, 33, 34, 35, 36, 37, 14, 38, 39, 40, 41, 42, 43, 44, 15, 1, 45, 46, 47, 48, 49, 50, 51, 52, 53, 54, 55, 56, 57, 58, 59, 60, 61, 62, 63, 64, 65, 66, 67, 68, 69, 70, 71, 72, 73, 74, 75, 76, 77, 78, 79, 80, 81, 82, 83, 84, 85, 86, 87, 88, 89, 90, 91, 92, 93, 94, 113, 114, 115, 116, 117, 118, 119, 120, 121, 122, 123, 124, 125, 126, 127, 128, 129, 130, 131, 132, 133, 134, 135, 136, 137, 138, 139, 140, 141, 142, 143, 144, 145, 146, 147, 148, 149, 150, 151, 152, 153, 154, 155, 156, 157, 158, 159, 160, 161, 162, 163] (by decide +kernel) (by decide +kernel)
set_option maxRecDepth 20000 in
theorem gX9_findChain_X9_findFar : GoodIn wsX9_findChain (wsV RX9 312 RX9 yX9_findFar wsX9_findFar) := goodIn_app (goodIn_of _ (by decide +kernel)) ggX9_findChain_X9_findFar
set_option maxRecDepth 20000 in
theorem ggX9_findChain_X9_findChainOf : GoodIn wsX9_findChain wsX9_findChainOf := goodIn_r _ [98, 99, 29, 100, 101, 102, 103, 6, 104, 35, 36, 2, 105, 106, 107, 108, 40, 41, 42, 43, 44, 38, 14, 15, 37, 39, 1, 45, 46, 47, 48, 49, 50, 51, 52, 53, 54, 55, 56, 57, 58, 59, 60, 61, 62, 63, 64, 65, 66, 67, 68, 69, 28, 70, 71, 72, 73, 74, 75, 76, 77, 78, 79, 80, 81, 82, 83, 84, 85, 86, 87, 88, 89, 90, 91, 92, 93, 94, 109, 110, 111, 112, 113, 114, 115, 116, 117, 118, 119, 120, 121, 122, 123, 124, 125, 126, 127, 128, 129, 130, 131, 132, 133, 134, 135, 136, 137, 138, 139, 140, 141, 142, 143, 144, 145, 146, 147, 148, 149, 150, 151, 152, 153, 154, 155, 156, 157, 158, 159, 160, 161, 162, 163] (by decide +kernel) (by decide +kernel)
set_option maxRecDepth 20000 in
theorem gX9_findChain_X9_findChainOf : GoodIn wsX9_findChain (wsV RX9 315 RX9 yX9_findChainOf wsX9_findChainOf) := goodIn_app (goodIn_of _ (by decide +kernel)) ggX9_findChain_X9_findChainOf
set_option maxRecDepth 20000 in
theorem ggX9_chain_X9_isThere : GoodIn wsX9_chain wsX9_isThere := goodIn_r _ [5, 6, 7, 8, 4, 9, 129, 130, 131, 132, 133, 134, 135, 136, 137, 138, 139, 140, 141, 142, 143, 144, 145, 146, 147, 148, 149, 150, 151, 152, 153, 154, 155, 156, 157, 158, 159, 160, 161, 162, 163, 164, 165, 166, 167, 168, 169, 170, 171, 172, 173, 174, 175, 176, 177, 178, 179] (by decide +kernel) (by decide +kernel)
set_option maxRecDepth 20000 in
theorem gX9_chain_X9_isThere : GoodIn wsX9_chain (wsV RX9 268 RX9 yX9_isThere wsX9_isThere) := goodIn_app (goodIn_of _ (by decide +kernel)) ggX9_chain_X9_isThere
set_option maxRecDepth 20000 in
theorem ggX9_chain_X9_isOpen : GoodIn wsX9_chain wsX9_isOpen := goodIn_r _ [13, 14, 15, 129, 130, 131, 132, 133, 134, 135, 136, 137, 138, 139, 140, 141, 142, 143, 144, 145, 146, 147, 148, 149, 150, 151, 152, 153, 154, 155, 156, 157, 158, 159, 160, 161, 162, 163, 164, 165, 166, 167, 168, 169, 170, 171, 172, 173, 174, 175, 176, 177, 178, 179] (by decide +kernel) (by decide +kernel)
set_option maxRecDepth 20000 in
theorem gX9_chain_X9_isOpen : GoodIn wsX9_chain (wsV RX9 294 RX9 yX9_isOpen wsX9_isOpen) := goodIn_app (goodIn_of _ (by decide +kernel)) ggX9_chain_X9_isOpen
set_option maxRecDepth 20000 in
theorem ggX9_chain_X9_findChain : GoodIn wsX9_chain wsX9_findChain := goodIn_r _ [19, 20, 21, 22, 23, 24, 4, 25, 26, 27, 28, 29, 30, 31, 32, 33, 34, 35, 36, 37, 38, 39, 40, 41, 42, 43, 44, 45, 6, 46, 47, 48, 49, 50, 51, 52, 53, 54, 55, 56, 57, 58, 59, 60, 61, 62, 63, 64, 65, 66, 67, 68, 69, 70, 71, 72, 73, 74, 75, 76, 77, 78, 79, 80, 81, 82, 83, 84, 85, 86, 14, 87, 88, 89, 90, 91, 92, 93, 94, 95, 96, 97, 98, 99, 100, 101, 102, 103, 104, 105, 106, 107, 108, 109, 110, 111, 112, 113, 114, 115, 116, 117, 118, 119, 120, 121, 122, 123, 124, 125, 126, 127, 128, 129, 130, 131, 132, 133, 134, 135, 136, 137, 138, 139, 140, 141, 142, 143, 144, 145, 146, 147, 148, 149, 150, 151, 152, 153, 154, 155, 156, 157, 158, 159, 160, 161, 162, 163, 164, 165, 166, 167, 168, 169, 170, 171, 172, 173, 174, 175, 176, 177, 178, 179] (by decide +kernel) (by decide +kernel)
set_option maxRecDepth 20000 in
theorem gX9_chain_X9_findChain : GoodIn wsX9_chain (wsV RX9 318 RX9 yX9_findChain wsX9_findChain) := goodIn_app (goodIn_of _ (by decide +kernel)) ggX9_chain_X9_findChain
set_option maxRecDepth 20000 in
theorem ggX9_link_X9_isThere : GoodIn wsX9_link wsX9_isThere := goodIn_r _ [7, 8, 9, 10, 6, 11, 129, 130, 131, 132, 133, 134, 135, 136, 137, 138, 139, 140, 141, 142, 143, 144, 145, 146, 147, 148, 149, 150, 151, 152, 153, 154, 155, 156, 157, 158, 159, 160, 161, 162, 163, 164, 165, 166, 167, 168, 169, 170, 171, 172, 173, 174, 175, 176, 177, 178, 179] (by decide +kernel) (by decide +kernel)
set_option maxRecDepth 20000 in
theorem gX9_link_X9_isThere : GoodIn wsX9_link (wsV RX9 268 RX9 yX9_isThere wsX9_isThere) := goodIn_app (goodIn_of _ (by decide +kernel)) ggX9_link_X9_isThere
set_option maxRecDepth 20000 in
theorem ggX9_link_X9_in : GoodIn wsX9_link wsX9_in := goodIn_r _ [11] (by decide +kernel) (by decide +kernel)
set_option maxRecDepth 20000 in
theorem gX9_link_X9_in : GoodIn wsX9_link (va_wsS RX9 148 yX9_in wsX9_in) := goodIn_app (goodIn_of _ (by decide +kernel)) ggX9_link_X9_in
set_option maxRecDepth 20000 in
theorem ggX9_link_X9_isOpen : GoodIn wsX9_link wsX9_isOpen := goodIn_r _ [15, 16, 17, 129, 130, 131, 132, 133, 134, 135, 136, 137, 138, 139, 140, 141, 142, 143, 144, 145, 146, 147, 148, 149, 150, 151, 152, 153, 154, 155, 156, 157, 158, 159, 160, 161, 162, 163, 164, 165, 166, 167, 168, 169, 170, 171, 172, 173, 174, 175, 176, 177, 178, 179] (by decide +kernel) (by decide +kernel)
set_option maxRecDepth 20000 in
theorem gX9_link_X9_isOpen : GoodIn wsX9_link (wsV RX9 294 RX9 yX9_isOpen wsX9_isOpen) := goodIn_app (goodIn_of _ (by decide +kernel)) ggX9_link_X9_isOpen
set_option maxRecDepth 20000 in
theorem ggX9_link_X9_findChain : GoodIn wsX9_link wsX9_findChain := goodIn_r _ [21, 22, 23, 24, 25, 26, 6, 27, 28, 29, 30, 31, 32, 33, 34, 35, 36, 37, 38, 39, 40, 41, 42, 43, 44, 45, 46, 47, 8, 48, 49, 50, 51, 52, 53, 54, 55, 56, 57, 58, 59, 60, 61, 62, 63, 64, 65, 66, 67, 68, 69, 70, 71, 72, 73, 74, 75, 76, 77, 78, 79, 80, 81, 82, 83, 84, 85, 86, 87, 88, 16, 89, 90, 91, 92, 93, 94, 95, 96, 97, 98, 99, 100, 101, 102, 103, 104, 105, 106, 107, 108, 109, 110, 111, 112, 113, 114, 115, 116, 1, 2, 117, 118, 119, 120, 121, 122, 123, 124, 125, 126, 127, 128, 129, 130, 131, 132, 133, 134, 135, 136, 137, 138, 139, 140, 141, 142, 143, 144, 145, 146, 147, 148, 149, 150, 151, 152, 153, 154, 155, 156, 157, 158, 159, 160, 161, 162, 163, 164, 165, 166, 167, 168, 169, 170, 171, 172, 173, 174, 175, 176, 177, 178, 179] (by decide +kernel) (by decide +kernel)
set_option maxRecDepth 20000 in
theorem gX9_link_X9_findChain : GoodIn wsX9_link (wsV RX9 318 RX9 yX9_findChain wsX9_findChain) := goodIn_app (goodIn_of _ (by decide +kernel)) ggX9_link_X9_findChain
set_option maxRecDepth 20000 in
theorem ggX9_swap_X9_isThere : GoodIn wsX9_swap wsX9_isThere := goodIn_r _ [8, 9, 10, 11, 7, 12, 129, 130, 131, 132, 133, 134, 135, 136, 137, 138, 139, 140, 141, 142, 143, 144, 145, 146, 147, 148, 149, 150, 151, 152, 153, 154, 155, 156, 157, 158, 159, 160, 161, 162, 163, 164, 165, 166, 167, 168, 169, 170, 171, 172, 173, 174, 175, 176, 177, 178, 179] (by decide +kernel) (by decide +kernel)
set_option maxRecDepth 20000 in
theorem gX9_swap_X9_isThere : GoodIn wsX9_swap (wsV RX9 268 RX9 yX9_isThere wsX9_isThere) := goodIn_app (goodIn_of _ (by decide +kernel)) ggX9_swap_X9_isThere
set_option maxRecDepth 20000 in
theorem ggX9_swap_X9_isOpen : GoodIn wsX9_swap wsX9_isOpen := goodIn_r _ [16, 1, 17, 129, 130, 131, 132, 133, 134, 135, 136, 137, 138, 139, 140, 141, 142, 143, 144, 145, 146, 147, 148, 149, 150, 151, 152, 153, 154, 155, 156, 157, 158, 159, 160, 161, 162, 163, 164, 165, 166, 167, 168, 169, 170, 171, 172, 173, 174, 175, 176, 177, 178, 179] (by decide +kernel) (by decide +kernel)
set_option maxRecDepth 20000 in
theorem gX9_swap_X9_isOpen : GoodIn wsX9_swap (wsV RX9 294 RX9 yX9_isOpen wsX9_isOpen) := goodIn_app (goodIn_of _ (by decide +kernel)) ggX9_swap_X9_isOpen
set_option maxRecDepth 20000 in
theorem ggX9_swap_X9_findChain : GoodIn wsX9_swap wsX9_findChain := goodIn_r _ [21, 22, 23, 24, 25, 26, 7, 27, 28, 29, 30, 31, 32, 33, 34, 35, 36, 37, 38, 39, 40, 41, 42, 43, 44, 45, 46, 47, 9, 48, 49, 50, 51, 52, 53, 54, 55, 56, 57, 58, 59, 60, 61, 62, 63, 64, 65, 66, 67, 68, 69, 70, 71, 72, 73, 74, 75, 76, 77, 78, 79, 80, 81, 82, 83, 84, 85, 86, 87, 88, 1, 89, 90, 91, 92, 93, 94, 95, 96, 97, 98, 99, 100, 101, 102, 103, 104, 105, 106, 107, 108, 109, 110, 111, 112, 113, 114, 115, 116, 2, 3, 117, 118, 119, 120, 121, 122, 123, 124, 125, 126, 127, 128, 129, 130, 131, 132, 133, 134, 135, 136, 137, 138, 139, 140, 141, 142, 143, 144, 145, 146, 147, 148, 149, 150, 151, 152, 153, 154, 155, 156, 157, 158, 159, 160, 161, 162, 163, 164, 165, 166, 167, 168, 169, 170, 171, 172, 173, 174, 175, 176, 177, 178, 179] (by decide +kernel) (by decide +kernel)
set_option maxRecDepth 20000 in
theorem gX9_swap_X9_findChain : GoodIn wsX9_swap (wsV RX9 318 RX9 yX9_findChain wsX9_findChain) := goodIn_app (goodIn_of _ (by decide +kernel)) ggX9_swap_X9_findChain
set_option maxRecDepth 20000 in
theorem ggX9_matchOf_X9_givenOf : GoodIn wsX9_matchOf wsX9_givenOf := goodIn_r _ [11, 12, 6, 13, 14, 15, 16, 17, 18, 19, 20, 21, 10, 22, 23, 24, 25, 26, 27, 28, 29, 30, 31, 32, 33, 34, 35, 36, 37, 38, 39, 40, 41, 42, 43, 44, 45, 46, 47, 48, 49, 50, 1, 3, 51, 52, 53, 54, 55, 56, 57, 58, 59, 60, 61, 62, 63, 64, 65, 66, 67, 68, 69, 70, 71, 72, 73, 74, 75, 76, 77, 78, 79, 80, 81, 82, 83, 84, 85, 86, 87, 88, 89, 90, 91, 92, 93, 94, 95, 96, 97, 98, 99, 100, 101, 102, 103, 104, 105, 106, 107, 108, 109, 110, 111, 112, 113, 114, 115, 116, 117, 118, 119, 120] (by decide +kernel) (by decide +kernel)
set_option maxRecDepth 20000 in
theorem gX9_matchOf_X9_givenOf : GoodIn wsX9_matchOf (wsV RX9 297 RX9 yX9_givenOf wsX9_givenOf) := goodIn_app (goodIn_of _ (by decide +kernel)) ggX9_matchOf_X9_givenOf
set_option maxRecDepth 20000 in
theorem ggX9_match_X9_in : GoodIn wsX9_match wsX9_in := goodIn_r _ [9] (by decide +kernel) (by decide +kernel)
set_option maxRecDepth 20000 in
theorem gX9_match_X9_in : GoodIn wsX9_match (va_wsS RX9 148 yX9_in wsX9_in) := goodIn_app (goodIn_of _ (by decide +kernel)) ggX9_match_X9_in
set_option maxRecDepth 20000 in
theorem ggX9_match_X9_findLies : GoodIn wsX9_match wsX9_findLies := goodIn_r _ [13, 14, 15, 16, 17, 18, 19, 20, 21, 22, 23, 24, 8, 25, 26, 27, 28, 29, 97, 98, 99, 100, 101, 102, 103, 104, 105, 106, 107, 108, 109, 110, 111, 112, 113, 114, 115, 116, 117, 118, 119, 120, 121, 122, 123, 124, 125, 126, 127, 128, 129, 130, 131, 132, 133, 134, 135, 136, 137, 138, 139, 140, 141, 142, 143, 144, 145, 146, 147] (by decide +kernel) (by decide +kernel)
set_option maxRecDepth 20000 in
theorem gX9_match_X9_findLies : GoodIn wsX9_match (wsV RX9 235 RX9 yX9_findLies wsX9_findLies) := goodIn_app (goodIn_of _ (by decide +kernel)) ggX9_match_X9_findLies
set_option maxRecDepth 20000 in
theorem ggX9_match_X9_matchOf : GoodIn wsX9_match wsX9_matchOf := goodIn_r _ [33, 3, 34, 35, 4, 5, 36, 37, 38, 39, 8, 40, 41, 42, 43, 44, 20, 45, 46, 47, 48, 49, 50, 51, 21, 52, 53, 54, 55, 56, 57, 58, 59, 60, 61, 62, 63, 64, 65, 66, 67, 68, 69, 70, 71, 72, 73, 74, 75, 76, 77, 78, 79, 80, 81, 82, 83, 84, 85, 86, 87, 88, 89, 90, 91, 92, 93, 94, 95, 96, 97, 98, 99, 100, 101, 102, 103, 104, 105, 106, 107, 108, 109, 110, 111, 112, 113, 114, 115, 116, 117, 118, 119, 120, 121, 122, 123, 124, 125, 126, 127, 128, 129, 130, 131, 132, 133, 134, 135, 136, 137, 138, 139, 140, 141, 142, 143, 144, 145, 146, 147] (by decide +kernel) (by decide +kernel)
set_option maxRecDepth 20000 in
theorem gX9_match_X9_matchOf : GoodIn wsX9_match (wsV RX9 321 RX9 yX9_matchOf wsX9_matchOf) := goodIn_app (goodIn_of _ (by decide +kernel)) ggX9_match_X9_matchOf
set_option maxRecDepth 20000 in
theorem ggX9_asOf_X9_in : GoodIn wsX9_asOf wsX9_in := goodIn_r _ [9] (by decide +kernel) (by decide +kernel)
set_option maxRecDepth 20000 in
theorem gX9_asOf_X9_in : GoodIn wsX9_asOf (va_wsS RX9 148 yX9_in wsX9_in) := goodIn_app (goodIn_of _ (by decide +kernel)) ggX9_asOf_X9_in
set_option maxRecDepth 20000 in
theorem ggX9_out_X9_isThere : GoodIn wsX9_out wsX9_isThere := goodIn_r _ [12, 13, 14, 15, 11, 16, 17, 18, 19, 20, 21, 22, 23, 24, 25, 26, 27, 28, 29, 30, 31, 32, 33, 34, 35, 36, 37, 38, 39, 40, 41, 42, 43, 44, 45, 46, 47, 48, 49, 50, 51, 52, 53, 54, 55, 56, 57, 58, 59, 60, 61, 62, 63, 64, 65, 66, 67] (by decide +kernel) (by decide +kernel)
set_option maxRecDepth 20000 in
theorem gX9_out_X9_isThere : GoodIn wsX9_out (wsV RX9 268 RX9 yX9_isThere wsX9_isThere) := goodIn_app (goodIn_of _ (by decide +kernel)) ggX9_out_X9_isThere
set_option maxRecDepth 20000 in
theorem ggX9_out_X9_in : GoodIn wsX9_out wsX9_in := goodIn_r _ [16] (by decide +kernel) (by decide +kernel)
set_option maxRecDepth 20000 in
theorem gX9_out_X9_in : GoodIn wsX9_out (va_wsS RX9 148 yX9_in wsX9_in) := goodIn_app (goodIn_of _ (by decide +kernel)) ggX9_out_X9_in
set_option maxRecDepth 20000 in
theorem ggX9_home_X9_isThere : GoodIn wsX9_home wsX9_isThere := goodIn_r _ [20, 21, 22, 23, 19, 24, 39, 40, 41, 42, 43, 44, 45, 46, 47, 48, 49, 50, 51, 52, 53, 54, 55, 56, 57, 58, 59, 60, 61, 62, 63, 64, 65, 66, 67, 68, 69, 70, 71, 72, 73, 74, 75, 76, 77, 78, 79, 80, 81, 82, 83, 84, 85, 86, 87, 88, 89] (by decide +kernel) (by decide +kernel)
set_option maxRecDepth 20000 in
theorem gX9_home_X9_isThere : GoodIn wsX9_home (wsV RX9 268 RX9 yX9_isThere wsX9_isThere) := goodIn_app (goodIn_of _ (by decide +kernel)) ggX9_home_X9_isThere
set_option maxRecDepth 20000 in
theorem ggX9_home_X9_in : GoodIn wsX9_home wsX9_in := goodIn_r _ [24] (by decide +kernel) (by decide +kernel)
set_option maxRecDepth 20000 in
theorem gX9_home_X9_in : GoodIn wsX9_home (va_wsS RX9 148 yX9_in wsX9_in) := goodIn_app (goodIn_of _ (by decide +kernel)) ggX9_home_X9_in
set_option maxRecDepth 20000 in
theorem ggX9_home_X9_firstAway : GoodIn wsX9_home wsX9_firstAway := goodIn_r _ [28, 9, 13, 29, 30, 31, 19, 32, 33, 34, 35, 39, 40, 41, 42, 43, 44, 45, 46, 47, 48, 49, 50, 51, 52, 53, 54, 55, 56, 57, 58, 59, 60, 61, 62, 63, 64, 65, 66, 67, 68, 69, 70, 71, 72, 73, 74, 75, 76, 77, 78, 79, 80, 81, 82, 83, 84, 85, 86, 87, 88, 89] (by decide +kernel) (by decide +kernel)
set_option maxRecDepth 20000 in
theorem gX9_home_X9_firstAway : GoodIn wsX9_home (wsV RX9 275 RX9 yX9_firstAway wsX9_firstAway) := goodIn_app (goodIn_of _ (by decide +kernel)) ggX9_home_X9_firstAway
set_option maxRecDepth 20000 in
theorem ggX9_home_X9_postOf : GoodIn wsX9_home wsX9_postOf := goodIn_r _ [32, 33, 34, 35, 39, 40, 41, 42, 43, 44, 45, 46, 47, 48, 49, 50, 51, 52, 53, 54, 55, 56, 57, 58, 59, 60, 61, 62, 63, 64, 65, 66, 67, 68, 69, 70, 71, 72, 73, 74, 75, 76, 77, 78, 79, 80, 81, 82, 83, 84, 85, 86, 87, 88, 89] (by decide +kernel) (by decide +kernel)
set_option maxRecDepth 20000 in
theorem gX9_home_X9_postOf : GoodIn wsX9_home (wsV RX9 271 RX9 yX9_postOf wsX9_postOf) := goodIn_app (goodIn_of _ (by decide +kernel)) ggX9_home_X9_postOf
set_option maxRecDepth 20000 in
theorem ggX9_home_X9_ones : GoodIn wsX9_home wsX9_ones := goodIn_r _ [38] (by decide +kernel) (by decide +kernel)
set_option maxRecDepth 20000 in
theorem gX9_home_X9_ones : GoodIn wsX9_home (va_wsS RX9 328 yX9_ones wsX9_ones) := goodIn_app (goodIn_of _ (by decide +kernel)) ggX9_home_X9_ones
set_option maxRecDepth 20000 in
theorem ggX9_about_X9_isThere : GoodIn wsX9_about wsX9_isThere := goodIn_r _ [11, 12, 13, 14, 10, 15, 16, 17, 18, 19, 20, 21, 22, 23, 24, 25, 26, 27, 28, 29, 30, 31, 32, 33, 34, 35, 36, 37, 38, 39, 40, 41, 42, 43, 44, 45, 46, 47, 48, 49, 50, 51, 52, 53, 54, 55, 56, 57, 58, 59, 60, 61, 62, 63, 64, 65, 66] (by decide +kernel) (by decide +kernel)
set_option maxRecDepth 20000 in
theorem gX9_about_X9_isThere : GoodIn wsX9_about (wsV RX9 268 RX9 yX9_isThere wsX9_isThere) := goodIn_app (goodIn_of _ (by decide +kernel)) ggX9_about_X9_isThere
set_option maxRecDepth 20000 in
theorem ggX9_about_X9_in : GoodIn wsX9_about wsX9_in := goodIn_r _ [15] (by decide +kernel) (by decide +kernel)
set_option maxRecDepth 20000 in
theorem gX9_about_X9_in : GoodIn wsX9_about (va_wsS RX9 148 yX9_in wsX9_in) := goodIn_app (goodIn_of _ (by decide +kernel)) ggX9_about_X9_in
set_option maxRecDepth 20000 in
theorem ggX9_retire_X9_isPiece : GoodIn wsX9_retire wsX9_isPiece := goodIn_r _ [6, 7, 8, 9, 5, 10, 22, 23, 24, 25, 26, 27, 28, 29, 30, 31, 32, 33, 34, 35, 36, 37, 38, 39, 40, 41, 42, 43, 44, 45, 46, 47, 48, 49, 50, 51, 52, 53, 54, 55, 56, 57, 58, 59, 60, 61, 62, 63, 64, 65, 66, 67, 68, 69, 70, 71, 72] (by decide +kernel) (by decide +kernel)
set_option maxRecDepth 20000 in
theorem gX9_retire_X9_isPiece : GoodIn wsX9_retire (wsV RX9 210 RX9 yX9_isPiece wsX9_isPiece) := goodIn_app (goodIn_of _ (by decide +kernel)) ggX9_retire_X9_isPiece
set_option maxRecDepth 20000 in
theorem ggX9_retire_X9_isRetired : GoodIn wsX9_retire wsX9_isRetired := goodIn_r _ [14, 1, 15, 16, 22, 23, 24, 25, 26, 27, 28, 29, 30, 31, 32, 33, 34, 35, 36, 37, 38, 39, 40, 41, 42, 43, 44, 45, 46, 47, 48, 49, 50, 51, 52, 53, 54, 55, 56, 57, 58, 59, 60, 61, 62, 63, 64, 65, 66, 67, 68, 69, 70, 71, 72] (by decide +kernel) (by decide +kernel)
set_option maxRecDepth 20000 in
theorem gX9_retire_X9_isRetired : GoodIn wsX9_retire (wsV RX9 218 RX9 yX9_isRetired wsX9_isRetired) := goodIn_app (goodIn_of _ (by decide +kernel)) ggX9_retire_X9_isRetired
set_option maxRecDepth 20000 in
theorem ggX9_retire_X9_worthOf : GoodIn wsX9_retire wsX9_worthOf := goodIn_r _ [20, 16, 15, 21, 22, 23, 24, 25, 26, 27, 28, 29, 30, 31, 32, 33, 34, 35, 36, 37, 38, 39, 40, 41, 42, 43, 44, 45, 46, 47, 48, 49, 50, 51, 52, 53, 54, 55, 56, 57, 58, 59, 60, 61, 62, 63, 64, 65, 66, 67, 68, 69, 70, 71, 72] (by decide +kernel) (by decide +kernel)
set_option maxRecDepth 20000 in
theorem gX9_retire_X9_worthOf : GoodIn wsX9_retire (wsV RX9 215 RX9 yX9_worthOf wsX9_worthOf) := goodIn_app (goodIn_of _ (by decide +kernel)) ggX9_retire_X9_worthOf
set_option maxRecDepth 20000 in
theorem ggX9_count_X9_isRetired : GoodIn wsX9_count wsX9_isRetired := goodIn_r _ [12, 13, 2, 14, 15, 16, 17, 18, 19, 20, 21, 22, 23, 24, 25, 26, 27, 28, 29, 30, 31, 32, 33, 34, 35, 36, 37, 38, 39, 40, 41, 42, 43, 44, 45, 46, 47, 48, 49, 50, 51, 52, 53, 54, 55, 56, 57, 58, 59, 60, 61, 62, 63, 64, 65] (by decide +kernel) (by decide +kernel)
set_option maxRecDepth 20000 in
theorem gX9_count_X9_isRetired : GoodIn wsX9_count (wsV RX9 218 RX9 yX9_isRetired wsX9_isRetired) := goodIn_app (goodIn_of _ (by decide +kernel)) ggX9_count_X9_isRetired
set_option maxRecDepth 20000 in
theorem ggX9_isSheet_X9_in : GoodIn wsX9_isSheet wsX9_in := goodIn_r _ [6] (by decide +kernel) (by decide +kernel)
set_option maxRecDepth 20000 in
theorem gX9_isSheet_X9_in : GoodIn wsX9_isSheet (va_wsS RX9 148 yX9_in wsX9_in) := goodIn_app (goodIn_of _ (by decide +kernel)) ggX9_isSheet_X9_in
set_option maxRecDepth 20000 in
theorem ggX9_sheet_X9_isSheet : GoodIn wsX9_sheet wsX9_isSheet := goodIn_r _ [7, 8, 9, 10, 11, 6, 12] (by decide +kernel) (by decide +kernel)
set_option maxRecDepth 20000 in
theorem gX9_sheet_X9_isSheet : GoodIn wsX9_sheet (va_wsS RX9 331 yX9_isSheet wsX9_isSheet) := goodIn_app (goodIn_of _ (by decide +kernel)) ggX9_sheet_X9_isSheet
set_option maxRecDepth 20000 in
theorem ggX9_drop_X9_in : GoodIn wsX9_drop wsX9_in := goodIn_r _ [7] (by decide +kernel) (by decide +kernel)
set_option maxRecDepth 20000 in
theorem gX9_drop_X9_in : GoodIn wsX9_drop (va_wsS RX9 148 yX9_in wsX9_in) := goodIn_app (goodIn_of _ (by decide +kernel)) ggX9_drop_X9_in
set_option maxRecDepth 20000 in
theorem ggX9_against_X9_in : GoodIn wsX9_against wsX9_in := goodIn_r _ [6] (by decide +kernel) (by decide +kernel)
set_option maxRecDepth 20000 in
theorem gX9_against_X9_in : GoodIn wsX9_against (va_wsS RX9 148 yX9_in wsX9_in) := goodIn_app (goodIn_of _ (by decide +kernel)) ggX9_against_X9_in
set_option maxRecDepth 20000 in
theorem ggX9_item_X9_isSheet : GoodIn wsX9_item wsX9_isSheet := goodIn_r _ [5, 6, 7, 8, 9, 4, 10] (by decide +kernel) (by decide +kernel)
set_option maxRecDepth 20000 in
theorem gX9_item_X9_isSheet : GoodIn wsX9_item (va_wsS RX9 331 yX9_isSheet wsX9_isSheet) := goodIn_app (goodIn_of _ (by decide +kernel)) ggX9_item_X9_isSheet
set_option maxRecDepth 20000 in
theorem ggX9_item_X9_against : GoodIn wsX9_item wsX9_against := goodIn_r _ [14, 15, 16, 8, 9, 4, 10, 17, 18, 19, 20, 21, 22, 23, 24, 25, 26, 27, 28, 29, 30, 31, 32, 33, 34, 35, 36, 37, 38, 39, 40, 41, 42, 43, 44, 45, 46, 47, 48, 49, 50, 51, 52, 53, 54, 55, 56, 57, 58, 59, 60, 61, 62, 63, 64, 65, 66, 67] (by decide +kernel) (by decide +kernel)
set_option maxRecDepth 20000 in
theorem gX9_item_X9_against : GoodIn wsX9_item (wsV RX9 334 RX9 yX9_against wsX9_against) := goodIn_app (goodIn_of _ (by decide +kernel)) ggX9_item_X9_against
set_option maxRecDepth 20000 in
theorem ggX9_books_X9_isSheet : GoodIn wsX9_books wsX9_isSheet := goodIn_r _ [7, 8, 9, 10, 11, 6, 12] (by decide +kernel) (by decide +kernel)
set_option maxRecDepth 20000 in
theorem gX9_books_X9_isSheet : GoodIn wsX9_books (va_wsS RX9 331 yX9_isSheet wsX9_isSheet) := goodIn_app (goodIn_of _ (by decide +kernel)) ggX9_books_X9_isSheet
set_option maxRecDepth 20000 in
theorem ggX9_books_X9_in : GoodIn wsX9_books wsX9_in := goodIn_r _ [12] (by decide +kernel) (by decide +kernel)
set_option maxRecDepth 20000 in
theorem gX9_books_X9_in : GoodIn wsX9_books (va_wsS RX9 148 yX9_in wsX9_in) := goodIn_app (goodIn_of _ (by decide +kernel)) ggX9_books_X9_in
set_option maxRecDepth 20000 in
theorem ggX9_books_X9_against : GoodIn wsX9_books wsX9_against := goodIn_r _ [16, 17, 18, 10, 11, 6, 12, 44, 45, 46, 47, 48, 49, 50, 51, 52, 53, 54, 55, 56, 57, 58, 59, 60, 61, 62, 63, 64, 65, 66, 67, 68, 69, 70, 71, 72, 73, 74, 75, 76, 77, 78, 79, 80, 81, 82, 83, 84, 85, 86, 87, 88, 89, 90, 91, 92, 93, 94] (by decide +kernel) (by decide +kernel)
set_option maxRecDepth 20000 in
theorem gX9_books_X9_against : GoodIn wsX9_books (wsV RX9 334 RX9 yX9_against wsX9_against) := goodIn_app (goodIn_of _ (by decide +kernel)) ggX9_books_X9_against
set_option maxRecDepth 20000 in
theorem ggX9_books_X9_isBooking : GoodIn wsX9_books wsX9_isBooking := goodIn_r _ [21, 22, 9, 23, 24, 25, 26, 27, 10, 11, 6, 12, 28, 29, 30, 31] (by decide +kernel) (by decide +kernel)
set_option maxRecDepth 20000 in
theorem gX9_books_X9_isBooking : GoodIn wsX9_books (va_wsS RX9 260 yX9_isBooking wsX9_isBooking) := goodIn_app (goodIn_of _ (by decide +kernel)) ggX9_books_X9_isBooking
set_option maxRecDepth 20000 in
theorem ggX9_books_X9_addBooking : GoodIn wsX9_books wsX9_addBooking := goodIn_r _ [35, 36, 3, 37, 38, 39, 40, 41, 42, 43, 44, 45, 46, 47, 48, 49, 50, 51, 52, 53, 54, 55, 56, 57, 58, 59, 60, 61, 62, 63, 64, 65, 66, 67, 68, 69, 70, 71, 72, 73, 74, 75, 76, 77, 78, 79, 80, 81, 82, 83, 84, 85, 86, 87, 88, 89, 90, 91, 92, 93, 94] (by decide +kernel) (by decide +kernel)
set_option maxRecDepth 20000 in
theorem gX9_books_X9_addBooking : GoodIn wsX9_books (wsV RX9 264 RX9 yX9_addBooking wsX9_addBooking) := goodIn_app (goodIn_of _ (by decide +kernel)) ggX9_books_X9_addBooking
