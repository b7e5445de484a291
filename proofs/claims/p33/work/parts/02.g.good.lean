set_option maxRecDepth 20000 in
theorem ggX0_waits_X0_isCalledOff : GoodIn wsX0_waits wsX0_isCalledOff := goodIn_r _ [6, 7, 8, 9, 10, 11, 12, 13, 14, 15, 16, 17, 18, 19, 20, 21] (by decide +kernel) (by decide +kernel)
set_option maxRecDepth 20000 in
theorem gX0_waits_X0_isCalledOff : GoodIn wsX0_waits (wsV RX0 43 RX0 yX0_isCalledOff wsX0_isCalledOff) := goodIn_app (goodIn_of _ (by decide +kernel)) ggX0_waits_X0_isCalledOff
set_option maxRecDepth 20000 in
theorem ggX0_isKnownOn_X0_isCalledOff : GoodIn wsX0_isKnownOn wsX0_isCalledOff := goodIn_r _ [7, 2, 8, 9, 10, 11, 12, 13, 14, 15, 16, 17, 18, 19, 20, 21] (by decide +kernel) (by decide +kernel)
set_option maxRecDepth 20000 in
theorem gX0_isKnownOn_X0_isCalledOff : GoodIn wsX0_isKnownOn (wsV RX0 43 RX0 yX0_isCalledOff wsX0_isCalledOff) := goodIn_app (goodIn_of _ (by decide +kernel)) ggX0_isKnownOn_X0_isCalledOff
set_option maxRecDepth 20000 in
theorem ggX0_tally_X0_isCalledOff : GoodIn wsX0_tally wsX0_isCalledOff := goodIn_r _ [6, 7, 8, 9, 10, 11, 12, 13, 14, 15, 16, 17, 18, 19, 20, 21] (by decide +kernel) (by decide +kernel)
set_option maxRecDepth 20000 in
theorem gX0_tally_X0_isCalledOff : GoodIn wsX0_tally (wsV RX0 43 RX0 yX0_isCalledOff wsX0_isCalledOff) := goodIn_app (goodIn_of _ (by decide +kernel)) ggX0_tally_X0_isCalledOff
set_option maxRecDepth 20000 in
theorem ggX1_find_X7_at : GoodIn wsX1_find wsX7_at := goodIn_r _ [12, 13, 153, 154] (by decide +kernel) (by decide +kernel)
set_option maxRecDepth 20000 in
theorem gX1_find_X7_at : GoodIn wsX1_find (wsV RX1 40 RX7 yX7_at wsX7_at) := goodIn_app (goodIn_of _ (by decide +kernel)) ggX1_find_X7_at
set_option maxRecDepth 20000 in
theorem ggX1_find_X2_bookingAt : GoodIn wsX1_find wsX2_bookingAt := goodIn_r _ [18, 19, 20, 131, 132, 133, 134, 135, 136, 137, 138] (by decide +kernel) (by decide +kernel)
set_option maxRecDepth 20000 in
theorem gX1_find_X2_bookingAt : GoodIn wsX1_find (wsV RX1 53 RX2 yX2_bookingAt wsX2_bookingAt) := goodIn_app (goodIn_of _ (by decide +kernel)) ggX1_find_X2_bookingAt
set_option maxRecDepth 20000 in
theorem ggX1_find_X1_readSources : GoodIn wsX1_find wsX1_readSources := goodIn_r _ [25, 26, 1, 27, 28, 29, 30, 17, 31, 32, 33, 34, 35, 36, 37, 38, 39, 40, 41, 42, 43, 44, 45, 46, 47, 48, 49, 50, 51, 52, 53, 54, 55, 56, 57, 58, 59, 60, 61, 62, 63, 64, 65, 66, 67, 68, 69, 70, 9, 10, 11, 12, 13, 71, 72, 73, 74, 75, 76, 77, 78, 79, 80, 81, 82, 83, 84, 85, 19, 86, 15, 16, 18, 20, 87, 88, 89, 90, 91, 92, 4, 93, 94, 95, 96, 97, 98, 14, 99, 100, 101, 102, 103, 104, 139, 140, 141, 142, 143, 144, 145, 146, 147, 148, 149, 150, 151, 152, 125, 126, 127, 128, 129, 130, 131, 132, 133, 134, 135, 136, 137, 138, 155, 156, 157, 158, 159, 160, 161, 162, 163, 164, 165, 166, 153, 154, 167, 168, 169, 170, 171] (by decide +kernel) (by decide +kernel)
set_option maxRecDepth 20000 in
theorem gX1_find_X1_readSources : GoodIn wsX1_find (wsV RX1 57 RX1 yX1_readSources wsX1_readSources) := goodIn_app (goodIn_of _ (by decide +kernel)) ggX1_find_X1_readSources
set_option maxRecDepth 20000 in
theorem ggX1_find_X1_spreadNearest : GoodIn wsX1_find wsX1_spreadNearest := goodIn_r _ [108, 1, 26, 109, 110, 111, 24, 112, 27, 113, 114, 115, 116, 125, 126, 127, 128, 129, 130, 131, 132, 133, 134, 135, 136, 137, 138] (by decide +kernel) (by decide +kernel)
set_option maxRecDepth 20000 in
theorem gX1_find_X1_spreadNearest : GoodIn wsX1_find (wsV RX1 61 RX1 yX1_spreadNearest wsX1_spreadNearest) := goodIn_app (goodIn_of _ (by decide +kernel)) ggX1_find_X1_spreadNearest
set_option maxRecDepth 20000 in
theorem ggX1_find_X1_follow : GoodIn wsX1_find wsX1_follow := goodIn_r _ [119, 7, 1, 120, 113, 114, 115, 24, 116, 26, 109, 110, 111, 112, 27, 121, 122, 123, 124, 117, 118, 125, 126, 127, 128, 129, 130, 131, 132, 133, 134, 135, 136, 137, 138] (by decide +kernel) (by decide +kernel)
set_option maxRecDepth 20000 in
theorem gX1_find_X1_follow : GoodIn wsX1_find (va_wsS RX1 69 yX1_follow wsX1_follow) := goodIn_app (goodIn_of _ (by decide +kernel)) ggX1_find_X1_follow
set_option maxRecDepth 20000 in
theorem ggX1_perform_X1_bookingIn : GoodIn wsX1_perform wsX1_bookingIn := goodIn_r _ [7, 1, 8, 27, 28, 29, 30, 31, 32] (by decide +kernel) (by decide +kernel)
set_option maxRecDepth 20000 in
theorem gX1_perform_X1_bookingIn : GoodIn wsX1_perform (wsV RX1 73 RX1 yX1_bookingIn wsX1_bookingIn) := goodIn_app (goodIn_of _ (by decide +kernel)) ggX1_perform_X1_bookingIn
set_option maxRecDepth 20000 in
theorem ggX1_perform_X2_bookingAt : GoodIn wsX1_perform wsX2_bookingAt := goodIn_r _ [13, 14, 15, 47, 48, 49, 50, 51, 52, 53, 54] (by decide +kernel) (by decide +kernel)
set_option maxRecDepth 20000 in
theorem gX1_perform_X2_bookingAt : GoodIn wsX1_perform (wsV RX1 53 RX2 yX2_bookingAt wsX2_bookingAt) := goodIn_app (goodIn_of _ (by decide +kernel)) ggX1_perform_X2_bookingAt
set_option maxRecDepth 20000 in
theorem ggX1_perform_X1_pieceIn : GoodIn wsX1_perform wsX1_pieceIn := goodIn_r _ [19, 1, 20, 27, 28, 29, 30, 31, 32] (by decide +kernel) (by decide +kernel)
set_option maxRecDepth 20000 in
theorem gX1_perform_X1_pieceIn : GoodIn wsX1_perform (wsV RX1 76 RX1 yX1_pieceIn wsX1_pieceIn) := goodIn_app (goodIn_of _ (by decide +kernel)) ggX1_perform_X1_pieceIn
set_option maxRecDepth 20000 in
theorem ggX1_perform_X2_pieceAt : GoodIn wsX1_perform wsX2_pieceAt := goodIn_r _ [24, 25, 26, 47, 48, 49, 50, 51, 52, 53, 54] (by decide +kernel) (by decide +kernel)
set_option maxRecDepth 20000 in
theorem gX1_perform_X2_pieceAt : GoodIn wsX1_perform (wsV RX1 79 RX2 yX2_pieceAt wsX2_pieceAt) := goodIn_app (goodIn_of _ (by decide +kernel)) ggX1_perform_X2_pieceAt
set_option maxRecDepth 20000 in
theorem ggX1_readSources_X2_pieceAt : GoodIn wsX1_readSources wsX2_pieceAt := goodIn_r _ [8, 9, 10, 114, 115, 116, 117, 118, 119, 120, 121] (by decide +kernel) (by decide +kernel)
set_option maxRecDepth 20000 in
theorem gX1_readSources_X2_pieceAt : GoodIn wsX1_readSources (wsV RX1 79 RX2 yX2_pieceAt wsX2_pieceAt) := goodIn_app (goodIn_of _ (by decide +kernel)) ggX1_readSources_X2_pieceAt
set_option maxRecDepth 20000 in
theorem ggX1_readSources_X4_canBeWornOn : GoodIn wsX1_readSources wsX4_canBeWornOn := goodIn_r _ [15, 16, 17, 18, 14, 19, 20, 21, 22, 23, 24, 25, 26, 27, 28, 29, 30, 31, 122, 123, 124, 125, 126, 127, 128, 129, 130, 131, 132, 133] (by decide +kernel) (by decide +kernel)
set_option maxRecDepth 20000 in
theorem gX1_readSources_X4_canBeWornOn : GoodIn wsX1_readSources (wsV RX1 93 RX4 yX4_canBeWornOn wsX4_canBeWornOn) := goodIn_app (goodIn_of _ (by decide +kernel)) ggX1_readSources_X4_canBeWornOn
set_option maxRecDepth 20000 in
theorem ggX1_readSources_X2_surelyFits : GoodIn wsX1_readSources wsX2_surelyFits := goodIn_r _ [35, 36, 37, 38, 7, 39, 40, 41, 42, 43, 44, 14, 45, 46, 47, 48, 49, 50, 51, 52, 53, 54, 55, 56, 57, 58, 59, 60, 61, 62, 63, 94, 95, 96, 97, 98, 99, 100, 101, 102, 103, 104, 105, 106, 107, 114, 115, 116, 117, 118, 119, 120, 121, 122, 123, 124, 125, 126, 127, 128, 129, 130, 131, 132, 133, 134, 135, 136, 137, 138, 139, 140] (by decide +kernel) (by decide +kernel)
set_option maxRecDepth 20000 in
theorem gX1_readSources_X2_surelyFits : GoodIn wsX1_readSources (wsV RX1 99 RX2 yX2_surelyFits wsX2_surelyFits) := goodIn_app (goodIn_of _ (by decide +kernel)) ggX1_readSources_X2_surelyFits
set_option maxRecDepth 20000 in
theorem ggX1_readSources_X2_holderInTheWay : GoodIn wsX1_readSources wsX2_holderInTheWay := goodIn_r _ [67, 68, 69, 70, 71, 7, 72, 73, 74, 75, 76, 77, 40, 78, 79, 80, 81, 82, 83, 84, 85, 86, 47, 48, 49, 50, 51, 52, 114, 115, 116, 117, 118, 119, 120, 121, 94, 95, 96, 97, 98, 99, 100, 101, 102, 103, 104, 105, 106, 107, 122, 123, 124, 125, 126, 127, 128, 129, 130, 131, 132, 133, 134, 135] (by decide +kernel) (by decide +kernel)
set_option maxRecDepth 20000 in
theorem gX1_readSources_X2_holderInTheWay : GoodIn wsX1_readSources (wsV RX1 103 RX2 yX2_holderInTheWay wsX2_holderInTheWay) := goodIn_app (goodIn_of _ (by decide +kernel)) ggX1_readSources_X2_holderInTheWay
set_option maxRecDepth 20000 in
theorem ggX1_readSources_X2_bookingAt : GoodIn wsX1_readSources wsX2_bookingAt := goodIn_r _ [72, 68, 73, 114, 115, 116, 117, 118, 119, 120, 121] (by decide +kernel) (by decide +kernel)
set_option maxRecDepth 20000 in
theorem gX1_readSources_X2_bookingAt : GoodIn wsX1_readSources (wsV RX1 53 RX2 yX2_bookingAt wsX2_bookingAt) := goodIn_app (goodIn_of _ (by decide +kernel)) ggX1_readSources_X2_bookingAt
set_option maxRecDepth 20000 in
theorem ggX1_readSources_X0_wentOut : GoodIn wsX1_readSources wsX0_wentOut := goodIn_r _ [92, 93, 94, 95, 96, 97, 98, 99, 100, 101, 102, 103, 104, 105, 106, 107] (by decide +kernel) (by decide +kernel)
set_option maxRecDepth 20000 in
theorem gX1_readSources_X0_wentOut : GoodIn wsX1_readSources (wsV RX1 107 RX0 yX0_wentOut wsX0_wentOut) := goodIn_app (goodIn_of _ (by decide +kernel)) ggX1_readSources_X0_wentOut
set_option maxRecDepth 20000 in
theorem ggX1_spreadNearest_X1_sourceOf : GoodIn wsX1_spreadNearest wsX1_sourceOf := goodIn_r _ [7, 8, 13, 14, 15, 16, 17, 18] (by decide +kernel) (by decide +kernel)
set_option maxRecDepth 20000 in
theorem gX1_spreadNearest_X1_sourceOf : GoodIn wsX1_spreadNearest (wsV RX1 111 RX1 yX1_sourceOf wsX1_sourceOf) := goodIn_app (goodIn_of _ (by decide +kernel)) ggX1_spreadNearest_X1_sourceOf
set_option maxRecDepth 20000 in
theorem ggX1_spreadNearest_X1_nearestOf : GoodIn wsX1_spreadNearest wsX1_nearestOf := goodIn_r _ [12, 2, 13, 14, 15, 16, 17, 18] (by decide +kernel) (by decide +kernel)
set_option maxRecDepth 20000 in
theorem gX1_spreadNearest_X1_nearestOf : GoodIn wsX1_spreadNearest (wsV RX1 114 RX1 yX1_nearestOf wsX1_nearestOf) := goodIn_app (goodIn_of _ (by decide +kernel)) ggX1_spreadNearest_X1_nearestOf
set_option maxRecDepth 20000 in
theorem ggX1_follow_X1_nearestOf : GoodIn wsX1_follow wsX1_nearestOf := goodIn_r _ [8, 9, 21, 22, 23, 24, 25, 26] (by decide +kernel) (by decide +kernel)
set_option maxRecDepth 20000 in
theorem gX1_follow_X1_nearestOf : GoodIn wsX1_follow (wsV RX1 114 RX1 yX1_nearestOf wsX1_nearestOf) := goodIn_app (goodIn_of _ (by decide +kernel)) ggX1_follow_X1_nearestOf
set_option maxRecDepth 20000 in
theorem ggX1_follow_X1_sourceOf : GoodIn wsX1_follow wsX1_sourceOf := goodIn_r _ [13, 14, 21, 22, 23, 24, 25, 26] (by decide +kernel) (by decide +kernel)
set_option maxRecDepth 20000 in
theorem gX1_follow_X1_sourceOf : GoodIn wsX1_follow (wsV RX1 111 RX1 yX1_sourceOf wsX1_sourceOf) := goodIn_app (goodIn_of _ (by decide +kernel)) ggX1_follow_X1_sourceOf
set_option maxRecDepth 20000 in
theorem ggX1_follow_X1_isTakenAhead : GoodIn wsX1_follow wsX1_isTakenAhead := goodIn_r _ [18, 3, 21, 22, 23, 24, 25, 26] (by decide +kernel) (by decide +kernel)
set_option maxRecDepth 20000 in
theorem gX1_follow_X1_isTakenAhead : GoodIn wsX1_follow (wsV RX1 117 RX1 yX1_isTakenAhead wsX1_isTakenAhead) := goodIn_app (goodIn_of _ (by decide +kernel)) ggX1_follow_X1_isTakenAhead
set_option maxRecDepth 20000 in
theorem ggX1_follow_X1_follow : GoodIn wsX1_follow wsX1_follow := goodIn_r _ [0, 1, 2, 3, 4, 5, 6, 7, 8, 9, 10, 11, 12, 13, 14, 15, 16, 17, 18, 19, 20, 21, 22, 23, 24, 25, 26, 27, 28, 29, 30, 31, 32, 33, 34] (by decide +kernel) (by decide +kernel)
set_option maxRecDepth 20000 in
theorem gX1_follow_X1_follow : GoodIn wsX1_follow (va_wsS RX1 69 yX1_follow wsX1_follow) := goodIn_app (goodIn_of _ (by decide +kernel)) ggX1_follow_X1_follow
set_option maxRecDepth 20000 in
theorem ggX2_init_X7_init : GoodIn wsX2_init wsX7_init := goodIn_r _ [21, 22, 2, 3, 12, 23, 24, 41, 42] (by decide +kernel) (by decide +kernel)
set_option maxRecDepth 20000 in
theorem gX2_init_X7_init_n11 : GoodIn wsX2_init (wsX7_init) := ggX2_init_X7_init
set_option maxRecDepth 20000 in
theorem ggX2_init_X3_init : GoodIn wsX2_init wsX3_init := goodIn_r _ [27, 28, 2, 3, 12, 29, 30, 31, 32, 33, 34, 10, 35, 36, 37, 38, 39, 40, 51, 52, 53, 54, 55] (by decide +kernel) (by decide +kernel)
set_option maxRecDepth 20000 in
theorem gX2_init_X3_init : GoodIn wsX2_init (wsX3_init) := ggX2_init_X3_init
set_option maxRecDepth 20000 in
theorem ggX2_addBooking_X2_hasRoomForBookings : GoodIn wsX2_addBooking wsX2_hasRoomForBookings := goodIn_r _ [10, 2, 26, 27, 28, 29, 30, 31, 32, 33] (by decide +kernel) (by decide +kernel)
set_option maxRecDepth 20000 in
theorem gX2_addBooking_X2_hasRoomForBookings : GoodIn wsX2_addBooking (wsV RX2 55 RX2 yX2_hasRoomForBookings wsX2_hasRoomForBookings) := goodIn_app (goodIn_of _ (by decide +kernel)) ggX2_addBooking_X2_hasRoomForBookings
set_option maxRecDepth 20000 in
theorem ggX2_addBooking_X0_init : GoodIn wsX2_addBooking wsX0_init := goodIn_r _ [13, 14, 15, 16, 17, 18, 19, 20, 21, 22, 23, 24, 25, 34, 35, 36, 37, 38, 39, 40, 41, 42, 43, 44, 45, 46, 47] (by decide +kernel) (by decide +kernel)
set_option maxRecDepth 20000 in
theorem gX2_addBooking_X0_init : GoodIn wsX2_addBooking (wsX0_init) := ggX2_addBooking_X0_init
set_option maxRecDepth 20000 in
theorem ggX2_setPost_X8_isTown : GoodIn wsX2_setPost wsX8_isTown := goodIn_r _ [4, 5, 6, 3, 7] (by decide +kernel) (by decide +kernel)
set_option maxRecDepth 20000 in
theorem gX2_setPost_X8_isTown_n62 : GoodIn wsX2_setPost (wsX8_isTown) := ggX2_setPost_X8_isTown
set_option maxRecDepth 20000 in
theorem ggX2_fitOf_X4_isWanted : GoodIn wsX2_fitOf wsX4_isWanted := goodIn_r _ [7, 8, 34, 35, 36, 37, 38, 39, 40, 41, 42, 43, 44, 45] (by decide +kernel) (by decide +kernel)
set_option maxRecDepth 20000 in
theorem gX2_fitOf_X4_isWanted : GoodIn wsX2_fitOf (wsV RX2 65 RX4 yX4_isWanted wsX4_isWanted) := goodIn_app (goodIn_of _ (by decide +kernel)) ggX2_fitOf_X4_isWanted
set_option maxRecDepth 20000 in
theorem ggX2_fitOf_X7_at : GoodIn wsX2_fitOf wsX7_at := goodIn_r _ [13, 14, 46, 47] (by decide +kernel) (by decide +kernel)
set_option maxRecDepth 20000 in
theorem gX2_fitOf_X7_at : GoodIn wsX2_fitOf (wsV RX2 68 RX7 yX7_at wsX7_at) := goodIn_app (goodIn_of _ (by decide +kernel)) ggX2_fitOf_X7_at
set_option maxRecDepth 20000 in
theorem ggX2_fitOf_X3_low : GoodIn wsX2_fitOf wsX3_low := goodIn_r _ [19, 20, 48, 49, 50, 51, 52] (by decide +kernel) (by decide +kernel)
set_option maxRecDepth 20000 in
theorem gX2_fitOf_X3_low : GoodIn wsX2_fitOf (wsV RX2 78 RX3 yX3_low wsX3_low) := goodIn_app (goodIn_of _ (by decide +kernel)) ggX2_fitOf_X3_low
set_option maxRecDepth 20000 in
theorem ggX2_fitOf_X3_high : GoodIn wsX2_fitOf wsX3_high := goodIn_r _ [24, 25, 48, 49, 50, 51, 52] (by decide +kernel) (by decide +kernel)
set_option maxRecDepth 20000 in
theorem gX2_fitOf_X3_high : GoodIn wsX2_fitOf (wsV RX2 84 RX3 yX3_high wsX3_high) := goodIn_app (goodIn_of _ (by decide +kernel)) ggX2_fitOf_X3_high
set_option maxRecDepth 20000 in
theorem ggX2_surelyFits_X2_fitOf : GoodIn wsX2_surelyFits wsX2_fitOf := goodIn_r _ [5, 6, 7, 8, 9, 10, 11, 12, 13, 14, 15, 16, 17, 18, 19, 20, 21, 22, 23, 24, 25, 26, 27, 28, 29, 30, 45, 46, 47, 48, 49, 50, 51, 52, 53, 54, 55, 56, 57, 58, 59, 60, 61, 62, 63, 64, 65, 66, 67, 68, 69, 70, 71] (by decide +kernel) (by decide +kernel)
set_option maxRecDepth 20000 in
theorem gX2_surelyFits_X2_fitOf : GoodIn wsX2_surelyFits (wsV RX2 93 RX2 yX2_fitOf wsX2_fitOf) := goodIn_app (goodIn_of _ (by decide +kernel)) ggX2_surelyFits_X2_fitOf
set_option maxRecDepth 20000 in
theorem ggX2_offBy_X3_low : GoodIn wsX2_offBy wsX3_low := goodIn_r _ [10, 11, 46, 47, 48, 49, 50] (by decide +kernel) (by decide +kernel)
set_option maxRecDepth 20000 in
theorem gX2_offBy_X3_low : GoodIn wsX2_offBy (wsV RX2 78 RX3 yX3_low wsX3_low) := goodIn_app (goodIn_of _ (by decide +kernel)) ggX2_offBy_X3_low
set_option maxRecDepth 20000 in
theorem ggX2_firstAway_X7_at : GoodIn wsX2_firstAway wsX7_at := goodIn_r _ [6, 7, 48, 49] (by decide +kernel) (by decide +kernel)
set_option maxRecDepth 20000 in
theorem gX2_firstAway_X7_at : GoodIn wsX2_firstAway (wsV RX2 68 RX7 yX7_at wsX7_at) := goodIn_app (goodIn_of _ (by decide +kernel)) ggX2_firstAway_X7_at
set_option maxRecDepth 20000 in
theorem ggX2_firstAway_X2_postBetween : GoodIn wsX2_firstAway wsX2_postBetween := goodIn_r _ [12, 13, 28, 29, 30, 31, 32, 33, 34, 35] (by decide +kernel) (by decide +kernel)
set_option maxRecDepth 20000 in
theorem gX2_firstAway_X2_postBetween : GoodIn wsX2_firstAway (wsV RX2 109 RX2 yX2_postBetween wsX2_postBetween) := goodIn_app (goodIn_of _ (by decide +kernel)) ggX2_firstAway_X2_postBetween
set_option maxRecDepth 20000 in
theorem ggX2_lastAway_X2_postBetween : GoodIn wsX2_lastAway wsX2_postBetween := goodIn_r _ [6, 7, 40, 41, 42, 43, 44, 45, 46, 47] (by decide +kernel) (by decide +kernel)
set_option maxRecDepth 20000 in
theorem gX2_lastAway_X2_postBetween : GoodIn wsX2_lastAway (wsV RX2 109 RX2 yX2_postBetween wsX2_postBetween) := goodIn_app (goodIn_of _ (by decide +kernel)) ggX2_lastAway_X2_postBetween
set_option maxRecDepth 20000 in
theorem ggX2_lastAway_X7_at : GoodIn wsX2_lastAway wsX7_at := goodIn_r _ [12, 13, 48, 49] (by decide +kernel) (by decide +kernel)
set_option maxRecDepth 20000 in
theorem gX2_lastAway_X7_at : GoodIn wsX2_lastAway (wsV RX2 68 RX7 yX7_at wsX7_at) := goodIn_app (goodIn_of _ (by decide +kernel)) ggX2_lastAway_X7_at
set_option maxRecDepth 20000 in
theorem ggX2_shareDays_X2_postBetween : GoodIn wsX2_shareDays wsX2_postBetween := goodIn_r _ [10, 11, 44, 45, 46, 47, 48, 49, 50, 51] (by decide +kernel) (by decide +kernel)
set_option maxRecDepth 20000 in
theorem gX2_shareDays_X2_postBetween : GoodIn wsX2_shareDays (wsV RX2 109 RX2 yX2_postBetween wsX2_postBetween) := goodIn_app (goodIn_of _ (by decide +kernel)) ggX2_shareDays_X2_postBetween
set_option maxRecDepth 20000 in
theorem ggX2_shareDays_X7_at : GoodIn wsX2_shareDays wsX7_at := goodIn_r _ [16, 17, 52, 53] (by decide +kernel) (by decide +kernel)
set_option maxRecDepth 20000 in
theorem gX2_shareDays_X7_at : GoodIn wsX2_shareDays (wsV RX2 68 RX7 yX7_at wsX7_at) := goodIn_app (goodIn_of _ (by decide +kernel)) ggX2_shareDays_X7_at
set_option maxRecDepth 20000 in
theorem ggX2_holderInTheWay_X2_bookingAt : GoodIn wsX2_holderInTheWay wsX2_bookingAt := goodIn_r _ [6, 1, 7, 28, 29, 30, 31, 32, 33, 34, 35] (by decide +kernel) (by decide +kernel)
set_option maxRecDepth 20000 in
theorem gX2_holderInTheWay_X2_bookingAt : GoodIn wsX2_holderInTheWay (wsV RX2 113 RX2 yX2_bookingAt wsX2_bookingAt) := goodIn_app (goodIn_of _ (by decide +kernel)) ggX2_holderInTheWay_X2_bookingAt
set_option maxRecDepth 20000 in
theorem ggX2_holderInTheWay_X2_shareDays : GoodIn wsX2_holderInTheWay wsX2_shareDays := goodIn_r _ [11, 12, 13, 14, 15, 16, 17, 18, 19, 5, 20, 21, 22, 23, 24, 25, 26, 27, 50, 51, 52, 53, 54, 55, 56, 57, 58, 59, 60, 61, 36, 37, 38, 39, 40, 41, 42, 43, 44, 45, 46, 47, 48, 49, 28, 29, 30, 31, 32, 33, 34, 35, 62, 63] (by decide +kernel) (by decide +kernel)
set_option maxRecDepth 20000 in
theorem gX2_holderInTheWay_X2_shareDays : GoodIn wsX2_holderInTheWay (wsV RX2 121 RX2 yX2_shareDays wsX2_shareDays) := goodIn_app (goodIn_of _ (by decide +kernel)) ggX2_holderInTheWay_X2_shareDays
set_option maxRecDepth 20000 in
theorem ggX2_isFree_X4_canBeWornOn : GoodIn wsX2_isFree wsX4_canBeWornOn := goodIn_r _ [5, 6, 7, 8, 4, 9, 10, 11, 12, 13, 14, 15, 16, 17, 18, 19, 20, 21, 67, 68, 69, 70, 71, 72, 73, 74, 75, 76, 77, 78] (by decide +kernel) (by decide +kernel)
set_option maxRecDepth 20000 in
theorem gX2_isFree_X4_canBeWornOn : GoodIn wsX2_isFree (wsV RX2 125 RX4 yX4_canBeWornOn wsX4_canBeWornOn) := goodIn_app (goodIn_of _ (by decide +kernel)) ggX2_isFree_X4_canBeWornOn
set_option maxRecDepth 20000 in
theorem ggX2_isFree_X2_holderInTheWay : GoodIn wsX2_isFree wsX2_holderInTheWay := goodIn_r _ [26, 27, 28, 29, 30, 25, 31, 32, 33, 34, 35, 36, 37, 38, 39, 40, 41, 42, 43, 44, 45, 46, 47, 48, 49, 50, 51, 52, 79, 80, 81, 82, 83, 84, 85, 86, 53, 54, 55, 56, 57, 58, 59, 60, 61, 62, 63, 64, 65, 66, 67, 68, 69, 70, 71, 72, 73, 74, 75, 76, 77, 78, 87, 88] (by decide +kernel) (by decide +kernel)
set_option maxRecDepth 20000 in
theorem gX2_isFree_X2_holderInTheWay : GoodIn wsX2_isFree (wsV RX2 128 RX2 yX2_holderInTheWay wsX2_holderInTheWay) := goodIn_app (goodIn_of _ (by decide +kernel)) ggX2_isFree_X2_holderInTheWay
set_option maxRecDepth 20000 in
theorem ggX2_bestFor_X2_pieceAt : GoodIn wsX2_bestFor wsX2_pieceAt := goodIn_r _ [6, 1, 7, 96, 97, 98, 99, 100, 101, 102, 103] (by decide +kernel) (by decide +kernel)
set_option maxRecDepth 20000 in
theorem gX2_bestFor_X2_pieceAt : GoodIn wsX2_bestFor (wsV RX2 132 RX2 yX2_pieceAt wsX2_pieceAt) := goodIn_app (goodIn_of _ (by decide +kernel)) ggX2_bestFor_X2_pieceAt
set_option maxRecDepth 20000 in
theorem ggX2_bestFor_X2_surelyFits : GoodIn wsX2_bestFor wsX2_surelyFits := goodIn_r _ [11, 12, 13, 14, 5, 15, 16, 17, 18, 19, 20, 21, 22, 23, 24, 25, 26, 27, 28, 29, 30, 31, 32, 33, 34, 35, 36, 37, 38, 39, 40, 116, 117, 118, 119, 120, 121, 122, 123, 124, 125, 126, 127, 128, 129, 96, 97, 98, 99, 100, 101, 102, 103, 104, 105, 106, 107, 108, 109, 110, 111, 112, 113, 114, 115, 130, 131, 132, 133, 134, 135, 136] (by decide +kernel) (by decide +kernel)
set_option maxRecDepth 20000 in
theorem gX2_bestFor_X2_surelyFits : GoodIn wsX2_bestFor (wsV RX2 139 RX2 yX2_surelyFits wsX2_surelyFits) := goodIn_app (goodIn_of _ (by decide +kernel)) ggX2_bestFor_X2_surelyFits
set_option maxRecDepth 20000 in
theorem ggX2_bestFor_X2_isFree : GoodIn wsX2_bestFor wsX2_isFree := goodIn_r _ [44, 45, 46, 47, 21, 48, 49, 50, 51, 52, 53, 54, 55, 56, 57, 58, 59, 60, 61, 62, 63, 64, 65, 66, 67, 5, 68, 69, 70, 71, 72, 73, 74, 75, 76, 77, 78, 16, 79, 80, 81, 82, 83, 84, 85, 86, 87, 24, 25, 26, 27, 28, 29, 116, 117, 118, 119, 120, 121, 122, 123, 124, 125, 126, 127, 128, 129, 104, 105, 106, 107, 108, 109, 110, 111, 112, 113, 114, 115, 96, 97, 98, 99, 100, 101, 102, 103, 130, 131] (by decide +kernel) (by decide +kernel)
set_option maxRecDepth 20000 in
theorem gX2_bestFor_X2_isFree : GoodIn wsX2_bestFor (wsV RX2 143 RX2 yX2_isFree wsX2_isFree) := goodIn_app (goodIn_of _ (by decide +kernel)) ggX2_bestFor_X2_isFree
set_option maxRecDepth 20000 in
theorem ggX2_bestFor_X2_isBetter : GoodIn wsX2_bestFor wsX2_isBetter := goodIn_r _ [91, 92, 93, 94, 5, 95, 17, 79, 80, 81, 82, 30, 31, 32, 33, 34, 35, 83, 84, 85, 86, 87, 104, 105, 106, 107, 108, 109, 110, 111, 112, 113, 114, 115, 116, 117, 118, 119, 120, 121, 122, 123, 124, 125, 126, 127, 128, 129, 96, 97, 98, 99, 100, 101, 102, 103, 132, 133, 134, 135, 136] (by decide +kernel) (by decide +kernel)
set_option maxRecDepth 20000 in
theorem gX2_bestFor_X2_isBetter : GoodIn wsX2_bestFor (wsV RX2 146 RX2 yX2_isBetter wsX2_isBetter) := goodIn_app (goodIn_of _ (by decide +kernel)) ggX2_bestFor_X2_isBetter
set_option maxRecDepth 20000 in
theorem ggX2_isBetter_X2_offBy : GoodIn wsX2_isBetter wsX2_offBy := goodIn_r _ [5, 6, 7, 8, 9, 10, 11, 12, 13, 14, 15, 16, 22, 23, 24, 25, 26, 27, 28, 29, 30, 31, 32, 33, 48, 49, 50, 51, 52, 53, 54, 55, 34, 35, 36, 37, 38, 39, 40, 41, 42, 43, 44, 45, 46, 47, 56, 57, 58, 59, 60] (by decide +kernel) (by decide +kernel)
set_option maxRecDepth 20000 in
theorem gX2_isBetter_X2_offBy : GoodIn wsX2_isBetter (wsV RX2 150 RX2 yX2_offBy wsX2_offBy) := goodIn_app (goodIn_of _ (by decide +kernel)) ggX2_isBetter_X2_offBy
set_option maxRecDepth 20000 in
theorem ggX2_isBetter_X2_postBetween : GoodIn wsX2_isBetter wsX2_postBetween := goodIn_r _ [20, 21, 48, 49, 50, 51, 52, 53, 54, 55] (by decide +kernel) (by decide +kernel)
set_option maxRecDepth 20000 in
theorem gX2_isBetter_X2_postBetween : GoodIn wsX2_isBetter (wsV RX2 109 RX2 yX2_postBetween wsX2_postBetween) := goodIn_app (goodIn_of _ (by decide +kernel)) ggX2_isBetter_X2_postBetween
set_option maxRecDepth 20000 in
theorem ggX2_takeFromNights_X2_bookingAt : GoodIn wsX2_takeFromNights wsX2_bookingAt := goodIn_r _ [6, 1, 7, 14, 15, 16, 17, 18, 19, 20, 21] (by decide +kernel) (by decide +kernel)
set_option maxRecDepth 20000 in
theorem gX2_takeFromNights_X2_bookingAt : GoodIn wsX2_takeFromNights (wsV RX2 113 RX2 yX2_bookingAt wsX2_bookingAt) := goodIn_app (goodIn_of _ (by decide +kernel)) ggX2_takeFromNights_X2_bookingAt
set_option maxRecDepth 20000 in
theorem ggX2_takeFromNights_X0_wentOut : GoodIn wsX2_takeFromNights wsX0_wentOut := goodIn_r _ [12, 13, 22, 23, 24, 25, 26, 27, 28, 29, 30, 31, 32, 33, 34, 35] (by decide +kernel) (by decide +kernel)
set_option maxRecDepth 20000 in
theorem gX2_takeFromNights_X0_wentOut : GoodIn wsX2_takeFromNights (wsV RX2 153 RX0 yX0_wentOut wsX0_wentOut) := goodIn_app (goodIn_of _ (by decide +kernel)) ggX2_takeFromNights_X0_wentOut
set_option maxRecDepth 20000 in
theorem ggX2_isMember_X0_isCalledOff : GoodIn wsX2_isMember wsX0_isCalledOff := goodIn_r _ [5, 6, 7, 8, 9, 10, 11, 12, 13, 14, 15, 16, 17, 18, 19, 20] (by decide +kernel) (by decide +kernel)
set_option maxRecDepth 20000 in
theorem gX2_isMember_X0_isCalledOff : GoodIn wsX2_isMember (wsV RX2 160 RX0 yX0_isCalledOff wsX0_isCalledOff) := goodIn_app (goodIn_of _ (by decide +kernel)) ggX2_isMember_X0_isCalledOff
set_option maxRecDepth 20000 in
theorem ggX2_membersOf_X2_bookingAt : GoodIn wsX2_membersOf wsX2_bookingAt := goodIn_r _ [6, 1, 7, 18, 19, 20, 21, 22, 23, 24, 25] (by decide +kernel) (by decide +kernel)
set_option maxRecDepth 20000 in
theorem gX2_membersOf_X2_bookingAt : GoodIn wsX2_membersOf (wsV RX2 113 RX2 yX2_bookingAt wsX2_bookingAt) := goodIn_app (goodIn_of _ (by decide +kernel)) ggX2_membersOf_X2_bookingAt
set_option maxRecDepth 20000 in
theorem ggX2_membersOf_X2_isMember : GoodIn wsX2_membersOf wsX2_isMember := goodIn_r _ [11, 12, 13, 14, 15, 16, 17, 26, 27, 28, 29, 30, 31, 32, 33, 34, 35, 36, 37, 38, 39] (by decide +kernel) (by decide +kernel)
set_option maxRecDepth 20000 in
theorem gX2_membersOf_X2_isMember : GoodIn wsX2_membersOf (wsV RX2 163 RX2 yX2_isMember wsX2_isMember) := goodIn_app (goodIn_of _ (by decide +kernel)) ggX2_membersOf_X2_isMember
set_option maxRecDepth 20000 in
theorem ggX2_matchedIn_X2_bookingAt : GoodIn wsX2_matchedIn wsX2_bookingAt := goodIn_r _ [7, 1, 8, 115, 116, 117, 118, 119, 120, 121, 122] (by decide +kernel) (by decide +kernel)
set_option maxRecDepth 20000 in
theorem gX2_matchedIn_X2_bookingAt : GoodIn wsX2_matchedIn (wsV RX2 113 RX2 yX2_bookingAt wsX2_bookingAt) := goodIn_app (goodIn_of _ (by decide +kernel)) ggX2_matchedIn_X2_bookingAt
set_option maxRecDepth 20000 in
theorem ggX2_matchedIn_X2_isMember : GoodIn wsX2_matchedIn wsX2_isMember := goodIn_r _ [12, 13, 14, 15, 16, 17, 18, 123, 124, 125, 126, 127, 128, 129, 130, 131, 132, 133, 134, 135, 136] (by decide +kernel) (by decide +kernel)
set_option maxRecDepth 20000 in
theorem gX2_matchedIn_X2_isMember : GoodIn wsX2_matchedIn (wsV RX2 163 RX2 yX2_isMember wsX2_isMember) := goodIn_app (goodIn_of _ (by decide +kernel)) ggX2_matchedIn_X2_isMember
set_option maxRecDepth 20000 in
theorem ggX2_matchedIn_X2_bestFor : GoodIn wsX2_matchedIn wsX2_bestFor := goodIn_r _ [22, 23, 24, 25, 26, 6, 27, 28, 29, 30, 31, 32, 33, 34, 35, 36, 37, 38, 39, 40, 41, 42, 43, 44, 45, 46, 47, 48, 49, 50, 51, 52, 53, 54, 55, 56, 57, 58, 59, 60, 61, 62, 63, 64, 65, 66, 67, 68, 69, 70, 71, 72, 73, 74, 75, 76, 77, 78, 79, 80, 81, 82, 83, 84, 85, 86, 87, 88, 89, 1, 3, 4, 5, 7, 8, 90, 91, 92, 93, 94, 95, 96, 97, 98, 99, 100, 101, 102, 103, 104, 105, 106, 107, 108, 109, 110, 115, 116, 117, 118, 119, 120, 121, 122, 137, 138, 139, 140, 141, 142, 143, 144, 145, 146, 147, 148, 123, 124, 125, 126, 127, 128, 129, 130, 131, 132, 133, 134, 135, 136, 149, 150, 151, 152, 153, 154, 155] (by decide +kernel) (by decide +kernel)
set_option maxRecDepth 20000 in
theorem gX2_matchedIn_X2_bestFor : GoodIn wsX2_matchedIn (wsV RX2 167 RX2 yX2_bestFor wsX2_bestFor) := goodIn_app (goodIn_of _ (by decide +kernel)) ggX2_matchedIn_X2_bestFor
set_option maxRecDepth 20000 in
theorem ggX2_matchedIn_X2_takeTrialsBack : GoodIn wsX2_matchedIn wsX2_takeTrialsBack := goodIn_r _ [114, 1, 2, 3, 4, 5, 6, 7, 8, 115, 116, 117, 118, 119, 120, 121, 122, 123, 124, 125, 126, 127, 128, 129, 130, 131, 132, 133, 134, 135, 136] (by decide +kernel) (by decide +kernel)
set_option maxRecDepth 20000 in
theorem gX2_matchedIn_X2_takeTrialsBack : GoodIn wsX2_matchedIn (wsV RX2 171 RX2 yX2_takeTrialsBack wsX2_takeTrialsBack) := goodIn_app (goodIn_of _ (by decide +kernel)) ggX2_matchedIn_X2_takeTrialsBack
set_option maxRecDepth 20000 in
theorem ggX2_takeTrialsBack_X2_bookingAt : GoodIn wsX2_takeTrialsBack wsX2_bookingAt := goodIn_r _ [7, 1, 8, 9, 10, 11, 12, 13, 14, 15, 16] (by decide +kernel) (by decide +kernel)
set_option maxRecDepth 20000 in
theorem gX2_takeTrialsBack_X2_bookingAt : GoodIn wsX2_takeTrialsBack (wsV RX2 113 RX2 yX2_bookingAt wsX2_bookingAt) := goodIn_app (goodIn_of _ (by decide +kernel)) ggX2_takeTrialsBack_X2_bookingAt
set_option maxRecDepth 20000 in
theorem ggX2_depositOn_X7_at : GoodIn wsX2_depositOn wsX7_at := goodIn_r _ [6, 7, 28, 29] (by decide +kernel) (by decide +kernel)
set_option maxRecDepth 20000 in
theorem gX2_depositOn_X7_at : GoodIn wsX2_depositOn (wsV RX2 68 RX7 yX7_at wsX7_at) := goodIn_app (goodIn_of _ (by decide +kernel)) ggX2_depositOn_X7_at
set_option maxRecDepth 20000 in
theorem ggX2_daysLate_X2_lastAway : GoodIn wsX2_daysLate wsX2_lastAway := goodIn_r _ [10, 1, 11, 12, 13, 9, 14, 15, 16, 17, 18, 19, 20, 21, 22, 23, 24, 25, 26, 27, 28, 29, 30, 31, 32, 33, 34, 35, 44, 45, 46, 47, 48, 49, 50, 51, 52, 53, 54, 55, 36, 37, 38, 39, 40, 41, 42, 43, 56, 57] (by decide +kernel) (by decide +kernel)
set_option maxRecDepth 20000 in
theorem gX2_daysLate_X2_lastAway : GoodIn wsX2_daysLate (wsV RX2 177 RX2 yX2_lastAway wsX2_lastAway) := goodIn_app (goodIn_of _ (by decide +kernel)) ggX2_daysLate_X2_lastAway
set_option maxRecDepth 20000 in
theorem ggX2_daysLate_X7_at : GoodIn wsX2_daysLate wsX7_at := goodIn_r _ [20, 21, 56, 57] (by decide +kernel) (by decide +kernel)
set_option maxRecDepth 20000 in
theorem gX2_daysLate_X7_at : GoodIn wsX2_daysLate (wsV RX2 68 RX7 yX7_at wsX7_at) := goodIn_app (goodIn_of _ (by decide +kernel)) ggX2_daysLate_X7_at
set_option maxRecDepth 20000 in
theorem ggX2_harmOf_J6_bitCount_0f7a4 : GoodIn wsX2_harmOf wsJ6_bitCount_0f7a4 := goodIn_r _ [5, 6, 7, 8] (by decide +kernel) (by decide +kernel)
set_option maxRecDepth 20000 in
theorem gX2_harmOf_J6_bitCount_0f7a4 : GoodIn wsX2_harmOf (va_wsS RX2 192 yJ6_bitCount_0f7a4 wsJ6_bitCount_0f7a4) := goodIn_app (goodIn_of _ (by decide +kernel)) ggX2_harmOf_J6_bitCount_0f7a4
set_option maxRecDepth 20000 in
theorem ggX2_harmOf_X7_at : GoodIn wsX2_harmOf wsX7_at := goodIn_r _ [13, 14, 37, 38] (by decide +kernel) (by decide +kernel)
set_option maxRecDepth 20000 in
theorem gX2_harmOf_X7_at : GoodIn wsX2_harmOf (wsV RX2 68 RX7 yX7_at wsX7_at) := goodIn_app (goodIn_of _ (by decide +kernel)) ggX2_harmOf_X7_at
set_option maxRecDepth 20000 in
theorem ggX2_owedFor_X2_harmOf : GoodIn wsX2_owedFor wsX2_harmOf := goodIn_r _ [6, 1, 7, 8, 9, 10, 11, 12, 13, 14, 15, 16, 17, 18, 19, 45, 46, 47, 48, 49, 50, 51, 52, 53, 54, 55, 56, 57, 58, 37, 38, 39, 40, 41, 42, 43, 44, 59, 60] (by decide +kernel) (by decide +kernel)
set_option maxRecDepth 20000 in
theorem gX2_owedFor_X2_harmOf : GoodIn wsX2_owedFor (wsV RX2 197 RX2 yX2_harmOf wsX2_harmOf) := goodIn_app (goodIn_of _ (by decide +kernel)) ggX2_owedFor_X2_harmOf
set_option maxRecDepth 20000 in
theorem ggX2_owedFor_X7_at : GoodIn wsX2_owedFor wsX7_at := goodIn_r _ [18, 19, 59, 60] (by decide +kernel) (by decide +kernel)
set_option maxRecDepth 20000 in
theorem gX2_owedFor_X7_at : GoodIn wsX2_owedFor (wsV RX2 68 RX7 yX7_at wsX7_at) := goodIn_app (goodIn_of _ (by decide +kernel)) ggX2_owedFor_X7_at
set_option maxRecDepth 20000 in
theorem ggX2_owedFor_X2_daysLate : GoodIn wsX2_owedFor wsX2_daysLate := goodIn_r _ [23, 1, 24, 25, 26, 27, 28, 29, 30, 5, 31, 32, 33, 34, 35, 36, 14, 15, 16, 17, 18, 19, 45, 46, 47, 48, 49, 50, 51, 52, 53, 54, 55, 56, 57, 58, 37, 38, 39, 40, 41, 42, 43, 44, 61, 62, 63, 64, 65, 66, 67, 68, 69, 70, 71, 72, 59, 60] (by decide +kernel) (by decide +kernel)
set_option maxRecDepth 20000 in
theorem gX2_owedFor_X2_daysLate : GoodIn wsX2_owedFor (wsV RX2 201 RX2 yX2_daysLate wsX2_daysLate) := goodIn_app (goodIn_of _ (by decide +kernel)) ggX2_owedFor_X2_daysLate
set_option maxRecDepth 20000 in
theorem ggX2_knownOn_X2_bookingAt : GoodIn wsX2_knownOn wsX2_bookingAt := goodIn_r _ [6, 1, 7, 22, 23, 24, 25, 26, 27, 28, 29] (by decide +kernel) (by decide +kernel)
set_option maxRecDepth 20000 in
theorem gX2_knownOn_X2_bookingAt : GoodIn wsX2_knownOn (wsV RX2 113 RX2 yX2_bookingAt wsX2_bookingAt) := goodIn_app (goodIn_of _ (by decide +kernel)) ggX2_knownOn_X2_bookingAt
set_option maxRecDepth 20000 in
theorem ggX2_knownOn_X0_isKnownOn : GoodIn wsX2_knownOn wsX0_isKnownOn := goodIn_r _ [12, 13, 14, 15, 16, 17, 11, 18, 30, 31, 32, 33, 34, 35, 36, 37, 38, 39, 40, 41, 42, 43] (by decide +kernel) (by decide +kernel)
set_option maxRecDepth 20000 in
theorem gX2_knownOn_X0_isKnownOn : GoodIn wsX2_knownOn (wsV RX2 204 RX0 yX0_isKnownOn wsX0_isKnownOn) := goodIn_app (goodIn_of _ (by decide +kernel)) ggX2_knownOn_X0_isKnownOn
set_option maxRecDepth 20000 in
theorem ggX2_knownOn_X8_isIn : GoodIn wsX2_knownOn wsX8_isIn := goodIn_r _ [21] (by decide +kernel) (by decide +kernel)
set_option maxRecDepth 20000 in
theorem gX2_knownOn_X8_isIn_n207 : GoodIn wsX2_knownOn (wsX8_isIn) := ggX2_knownOn_X8_isIn
set_option maxRecDepth 20000 in
theorem ggX2_tallyPieces_X2_pieceAt : GoodIn wsX2_tallyPieces wsX2_pieceAt := goodIn_r _ [6, 1, 7, 25, 26, 27, 28, 29, 30, 31, 32] (by decide +kernel) (by decide +kernel)
set_option maxRecDepth 20000 in
theorem gX2_tallyPieces_X2_pieceAt : GoodIn wsX2_tallyPieces (wsV RX2 132 RX2 yX2_pieceAt wsX2_pieceAt) := goodIn_app (goodIn_of _ (by decide +kernel)) ggX2_tallyPieces_X2_pieceAt
set_option maxRecDepth 20000 in
theorem ggX2_tallyPieces_X4_tally : GoodIn wsX2_tallyPieces wsX4_tally := goodIn_r _ [12, 13, 14, 15, 16, 11, 17, 18, 19, 20, 21, 22, 23, 24, 33, 34, 35, 36, 37, 38, 39, 40, 41, 42, 43, 44] (by decide +kernel) (by decide +kernel)
set_option maxRecDepth 20000 in
theorem gX2_tallyPieces_X4_tally : GoodIn wsX2_tallyPieces (wsV RX2 211 RX4 yX4_tally wsX4_tally) := goodIn_app (goodIn_of _ (by decide +kernel)) ggX2_tallyPieces_X4_tally
set_option maxRecDepth 20000 in
theorem ggX2_tallyBookings_X2_bookingAt : GoodIn wsX2_tallyBookings wsX2_bookingAt := goodIn_r _ [6, 1, 7, 19, 20, 21, 22, 23, 24, 25, 26] (by decide +kernel) (by decide +kernel)
set_option maxRecDepth 20000 in
theorem gX2_tallyBookings_X2_bookingAt : GoodIn wsX2_tallyBookings (wsV RX2 113 RX2 yX2_bookingAt wsX2_bookingAt) := goodIn_app (goodIn_of _ (by decide +kernel)) ggX2_tallyBookings_X2_bookingAt
