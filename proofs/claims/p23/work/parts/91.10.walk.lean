section
/-! contracts: printed by wip/gen -/
theorem nds_J6_bitCount_0f7a4 : yJ6_bitCount_0f7a4.cls ≠ "java/lang/invoke/MethodHandle" ∧ yJ6_bitCount_0f7a4.cls ≠ "java/lang/invoke/VarHandle" ∧ (parseMethodDescriptor yJ6_bitCount_0f7a4.desc).map (fun d => d.parameters.length) = some 1 := by decide +kernel
theorem nd_X0_comeHome : yX0_comeHome.cls = RX0 ∧ yX0_comeHome.cls ≠ "java/lang/invoke/MethodHandle" ∧ yX0_comeHome.cls ≠ "java/lang/invoke/VarHandle" ∧ (parseMethodDescriptor yX0_comeHome.desc).map (fun d => d.parameters.length) = some 2 := by decide +kernel
theorem nd_X0_goOut : yX0_goOut.cls = RX0 ∧ yX0_goOut.cls ≠ "java/lang/invoke/MethodHandle" ∧ yX0_goOut.cls ≠ "java/lang/invoke/VarHandle" ∧ (parseMethodDescriptor yX0_goOut.desc).map (fun d => d.parameters.length) = some 2 := by decide +kernel
theorem nd_X0_isCalledOff : yX0_isCalledOff.cls = RX0 ∧ yX0_isCalledOff.cls ≠ "java/lang/invoke/MethodHandle" ∧ yX0_isCalledOff.cls ≠ "java/lang/invoke/VarHandle" ∧ (parseMethodDescriptor yX0_isCalledOff.desc).map (fun d => d.parameters.length) = some 0 := by decide +kernel
theorem nd_X0_isKnownOn : yX0_isKnownOn.cls = RX0 ∧ yX0_isKnownOn.cls ≠ "java/lang/invoke/MethodHandle" ∧ yX0_isKnownOn.cls ≠ "java/lang/invoke/VarHandle" ∧ (parseMethodDescriptor yX0_isKnownOn.desc).map (fun d => d.parameters.length) = some 1 := by decide +kernel
theorem nd_X0_pieceNumber : yX0_pieceNumber.cls = RX0 ∧ yX0_pieceNumber.cls ≠ "java/lang/invoke/MethodHandle" ∧ yX0_pieceNumber.cls ≠ "java/lang/invoke/VarHandle" ∧ (parseMethodDescriptor yX0_pieceNumber.desc).map (fun d => d.parameters.length) = some 0 := by decide +kernel
theorem nd_X0_tally : yX0_tally.cls = RX0 ∧ yX0_tally.cls ≠ "java/lang/invoke/MethodHandle" ∧ yX0_tally.cls ≠ "java/lang/invoke/VarHandle" ∧ (parseMethodDescriptor yX0_tally.desc).map (fun d => d.parameters.length) = some 1 := by decide +kernel
theorem nd_X0_waits : yX0_waits.cls = RX0 ∧ yX0_waits.cls ≠ "java/lang/invoke/MethodHandle" ∧ yX0_waits.cls ≠ "java/lang/invoke/VarHandle" ∧ (parseMethodDescriptor yX0_waits.desc).map (fun d => d.parameters.length) = some 0 := by decide +kernel
theorem nd_X0_wentOut : yX0_wentOut.cls = RX0 ∧ yX0_wentOut.cls ≠ "java/lang/invoke/MethodHandle" ∧ yX0_wentOut.cls ≠ "java/lang/invoke/VarHandle" ∧ (parseMethodDescriptor yX0_wentOut.desc).map (fun d => d.parameters.length) = some 0 := by decide +kernel
theorem nd_X1_bookingIn : yX1_bookingIn.cls = RX1 ∧ yX1_bookingIn.cls ≠ "java/lang/invoke/MethodHandle" ∧ yX1_bookingIn.cls ≠ "java/lang/invoke/VarHandle" ∧ (parseMethodDescriptor yX1_bookingIn.desc).map (fun d => d.parameters.length) = some 1 := by decide +kernel
theorem nd_X1_find : yX1_find.cls = RX1 ∧ yX1_find.cls ≠ "java/lang/invoke/MethodHandle" ∧ yX1_find.cls ≠ "java/lang/invoke/VarHandle" ∧ (parseMethodDescriptor yX1_find.desc).map (fun d => d.parameters.length) = some 1 := by decide +kernel
theorem nds_X1_follow : yX1_follow.cls ≠ "java/lang/invoke/MethodHandle" ∧ yX1_follow.cls ≠ "java/lang/invoke/VarHandle" ∧ (parseMethodDescriptor yX1_follow.desc).map (fun d => d.parameters.length) = some 3 := by decide +kernel
theorem nd_X1_isTakenAhead : yX1_isTakenAhead.cls = RX1 ∧ yX1_isTakenAhead.cls ≠ "java/lang/invoke/MethodHandle" ∧ yX1_isTakenAhead.cls ≠ "java/lang/invoke/VarHandle" ∧ (parseMethodDescriptor yX1_isTakenAhead.desc).map (fun d => d.parameters.length) = some 2 := by decide +kernel
theorem nd_X1_nearestOf : yX1_nearestOf.cls = RX1 ∧ yX1_nearestOf.cls ≠ "java/lang/invoke/MethodHandle" ∧ yX1_nearestOf.cls ≠ "java/lang/invoke/VarHandle" ∧ (parseMethodDescriptor yX1_nearestOf.desc).map (fun d => d.parameters.length) = some 1 := by decide +kernel
theorem nd_X1_perform : yX1_perform.cls = RX1 ∧ yX1_perform.cls ≠ "java/lang/invoke/MethodHandle" ∧ yX1_perform.cls ≠ "java/lang/invoke/VarHandle" ∧ (parseMethodDescriptor yX1_perform.desc).map (fun d => d.parameters.length) = some 0 := by decide +kernel
theorem nd_X1_pieceIn : yX1_pieceIn.cls = RX1 ∧ yX1_pieceIn.cls ≠ "java/lang/invoke/MethodHandle" ∧ yX1_pieceIn.cls ≠ "java/lang/invoke/VarHandle" ∧ (parseMethodDescriptor yX1_pieceIn.desc).map (fun d => d.parameters.length) = some 1 := by decide +kernel
theorem nd_X1_readSources : yX1_readSources.cls = RX1 ∧ yX1_readSources.cls ≠ "java/lang/invoke/MethodHandle" ∧ yX1_readSources.cls ≠ "java/lang/invoke/VarHandle" ∧ (parseMethodDescriptor yX1_readSources.desc).map (fun d => d.parameters.length) = some 2 := by decide +kernel
theorem nd_X1_sourceOf : yX1_sourceOf.cls = RX1 ∧ yX1_sourceOf.cls ≠ "java/lang/invoke/MethodHandle" ∧ yX1_sourceOf.cls ≠ "java/lang/invoke/VarHandle" ∧ (parseMethodDescriptor yX1_sourceOf.desc).map (fun d => d.parameters.length) = some 2 := by decide +kernel
theorem nd_X1_spreadNearest : yX1_spreadNearest.cls = RX1 ∧ yX1_spreadNearest.cls ≠ "java/lang/invoke/MethodHandle" ∧ yX1_spreadNearest.cls ≠ "java/lang/invoke/VarHandle" ∧ (parseMethodDescriptor yX1_spreadNearest.desc).map (fun d => d.parameters.length) = some 0 := by decide +kernel
theorem nd_X2_bestFor : yX2_bestFor.cls = RX2 ∧ yX2_bestFor.cls ≠ "java/lang/invoke/MethodHandle" ∧ yX2_bestFor.cls ≠ "java/lang/invoke/VarHandle" ∧ (parseMethodDescriptor yX2_bestFor.desc).map (fun d => d.parameters.length) = some 2 := by decide +kernel
theorem nd_X2_bookingAt : yX2_bookingAt.cls = RX2 ∧ yX2_bookingAt.cls ≠ "java/lang/invoke/MethodHandle" ∧ yX2_bookingAt.cls ≠ "java/lang/invoke/VarHandle" ∧ (parseMethodDescriptor yX2_bookingAt.desc).map (fun d => d.parameters.length) = some 1 := by decide +kernel
theorem nd_X2_daysLate : yX2_daysLate.cls = RX2 ∧ yX2_daysLate.cls ≠ "java/lang/invoke/MethodHandle" ∧ yX2_daysLate.cls ≠ "java/lang/invoke/VarHandle" ∧ (parseMethodDescriptor yX2_daysLate.desc).map (fun d => d.parameters.length) = some 1 := by decide +kernel
theorem nd_X2_depositOn : yX2_depositOn.cls = RX2 ∧ yX2_depositOn.cls ≠ "java/lang/invoke/MethodHandle" ∧ yX2_depositOn.cls ≠ "java/lang/invoke/VarHandle" ∧ (parseMethodDescriptor yX2_depositOn.desc).map (fun d => d.parameters.length) = some 1 := by decide +kernel
theorem nd_X2_firstAway : yX2_firstAway.cls = RX2 ∧ yX2_firstAway.cls ≠ "java/lang/invoke/MethodHandle" ∧ yX2_firstAway.cls ≠ "java/lang/invoke/VarHandle" ∧ (parseMethodDescriptor yX2_firstAway.desc).map (fun d => d.parameters.length) = some 2 := by decide +kernel
theorem nd_X2_fitOf : yX2_fitOf.cls = RX2 ∧ yX2_fitOf.cls ≠ "java/lang/invoke/MethodHandle" ∧ yX2_fitOf.cls ≠ "java/lang/invoke/VarHandle" ∧ (parseMethodDescriptor yX2_fitOf.desc).map (fun d => d.parameters.length) = some 3 := by decide +kernel
theorem nd_X2_harmOf : yX2_harmOf.cls = RX2 ∧ yX2_harmOf.cls ≠ "java/lang/invoke/MethodHandle" ∧ yX2_harmOf.cls ≠ "java/lang/invoke/VarHandle" ∧ (parseMethodDescriptor yX2_harmOf.desc).map (fun d => d.parameters.length) = some 1 := by decide +kernel
theorem nd_X2_hasRoomForBookings : yX2_hasRoomForBookings.cls = RX2 ∧ yX2_hasRoomForBookings.cls ≠ "java/lang/invoke/MethodHandle" ∧ yX2_hasRoomForBookings.cls ≠ "java/lang/invoke/VarHandle" ∧ (parseMethodDescriptor yX2_hasRoomForBookings.desc).map (fun d => d.parameters.length) = some 1 := by decide +kernel
theorem nd_X2_holderInTheWay : yX2_holderInTheWay.cls = RX2 ∧ yX2_holderInTheWay.cls ≠ "java/lang/invoke/MethodHandle" ∧ yX2_holderInTheWay.cls ≠ "java/lang/invoke/VarHandle" ∧ (parseMethodDescriptor yX2_holderInTheWay.desc).map (fun d => d.parameters.length) = some 2 := by decide +kernel
theorem nd_X2_isBetter : yX2_isBetter.cls = RX2 ∧ yX2_isBetter.cls ≠ "java/lang/invoke/MethodHandle" ∧ yX2_isBetter.cls ≠ "java/lang/invoke/VarHandle" ∧ (parseMethodDescriptor yX2_isBetter.desc).map (fun d => d.parameters.length) = some 3 := by decide +kernel
theorem nd_X2_isFree : yX2_isFree.cls = RX2 ∧ yX2_isFree.cls ≠ "java/lang/invoke/MethodHandle" ∧ yX2_isFree.cls ≠ "java/lang/invoke/VarHandle" ∧ (parseMethodDescriptor yX2_isFree.desc).map (fun d => d.parameters.length) = some 2 := by decide +kernel
theorem nd_X2_isMember : yX2_isMember.cls = RX2 ∧ yX2_isMember.cls ≠ "java/lang/invoke/MethodHandle" ∧ yX2_isMember.cls ≠ "java/lang/invoke/VarHandle" ∧ (parseMethodDescriptor yX2_isMember.desc).map (fun d => d.parameters.length) = some 2 := by decide +kernel
theorem nd_X2_knownOn : yX2_knownOn.cls = RX2 ∧ yX2_knownOn.cls ≠ "java/lang/invoke/MethodHandle" ∧ yX2_knownOn.cls ≠ "java/lang/invoke/VarHandle" ∧ (parseMethodDescriptor yX2_knownOn.desc).map (fun d => d.parameters.length) = some 3 := by decide +kernel
theorem nd_X2_lastAway : yX2_lastAway.cls = RX2 ∧ yX2_lastAway.cls ≠ "java/lang/invoke/MethodHandle" ∧ yX2_lastAway.cls ≠ "java/lang/invoke/VarHandle" ∧ (parseMethodDescriptor yX2_lastAway.desc).map (fun d => d.parameters.length) = some 2 := by decide +kernel
theorem nd_X2_matchedIn : yX2_matchedIn.cls = RX2 ∧ yX2_matchedIn.cls ≠ "java/lang/invoke/MethodHandle" ∧ yX2_matchedIn.cls ≠ "java/lang/invoke/VarHandle" ∧ (parseMethodDescriptor yX2_matchedIn.desc).map (fun d => d.parameters.length) = some 2 := by decide +kernel
theorem nd_X2_membersOf : yX2_membersOf.cls = RX2 ∧ yX2_membersOf.cls ≠ "java/lang/invoke/MethodHandle" ∧ yX2_membersOf.cls ≠ "java/lang/invoke/VarHandle" ∧ (parseMethodDescriptor yX2_membersOf.desc).map (fun d => d.parameters.length) = some 1 := by decide +kernel
theorem nd_X2_offBy : yX2_offBy.cls = RX2 ∧ yX2_offBy.cls ≠ "java/lang/invoke/MethodHandle" ∧ yX2_offBy.cls ≠ "java/lang/invoke/VarHandle" ∧ (parseMethodDescriptor yX2_offBy.desc).map (fun d => d.parameters.length) = some 2 := by decide +kernel
theorem nd_X2_owedFor : yX2_owedFor.cls = RX2 ∧ yX2_owedFor.cls ≠ "java/lang/invoke/MethodHandle" ∧ yX2_owedFor.cls ≠ "java/lang/invoke/VarHandle" ∧ (parseMethodDescriptor yX2_owedFor.desc).map (fun d => d.parameters.length) = some 1 := by decide +kernel
theorem nd_X2_pieceAt : yX2_pieceAt.cls = RX2 ∧ yX2_pieceAt.cls ≠ "java/lang/invoke/MethodHandle" ∧ yX2_pieceAt.cls ≠ "java/lang/invoke/VarHandle" ∧ (parseMethodDescriptor yX2_pieceAt.desc).map (fun d => d.parameters.length) = some 1 := by decide +kernel
theorem nd_X2_postBetween : yX2_postBetween.cls = RX2 ∧ yX2_postBetween.cls ≠ "java/lang/invoke/MethodHandle" ∧ yX2_postBetween.cls ≠ "java/lang/invoke/VarHandle" ∧ (parseMethodDescriptor yX2_postBetween.desc).map (fun d => d.parameters.length) = some 2 := by decide +kernel
theorem nd_X2_setPost : yX2_setPost.cls = RX2 ∧ yX2_setPost.cls ≠ "java/lang/invoke/MethodHandle" ∧ yX2_setPost.cls ≠ "java/lang/invoke/VarHandle" ∧ (parseMethodDescriptor yX2_setPost.desc).map (fun d => d.parameters.length) = some 3 := by decide +kernel
theorem nd_X2_shareDays : yX2_shareDays.cls = RX2 ∧ yX2_shareDays.cls ≠ "java/lang/invoke/MethodHandle" ∧ yX2_shareDays.cls ≠ "java/lang/invoke/VarHandle" ∧ (parseMethodDescriptor yX2_shareDays.desc).map (fun d => d.parameters.length) = some 3 := by decide +kernel
theorem nd_X2_surelyFits : yX2_surelyFits.cls = RX2 ∧ yX2_surelyFits.cls ≠ "java/lang/invoke/MethodHandle" ∧ yX2_surelyFits.cls ≠ "java/lang/invoke/VarHandle" ∧ (parseMethodDescriptor yX2_surelyFits.desc).map (fun d => d.parameters.length) = some 2 := by decide +kernel
theorem nd_X2_takeFromNights : yX2_takeFromNights.cls = RX2 ∧ yX2_takeFromNights.cls ≠ "java/lang/invoke/MethodHandle" ∧ yX2_takeFromNights.cls ≠ "java/lang/invoke/VarHandle" ∧ (parseMethodDescriptor yX2_takeFromNights.desc).map (fun d => d.parameters.length) = some 2 := by decide +kernel
theorem nd_X2_takeTrialsBack : yX2_takeTrialsBack.cls = RX2 ∧ yX2_takeTrialsBack.cls ≠ "java/lang/invoke/MethodHandle" ∧ yX2_takeTrialsBack.cls ≠ "java/lang/invoke/VarHandle" ∧ (parseMethodDescriptor yX2_takeTrialsBack.desc).map (fun d => d.parameters.length) = some 0 := by decide +kernel
theorem nd_X2_tallyBookings : yX2_tallyBookings.cls = RX2 ∧ yX2_tallyBookings.cls ≠ "java/lang/invoke/MethodHandle" ∧ yX2_tallyBookings.cls ≠ "java/lang/invoke/VarHandle" ∧ (parseMethodDescriptor yX2_tallyBookings.desc).map (fun d => d.parameters.length) = some 1 := by decide +kernel
theorem nd_X2_tallyPieces : yX2_tallyPieces.cls = RX2 ∧ yX2_tallyPieces.cls ≠ "java/lang/invoke/MethodHandle" ∧ yX2_tallyPieces.cls ≠ "java/lang/invoke/VarHandle" ∧ (parseMethodDescriptor yX2_tallyPieces.desc).map (fun d => d.parameters.length) = some 1 := by decide +kernel
theorem nd_X3_close : yX3_close.cls = RX3 ∧ yX3_close.cls ≠ "java/lang/invoke/MethodHandle" ∧ yX3_close.cls ≠ "java/lang/invoke/VarHandle" ∧ (parseMethodDescriptor yX3_close.desc).map (fun d => d.parameters.length) = some 0 := by decide +kernel
theorem nd_X3_high : yX3_high.cls = RX3 ∧ yX3_high.cls ≠ "java/lang/invoke/MethodHandle" ∧ yX3_high.cls ≠ "java/lang/invoke/VarHandle" ∧ (parseMethodDescriptor yX3_high.desc).map (fun d => d.parameters.length) = some 1 := by decide +kernel
theorem nd_X3_learn : yX3_learn.cls = RX3 ∧ yX3_learn.cls ≠ "java/lang/invoke/MethodHandle" ∧ yX3_learn.cls ≠ "java/lang/invoke/VarHandle" ∧ (parseMethodDescriptor yX3_learn.desc).map (fun d => d.parameters.length) = some 4 := by decide +kernel
theorem nd_X3_low : yX3_low.cls = RX3 ∧ yX3_low.cls ≠ "java/lang/invoke/MethodHandle" ∧ yX3_low.cls ≠ "java/lang/invoke/VarHandle" ∧ (parseMethodDescriptor yX3_low.desc).map (fun d => d.parameters.length) = some 1 := by decide +kernel
theorem nd_X3_readEnds : yX3_readEnds.cls = RX3 ∧ yX3_readEnds.cls ≠ "java/lang/invoke/MethodHandle" ∧ yX3_readEnds.cls ≠ "java/lang/invoke/VarHandle" ∧ (parseMethodDescriptor yX3_readEnds.desc).map (fun d => d.parameters.length) = some 0 := by decide +kernel
theorem nd_X3_spanOf : yX3_spanOf.cls = RX3 ∧ yX3_spanOf.cls ≠ "java/lang/invoke/MethodHandle" ∧ yX3_spanOf.cls ≠ "java/lang/invoke/VarHandle" ∧ (parseMethodDescriptor yX3_spanOf.desc).map (fun d => d.parameters.length) = some 2 := by decide +kernel
theorem nd_X3_tighten : yX3_tighten.cls = RX3 ∧ yX3_tighten.cls ≠ "java/lang/invoke/MethodHandle" ∧ yX3_tighten.cls ≠ "java/lang/invoke/VarHandle" ∧ (parseMethodDescriptor yX3_tighten.desc).map (fun d => d.parameters.length) = some 3 := by decide +kernel
theorem nd_X4_canBeWornOn : yX4_canBeWornOn.cls = RX4 ∧ yX4_canBeWornOn.cls ≠ "java/lang/invoke/MethodHandle" ∧ yX4_canBeWornOn.cls ≠ "java/lang/invoke/VarHandle" ∧ (parseMethodDescriptor yX4_canBeWornOn.desc).map (fun d => d.parameters.length) = some 1 := by decide +kernel
theorem nd_X4_detail : yX4_detail.cls = RX4 ∧ yX4_detail.cls ≠ "java/lang/invoke/MethodHandle" ∧ yX4_detail.cls ≠ "java/lang/invoke/VarHandle" ∧ (parseMethodDescriptor yX4_detail.desc).map (fun d => d.parameters.length) = some 1 := by decide +kernel
theorem nd_X4_isRetired : yX4_isRetired.cls = RX4 ∧ yX4_isRetired.cls ≠ "java/lang/invoke/MethodHandle" ∧ yX4_isRetired.cls ≠ "java/lang/invoke/VarHandle" ∧ (parseMethodDescriptor yX4_isRetired.desc).map (fun d => d.parameters.length) = some 0 := by decide +kernel
theorem nd_X4_isTorn : yX4_isTorn.cls = RX4 ∧ yX4_isTorn.cls ≠ "java/lang/invoke/MethodHandle" ∧ yX4_isTorn.cls ≠ "java/lang/invoke/VarHandle" ∧ (parseMethodDescriptor yX4_isTorn.desc).map (fun d => d.parameters.length) = some 0 := by decide +kernel
theorem nd_X4_isTornBy : yX4_isTornBy.cls = RX4 ∧ yX4_isTornBy.cls ≠ "java/lang/invoke/MethodHandle" ∧ yX4_isTornBy.cls ≠ "java/lang/invoke/VarHandle" ∧ (parseMethodDescriptor yX4_isTornBy.desc).map (fun d => d.parameters.length) = some 1 := by decide +kernel
theorem nd_X4_isWanted : yX4_isWanted.cls = RX4 ∧ yX4_isWanted.cls ≠ "java/lang/invoke/MethodHandle" ∧ yX4_isWanted.cls ≠ "java/lang/invoke/VarHandle" ∧ (parseMethodDescriptor yX4_isWanted.desc).map (fun d => d.parameters.length) = some 1 := by decide +kernel
theorem nd_X4_tally : yX4_tally.cls = RX4 ∧ yX4_tally.cls ≠ "java/lang/invoke/MethodHandle" ∧ yX4_tally.cls ≠ "java/lang/invoke/VarHandle" ∧ (parseMethodDescriptor yX4_tally.desc).map (fun d => d.parameters.length) = some 1 := by decide +kernel
theorem nd_X4_worth : yX4_worth.cls = RX4 ∧ yX4_worth.cls ≠ "java/lang/invoke/MethodHandle" ∧ yX4_worth.cls ≠ "java/lang/invoke/VarHandle" ∧ (parseMethodDescriptor yX4_worth.desc).map (fun d => d.parameters.length) = some 0 := by decide +kernel
theorem nd_X5_begin : yX5_begin.cls = RX5 ∧ yX5_begin.cls ≠ "java/lang/invoke/MethodHandle" ∧ yX5_begin.cls ≠ "java/lang/invoke/VarHandle" ∧ (parseMethodDescriptor yX5_begin.desc).map (fun d => d.parameters.length) = some 2 := by decide +kernel
theorem nd_X5_get : yX5_get.cls = RX5 ∧ yX5_get.cls ≠ "java/lang/invoke/MethodHandle" ∧ yX5_get.cls ≠ "java/lang/invoke/VarHandle" ∧ (parseMethodDescriptor yX5_get.desc).map (fun d => d.parameters.length) = some 1 := by decide +kernel
theorem nd_X5_hasItems : yX5_hasItems.cls = RX5 ∧ yX5_hasItems.cls ≠ "java/lang/invoke/MethodHandle" ∧ yX5_hasItems.cls ≠ "java/lang/invoke/VarHandle" ∧ (parseMethodDescriptor yX5_hasItems.desc).map (fun d => d.parameters.length) = some 2 := by decide +kernel
theorem nd_X5_put : yX5_put.cls = RX5 ∧ yX5_put.cls ≠ "java/lang/invoke/MethodHandle" ∧ yX5_put.cls ≠ "java/lang/invoke/VarHandle" ∧ (parseMethodDescriptor yX5_put.desc).map (fun d => d.parameters.length) = some 2 := by decide +kernel
theorem nd_X5_refusalAs : yX5_refusalAs.cls = RX5 ∧ yX5_refusalAs.cls ≠ "java/lang/invoke/MethodHandle" ∧ yX5_refusalAs.cls ≠ "java/lang/invoke/VarHandle" ∧ (parseMethodDescriptor yX5_refusalAs.desc).map (fun d => d.parameters.length) = some 1 := by decide +kernel
theorem nd_X6_append : yX6_append.cls = RX6 ∧ yX6_append.cls ≠ "java/lang/invoke/MethodHandle" ∧ yX6_append.cls ≠ "java/lang/invoke/VarHandle" ∧ (parseMethodDescriptor yX6_append.desc).map (fun d => d.parameters.length) = some 1 := by decide +kernel
theorem nd_X6_behindBlanks : yX6_behindBlanks.cls = RX6 ∧ yX6_behindBlanks.cls ≠ "java/lang/invoke/MethodHandle" ∧ yX6_behindBlanks.cls ≠ "java/lang/invoke/VarHandle" ∧ (parseMethodDescriptor yX6_behindBlanks.desc).map (fun d => d.parameters.length) = some 1 := by decide +kernel
theorem nd_X6_behindDigits : yX6_behindDigits.cls = RX6 ∧ yX6_behindDigits.cls ≠ "java/lang/invoke/MethodHandle" ∧ yX6_behindDigits.cls ≠ "java/lang/invoke/VarHandle" ∧ (parseMethodDescriptor yX6_behindDigits.desc).map (fun d => d.parameters.length) = some 1 := by decide +kernel
theorem nd_X6_clear : yX6_clear.cls = RX6 ∧ yX6_clear.cls ≠ "java/lang/invoke/MethodHandle" ∧ yX6_clear.cls ≠ "java/lang/invoke/VarHandle" ∧ (parseMethodDescriptor yX6_clear.desc).map (fun d => d.parameters.length) = some 0 := by decide +kernel
theorem nd_X6_hasRoomFor : yX6_hasRoomFor.cls = RX6 ∧ yX6_hasRoomFor.cls ≠ "java/lang/invoke/MethodHandle" ∧ yX6_hasRoomFor.cls ≠ "java/lang/invoke/VarHandle" ∧ (parseMethodDescriptor yX6_hasRoomFor.desc).map (fun d => d.parameters.length) = some 1 := by decide +kernel
theorem nd_X6_isDigitAt : yX6_isDigitAt.cls = RX6 ∧ yX6_isDigitAt.cls ≠ "java/lang/invoke/MethodHandle" ∧ yX6_isDigitAt.cls ≠ "java/lang/invoke/VarHandle" ∧ (parseMethodDescriptor yX6_isDigitAt.desc).map (fun d => d.parameters.length) = some 1 := by decide +kernel
theorem nd_X6_numberIn : yX6_numberIn.cls = RX6 ∧ yX6_numberIn.cls ≠ "java/lang/invoke/MethodHandle" ∧ yX6_numberIn.cls ≠ "java/lang/invoke/VarHandle" ∧ (parseMethodDescriptor yX6_numberIn.desc).map (fun d => d.parameters.length) = some 3 := by decide +kernel
theorem nd_X6_signAt : yX6_signAt.cls = RX6 ∧ yX6_signAt.cls ≠ "java/lang/invoke/MethodHandle" ∧ yX6_signAt.cls ≠ "java/lang/invoke/VarHandle" ∧ (parseMethodDescriptor yX6_signAt.desc).map (fun d => d.parameters.length) = some 1 := by decide +kernel
theorem nd_X7_at : yX7_at.cls = RX7 ∧ yX7_at.cls ≠ "java/lang/invoke/MethodHandle" ∧ yX7_at.cls ≠ "java/lang/invoke/VarHandle" ∧ (parseMethodDescriptor yX7_at.desc).map (fun d => d.parameters.length) = some 1 := by decide +kernel
theorem nds_X7_copy : yX7_copy.cls ≠ "java/lang/invoke/MethodHandle" ∧ yX7_copy.cls ≠ "java/lang/invoke/VarHandle" ∧ (parseMethodDescriptor yX7_copy.desc).map (fun d => d.parameters.length) = some 2 := by decide +kernel
theorem nds_X7_placeOf : yX7_placeOf.cls ≠ "java/lang/invoke/MethodHandle" ∧ yX7_placeOf.cls ≠ "java/lang/invoke/VarHandle" ∧ (parseMethodDescriptor yX7_placeOf.desc).map (fun d => d.parameters.length) = some 1 := by decide +kernel
theorem nd_X7_read : yX7_read.cls = RX7 ∧ yX7_read.cls ≠ "java/lang/invoke/MethodHandle" ∧ yX7_read.cls ≠ "java/lang/invoke/VarHandle" ∧ (parseMethodDescriptor yX7_read.desc).map (fun d => d.parameters.length) = some 1 := by decide +kernel
theorem nd_X7_readClause : yX7_readClause.cls = RX7 ∧ yX7_readClause.cls ≠ "java/lang/invoke/MethodHandle" ∧ yX7_readClause.cls ≠ "java/lang/invoke/VarHandle" ∧ (parseMethodDescriptor yX7_readClause.desc).map (fun d => d.parameters.length) = some 2 := by decide +kernel
theorem nds_X8_byteOf : yX8_byteOf.cls ≠ "java/lang/invoke/MethodHandle" ∧ yX8_byteOf.cls ≠ "java/lang/invoke/VarHandle" ∧ (parseMethodDescriptor yX8_byteOf.desc).map (fun d => d.parameters.length) = some 2 := by decide +kernel
theorem nd_X8_chain : yX8_chain.cls = RX8 ∧ yX8_chain.cls ≠ "java/lang/invoke/MethodHandle" ∧ yX8_chain.cls ≠ "java/lang/invoke/VarHandle" ∧ (parseMethodDescriptor yX8_chain.desc).map (fun d => d.parameters.length) = some 1 := by decide +kernel
theorem nds_X8_isBookingAsTold : yX8_isBookingAsTold.cls ≠ "java/lang/invoke/MethodHandle" ∧ yX8_isBookingAsTold.cls ≠ "java/lang/invoke/VarHandle" ∧ (parseMethodDescriptor yX8_isBookingAsTold.desc).map (fun d => d.parameters.length) = some 6 := by decide +kernel
theorem nds_X8_isBookingOnSheet : yX8_isBookingOnSheet.cls ≠ "java/lang/invoke/MethodHandle" ∧ yX8_isBookingOnSheet.cls ≠ "java/lang/invoke/VarHandle" ∧ (parseMethodDescriptor yX8_isBookingOnSheet.desc).map (fun d => d.parameters.length) = some 2 := by decide +kernel
theorem nds_X8_isDay : yX8_isDay.cls ≠ "java/lang/invoke/MethodHandle" ∧ yX8_isDay.cls ≠ "java/lang/invoke/VarHandle" ∧ (parseMethodDescriptor yX8_isDay.desc).map (fun d => d.parameters.length) = some 1 := by decide +kernel
theorem nds_X8_isIn : yX8_isIn.cls ≠ "java/lang/invoke/MethodHandle" ∧ yX8_isIn.cls ≠ "java/lang/invoke/VarHandle" ∧ (parseMethodDescriptor yX8_isIn.desc).map (fun d => d.parameters.length) = some 3 := by decide +kernel
theorem nds_X8_isLabel : yX8_isLabel.cls ≠ "java/lang/invoke/MethodHandle" ∧ yX8_isLabel.cls ≠ "java/lang/invoke/VarHandle" ∧ (parseMethodDescriptor yX8_isLabel.desc).map (fun d => d.parameters.length) = some 1 := by decide +kernel
theorem nds_X8_isLane : yX8_isLane.cls ≠ "java/lang/invoke/MethodHandle" ∧ yX8_isLane.cls ≠ "java/lang/invoke/VarHandle" ∧ (parseMethodDescriptor yX8_isLane.desc).map (fun d => d.parameters.length) = some 1 := by decide +kernel
theorem nds_X8_isMaker : yX8_isMaker.cls ≠ "java/lang/invoke/MethodHandle" ∧ yX8_isMaker.cls ≠ "java/lang/invoke/VarHandle" ∧ (parseMethodDescriptor yX8_isMaker.desc).map (fun d => d.parameters.length) = some 1 := by decide +kernel
theorem nds_X8_isSheet : yX8_isSheet.cls ≠ "java/lang/invoke/MethodHandle" ∧ yX8_isSheet.cls ≠ "java/lang/invoke/VarHandle" ∧ (parseMethodDescriptor yX8_isSheet.desc).map (fun d => d.parameters.length) = some 1 := by decide +kernel
theorem nds_X8_isTown : yX8_isTown.cls ≠ "java/lang/invoke/MethodHandle" ∧ yX8_isTown.cls ≠ "java/lang/invoke/VarHandle" ∧ (parseMethodDescriptor yX8_isTown.desc).map (fun d => d.parameters.length) = some 1 := by decide +kernel
theorem nd_X9_add : yX9_add.cls = RX9 ∧ yX9_add.cls ≠ "java/lang/invoke/MethodHandle" ∧ yX9_add.cls ≠ "java/lang/invoke/VarHandle" ∧ (parseMethodDescriptor yX9_add.desc).map (fun d => d.parameters.length) = some 7 := by decide +kernel
theorem nd_X9_addBooking : yX9_addBooking.cls = RX9 ∧ yX9_addBooking.cls ≠ "java/lang/invoke/MethodHandle" ∧ yX9_addBooking.cls ≠ "java/lang/invoke/VarHandle" ∧ (parseMethodDescriptor yX9_addBooking.desc).map (fun d => d.parameters.length) = some 6 := by decide +kernel
theorem nd_X9_against : yX9_against.cls = RX9 ∧ yX9_against.cls ≠ "java/lang/invoke/MethodHandle" ∧ yX9_against.cls ≠ "java/lang/invoke/VarHandle" ∧ (parseMethodDescriptor yX9_against.desc).map (fun d => d.parameters.length) = some 4 := by decide +kernel
theorem nd_X9_bind : yX9_bind.cls = RX9 ∧ yX9_bind.cls ≠ "java/lang/invoke/MethodHandle" ∧ yX9_bind.cls ≠ "java/lang/invoke/VarHandle" ∧ (parseMethodDescriptor yX9_bind.desc).map (fun d => d.parameters.length) = some 3 := by decide +kernel
theorem nd_X9_canTake : yX9_canTake.cls = RX9 ∧ yX9_canTake.cls ≠ "java/lang/invoke/MethodHandle" ∧ yX9_canTake.cls ≠ "java/lang/invoke/VarHandle" ∧ (parseMethodDescriptor yX9_canTake.desc).map (fun d => d.parameters.length) = some 3 := by decide +kernel
theorem nd_X9_clearLies : yX9_clearLies.cls = RX9 ∧ yX9_clearLies.cls ≠ "java/lang/invoke/MethodHandle" ∧ yX9_clearLies.cls ≠ "java/lang/invoke/VarHandle" ∧ (parseMethodDescriptor yX9_clearLies.desc).map (fun d => d.parameters.length) = some 0 := by decide +kernel
theorem nd_X9_findChain : yX9_findChain.cls = RX9 ∧ yX9_findChain.cls ≠ "java/lang/invoke/MethodHandle" ∧ yX9_findChain.cls ≠ "java/lang/invoke/VarHandle" ∧ (parseMethodDescriptor yX9_findChain.desc).map (fun d => d.parameters.length) = some 1 := by decide +kernel
theorem nd_X9_findChainOf : yX9_findChainOf.cls = RX9 ∧ yX9_findChainOf.cls ≠ "java/lang/invoke/MethodHandle" ∧ yX9_findChainOf.cls ≠ "java/lang/invoke/VarHandle" ∧ (parseMethodDescriptor yX9_findChainOf.desc).map (fun d => d.parameters.length) = some 2 := by decide +kernel
theorem nd_X9_findFar : yX9_findFar.cls = RX9 ∧ yX9_findFar.cls ≠ "java/lang/invoke/MethodHandle" ∧ yX9_findFar.cls ≠ "java/lang/invoke/VarHandle" ∧ (parseMethodDescriptor yX9_findFar.desc).map (fun d => d.parameters.length) = some 0 := by decide +kernel
theorem nd_X9_findLies : yX9_findLies.cls = RX9 ∧ yX9_findLies.cls ≠ "java/lang/invoke/MethodHandle" ∧ yX9_findLies.cls ≠ "java/lang/invoke/VarHandle" ∧ (parseMethodDescriptor yX9_findLies.desc).map (fun d => d.parameters.length) = some 0 := by decide +kernel
theorem nd_X9_firstAway : yX9_firstAway.cls = RX9 ∧ yX9_firstAway.cls ≠ "java/lang/invoke/MethodHandle" ∧ yX9_firstAway.cls ≠ "java/lang/invoke/VarHandle" ∧ (parseMethodDescriptor yX9_firstAway.desc).map (fun d => d.parameters.length) = some 2 := by decide +kernel
theorem nd_X9_fitOf : yX9_fitOf.cls = RX9 ∧ yX9_fitOf.cls ≠ "java/lang/invoke/MethodHandle" ∧ yX9_fitOf.cls ≠ "java/lang/invoke/VarHandle" ∧ (parseMethodDescriptor yX9_fitOf.desc).map (fun d => d.parameters.length) = some 3 := by decide +kernel
theorem nd_X9_fromWhom : yX9_fromWhom.cls = RX9 ∧ yX9_fromWhom.cls ≠ "java/lang/invoke/MethodHandle" ∧ yX9_fromWhom.cls ≠ "java/lang/invoke/VarHandle" ∧ (parseMethodDescriptor yX9_fromWhom.desc).map (fun d => d.parameters.length) = some 2 := by decide +kernel
theorem nd_X9_givenOf : yX9_givenOf.cls = RX9 ∧ yX9_givenOf.cls ≠ "java/lang/invoke/MethodHandle" ∧ yX9_givenOf.cls ≠ "java/lang/invoke/VarHandle" ∧ (parseMethodDescriptor yX9_givenOf.desc).map (fun d => d.parameters.length) = some 2 := by decide +kernel
theorem nd_X9_holderOf : yX9_holderOf.cls = RX9 ∧ yX9_holderOf.cls ≠ "java/lang/invoke/MethodHandle" ∧ yX9_holderOf.cls ≠ "java/lang/invoke/VarHandle" ∧ (parseMethodDescriptor yX9_holderOf.desc).map (fun d => d.parameters.length) = some 2 := by decide +kernel
theorem nds_X9_in : yX9_in.cls ≠ "java/lang/invoke/MethodHandle" ∧ yX9_in.cls ≠ "java/lang/invoke/VarHandle" ∧ (parseMethodDescriptor yX9_in.desc).map (fun d => d.parameters.length) = some 3 := by decide +kernel
theorem nds_X9_isBooking : yX9_isBooking.cls ≠ "java/lang/invoke/MethodHandle" ∧ yX9_isBooking.cls ≠ "java/lang/invoke/VarHandle" ∧ (parseMethodDescriptor yX9_isBooking.desc).map (fun d => d.parameters.length) = some 6 := by decide +kernel
theorem nd_X9_isFree : yX9_isFree.cls = RX9 ∧ yX9_isFree.cls ≠ "java/lang/invoke/MethodHandle" ∧ yX9_isFree.cls ≠ "java/lang/invoke/VarHandle" ∧ (parseMethodDescriptor yX9_isFree.desc).map (fun d => d.parameters.length) = some 2 := by decide +kernel
theorem nd_X9_isInChain : yX9_isInChain.cls = RX9 ∧ yX9_isInChain.cls ≠ "java/lang/invoke/MethodHandle" ∧ yX9_isInChain.cls ≠ "java/lang/invoke/VarHandle" ∧ (parseMethodDescriptor yX9_isInChain.desc).map (fun d => d.parameters.length) = some 2 := by decide +kernel
theorem nds_X9_isLabel : yX9_isLabel.cls ≠ "java/lang/invoke/MethodHandle" ∧ yX9_isLabel.cls ≠ "java/lang/invoke/VarHandle" ∧ (parseMethodDescriptor yX9_isLabel.desc).map (fun d => d.parameters.length) = some 1 := by decide +kernel
theorem nds_X9_isMaker : yX9_isMaker.cls ≠ "java/lang/invoke/MethodHandle" ∧ yX9_isMaker.cls ≠ "java/lang/invoke/VarHandle" ∧ (parseMethodDescriptor yX9_isMaker.desc).map (fun d => d.parameters.length) = some 1 := by decide +kernel
theorem nd_X9_isOpen : yX9_isOpen.cls = RX9 ∧ yX9_isOpen.cls ≠ "java/lang/invoke/MethodHandle" ∧ yX9_isOpen.cls ≠ "java/lang/invoke/VarHandle" ∧ (parseMethodDescriptor yX9_isOpen.desc).map (fun d => d.parameters.length) = some 1 := by decide +kernel
theorem nd_X9_isPiece : yX9_isPiece.cls = RX9 ∧ yX9_isPiece.cls ≠ "java/lang/invoke/MethodHandle" ∧ yX9_isPiece.cls ≠ "java/lang/invoke/VarHandle" ∧ (parseMethodDescriptor yX9_isPiece.desc).map (fun d => d.parameters.length) = some 1 := by decide +kernel
theorem nd_X9_isRetired : yX9_isRetired.cls = RX9 ∧ yX9_isRetired.cls ≠ "java/lang/invoke/MethodHandle" ∧ yX9_isRetired.cls ≠ "java/lang/invoke/VarHandle" ∧ (parseMethodDescriptor yX9_isRetired.desc).map (fun d => d.parameters.length) = some 1 := by decide +kernel
theorem nds_X9_isSheet : yX9_isSheet.cls ≠ "java/lang/invoke/MethodHandle" ∧ yX9_isSheet.cls ≠ "java/lang/invoke/VarHandle" ∧ (parseMethodDescriptor yX9_isSheet.desc).map (fun d => d.parameters.length) = some 2 := by decide +kernel
theorem nd_X9_isTakenBy : yX9_isTakenBy.cls = RX9 ∧ yX9_isTakenBy.cls ≠ "java/lang/invoke/MethodHandle" ∧ yX9_isTakenBy.cls ≠ "java/lang/invoke/VarHandle" ∧ (parseMethodDescriptor yX9_isTakenBy.desc).map (fun d => d.parameters.length) = some 2 := by decide +kernel
theorem nd_X9_isThere : yX9_isThere.cls = RX9 ∧ yX9_isThere.cls ≠ "java/lang/invoke/MethodHandle" ∧ yX9_isThere.cls ≠ "java/lang/invoke/VarHandle" ∧ (parseMethodDescriptor yX9_isThere.desc).map (fun d => d.parameters.length) = some 1 := by decide +kernel
theorem nds_X9_isTown : yX9_isTown.cls ≠ "java/lang/invoke/MethodHandle" ∧ yX9_isTown.cls ≠ "java/lang/invoke/VarHandle" ∧ (parseMethodDescriptor yX9_isTown.desc).map (fun d => d.parameters.length) = some 1 := by decide +kernel
theorem nd_X9_isWell : yX9_isWell.cls = RX9 ∧ yX9_isWell.cls ≠ "java/lang/invoke/MethodHandle" ∧ yX9_isWell.cls ≠ "java/lang/invoke/VarHandle" ∧ (parseMethodDescriptor yX9_isWell.desc).map (fun d => d.parameters.length) = some 2 := by decide +kernel
theorem nd_X9_lastAway : yX9_lastAway.cls = RX9 ∧ yX9_lastAway.cls ≠ "java/lang/invoke/MethodHandle" ∧ yX9_lastAway.cls ≠ "java/lang/invoke/VarHandle" ∧ (parseMethodDescriptor yX9_lastAway.desc).map (fun d => d.parameters.length) = some 2 := by decide +kernel
theorem nd_X9_matchOf : yX9_matchOf.cls = RX9 ∧ yX9_matchOf.cls ≠ "java/lang/invoke/MethodHandle" ∧ yX9_matchOf.cls ≠ "java/lang/invoke/VarHandle" ∧ (parseMethodDescriptor yX9_matchOf.desc).map (fun d => d.parameters.length) = some 2 := by decide +kernel
theorem nd_X9_meet : yX9_meet.cls = RX9 ∧ yX9_meet.cls ≠ "java/lang/invoke/MethodHandle" ∧ yX9_meet.cls ≠ "java/lang/invoke/VarHandle" ∧ (parseMethodDescriptor yX9_meet.desc).map (fun d => d.parameters.length) = some 3 := by decide +kernel
theorem nd_X9_next : yX9_next.cls = RX9 ∧ yX9_next.cls ≠ "java/lang/invoke/MethodHandle" ∧ yX9_next.cls ≠ "java/lang/invoke/VarHandle" ∧ (parseMethodDescriptor yX9_next.desc).map (fun d => d.parameters.length) = some 0 := by decide +kernel
theorem nd_X9_number : yX9_number.cls = RX9 ∧ yX9_number.cls ≠ "java/lang/invoke/MethodHandle" ∧ yX9_number.cls ≠ "java/lang/invoke/VarHandle" ∧ (parseMethodDescriptor yX9_number.desc).map (fun d => d.parameters.length) = some 1 := by decide +kernel
theorem nds_X9_ones : yX9_ones.cls ≠ "java/lang/invoke/MethodHandle" ∧ yX9_ones.cls ≠ "java/lang/invoke/VarHandle" ∧ (parseMethodDescriptor yX9_ones.desc).map (fun d => d.parameters.length) = some 1 := by decide +kernel
theorem nd_X9_postOf : yX9_postOf.cls = RX9 ∧ yX9_postOf.cls ≠ "java/lang/invoke/MethodHandle" ∧ yX9_postOf.cls ≠ "java/lang/invoke/VarHandle" ∧ (parseMethodDescriptor yX9_postOf.desc).map (fun d => d.parameters.length) = some 2 := by decide +kernel
theorem nd_X9_readAll : yX9_readAll.cls = RX9 ∧ yX9_readAll.cls ≠ "java/lang/invoke/MethodHandle" ∧ yX9_readAll.cls ≠ "java/lang/invoke/VarHandle" ∧ (parseMethodDescriptor yX9_readAll.desc).map (fun d => d.parameters.length) = some 0 := by decide +kernel
theorem nds_X9_size : yX9_size.cls ≠ "java/lang/invoke/MethodHandle" ∧ yX9_size.cls ≠ "java/lang/invoke/VarHandle" ∧ (parseMethodDescriptor yX9_size.desc).map (fun d => d.parameters.length) = some 1 := by decide +kernel
theorem nd_X9_termOf : yX9_termOf.cls = RX9 ∧ yX9_termOf.cls ≠ "java/lang/invoke/MethodHandle" ∧ yX9_termOf.cls ≠ "java/lang/invoke/VarHandle" ∧ (parseMethodDescriptor yX9_termOf.desc).map (fun d => d.parameters.length) = some 1 := by decide +kernel
theorem nd_X9_worthOf : yX9_worthOf.cls = RX9 ∧ yX9_worthOf.cls ≠ "java/lang/invoke/MethodHandle" ∧ yX9_worthOf.cls ≠ "java/lang/invoke/VarHandle" ∧ (parseMethodDescriptor yX9_worthOf.desc).map (fun d => d.parameters.length) = some 1 := by decide +kernel
theorem n_RX0_47 : (RX0, 47, "GownLet$Piece", "number", "I") ∈ gw_nf := by decide +kernel
theorem n_RX1_34 : (RX1, 34, "GownLet$House", "terms", "LGownLet$Terms;") ∈ gw_nf := by decide +kernel
theorem n_RX1_50 : (RX1, 50, "GownLet$House", "bookingCount", "I") ∈ gw_nf := by decide +kernel
theorem n_RX1_64 : (RX1, 64, "GownLet$Booking", "number", "I") ∈ gw_nf := by decide +kernel
theorem n_RX1_83 : (RX1, 83, "GownLet$Booking", "piece", "LGownLet$Piece;") ∈ gw_nf := by decide +kernel
theorem n_RX1_87 : (RX1, 87, "GownLet$House", "pieceCount", "I") ∈ gw_nf := by decide +kernel
theorem n_RX1_90 : (RX1, 90, "GownLet$Booking", "night", "I") ∈ gw_nf := by decide +kernel
theorem n_RX2_102 : (RX2, 102, "GownLet$Booking", "night", "I") ∈ gw_nf := by decide +kernel
theorem n_RX2_105 : (RX2, 105, "GownLet$Piece", "town", "I") ∈ gw_nf := by decide +kernel
theorem n_RX2_108 : (RX2, 108, "GownLet$Booking", "town", "I") ∈ gw_nf := by decide +kernel
theorem n_RX2_117 : (RX2, 117, "GownLet$Booking", "piece", "LGownLet$Piece;") ∈ gw_nf := by decide +kernel
theorem n_RX2_136 : (RX2, 136, "GownLet$Piece", "lot", "I") ∈ gw_nf := by decide +kernel
theorem n_RX2_157 : (RX2, 157, "GownLet$Booking", "party", "I") ∈ gw_nf := by decide +kernel
theorem n_RX2_174 : (RX2, 174, "GownLet$Piece", "price", "I") ∈ gw_nf := by decide +kernel
theorem n_RX2_180 : (RX2, 180, "GownLet$Booking", "homeOn", "I") ∈ gw_nf := by decide +kernel
theorem n_RX2_186 : (RX2, 186, "GownLet$Booking", "lookHome", "I") ∈ gw_nf := by decide +kernel
theorem n_RX2_189 : (RX2, 189, "GownLet$Booking", "lookOut", "I") ∈ gw_nf := by decide +kernel
theorem n_RX2_52 : (RX2, 52, "GownLet$Piece", "number", "I") ∈ gw_nf := by decide +kernel
theorem n_RX2_72 : (RX2, 72, "GownLet$Piece", "label", "I") ∈ gw_nf := by decide +kernel
theorem n_RX2_75 : (RX2, 75, "GownLet$Piece", "maker", "I") ∈ gw_nf := by decide +kernel
theorem n_RX2_81 : (RX2, 81, "GownLet$Piece", "hem", "I") ∈ gw_nf := by decide +kernel
theorem n_RX2_87 : (RX2, 87, "GownLet$Booking", "size", "I") ∈ gw_nf := by decide +kernel
theorem n_RX2_90 : (RX2, 90, "GownLet$Booking", "wants", "I") ∈ gw_nf := by decide +kernel
theorem n_RX7_28 : (RX7, 28, "GownLet$Tape", "length", "I") ∈ gw_nf := by decide +kernel
theorem n_RX8_100 : (RX8, 100, "GownLet$Piece", "kind", "I") ∈ gw_nf := by decide +kernel
theorem n_RX8_103 : (RX8, 103, "GownLet$Piece", "hem", "I") ∈ gw_nf := by decide +kernel
theorem n_RX8_115 : (RX8, 115, "GownLet$House", "lies", "LGownLet$Lies;") ∈ gw_nf := by decide +kernel
theorem n_RX8_119 : (RX8, 119, "GownLet$Lies", "doubles", "I") ∈ gw_nf := by decide +kernel
theorem n_RX8_134 : (RX8, 134, "GownLet$Lies", "areAtOdds", "Z") ∈ gw_nf := by decide +kernel
theorem n_RX8_153 : (RX8, 153, "GownLet$House", "bookingCount", "I") ∈ gw_nf := by decide +kernel
theorem n_RX8_163 : (RX8, 163, "GownLet$Booking", "made", "I") ∈ gw_nf := by decide +kernel
theorem n_RX8_175 : (RX8, 175, "GownLet$Booking", "calledOffOn", "I") ∈ gw_nf := by decide +kernel
theorem n_RX8_178 : (RX8, 178, "GownLet$Booking", "piece", "LGownLet$Piece;") ∈ gw_nf := by decide +kernel
theorem n_RX8_207 : (RX8, 207, "GownLet$Piece", "tornFrom", "I") ∈ gw_nf := by decide +kernel
theorem n_RX8_250 : (RX8, 250, "GownLet$Booking", "deposit", "I") ∈ gw_nf := by decide +kernel
theorem n_RX8_255 : (RX8, 255, "GownLet$Booking", "stage", "I") ∈ gw_nf := by decide +kernel
theorem n_RX8_261 : (RX8, 261, "GownLet$Piece", "worn", "I") ∈ gw_nf := by decide +kernel
theorem n_RX8_276 : (RX8, 276, "GownLet$Piece", "isToldRetired", "Z") ∈ gw_nf := by decide +kernel
theorem n_RX8_282 : (RX8, 282, "GownLet$House", "pieceCount", "I") ∈ gw_nf := by decide +kernel
theorem n_RX8_300 : (RX8, 300, "GownLet$Sheet", "isThere", "Z") ∈ gw_nf := by decide +kernel
theorem n_RX8_303 : (RX8, 303, "GownLet$Sheet", "length", "I") ∈ gw_nf := by decide +kernel
theorem n_RX8_55 : (RX8, 55, "GownLet$Tape", "length", "I") ∈ gw_nf := by decide +kernel
theorem n_RX8_59 : (RX8, 59, "GownLet$House", "terms", "LGownLet$Terms;") ∈ gw_nf := by decide +kernel
theorem n_RX2_X8_isIn : (RX2, 207, yX8_isIn) ∈ gw_nm := by decide +kernel
theorem n_RX2_X8_isTown : (RX2, 62, yX8_isTown) ∈ gw_nm := by decide +kernel
section
variable {l : Launch} {D : va_G} {t1 t2 : Nat} {cc : Nat → ClassId} {a b d : Nat → Nat}
theorem m_X0_isCalledOff_9 : Cond.fieldLink RX0 9 "GownLet$Booking" "calledOffOn" "I" ∈ wsX0_isCalledOff := by decide +kernel
theorem ly_X0_isCalledOff_0 : ∀ w ∈ wsX00, w ∈ wsX0_isCalledOff := fun w h => List.mem_cons_of_mem _ (List.mem_append_right _ h)
set_option maxRecDepth 100000 in
set_option maxHeartbeats 4000000 in
theorem k_X0_isCalledOff (x0 : Int32) (S : gw_S) {zr : Int32} (h : f_X0_isCalledOff x0 S = some zr) : gw_M l yX0_isCalledOff wsX0_isCalledOff rm_X0_isCalledOff 0 0 D (gw_ty cc) t1 t2 [.ref (d x0.toNatClampNeg)] (gw_cw cc a b d S) (fun w => w = gw_cw cc a b d S) (some (.int zr)) := by
  refine gw_enter (cc := cX0_isCalledOff) (maxL := 1) (ret := (some .boolean)) (own := RX0) rfl (by decide) rfl (Nat.le_of_ble_eq_true rfl) ?_
  intro p e s m below meth c A B hin hI ls hl
  have hl : lv_has ls 1 [(0, .ref (d x0.toNatClampNeg))] := hl
  generalize ([.ref (d x0.toNatClampNeg)] : List Value).toArray = args at B ⊢
  have hx := B.1.1
  have hb := B.1.2.1
  have hown : s.vm.findClass RX0 = some m.cls := B.1.2.2.2.1
  have hts := B.1.2.2.2.2
  unfold f_X0_isCalledOff at h
  refine lv_aload_n hx hb dX0_isCalledOff_0 rfl (lv_at hl 0 rfl) ?_
  obtain ⟨g1, h⟩ := gw_gdE h
  refine gw_get (T := TX0) (k := 7) (v := .int (S (2 * x0.toNatClampNeg + 31) 7)) B hI (gc_gb g1) rfl ly_X0_isCalledOff_0 (by decide) m_X0_isCalledOff_9 rfl rfl dX0_isCalledOff_1 ?_
  refine lv_bipush (v := -4) hx hb dX0_isCalledOff_4 (by decide) ?_
  refine lv_icmp_eq (tgt := 13) hx hb dX0_isCalledOff_6 (by decide) (fun c2 => ?_) (fun c2 => ?_)
  · replace h := gw_ifT c2 h
    refine lv_iconst (v := 0) hx hb dX0_isCalledOff_13 (by decide) ?_
    rw [← Option.some.inj h]
    exact gw_zret (W' := (fun w => w = gw_cw cc a b d S)) B hI rfl (Or.inl rfl) (Nat.zero_le _) (Nat.zero_le _) dX0_isCalledOff_14
  · replace h := gw_ifF c2 h
    refine lv_iconst (v := 1) hx hb dX0_isCalledOff_9 (by decide) ?_
    refine lv_goto (tgt := 14) hx hb dX0_isCalledOff_10 (by decide) ?_
    rw [← Option.some.inj h]
    exact gw_zret (W' := (fun w => w = gw_cw cc a b d S)) B hI rfl (Or.inr rfl) (Nat.zero_le _) (Nat.zero_le _) dX0_isCalledOff_14
theorem m_X0_wentOut_15 : Cond.fieldLink RX0 15 "GownLet$Booking" "stage" "I" ∈ wsX0_wentOut := by decide +kernel
theorem ly_X0_wentOut_0 : ∀ w ∈ wsX00, w ∈ wsX0_wentOut := fun w h => List.mem_cons_of_mem _ (List.mem_append_right _ h)
set_option maxRecDepth 100000 in
set_option maxHeartbeats 4000000 in
theorem k_X0_wentOut (x0 : Int32) (S : gw_S) {zr : Int32} (h : f_X0_wentOut x0 S = some zr) : gw_M l yX0_wentOut wsX0_wentOut rm_X0_wentOut 0 0 D (gw_ty cc) t1 t2 [.ref (d x0.toNatClampNeg)] (gw_cw cc a b d S) (fun w => w = gw_cw cc a b d S) (some (.int zr)) := by
  refine gw_enter (cc := cX0_wentOut) (maxL := 1) (ret := (some .boolean)) (own := RX0) rfl (by decide) rfl (Nat.le_of_ble_eq_true rfl) ?_
  intro p e s m below meth c A B hin hI ls hl
  have hl : lv_has ls 1 [(0, .ref (d x0.toNatClampNeg))] := hl
  generalize ([.ref (d x0.toNatClampNeg)] : List Value).toArray = args at B ⊢
  have hx := B.1.1
  have hb := B.1.2.1
  have hown : s.vm.findClass RX0 = some m.cls := B.1.2.2.2.1
  have hts := B.1.2.2.2.2
  unfold f_X0_wentOut at h
  refine lv_aload_n hx hb dX0_wentOut_0 rfl (lv_at hl 0 rfl) ?_
  obtain ⟨g1, h⟩ := gw_gdE h
  refine gw_get (T := TX0) (k := 9) (v := .int (S (2 * x0.toNatClampNeg + 31) 9)) B hI (gc_gb g1) rfl ly_X0_wentOut_0 (by decide) m_X0_wentOut_15 rfl rfl dX0_wentOut_1 ?_
  refine lv_if_eq (tgt := 11) hx hb dX0_wentOut_4 (by decide) (fun c2 => ?_) (fun c2 => ?_)
  · replace h := gw_ifT c2 h
    refine lv_iconst (v := 0) hx hb dX0_wentOut_11 (by decide) ?_
    rw [← Option.some.inj h]
    exact gw_zret (W' := (fun w => w = gw_cw cc a b d S)) B hI rfl (Or.inl rfl) (Nat.zero_le _) (Nat.zero_le _) dX0_wentOut_12
  · replace h := gw_ifF c2 h
    refine lv_iconst (v := 1) hx hb dX0_wentOut_7 (by decide) ?_
    refine lv_goto (tgt := 12) hx hb dX0_wentOut_8 (by decide) ?_
    rw [← Option.some.inj h]
    exact gw_zret (W' := (fun w => w = gw_cw cc a b d S)) B hI rfl (Or.inr rfl) (Nat.zero_le _) (Nat.zero_le _) dX0_wentOut_12
theorem m_X0_waits_39 : Cond.fieldLink RX0 39 "GownLet$Booking" "piece" "LGownLet$Piece;" ∈ wsX0_waits := by decide +kernel
theorem ly_X0_waits_0 : ∀ w ∈ wsX00, w ∈ wsX0_waits := fun w h => List.mem_cons_of_mem _ (List.mem_append_right _ h)
set_option maxRecDepth 100000 in
set_option maxHeartbeats 4000000 in
theorem k_X0_waits (x0 : Int32) (S : gw_S) {zr : Int32} (h : f_X0_waits x0 S = some zr) : gw_M l yX0_waits wsX0_waits rm_X0_waits 0 0 D (gw_ty cc) t1 t2 [.ref (d x0.toNatClampNeg)] (gw_cw cc a b d S) (fun w => w = gw_cw cc a b d S) (some (.int zr)) := by
  refine gw_enter (cc := cX0_waits) (maxL := 1) (ret := (some .boolean)) (own := RX0) rfl (by decide) rfl (Nat.le_of_ble_eq_true rfl) ?_
  intro p e s m below meth c A B hin hI ls hl
  have hl : lv_has ls 1 [(0, .ref (d x0.toNatClampNeg))] := hl
  generalize ([.ref (d x0.toNatClampNeg)] : List Value).toArray = args at B ⊢
  have hx := B.1.1
  have hb := B.1.2.1
  have hown : s.vm.findClass RX0 = some m.cls := B.1.2.2.2.1
  have hts := B.1.2.2.2.2
  unfold f_X0_waits at h
  refine lv_aload_n hx hb dX0_waits_0 rfl (lv_at hl 0 rfl) ?_
  obtain ⟨g1, h⟩ := gw_gdE h
  refine gw_get (T := TX0) (k := 8) (v := va_rf (gw_rf b (S (2 * x0.toNatClampNeg + 31) 8))) B hI (gc_gb g1) rfl ly_X0_waits_0 (by decide) m_X0_waits_39 rfl rfl dX0_waits_1 ?_
  refine gw_ifnonnull (tgt := 18) B dX0_waits_4 (by decide) (fun c2 => ?_) (fun c2 => ?_)
  · replace h := gw_ifF c2 h
    refine lv_iconst (v := 0) hx hb dX0_waits_18 (by decide) ?_
    rw [← Option.some.inj h]
    exact gw_zret (W' := (fun w => w = gw_cw cc a b d S)) B hI rfl (Or.inl rfl) (Nat.zero_le _) (Nat.zero_le _) dX0_waits_19
  · replace h := gw_ifT c2 h
    refine lv_aload_n hx hb dX0_waits_7 rfl (lv_at hl 0 rfl) ?_
    obtain ⟨r3, e4, h⟩ := gw_bdE h
    refine gw_callV (As := []) (n := 0) B hI (k_X0_isCalledOff x0 S e4) gX0_waits_X0_isCalledOff rfl rfl rfl nd_X0_isCalledOff ⟨Nat.le_of_ble_eq_true rfl, Nat.le_of_ble_eq_true rfl⟩ (gc_gb g1) rfl rfl rfl hl.1 (Nat.zero_le _) dX0_waits_8 ⟨Nat.le_of_ble_eq_true rfl, Nat.le_of_ble_eq_true rfl⟩ rfl (fun w' H locs hw hI => ?_)
    subst hw
    refine lv_if_ne (tgt := 18) hx hb dX0_waits_11 (by decide) (fun c5 => ?_) (fun c5 => ?_)
    · replace h := gw_ifF c5 h
      refine lv_iconst (v := 0) hx hb dX0_waits_18 (by decide) ?_
      rw [← Option.some.inj h]
      exact gw_zret (W' := (fun w => w = gw_cw cc a b d S)) B hI rfl (Or.inl rfl) (Nat.zero_le _) (Nat.zero_le _) dX0_waits_19
    · replace h := gw_ifT c5 h
      refine lv_iconst (v := 1) hx hb dX0_waits_14 (by decide) ?_
      refine lv_goto (tgt := 19) hx hb dX0_waits_15 (by decide) ?_
      rw [← Option.some.inj h]
      exact gw_zret (W' := (fun w => w = gw_cw cc a b d S)) B hI rfl (Or.inr rfl) (Nat.zero_le _) (Nat.zero_le _) dX0_waits_19
theorem m_X0_pieceNumber_39 : Cond.fieldLink RX0 39 "GownLet$Booking" "piece" "LGownLet$Piece;" ∈ wsX0_pieceNumber := by decide +kernel
theorem ly_X0_pieceNumber_0 : ∀ w ∈ wsX00, w ∈ wsX0_pieceNumber := fun w h => List.mem_cons_of_mem _ (List.mem_append_left _ (List.mem_append_right _ h))
theorem ly_X0_pieceNumber_4 : ∀ w ∈ wsX40, w ∈ wsX0_pieceNumber := fun w h => List.mem_cons_of_mem _ (List.mem_append_right _ h)
set_option maxRecDepth 100000 in
set_option maxHeartbeats 4000000 in
theorem k_X0_pieceNumber (x0 : Int32) (S : gw_S) {zr : Int32} (h : f_X0_pieceNumber x0 S = some zr) : gw_M l yX0_pieceNumber wsX0_pieceNumber rm_X0_pieceNumber 0 0 D (gw_ty cc) t1 t2 [.ref (d x0.toNatClampNeg)] (gw_cw cc a b d S) (fun w => w = gw_cw cc a b d S) (some (.int zr)) := by
  refine gw_enter (cc := cX0_pieceNumber) (maxL := 1) (ret := (some .int)) (own := RX0) rfl (by decide) rfl (Nat.le_of_ble_eq_true rfl) ?_
  intro p e s m below meth c A B hin hI ls hl
  have hl : lv_has ls 1 [(0, .ref (d x0.toNatClampNeg))] := hl
  generalize ([.ref (d x0.toNatClampNeg)] : List Value).toArray = args at B ⊢
  have hx := B.1.1
  have hb := B.1.2.1
  have hown : s.vm.findClass RX0 = some m.cls := B.1.2.2.2.1
  have hts := B.1.2.2.2.2
  unfold f_X0_pieceNumber at h
  refine lv_aload_n hx hb dX0_pieceNumber_0 rfl (lv_at hl 0 rfl) ?_
  obtain ⟨g1, h⟩ := gw_gdE h
  refine gw_get (T := TX0) (k := 8) (v := va_rf (gw_rf b (S (2 * x0.toNatClampNeg + 31) 8))) B hI (gc_gb g1) rfl ly_X0_pieceNumber_0 (by decide) m_X0_pieceNumber_39 rfl rfl dX0_pieceNumber_1 ?_
  refine gw_ifnonnull (tgt := 12) B dX0_pieceNumber_4 (by decide) (fun c2 => ?_) (fun c2 => ?_)
  · replace h := gw_ifF c2 h
    refine lv_aload_n hx hb dX0_pieceNumber_12 rfl (lv_at hl 0 rfl) ?_
    refine gw_get (T := TX0) (k := 8) (v := va_rf (gw_rf b (S (2 * x0.toNatClampNeg + 31) 8))) B hI (gc_gb g1) rfl ly_X0_pieceNumber_0 (by decide) m_X0_pieceNumber_39 rfl rfl dX0_pieceNumber_13 ?_
    rw [gw_rfP c2]
    obtain ⟨g3, h⟩ := gw_gdE h
    refine gw_getN (T := TX4) (k := 7) (v := .int (S (2 * (S (2 * x0.toNatClampNeg + 31) 8).toNatClampNeg + 30) 7)) B hI (gc_gp g3) rfl ly_X0_pieceNumber_4 (by decide) n_RX0_47 rfl rfl dX0_pieceNumber_16 ?_
    rw [← Option.some.inj h]
    exact gw_iret (W' := (fun w => w = gw_cw cc a b d S)) B hI rfl (Nat.zero_le _) (Nat.zero_le _) dX0_pieceNumber_19
  · replace h := gw_ifT c2 h
    refine lv_bipush (v := -4) hx hb dX0_pieceNumber_7 (by decide) ?_
    refine lv_goto (tgt := 19) hx hb dX0_pieceNumber_9 (by decide) ?_
    rw [← Option.some.inj h]
    exact gw_iret (W' := (fun w => w = gw_cw cc a b d S)) B hI rfl (Nat.zero_le _) (Nat.zero_le _) dX0_pieceNumber_19
theorem m_X0_isKnownOn_33 : Cond.fieldLink RX0 33 "GownLet$Booking" "made" "I" ∈ wsX0_isKnownOn := by decide +kernel
theorem m_X0_isKnownOn_9 : Cond.fieldLink RX0 9 "GownLet$Booking" "calledOffOn" "I" ∈ wsX0_isKnownOn := by decide +kernel
theorem ly_X0_isKnownOn_0 : ∀ w ∈ wsX00, w ∈ wsX0_isKnownOn := fun w h => List.mem_cons_of_mem _ (List.mem_append_right _ h)
set_option maxRecDepth 100000 in
set_option maxHeartbeats 4000000 in
theorem k_X0_isKnownOn (x0 : Int32) (x1 : Int32) (S : gw_S) {zr : Int32} (h : f_X0_isKnownOn x0 x1 S = some zr) : gw_M l yX0_isKnownOn wsX0_isKnownOn rm_X0_isKnownOn 0 0 D (gw_ty cc) t1 t2 [.ref (d x0.toNatClampNeg), .int x1] (gw_cw cc a b d S) (fun w => w = gw_cw cc a b d S) (some (.int zr)) := by
  refine gw_enter (cc := cX0_isKnownOn) (maxL := 2) (ret := (some .boolean)) (own := RX0) rfl (by decide) rfl (Nat.le_of_ble_eq_true rfl) ?_
  intro p e s m below meth c A B hin hI ls hl
  have hl : lv_has ls 2 [(0, .ref (d x0.toNatClampNeg)), (1, .int x1)] := hl
  generalize ([.ref (d x0.toNatClampNeg), .int x1] : List Value).toArray = args at B ⊢
  have hx := B.1.1
  have hb := B.1.2.1
  have hown : s.vm.findClass RX0 = some m.cls := B.1.2.2.2.1
  have hts := B.1.2.2.2.2
  unfold f_X0_isKnownOn at h
  refine lv_aload_n hx hb dX0_isKnownOn_0 rfl (lv_at hl 0 rfl) ?_
  obtain ⟨g1, h⟩ := gw_gdE h
  refine gw_get (T := TX0) (k := 5) (v := .int (S (2 * x0.toNatClampNeg + 31) 5)) B hI (gc_gb g1) rfl ly_X0_isKnownOn_0 (by decide) m_X0_isKnownOn_33 rfl rfl dX0_isKnownOn_1 ?_
  refine lv_iload_n hx hb dX0_isKnownOn_4 rfl (lv_at hl 1 rfl) ?_
  refine lv_icmp_gt (tgt := 27) hx hb dX0_isKnownOn_5 (by decide) (fun c2 => ?_) (fun c2 => ?_)
  · replace h := gw_ifT c2 h
    refine lv_iconst (v := 0) hx hb dX0_isKnownOn_27 (by decide) ?_
    rw [← Option.some.inj h]
    exact gw_zret (W' := (fun w => w = gw_cw cc a b d S)) B hI rfl (Or.inl rfl) (Nat.zero_le _) (Nat.zero_le _) dX0_isKnownOn_28
  · replace h := gw_ifF c2 h
    refine lv_aload_n hx hb dX0_isKnownOn_8 rfl (lv_at hl 0 rfl) ?_
    obtain ⟨r3, e4, h⟩ := gw_bdE h
    refine gw_callV (As := []) (n := 0) B hI (k_X0_isCalledOff x0 S e4) gX0_isKnownOn_X0_isCalledOff rfl rfl rfl nd_X0_isCalledOff ⟨Nat.le_of_ble_eq_true rfl, Nat.le_of_ble_eq_true rfl⟩ (gc_gb g1) rfl rfl rfl hl.1 (Nat.zero_le _) dX0_isKnownOn_9 ⟨Nat.le_of_ble_eq_true rfl, Nat.le_of_ble_eq_true rfl⟩ rfl (fun w' H locs hw hI => ?_)
    subst hw
    refine lv_if_eq (tgt := 23) hx hb dX0_isKnownOn_12 (by decide) (fun c5 => ?_) (fun c5 => ?_)
    · replace h := gw_ifT c5 h
      refine lv_iconst (v := 1) hx hb dX0_isKnownOn_23 (by decide) ?_
      refine lv_goto (tgt := 28) hx hb dX0_isKnownOn_24 (by decide) ?_
      rw [← Option.some.inj h]
      exact gw_zret (W' := (fun w => w = gw_cw cc a b d S)) B hI rfl (Or.inr rfl) (Nat.zero_le _) (Nat.zero_le _) dX0_isKnownOn_28
    · replace h := gw_ifF c5 h
      refine lv_aload_n hx hb dX0_isKnownOn_15 rfl (lv_at hl 0 rfl) ?_
      refine gw_get (T := TX0) (k := 7) (v := .int (S (2 * x0.toNatClampNeg + 31) 7)) B hI (gc_gb g1) rfl ly_X0_isKnownOn_0 (by decide) m_X0_isKnownOn_9 rfl rfl dX0_isKnownOn_16 ?_
      refine lv_iload_n hx hb dX0_isKnownOn_19 rfl (lv_at hl 1 rfl) ?_
      refine lv_icmp_le (tgt := 27) hx hb dX0_isKnownOn_20 (by decide) (fun c6 => ?_) (fun c6 => ?_)
      · replace h := gw_ifT c6 h
        refine lv_iconst (v := 0) hx hb dX0_isKnownOn_27 (by decide) ?_
        rw [← Option.some.inj h]
        exact gw_zret (W' := (fun w => w = gw_cw cc a b d S)) B hI rfl (Or.inl rfl) (Nat.zero_le _) (Nat.zero_le _) dX0_isKnownOn_28
      · replace h := gw_ifF c6 h
        refine lv_iconst (v := 1) hx hb dX0_isKnownOn_23 (by decide) ?_
        refine lv_goto (tgt := 28) hx hb dX0_isKnownOn_24 (by decide) ?_
        rw [← Option.some.inj h]
        exact gw_zret (W' := (fun w => w = gw_cw cc a b d S)) B hI rfl (Or.inr rfl) (Nat.zero_le _) (Nat.zero_le _) dX0_isKnownOn_28
theorem m_X0_tally_39 : Cond.fieldLink RX0 39 "GownLet$Booking" "piece" "LGownLet$Piece;" ∈ wsX0_tally := by decide +kernel
theorem ly_X0_tally_0 : ∀ w ∈ wsX00, w ∈ wsX0_tally := fun w h => List.mem_cons_of_mem _ (List.mem_append_right _ h)
set_option maxRecDepth 100000 in
set_option maxHeartbeats 4000000 in
theorem k_X0_tally (x0 : Int32) (x1 : Int32) (S : gw_S) {zr : Int32} (h : f_X0_tally x0 x1 S = some zr) : gw_M l yX0_tally wsX0_tally rm_X0_tally 0 0 D (gw_ty cc) t1 t2 [.ref (d x0.toNatClampNeg), .int x1] (gw_cw cc a b d S) (fun w => w = gw_cw cc a b d S) (some (.int zr)) := by
  refine gw_enter (cc := cX0_tally) (maxL := 2) (ret := (some .int)) (own := RX0) rfl (by decide) rfl (Nat.le_of_ble_eq_true rfl) ?_
  intro p e s m below meth c A B hin hI ls hl
  have hl : lv_has ls 2 [(0, .ref (d x0.toNatClampNeg)), (1, .int x1)] := hl
  generalize ([.ref (d x0.toNatClampNeg), .int x1] : List Value).toArray = args at B ⊢
  have hx := B.1.1
  have hb := B.1.2.1
  have hown : s.vm.findClass RX0 = some m.cls := B.1.2.2.2.1
  have hts := B.1.2.2.2.2
  unfold f_X0_tally at h
  refine lv_iload_n hx hb dX0_tally_0 rfl (lv_at hl 1 rfl) ?_
  by_cases c1 : x1 = 5
  · replace h := gw_ifT c1 h
    refine gw_lookIn (k := 5) (off := 27) (tgt := 28) B c1 dX0_tally_1 (by decide) (by decide) (by decide) ?_
    refine lv_aload_n hx hb dX0_tally_28 rfl (lv_at hl 0 rfl) ?_
    obtain ⟨g2, h⟩ := gw_gdE h
    obtain ⟨r3, e4, h⟩ := gw_bdE h
    refine gw_callV (As := []) (n := 0) B hI (k_X0_isCalledOff x0 S e4) gX0_tally_X0_isCalledOff rfl rfl rfl nd_X0_isCalledOff ⟨Nat.le_of_ble_eq_true rfl, Nat.le_of_ble_eq_true rfl⟩ (gc_gb g2) rfl rfl rfl hl.1 (Nat.zero_le _) dX0_tally_29 ⟨Nat.le_of_ble_eq_true rfl, Nat.le_of_ble_eq_true rfl⟩ rfl (fun w' H locs hw hI => ?_)
    subst hw
    refine lv_if_eq (tgt := 39) hx hb dX0_tally_32 (by decide) (fun c5 => ?_) (fun c5 => ?_)
    · replace h := gw_ifT c5 h
      refine lv_iconst (v := 0) hx hb dX0_tally_39 (by decide) ?_
      rw [← Option.some.inj h]
      exact gw_iret (W' := (fun w => w = gw_cw cc a b d S)) B hI rfl (Nat.zero_le _) (Nat.zero_le _) dX0_tally_40
    · replace h := gw_ifF c5 h
      refine lv_iconst (v := 1) hx hb dX0_tally_35 (by decide) ?_
      refine lv_goto (tgt := 40) hx hb dX0_tally_36 (by decide) ?_
      rw [← Option.some.inj h]
      exact gw_iret (W' := (fun w => w = gw_cw cc a b d S)) B hI rfl (Nat.zero_le _) (Nat.zero_le _) dX0_tally_40
  · replace h := gw_ifF c1 h
    by_cases c6 : x1 = 6
    · replace h := gw_ifT c6 h
      refine gw_lookIn (k := 6) (off := 40) (tgt := 41) B c6 dX0_tally_1 (by decide) (by decide) (by decide) ?_
      refine lv_aload_n hx hb dX0_tally_41 rfl (lv_at hl 0 rfl) ?_
      obtain ⟨g7, h⟩ := gw_gdE h
      refine gw_get (T := TX0) (k := 8) (v := va_rf (gw_rf b (S (2 * x0.toNatClampNeg + 31) 8))) B hI (gc_gb g7) rfl ly_X0_tally_0 (by decide) m_X0_tally_39 rfl rfl dX0_tally_42 ?_
      refine gw_ifnull (tgt := 52) B dX0_tally_45 (by decide) (fun c8 => ?_) (fun c8 => ?_)
      · replace h := gw_ifT c8 h
        refine lv_iconst (v := 0) hx hb dX0_tally_52 (by decide) ?_
        rw [← Option.some.inj h]
        exact gw_iret (W' := (fun w => w = gw_cw cc a b d S)) B hI rfl (Nat.zero_le _) (Nat.zero_le _) dX0_tally_53
      · replace h := gw_ifF c8 h
        refine lv_iconst (v := 1) hx hb dX0_tally_48 (by decide) ?_
        refine lv_goto (tgt := 53) hx hb dX0_tally_49 (by decide) ?_
        rw [← Option.some.inj h]
        exact gw_iret (W' := (fun w => w = gw_cw cc a b d S)) B hI rfl (Nat.zero_le _) (Nat.zero_le _) dX0_tally_53
    · replace h := gw_ifF c6 h
      refine lv_lookup (off := 53) (tgt := 54) hx hb dX0_tally_1 (by decide) ((lv_osw c1 (by decide)).trans ((lv_osw c6 (by decide)).trans (rfl))) (by decide) ?_
      refine lv_iconst (v := 0) hx hb dX0_tally_54 (by decide) ?_
      rw [← Option.some.inj h]
      exact gw_iret (W' := (fun w => w = gw_cw cc a b d S)) B hI rfl (Nat.zero_le _) (Nat.zero_le _) dX0_tally_55
theorem m_X0_goOut_15 : Cond.fieldLink RX0 15 "GownLet$Booking" "stage" "I" ∈ wsX0_goOut := by decide +kernel
theorem m_X0_goOut_50 : Cond.fieldLink RX0 50 "GownLet$Booking" "lookOut" "I" ∈ wsX0_goOut := by decide +kernel
theorem m_X0_goOut_53 : Cond.fieldLink RX0 53 "GownLet$Booking" "deposit" "I" ∈ wsX0_goOut := by decide +kernel
theorem ly_X0_goOut_0 : ∀ w ∈ wsX00, w ∈ wsX0_goOut := fun w h => List.mem_cons_of_mem _ (List.mem_append_right _ h)
set_option maxRecDepth 100000 in
set_option maxHeartbeats 4000000 in
theorem k_X0_goOut (x0 : Int32) (x1 : Int32) (x2 : Int32) (S : gw_S)  {zS : gw_S} (h : f_X0_goOut x0 x1 x2 S = some zS) : gw_M l yX0_goOut wsX0_goOut rm_X0_goOut 0 0 D (gw_ty cc) t1 t2 [.ref (d x0.toNatClampNeg), .int x1, .int x2] (gw_cw cc a b d S) (fun w => w = gw_cw cc a b d zS) none := by
  refine gw_enter (cc := cX0_goOut) (maxL := 3) (ret := none) (own := RX0) rfl (by decide) rfl (Nat.le_of_ble_eq_true rfl) ?_
  intro p e s m below meth c A B hin hI ls hl
  have hl : lv_has ls 3 [(0, .ref (d x0.toNatClampNeg)), (1, .int x1), (2, .int x2)] := hl
  generalize ([.ref (d x0.toNatClampNeg), .int x1, .int x2] : List Value).toArray = args at B ⊢
  have hx := B.1.1
  have hb := B.1.2.1
  have hown : s.vm.findClass RX0 = some m.cls := B.1.2.2.2.1
  have hts := B.1.2.2.2.2
  unfold f_X0_goOut at h
  refine lv_aload_n hx hb dX0_goOut_0 rfl (lv_at hl 0 rfl) ?_
  refine lv_iconst (v := 1) hx hb dX0_goOut_1 (by decide) ?_
  obtain ⟨g1, h⟩ := gw_gdE h
  obtain ⟨S2, e3, h⟩ := gw_letE h
  refine gw_put (T := TX0) (k := 9) (w' := gw_cw cc a b d S2) B hI (gc_gb g1) rfl ly_X0_goOut_0 tyX0 tyX0_ok nmX0 (by decide) m_X0_goOut_15 rfl rfl rfl rfl (Nat.le_of_ble_eq_true rfl) (gc_sb_9 g1 e3) dX0_goOut_2 (fun H locs hI => ?_)
  refine lv_aload_n hx hb dX0_goOut_5 rfl (lv_at hl 0 rfl) ?_
  refine lv_iload_n hx hb dX0_goOut_6 rfl (lv_at hl 1 rfl) ?_
  obtain ⟨g4, h⟩ := gw_gdE h
  obtain ⟨S5, e6, h⟩ := gw_letE h
  refine gw_put (T := TX0) (k := 11) (w' := gw_cw cc a b d S5) B hI (gc_gb g4) rfl ly_X0_goOut_0 tyX0 tyX0_ok nmX0 (by decide) m_X0_goOut_50 rfl rfl rfl rfl (Nat.le_of_ble_eq_true rfl) (gc_sb_11 g4 e6) dX0_goOut_7 (fun H locs hI => ?_)
  refine lv_aload_n hx hb dX0_goOut_10 rfl (lv_at hl 0 rfl) ?_
  refine lv_iload_n hx hb dX0_goOut_11 rfl (lv_at hl 2 rfl) ?_
  obtain ⟨g7, h⟩ := gw_gdE h
  obtain ⟨S8, e9, h⟩ := gw_letE h
  refine gw_put (T := TX0) (k := 10) (w' := gw_cw cc a b d S8) B hI (gc_gb g7) rfl ly_X0_goOut_0 tyX0 tyX0_ok nmX0 (by decide) m_X0_goOut_53 rfl rfl rfl rfl (Nat.le_of_ble_eq_true rfl) (gc_sb_10 g7 e9) dX0_goOut_12 (fun H locs hI => ?_)
  rw [Option.some.inj h] at hI
  exact gw_vret (W' := (fun w => w = gw_cw cc a b d zS)) B hI rfl (Nat.zero_le _) (Nat.zero_le _) dX0_goOut_15
theorem m_X0_comeHome_15 : Cond.fieldLink RX0 15 "GownLet$Booking" "stage" "I" ∈ wsX0_comeHome := by decide +kernel
theorem m_X0_comeHome_56 : Cond.fieldLink RX0 56 "GownLet$Booking" "homeOn" "I" ∈ wsX0_comeHome := by decide +kernel
theorem m_X0_comeHome_59 : Cond.fieldLink RX0 59 "GownLet$Booking" "lookHome" "I" ∈ wsX0_comeHome := by decide +kernel
theorem ly_X0_comeHome_0 : ∀ w ∈ wsX00, w ∈ wsX0_comeHome := fun w h => List.mem_cons_of_mem _ (List.mem_append_right _ h)
set_option maxRecDepth 100000 in
set_option maxHeartbeats 4000000 in
theorem k_X0_comeHome (x0 : Int32) (x1 : Int32) (x2 : Int32) (S : gw_S)  {zS : gw_S} (h : f_X0_comeHome x0 x1 x2 S = some zS) : gw_M l yX0_comeHome wsX0_comeHome rm_X0_comeHome 0 0 D (gw_ty cc) t1 t2 [.ref (d x0.toNatClampNeg), .int x1, .int x2] (gw_cw cc a b d S) (fun w => w = gw_cw cc a b d zS) none := by
  refine gw_enter (cc := cX0_comeHome) (maxL := 3) (ret := none) (own := RX0) rfl (by decide) rfl (Nat.le_of_ble_eq_true rfl) ?_
  intro p e s m below meth c A B hin hI ls hl
  have hl : lv_has ls 3 [(0, .ref (d x0.toNatClampNeg)), (1, .int x1), (2, .int x2)] := hl
  generalize ([.ref (d x0.toNatClampNeg), .int x1, .int x2] : List Value).toArray = args at B ⊢
  have hx := B.1.1
  have hb := B.1.2.1
  have hown : s.vm.findClass RX0 = some m.cls := B.1.2.2.2.1
  have hts := B.1.2.2.2.2
  unfold f_X0_comeHome at h
  refine lv_aload_n hx hb dX0_comeHome_0 rfl (lv_at hl 0 rfl) ?_
  refine lv_iconst (v := 2) hx hb dX0_comeHome_1 (by decide) ?_
  obtain ⟨g1, h⟩ := gw_gdE h
  obtain ⟨S2, e3, h⟩ := gw_letE h
  refine gw_put (T := TX0) (k := 9) (w' := gw_cw cc a b d S2) B hI (gc_gb g1) rfl ly_X0_comeHome_0 tyX0 tyX0_ok nmX0 (by decide) m_X0_comeHome_15 rfl rfl rfl rfl (Nat.le_of_ble_eq_true rfl) (gc_sb_9 g1 e3) dX0_comeHome_2 (fun H locs hI => ?_)
  refine lv_aload_n hx hb dX0_comeHome_5 rfl (lv_at hl 0 rfl) ?_
  refine lv_iload_n hx hb dX0_comeHome_6 rfl (lv_at hl 1 rfl) ?_
  obtain ⟨g4, h⟩ := gw_gdE h
  obtain ⟨S5, e6, h⟩ := gw_letE h
  refine gw_put (T := TX0) (k := 13) (w' := gw_cw cc a b d S5) B hI (gc_gb g4) rfl ly_X0_comeHome_0 tyX0 tyX0_ok nmX0 (by decide) m_X0_comeHome_56 rfl rfl rfl rfl (Nat.le_of_ble_eq_true rfl) (gc_sb_13 g4 e6) dX0_comeHome_7 (fun H locs hI => ?_)
  refine lv_aload_n hx hb dX0_comeHome_10 rfl (lv_at hl 0 rfl) ?_
  refine lv_iload_n hx hb dX0_comeHome_11 rfl (lv_at hl 2 rfl) ?_
  obtain ⟨g7, h⟩ := gw_gdE h
  obtain ⟨S8, e9, h⟩ := gw_letE h
  refine gw_put (T := TX0) (k := 12) (w' := gw_cw cc a b d S8) B hI (gc_gb g7) rfl ly_X0_comeHome_0 tyX0 tyX0_ok nmX0 (by decide) m_X0_comeHome_59 rfl rfl rfl rfl (Nat.le_of_ble_eq_true rfl) (gc_sb_12 g7 e9) dX0_comeHome_12 (fun H locs hI => ?_)
  rw [Option.some.inj h] at hI
  exact gw_vret (W' := (fun w => w = gw_cw cc a b d zS)) B hI rfl (Nat.zero_le _) (Nat.zero_le _) dX0_comeHome_15
theorem m_X1_bookingIn_20 : Cond.fieldLink RX1 20 "GownLet$Chain" "takers" "[I" ∈ wsX1_bookingIn := by decide +kernel
theorem m_X1_bookingIn_30 : Cond.fieldLink RX1 30 "GownLet$Chain" "length" "I" ∈ wsX1_bookingIn := by decide +kernel
theorem ly_X1_bookingIn_1 : ∀ w ∈ wsX10, w ∈ wsX1_bookingIn := fun w h => List.mem_cons_of_mem _ (List.mem_append_right _ h)
set_option maxRecDepth 100000 in
set_option maxHeartbeats 4000000 in
theorem k_X1_bookingIn (x1 : Int32) (S : gw_S) {zr : Int32} (h : f_X1_bookingIn x1 S = some zr) : gw_M l yX1_bookingIn wsX1_bookingIn rm_X1_bookingIn 0 0 D (gw_ty cc) t1 t2 [.ref (a 15), .int x1] (gw_cw cc a b d S) (fun w => w = gw_cw cc a b d S) (some (.int zr)) := by
  refine gw_enter (cc := cX1_bookingIn) (maxL := 2) (ret := (some .int)) (own := RX1) rfl (by decide) rfl (Nat.le_of_ble_eq_true rfl) ?_
  intro p e s m below meth c A B hin hI ls hl
  have hl : lv_has ls 2 [(0, .ref (a 15)), (1, .int x1)] := hl
  generalize ([.ref (a 15), .int x1] : List Value).toArray = args at B ⊢
  have hx := B.1.1
  have hb := B.1.2.1
  have hown : s.vm.findClass RX1 = some m.cls := B.1.2.2.2.1
  have hts := B.1.2.2.2.2
  unfold f_X1_bookingIn at h
  refine lv_iload_n hx hb dX1_bookingIn_0 rfl (lv_at hl 1 rfl) ?_
  refine lv_if_lt (tgt := 26) hx hb dX1_bookingIn_1 (by decide) (fun c1 => ?_) (fun c1 => ?_)
  · replace h := gw_ifT c1 h
    refine lv_iconst (v := -1) hx hb dX1_bookingIn_26 (by decide) ?_
    rw [← Option.some.inj h]
    exact gw_iret (W' := (fun w => w = gw_cw cc a b d S)) B hI rfl (Nat.zero_le _) (Nat.zero_le _) dX1_bookingIn_27
  · replace h := gw_ifF c1 h
    refine lv_iload_n hx hb dX1_bookingIn_4 rfl (lv_at hl 1 rfl) ?_
    refine lv_aload_n hx hb dX1_bookingIn_5 rfl (lv_at hl 0 rfl) ?_
    refine gw_get (T := TX1) (k := 5) (v := .int (S 15 5)) B hI gc_g15 rfl ly_X1_bookingIn_1 (by decide) m_X1_bookingIn_30 rfl rfl dX1_bookingIn_6 ?_
    refine lv_icmp_ge (tgt := 26) hx hb dX1_bookingIn_9 (by decide) (fun c2 => ?_) (fun c2 => ?_)
    · replace h := gw_ifT c2 h
      refine lv_iconst (v := -1) hx hb dX1_bookingIn_26 (by decide) ?_
      rw [← Option.some.inj h]
      exact gw_iret (W' := (fun w => w = gw_cw cc a b d S)) B hI rfl (Nat.zero_le _) (Nat.zero_le _) dX1_bookingIn_27
    · replace h := gw_ifF c2 h
      refine lv_iload_n hx hb dX1_bookingIn_12 rfl (lv_at hl 1 rfl) ?_
      refine lv_iconst (v := 4) hx hb dX1_bookingIn_13 (by decide) ?_
      refine lv_icmp_ge (tgt := 26) hx hb dX1_bookingIn_14 (by decide) (fun c3 => ?_) (fun c3 => ?_)
      · replace h := gw_ifT c3 h
        refine lv_iconst (v := -1) hx hb dX1_bookingIn_26 (by decide) ?_
        rw [← Option.some.inj h]
        exact gw_iret (W' := (fun w => w = gw_cw cc a b d S)) B hI rfl (Nat.zero_le _) (Nat.zero_le _) dX1_bookingIn_27
      · replace h := gw_ifF c3 h
        refine lv_aload_n hx hb dX1_bookingIn_17 rfl (lv_at hl 0 rfl) ?_
        refine gw_get (T := TX1) (k := 3) (v := .ref (a 18)) B hI gc_g15 rfl ly_X1_bookingIn_1 (by decide) m_X1_bookingIn_20 rfl rfl dX1_bookingIn_18 ?_
        refine lv_iload_n hx hb dX1_bookingIn_21 rfl (lv_at hl 1 rfl) ?_
        obtain ⟨g4, h⟩ := gw_gdE h
        refine gw_iald (t0 := 0) B hI gc_g18 rfl g4 dX1_bookingIn_22 ?_
        refine lv_goto (tgt := 27) hx hb dX1_bookingIn_23 (by decide) ?_
        rw [← Option.some.inj h]
        exact gw_iret (W' := (fun w => w = gw_cw cc a b d S)) B hI rfl (Nat.zero_le _) (Nat.zero_le _) dX1_bookingIn_27
theorem m_X1_pieceIn_23 : Cond.fieldLink RX1 23 "GownLet$Chain" "taken" "[I" ∈ wsX1_pieceIn := by decide +kernel
theorem m_X1_pieceIn_30 : Cond.fieldLink RX1 30 "GownLet$Chain" "length" "I" ∈ wsX1_pieceIn := by decide +kernel
theorem ly_X1_pieceIn_1 : ∀ w ∈ wsX10, w ∈ wsX1_pieceIn := fun w h => List.mem_cons_of_mem _ (List.mem_append_right _ h)
set_option maxRecDepth 100000 in
set_option maxHeartbeats 4000000 in
theorem k_X1_pieceIn (x1 : Int32) (S : gw_S) {zr : Int32} (h : f_X1_pieceIn x1 S = some zr) : gw_M l yX1_pieceIn wsX1_pieceIn rm_X1_pieceIn 0 0 D (gw_ty cc) t1 t2 [.ref (a 15), .int x1] (gw_cw cc a b d S) (fun w => w = gw_cw cc a b d S) (some (.int zr)) := by
  refine gw_enter (cc := cX1_pieceIn) (maxL := 2) (ret := (some .int)) (own := RX1) rfl (by decide) rfl (Nat.le_of_ble_eq_true rfl) ?_
  intro p e s m below meth c A B hin hI ls hl
  have hl : lv_has ls 2 [(0, .ref (a 15)), (1, .int x1)] := hl
  generalize ([.ref (a 15), .int x1] : List Value).toArray = args at B ⊢
  have hx := B.1.1
  have hb := B.1.2.1
  have hown : s.vm.findClass RX1 = some m.cls := B.1.2.2.2.1
  have hts := B.1.2.2.2.2
  unfold f_X1_pieceIn at h
  refine lv_iload_n hx hb dX1_pieceIn_0 rfl (lv_at hl 1 rfl) ?_
  refine lv_if_lt (tgt := 26) hx hb dX1_pieceIn_1 (by decide) (fun c1 => ?_) (fun c1 => ?_)
  · replace h := gw_ifT c1 h
    refine lv_iconst (v := -1) hx hb dX1_pieceIn_26 (by decide) ?_
    rw [← Option.some.inj h]
    exact gw_iret (W' := (fun w => w = gw_cw cc a b d S)) B hI rfl (Nat.zero_le _) (Nat.zero_le _) dX1_pieceIn_27
  · replace h := gw_ifF c1 h
    refine lv_iload_n hx hb dX1_pieceIn_4 rfl (lv_at hl 1 rfl) ?_
    refine lv_aload_n hx hb dX1_pieceIn_5 rfl (lv_at hl 0 rfl) ?_
    refine gw_get (T := TX1) (k := 5) (v := .int (S 15 5)) B hI gc_g15 rfl ly_X1_pieceIn_1 (by decide) m_X1_pieceIn_30 rfl rfl dX1_pieceIn_6 ?_
    refine lv_icmp_ge (tgt := 26) hx hb dX1_pieceIn_9 (by decide) (fun c2 => ?_) (fun c2 => ?_)
    · replace h := gw_ifT c2 h
      refine lv_iconst (v := -1) hx hb dX1_pieceIn_26 (by decide) ?_
      rw [← Option.some.inj h]
      exact gw_iret (W' := (fun w => w = gw_cw cc a b d S)) B hI rfl (Nat.zero_le _) (Nat.zero_le _) dX1_pieceIn_27
    · replace h := gw_ifF c2 h
      refine lv_iload_n hx hb dX1_pieceIn_12 rfl (lv_at hl 1 rfl) ?_
      refine lv_iconst (v := 4) hx hb dX1_pieceIn_13 (by decide) ?_
      refine lv_icmp_ge (tgt := 26) hx hb dX1_pieceIn_14 (by decide) (fun c3 => ?_) (fun c3 => ?_)
      · replace h := gw_ifT c3 h
        refine lv_iconst (v := -1) hx hb dX1_pieceIn_26 (by decide) ?_
        rw [← Option.some.inj h]
        exact gw_iret (W' := (fun w => w = gw_cw cc a b d S)) B hI rfl (Nat.zero_le _) (Nat.zero_le _) dX1_pieceIn_27
      · replace h := gw_ifF c3 h
        refine lv_aload_n hx hb dX1_pieceIn_17 rfl (lv_at hl 0 rfl) ?_
        refine gw_get (T := TX1) (k := 4) (v := .ref (a 19)) B hI gc_g15 rfl ly_X1_pieceIn_1 (by decide) m_X1_pieceIn_23 rfl rfl dX1_pieceIn_18 ?_
        refine lv_iload_n hx hb dX1_pieceIn_21 rfl (lv_at hl 1 rfl) ?_
        obtain ⟨g4, h⟩ := gw_gdE h
        refine gw_iald (t0 := 0) B hI gc_g19 rfl g4 dX1_pieceIn_22 ?_
        refine lv_goto (tgt := 27) hx hb dX1_pieceIn_23 (by decide) ?_
        rw [← Option.some.inj h]
        exact gw_iret (W' := (fun w => w = gw_cw cc a b d S)) B hI rfl (Nat.zero_le _) (Nat.zero_le _) dX1_pieceIn_27
theorem m_X7_at_7 : Cond.fieldLink RX7 7 "GownLet$Terms" "now" "[I" ∈ wsX7_at := by decide +kernel
theorem ly_X7_at_7 : ∀ w ∈ wsX70, w ∈ wsX7_at := fun w h => List.mem_cons_of_mem _ (List.mem_append_right _ h)
set_option maxRecDepth 100000 in
set_option maxHeartbeats 4000000 in
theorem k_X7_at (x1 : Int32) (S : gw_S) {zr : Int32} (h : f_X7_at x1 S = some zr) : gw_M l yX7_at wsX7_at rm_X7_at 0 0 D (gw_ty cc) t1 t2 [.ref (a 4), .int x1] (gw_cw cc a b d S) (fun w => w = gw_cw cc a b d S) (some (.int zr)) := by
  refine gw_enter (cc := cX7_at) (maxL := 2) (ret := (some .int)) (own := RX7) rfl (by decide) rfl (Nat.le_of_ble_eq_true rfl) ?_
  intro p e s m below meth c A B hin hI ls hl
  have hl : lv_has ls 2 [(0, .ref (a 4)), (1, .int x1)] := hl
  generalize ([.ref (a 4), .int x1] : List Value).toArray = args at B ⊢
  have hx := B.1.1
  have hb := B.1.2.1
  have hown : s.vm.findClass RX7 = some m.cls := B.1.2.2.2.1
  have hts := B.1.2.2.2.2
  unfold f_X7_at at h
  refine lv_iload_n hx hb dX7_at_0 rfl (lv_at hl 1 rfl) ?_
  refine lv_if_lt (tgt := 19) hx hb dX7_at_1 (by decide) (fun c1 => ?_) (fun c1 => ?_)
  · replace h := gw_ifT c1 h
    refine lv_iconst (v := 0) hx hb dX7_at_19 (by decide) ?_
    rw [← Option.some.inj h]
    exact gw_iret (W' := (fun w => w = gw_cw cc a b d S)) B hI rfl (Nat.zero_le _) (Nat.zero_le _) dX7_at_20
  · replace h := gw_ifF c1 h
    refine lv_iload_n hx hb dX7_at_4 rfl (lv_at hl 1 rfl) ?_
    refine lv_bipush (v := 8) hx hb dX7_at_5 (by decide) ?_
    refine lv_icmp_ge (tgt := 19) hx hb dX7_at_7 (by decide) (fun c2 => ?_) (fun c2 => ?_)
    · replace h := gw_ifT c2 h
      refine lv_iconst (v := 0) hx hb dX7_at_19 (by decide) ?_
      rw [← Option.some.inj h]
      exact gw_iret (W' := (fun w => w = gw_cw cc a b d S)) B hI rfl (Nat.zero_le _) (Nat.zero_le _) dX7_at_20
    · replace h := gw_ifF c2 h
      refine lv_aload_n hx hb dX7_at_10 rfl (lv_at hl 0 rfl) ?_
      refine gw_get (T := TX7) (k := 0) (v := .ref (a 5)) B hI gc_g4 rfl ly_X7_at_7 (by decide) m_X7_at_7 rfl rfl dX7_at_11 ?_
      refine lv_iload_n hx hb dX7_at_14 rfl (lv_at hl 1 rfl) ?_
      obtain ⟨g3, h⟩ := gw_gdE h
      refine gw_iald (t0 := 0) B hI gc_g5 rfl g3 dX7_at_15 ?_
      refine lv_goto (tgt := 20) hx hb dX7_at_16 (by decide) ?_
      rw [← Option.some.inj h]
      exact gw_iret (W' := (fun w => w = gw_cw cc a b d S)) B hI rfl (Nat.zero_le _) (Nat.zero_le _) dX7_at_20
theorem m_X1_nearestOf_17 : Cond.fieldLink RX1 17 "GownLet$Chain" "nearest" "[I" ∈ wsX1_nearestOf := by decide +kernel
theorem ly_X1_nearestOf_1 : ∀ w ∈ wsX10, w ∈ wsX1_nearestOf := fun w h => List.mem_cons_of_mem _ (List.mem_append_right _ h)
set_option maxRecDepth 100000 in
set_option maxHeartbeats 4000000 in
theorem k_X1_nearestOf (x1 : Int32) (S : gw_S) {zr : Int32} (h : f_X1_nearestOf x1 S = some zr) : gw_M l yX1_nearestOf wsX1_nearestOf rm_X1_nearestOf 0 0 D (gw_ty cc) t1 t2 [.ref (a 15), .int x1] (gw_cw cc a b d S) (fun w => w = gw_cw cc a b d S) (some (.int zr)) := by
  refine gw_enter (cc := cX1_nearestOf) (maxL := 2) (ret := (some .int)) (own := RX1) rfl (by decide) rfl (Nat.le_of_ble_eq_true rfl) ?_
  intro p e s m below meth c A B hin hI ls hl
  have hl : lv_has ls 2 [(0, .ref (a 15)), (1, .int x1)] := hl
  generalize ([.ref (a 15), .int x1] : List Value).toArray = args at B ⊢
  have hx := B.1.1
  have hb := B.1.2.1
  have hown : s.vm.findClass RX1 = some m.cls := B.1.2.2.2.1
  have hts := B.1.2.2.2.2
  unfold f_X1_nearestOf at h
  refine lv_iload_n hx hb dX1_nearestOf_0 rfl (lv_at hl 1 rfl) ?_
  refine lv_if_lt (tgt := 22) hx hb dX1_nearestOf_1 (by decide) (fun c1 => ?_) (fun c1 => ?_)
  · replace h := gw_ifT c1 h
    refine lv_bipush (v := 99) hx hb dX1_nearestOf_22 (by decide) ?_
    rw [← Option.some.inj h]
    exact gw_iret (W' := (fun w => w = gw_cw cc a b d S)) B hI rfl (Nat.zero_le _) (Nat.zero_le _) dX1_nearestOf_24
  · replace h := gw_ifF c1 h
    refine lv_iload_n hx hb dX1_nearestOf_4 rfl (lv_at hl 1 rfl) ?_
    refine lv_aload_n hx hb dX1_nearestOf_5 rfl (lv_at hl 0 rfl) ?_
    refine gw_get (T := TX1) (k := 2) (v := .ref (a 17)) B hI gc_g15 rfl ly_X1_nearestOf_1 (by decide) m_X1_nearestOf_17 rfl rfl dX1_nearestOf_6 ?_
    refine gw_alen (t0 := 0) (v := 30) B hI gc_g17 rfl (by decide) dX1_nearestOf_9 ?_
    refine lv_icmp_ge (tgt := 22) hx hb dX1_nearestOf_10 (by decide) (fun c2 => ?_) (fun c2 => ?_)
    · replace h := gw_ifT c2 h
      refine lv_bipush (v := 99) hx hb dX1_nearestOf_22 (by decide) ?_
      rw [← Option.some.inj h]
      exact gw_iret (W' := (fun w => w = gw_cw cc a b d S)) B hI rfl (Nat.zero_le _) (Nat.zero_le _) dX1_nearestOf_24
    · replace h := gw_ifF c2 h
      refine lv_aload_n hx hb dX1_nearestOf_13 rfl (lv_at hl 0 rfl) ?_
      refine gw_get (T := TX1) (k := 2) (v := .ref (a 17)) B hI gc_g15 rfl ly_X1_nearestOf_1 (by decide) m_X1_nearestOf_17 rfl rfl dX1_nearestOf_14 ?_
      refine lv_iload_n hx hb dX1_nearestOf_17 rfl (lv_at hl 1 rfl) ?_
      obtain ⟨g3, h⟩ := gw_gdE h
      refine gw_iald (t0 := 0) B hI gc_g17 rfl g3 dX1_nearestOf_18 ?_
      refine lv_goto (tgt := 24) hx hb dX1_nearestOf_19 (by decide) ?_
      rw [← Option.some.inj h]
      exact gw_iret (W' := (fun w => w = gw_cw cc a b d S)) B hI rfl (Nat.zero_le _) (Nat.zero_le _) dX1_nearestOf_24
theorem m_X1_sourceOf_11 : Cond.fieldLink RX1 11 "GownLet$Chain" "source" "[I" ∈ wsX1_sourceOf := by decide +kernel
theorem ly_X1_sourceOf_1 : ∀ w ∈ wsX10, w ∈ wsX1_sourceOf := fun w h => List.mem_cons_of_mem _ (List.mem_append_right _ h)
set_option maxRecDepth 100000 in
set_option maxHeartbeats 4000000 in
theorem k_X1_sourceOf (x1 : Int32) (x2 : Int32) (S : gw_S) {zr : Int32} (h : f_X1_sourceOf x1 x2 S = some zr) : gw_M l yX1_sourceOf wsX1_sourceOf rm_X1_sourceOf 0 0 D (gw_ty cc) t1 t2 [.ref (a 15), .int x1, .int x2] (gw_cw cc a b d S) (fun w => w = gw_cw cc a b d S) (some (.int zr)) := by
  refine gw_enter (cc := cX1_sourceOf) (maxL := 4) (ret := (some .int)) (own := RX1) rfl (by decide) rfl (Nat.le_of_ble_eq_true rfl) ?_
  intro p e s m below meth c A B hin hI ls hl
  have hl : lv_has ls 4 [(0, .ref (a 15)), (1, .int x1), (2, .int x2)] := hl
  generalize ([.ref (a 15), .int x1, .int x2] : List Value).toArray = args at B ⊢
  have hx := B.1.1
  have hb := B.1.2.1
  have hown : s.vm.findClass RX1 = some m.cls := B.1.2.2.2.1
  have hts := B.1.2.2.2.2
  unfold f_X1_sourceOf at h
  refine lv_iload_n hx hb dX1_sourceOf_0 rfl (lv_at hl 1 rfl) ?_
  refine lv_bipush (v := 24) hx hb dX1_sourceOf_1 (by decide) ?_
  refine lv_imul hx hb dX1_sourceOf_3 ?_
  refine lv_iload_n hx hb dX1_sourceOf_4 rfl (lv_at hl 2 rfl) ?_
  refine lv_iadd hx hb dX1_sourceOf_5 ?_
  obtain ⟨y1, e2, h⟩ := gw_letE h
  rw [← e2]
  refine lv_istore_n (lv' := [(3, .int y1), (0, .ref (a 15)), (1, .int x1), (2, .int x2)]) hx hb dX1_sourceOf_6 rfl hl (by decide) rfl (fun ls hl => ?_)
  refine lv_iload_n hx hb dX1_sourceOf_7 rfl (lv_at hl 0 rfl) ?_
  refine lv_if_lt (tgt := 29) hx hb dX1_sourceOf_8 (by decide) (fun c3 => ?_) (fun c3 => ?_)
  · replace h := gw_ifT c3 h
    refine lv_bipush (v := -2) hx hb dX1_sourceOf_29 (by decide) ?_
    rw [← Option.some.inj h]
    exact gw_iret (W' := (fun w => w = gw_cw cc a b d S)) B hI rfl (Nat.zero_le _) (Nat.zero_le _) dX1_sourceOf_31
  · replace h := gw_ifF c3 h
    refine lv_iload_n hx hb dX1_sourceOf_11 rfl (lv_at hl 0 rfl) ?_
    refine lv_aload_n hx hb dX1_sourceOf_12 rfl (lv_at hl 1 rfl) ?_
    refine gw_get (T := TX1) (k := 1) (v := .ref (a 16)) B hI gc_g15 rfl ly_X1_sourceOf_1 (by decide) m_X1_sourceOf_11 rfl rfl dX1_sourceOf_13 ?_
    refine gw_alen (t0 := 0) (v := 720) B hI gc_g16 rfl (by decide) dX1_sourceOf_16 ?_
    refine lv_icmp_ge (tgt := 29) hx hb dX1_sourceOf_17 (by decide) (fun c4 => ?_) (fun c4 => ?_)
    · replace h := gw_ifT c4 h
      refine lv_bipush (v := -2) hx hb dX1_sourceOf_29 (by decide) ?_
      rw [← Option.some.inj h]
      exact gw_iret (W' := (fun w => w = gw_cw cc a b d S)) B hI rfl (Nat.zero_le _) (Nat.zero_le _) dX1_sourceOf_31
    · replace h := gw_ifF c4 h
      refine lv_aload_n hx hb dX1_sourceOf_20 rfl (lv_at hl 1 rfl) ?_
      refine gw_get (T := TX1) (k := 1) (v := .ref (a 16)) B hI gc_g15 rfl ly_X1_sourceOf_1 (by decide) m_X1_sourceOf_11 rfl rfl dX1_sourceOf_21 ?_
      refine lv_iload_n hx hb dX1_sourceOf_24 rfl (lv_at hl 0 rfl) ?_
      obtain ⟨g5, h⟩ := gw_gdE h
      refine gw_iald (t0 := 0) B hI gc_g16 rfl g5 dX1_sourceOf_25 ?_
      refine lv_goto (tgt := 31) hx hb dX1_sourceOf_26 (by decide) ?_
      rw [← Option.some.inj h]
      exact gw_iret (W' := (fun w => w = gw_cw cc a b d S)) B hI rfl (Nat.zero_le _) (Nat.zero_le _) dX1_sourceOf_31
theorem m_X1_isTakenAhead_23 : Cond.fieldLink RX1 23 "GownLet$Chain" "taken" "[I" ∈ wsX1_isTakenAhead := by decide +kernel
theorem ly_X1_isTakenAhead_1 : ∀ w ∈ wsX10, w ∈ wsX1_isTakenAhead := fun w h => List.mem_cons_of_mem _ (List.mem_append_right _ h)
set_option maxRecDepth 100000 in
set_option maxHeartbeats 4000000 in
theorem k_X1_isTakenAhead (x1 : Int32) (x2 : Int32) (S : gw_S) {zr : Int32} (h : f_X1_isTakenAhead x1 x2 S = some zr) : gw_M l yX1_isTakenAhead wsX1_isTakenAhead rm_X1_isTakenAhead 0 0 D (gw_ty cc) t1 t2 [.ref (a 15), .int x1, .int x2] (gw_cw cc a b d S) (fun w => w = gw_cw cc a b d S) (some (.int zr)) := by
  refine gw_enter (cc := cX1_isTakenAhead) (maxL := 4) (ret := (some .boolean)) (own := RX1) rfl (by decide) rfl (Nat.le_of_ble_eq_true rfl) ?_
  intro p e s m below meth c A B hin hI ls hl
  have hl : lv_has ls 4 [(0, .ref (a 15)), (1, .int x1), (2, .int x2)] := hl
  generalize ([.ref (a 15), .int x1, .int x2] : List Value).toArray = args at B ⊢
  have hx := B.1.1
  have hb := B.1.2.1
  have hown : s.vm.findClass RX1 = some m.cls := B.1.2.2.2.1
  have hts := B.1.2.2.2.2
  have hb2 :  ∀ (n : Nat), ∀ (v1 : Int32) (v2 : Int32) (v3 : Int32), f_X1_isTakenAhead_b2 S  n v1 v2 v3 = some zr → ∀ (H : Heap) (locs : List Loc) (ls : Array Slot), gw_I D A s.heap (gw_cw cc a b d S) H locs → lv_has ls 4 [(0, .ref (a 15)), (1, .int v1), (2, .int v2), (3, .int v3)] → W p l e rm_X1_isTakenAhead s m args below meth c H locs 0 0 (MQ below (gw_Q (some (.int zr)) (gw_Pst D A (fun w => w = gw_cw cc a b d S)) A) args s 0 0 A) (F0 m 2 ls []) := by
    intro n
    induction n with
    | zero =>
      intro v1 v2 v3 h
      cases h
    | succ n ih =>
      intro v1 v2 v3 h H locs ls hI hl
      unfold f_X1_isTakenAhead_b2 at h
      refine lv_iload_n hx hb dX1_isTakenAhead_2 rfl (lv_at hl 3 rfl) ?_
      refine lv_iload_n hx hb dX1_isTakenAhead_3 rfl (lv_at hl 2 rfl) ?_
      refine lv_icmp_ge (tgt := 30) hx hb dX1_isTakenAhead_4 (by decide) (fun c1 => ?_) (fun c1 => ?_)
      · replace h := gw_ifT c1 h
        refine lv_iconst (v := 0) hx hb dX1_isTakenAhead_30 (by decide) ?_
        rw [← Option.some.inj h]
        exact gw_zret (W' := (fun w => w = gw_cw cc a b d S)) B hI rfl (Or.inl rfl) (Nat.zero_le _) (Nat.zero_le _) dX1_isTakenAhead_31
      · replace h := gw_ifF c1 h
        refine lv_iload_n hx hb dX1_isTakenAhead_7 rfl (lv_at hl 3 rfl) ?_
        refine lv_iconst (v := 4) hx hb dX1_isTakenAhead_8 (by decide) ?_
        refine lv_icmp_ge (tgt := 30) hx hb dX1_isTakenAhead_9 (by decide) (fun c2 => ?_) (fun c2 => ?_)
        · replace h := gw_ifT c2 h
          refine lv_iconst (v := 0) hx hb dX1_isTakenAhead_30 (by decide) ?_
          rw [← Option.some.inj h]
          exact gw_zret (W' := (fun w => w = gw_cw cc a b d S)) B hI rfl (Or.inl rfl) (Nat.zero_le _) (Nat.zero_le _) dX1_isTakenAhead_31
        · replace h := gw_ifF c2 h
          refine lv_aload_n hx hb dX1_isTakenAhead_12 rfl (lv_at hl 0 rfl) ?_
          refine gw_get (T := TX1) (k := 4) (v := .ref (a 19)) B hI gc_g15 rfl ly_X1_isTakenAhead_1 (by decide) m_X1_isTakenAhead_23 rfl rfl dX1_isTakenAhead_13 ?_
          refine lv_iload_n hx hb dX1_isTakenAhead_16 rfl (lv_at hl 3 rfl) ?_
          obtain ⟨g3, h⟩ := gw_gdE h
          refine gw_iald (t0 := 0) B hI gc_g19 rfl g3 dX1_isTakenAhead_17 ?_
          refine lv_iload_n hx hb dX1_isTakenAhead_18 rfl (lv_at hl 1 rfl) ?_
          refine lv_icmp_ne (tgt := 24) hx hb dX1_isTakenAhead_19 (by decide) (fun c4 => ?_) (fun c4 => ?_)
          · replace h := gw_ifF c4 h
            obtain ⟨y5, e6, h⟩ := gw_letE h
            refine lv_iinc (v := y5) (lv' := [(3, .int y5), (0, .ref (a 15)), (1, .int v1), (2, .int v2)]) hx hb dX1_isTakenAhead_24 hl (k := 3) rfl (by rw [e6]; rfl) (by decide) rfl (fun ls hl => ?_)
            refine lv_goto (tgt := 2) hx hb dX1_isTakenAhead_27 (by decide) ?_
            exact ih v1 v2 y5 h _ _ _ hI (lv_sub hl [1, 2, 3, 0] rfl)
          · replace h := gw_ifT c4 h
            refine lv_iconst (v := 1) hx hb dX1_isTakenAhead_22 (by decide) ?_
            rw [← Option.some.inj h]
            exact gw_zret (W' := (fun w => w = gw_cw cc a b d S)) B hI rfl (Or.inr rfl) (Nat.zero_le _) (Nat.zero_le _) dX1_isTakenAhead_23
  unfold f_X1_isTakenAhead at h
  refine lv_iconst (v := 0) hx hb dX1_isTakenAhead_0 (by decide) ?_
  refine lv_istore_n (lv' := [(3, .int (0 : Int32)), (0, .ref (a 15)), (1, .int x1), (2, .int x2)]) hx hb dX1_isTakenAhead_1 rfl hl (by decide) rfl (fun ls hl => ?_)
  exact hb2  gw_F x1 x2 (0 : Int32) h _ _ _ hI (lv_sub hl [1, 2, 3, 0] rfl)
theorem m_X1_follow_20 : Cond.fieldLink RX1 20 "GownLet$Chain" "takers" "[I" ∈ wsX1_follow := by decide +kernel
theorem m_X1_follow_23 : Cond.fieldLink RX1 23 "GownLet$Chain" "taken" "[I" ∈ wsX1_follow := by decide +kernel
theorem m_X1_follow_26 : Cond.fieldLink RX1 26 "GownLet$Chain" "house" "LGownLet$House;" ∈ wsX1_follow := by decide +kernel
theorem ly_X1_follow_1 : ∀ w ∈ wsX10, w ∈ wsX1_follow := fun w h => List.mem_cons_of_mem _ (List.mem_append_left _ (List.mem_append_right _ h))
theorem ly_X1_follow_2 : ∀ w ∈ wsX20, w ∈ wsX1_follow := fun w h => List.mem_cons_of_mem _ (List.mem_append_right _ h)
set_option maxRecDepth 100000 in
set_option maxHeartbeats 4000000 in
theorem k_X1_follow_e (n0 : Nat) (F : Int32 → Int32 → gw_S → Option (Int32 × gw_S)) (hF : ∀ (x1 : Int32) (x2 : Int32) (S : gw_S) (zr : Int32) (zS : gw_S), F x1 x2 S = some (zr, zS) → gw_M l yX1_follow wsX1_follow (rm_X1_follow n0) 0 0 D (gw_ty cc) t1 t2 [.ref (a 15), .int x1, .int x2] (gw_cw cc a b d S) (fun w => w = gw_cw cc a b d zS) (some (.int zr))) (x1 : Int32) (x2 : Int32) (S : gw_S) {zr : Int32} {zS : gw_S} (h : f_X1_follow_e F x1 x2 S = some (zr, zS)) : gw_M l yX1_follow wsX1_follow (rm_X1_follow (n0 + 1)) 0 0 D (gw_ty cc) t1 t2 [.ref (a 15), .int x1, .int x2] (gw_cw cc a b d S) (fun w => w = gw_cw cc a b d zS) (some (.int zr)) := by
  refine gw_enter (cc := cX1_follow) (maxL := 6) (ret := (some .boolean)) (own := RX1) rfl (by decide) rfl (Nat.le_of_ble_eq_true rfl) ?_
  intro p e s m below meth c A B hin hI ls hl
  have hl : lv_has ls 6 [(0, .ref (a 15)), (1, .int x1), (2, .int x2)] := hl
  generalize ([.ref (a 15), .int x1, .int x2] : List Value).toArray = args at B ⊢
  have hx := B.1.1
  have hb := B.1.2.1
  have hown : s.vm.findClass RX1 = some m.cls := B.1.2.2.2.1
  have hts := B.1.2.2.2.2
  have hb141 : ∀ (K31 : Int32 → Int32 → Int32 → Int32 → gw_S → Option (Int32 × gw_S)) (_ : ∀ (v1 : Int32) (v2 : Int32) (v3 : Int32) (v4 : Int32) (S : gw_S), K31 v1 v2 v3 v4 S = some (zr, zS) → ∀ (H : Heap) (locs : List Loc) (ls : Array Slot), gw_I D A s.heap (gw_cw cc a b d S) H locs → lv_has ls 6 [(0, .ref (a 15)), (1, .int v1), (2, .int v2), (3, .int v3), (4, .int v4)] → W p l e (rm_X1_follow (n0 + 1)) s m args below meth c H locs 0 0 (MQ below (gw_Q (some (.int zr)) (gw_Pst D A (fun w => w = gw_cw cc a b d zS)) A) args s 0 0 A) (F0 m 31 ls [])), ∀ (v1 : Int32) (v2 : Int32) (v3 : Int32) (v4 : Int32) (S : gw_S), f_X1_follow_b141 F K31 v1 v2 v3 v4 S = some (zr, zS) → ∀ (H : Heap) (locs : List Loc) (ls : Array Slot), gw_I D A s.heap (gw_cw cc a b d S) H locs → lv_has ls 6 [(0, .ref (a 15)), (1, .int v1), (2, .int v2), (3, .int v3), (4, .int v4)] → W p l e (rm_X1_follow (n0 + 1)) s m args below meth c H locs 0 0 (MQ below (gw_Q (some (.int zr)) (gw_Pst D A (fun w => w = gw_cw cc a b d zS)) A) args s 0 0 A) (F0 m 141 ls []) := by
    intro K31 hK31
    intro v1 v2 v3 v4 S h H locs ls hI hl
    unfold f_X1_follow_b141 at h
    obtain ⟨y1, e2, h⟩ := gw_letE h
    refine lv_iinc (v := y1) (lv' := [(4, .int y1), (0, .ref (a 15)), (1, .int v1), (2, .int v2), (3, .int v3)]) hx hb dX1_follow_141 hl (k := 4) rfl (by rw [e2]; rfl) (by decide) rfl (fun ls hl => ?_)
    refine lv_goto (tgt := 31) hx hb dX1_follow_144 (by decide) ?_
    exact hK31 v1 v2 v3 y1 S h _ _ _ hI (lv_sub hl [1, 2, 3, 4, 0] rfl)
  have hb126 : ∀ (K31 : Int32 → Int32 → Int32 → Int32 → gw_S → Option (Int32 × gw_S)) (_ : ∀ (v1 : Int32) (v2 : Int32) (v3 : Int32) (v4 : Int32) (S : gw_S), K31 v1 v2 v3 v4 S = some (zr, zS) → ∀ (H : Heap) (locs : List Loc) (ls : Array Slot), gw_I D A s.heap (gw_cw cc a b d S) H locs → lv_has ls 6 [(0, .ref (a 15)), (1, .int v1), (2, .int v2), (3, .int v3), (4, .int v4)] → W p l e (rm_X1_follow (n0 + 1)) s m args below meth c H locs 0 0 (MQ below (gw_Q (some (.int zr)) (gw_Pst D A (fun w => w = gw_cw cc a b d zS)) A) args s 0 0 A) (F0 m 31 ls [])), ∀ (v1 : Int32) (v2 : Int32) (v3 : Int32) (v4 : Int32) (S : gw_S), f_X1_follow_b126 F K31 v1 v2 v3 v4 S = some (zr, zS) → ∀ (H : Heap) (locs : List Loc) (ls : Array Slot), gw_I D A s.heap (gw_cw cc a b d S) H locs → lv_has ls 6 [(0, .ref (a 15)), (1, .int v1), (2, .int v2), (3, .int v3), (4, .int v4)] → W p l e (rm_X1_follow (n0 + 1)) s m args below meth c H locs 0 0 (MQ below (gw_Q (some (.int zr)) (gw_Pst D A (fun w => w = gw_cw cc a b d zS)) A) args s 0 0 A) (F0 m 126 ls []) := by
    intro K31 hK31
    intro v1 v2 v3 v4 S h H locs ls hI hl
    unfold f_X1_follow_b126 at h
    refine lv_aload_n hx hb dX1_follow_126 rfl (lv_at hl 0 rfl) ?_
    refine lv_iload_n hx hb dX1_follow_127 rfl (lv_at hl 1 rfl) ?_
    refine lv_iconst (v := 1) hx hb dX1_follow_128 (by decide) ?_
    refine lv_iadd hx hb dX1_follow_129 ?_
    refine lv_iload_n hx hb dX1_follow_130 rfl (lv_at hl 2 rfl) ?_
    refine lv_iconst (v := 1) hx hb dX1_follow_131 (by decide) ?_
    refine lv_isub hx hb dX1_follow_132 ?_
    obtain ⟨r3, S4, e5, h⟩ := gw_b2E h
    refine gw_callS (As := [.ref (a 15), .int (v1 + (1 : Int32)), .int (v2 - (1 : Int32))]) (n := 3) B hI (hF (v1 + (1 : Int32)) (v2 - (1 : Int32)) S _ _ e5) gX1_follow_X1_follow rfl rfl rfl nds_X1_follow ⟨by show n0 + 2 + 1 ≤ n0 + 1 + 2; omega, by show 8 + (6 + 11) + (40 * n0 + 80) ≤ 40 * (n0 + 1) + 80; omega⟩ rfl hl.1 (Nat.zero_le _) dX1_follow_133 ⟨Nat.le_of_ble_eq_true rfl, Nat.le_of_ble_eq_true rfl⟩ rfl (fun w' H locs hw hI => ?_)
    subst hw
    refine lv_if_eq (tgt := 141) hx hb dX1_follow_136 (by decide) (fun c6 => ?_) (fun c6 => ?_)
    · replace h := gw_ifT c6 h
      exact hb141 K31 hK31 v1 v2 v3 v4 S4 h _ _ _ hI (lv_sub hl [0, 1, 2, 3, 4] rfl)
    · replace h := gw_ifF c6 h
      refine lv_iconst (v := 1) hx hb dX1_follow_139 (by decide) ?_
      obtain ⟨h1, h2⟩ := Prod.mk.inj (Option.some.inj h)
      rw [h2] at hI
      rw [← h1]
      exact gw_zret (W' := (fun w => w = gw_cw cc a b d zS)) B hI rfl (Or.inr rfl) (Nat.zero_le _) (Nat.zero_le _) dX1_follow_140
  have hb79 : ∀ (K31 : Int32 → Int32 → Int32 → Int32 → gw_S → Option (Int32 × gw_S)) (_ : ∀ (v1 : Int32) (v2 : Int32) (v3 : Int32) (v4 : Int32) (S : gw_S), K31 v1 v2 v3 v4 S = some (zr, zS) → ∀ (H : Heap) (locs : List Loc) (ls : Array Slot), gw_I D A s.heap (gw_cw cc a b d S) H locs → lv_has ls 6 [(0, .ref (a 15)), (1, .int v1), (2, .int v2), (3, .int v3), (4, .int v4)] → W p l e (rm_X1_follow (n0 + 1)) s m args below meth c H locs 0 0 (MQ below (gw_Q (some (.int zr)) (gw_Pst D A (fun w => w = gw_cw cc a b d zS)) A) args s 0 0 A) (F0 m 31 ls [])), ∀ (v1 : Int32) (v2 : Int32) (v3 : Int32) (v4 : Int32) (v5 : Int32) (t0_ : Int32) (t1_ : Int32) (S : gw_S), f_X1_follow_b79 F K31 v1 v2 v3 v4 v5 t0_ t1_ S = some (zr, zS) → ∀ (H : Heap) (locs : List Loc) (ls : Array Slot), gw_I D A s.heap (gw_cw cc a b d S) H locs → lv_has ls 6 [(0, .ref (a 15)), (1, .int v1), (2, .int v2), (3, .int v3), (4, .int v4), (5, .int v5)] → W p l e (rm_X1_follow (n0 + 1)) s m args below meth c H locs 0 0 (MQ below (gw_Q (some (.int zr)) (gw_Pst D A (fun w => w = gw_cw cc a b d zS)) A) args s 0 0 A) (F0 m 79 ls [.int t0_, .int t1_]) := by
    intro K31 hK31
    intro v1 v2 v3 v4 v5 t0_ t1_ S h H locs ls hI hl
    unfold f_X1_follow_b79 at h
    refine lv_icmp_ne (tgt := 141) hx hb dX1_follow_79 (by decide) (fun c7 => ?_) (fun c7 => ?_)
    · replace h := gw_ifF c7 h
      exact hb141 K31 hK31 v1 v2 v3 v4 S h _ _ _ hI (lv_sub hl [0, 1, 2, 3, 4] rfl)
    · replace h := gw_ifT c7 h
      refine lv_aload_n hx hb dX1_follow_82 rfl (lv_at hl 0 rfl) ?_
      refine lv_iload hx hb dX1_follow_83 (lv_at hl 4 rfl) ?_
      refine lv_iload_n hx hb dX1_follow_85 rfl (lv_at hl 1 rfl) ?_
      obtain ⟨r8, e9, h⟩ := gw_bdE h
      refine gw_callV (As := [.int v4, .int v1]) (n := 2) B hI (k_X1_isTakenAhead v4 v1 S e9) gX1_follow_X1_isTakenAhead rfl rfl rfl nd_X1_isTakenAhead ⟨by show 0 + 1 ≤ n0 + 1 + 2; omega, by show 8 + (4 + 11) + 0 ≤ 40 * (n0 + 1) + 80; omega⟩ gc_g15 rfl rfl rfl hl.1 (Nat.zero_le _) dX1_follow_86 ⟨Nat.le_of_ble_eq_true rfl, Nat.le_of_ble_eq_true rfl⟩ rfl (fun w' H locs hw hI => ?_)
      subst hw
      refine lv_if_eq (tgt := 95) hx hb dX1_follow_89 (by decide) (fun c10 => ?_) (fun c10 => ?_)
      · replace h := gw_ifT c10 h
        refine lv_aload_n hx hb dX1_follow_95 rfl (lv_at hl 0 rfl) ?_
        refine gw_get (T := TX1) (k := 4) (v := .ref (a 19)) B hI gc_g15 rfl ly_X1_follow_1 (by decide) m_X1_follow_23 rfl rfl dX1_follow_96 ?_
        refine lv_iload_n hx hb dX1_follow_99 rfl (lv_at hl 1 rfl) ?_
        refine lv_iload hx hb dX1_follow_100 (lv_at hl 4 rfl) ?_
        obtain ⟨g11, h⟩ := gw_gdE h
        obtain ⟨S12, e13, h⟩ := gw_letE h
        refine gw_iast (t0 := 0) (w' := gw_cw cc a b d S12) B hI gc_g19 rfl g11 (gc_s19 e13) dX1_follow_102 (fun H locs hI => ?_)
        refine lv_iload_n hx hb dX1_follow_103 rfl (lv_at hl 2 rfl) ?_
        refine lv_if_ne (tgt := 109) hx hb dX1_follow_104 (by decide) (fun c14 => ?_) (fun c14 => ?_)
        · replace h := gw_ifF c14 h
          refine lv_iload_n hx hb dX1_follow_109 rfl (lv_at hl 1 rfl) ?_
          refine lv_iconst (v := 1) hx hb dX1_follow_110 (by decide) ?_
          refine lv_iadd hx hb dX1_follow_111 ?_
          refine lv_iconst (v := 4) hx hb dX1_follow_112 (by decide) ?_
          refine lv_icmp_ge (tgt := 126) hx hb dX1_follow_113 (by decide) (fun c15 => ?_) (fun c15 => ?_)
          · replace h := gw_ifT c15 h
            exact hb126 K31 hK31 v1 v2 v3 v4 S12 h _ _ _ hI (lv_sub hl [0, 1, 2, 3, 4] rfl)
          · replace h := gw_ifF c15 h
            refine lv_aload_n hx hb dX1_follow_116 rfl (lv_at hl 0 rfl) ?_
            refine gw_get (T := TX1) (k := 3) (v := .ref (a 18)) B hI gc_g15 rfl ly_X1_follow_1 (by decide) m_X1_follow_20 rfl rfl dX1_follow_117 ?_
            refine lv_iload_n hx hb dX1_follow_120 rfl (lv_at hl 1 rfl) ?_
            refine lv_iconst (v := 1) hx hb dX1_follow_121 (by decide) ?_
            refine lv_iadd hx hb dX1_follow_122 ?_
            refine lv_iload hx hb dX1_follow_123 (lv_at hl 5 rfl) ?_
            obtain ⟨g16, h⟩ := gw_gdE h
            obtain ⟨S17, e18, h⟩ := gw_letE h
            refine gw_iast (t0 := 0) (w' := gw_cw cc a b d S17) B hI gc_g18 rfl g16 (gc_s18 e18) dX1_follow_125 (fun H locs hI => ?_)
            exact hb126 K31 hK31 v1 v2 v3 v4 S17 h _ _ _ hI (lv_sub hl [0, 1, 2, 3, 4] rfl)
        · replace h := gw_ifT c14 h
          refine lv_iconst (v := 1) hx hb dX1_follow_107 (by decide) ?_
          obtain ⟨h1, h2⟩ := Prod.mk.inj (Option.some.inj h)
          rw [h2] at hI
          rw [← h1]
          exact gw_zret (W' := (fun w => w = gw_cw cc a b d zS)) B hI rfl (Or.inr rfl) (Nat.zero_le _) (Nat.zero_le _) dX1_follow_108
      · replace h := gw_ifF c10 h
        refine lv_goto (tgt := 141) hx hb dX1_follow_92 (by decide) ?_
        exact hb141 K31 hK31 v1 v2 v3 v4 S h _ _ _ hI (lv_sub hl [0, 1, 2, 3, 4] rfl)
  have hb70 : ∀ (K31 : Int32 → Int32 → Int32 → Int32 → gw_S → Option (Int32 × gw_S)) (_ : ∀ (v1 : Int32) (v2 : Int32) (v3 : Int32) (v4 : Int32) (S : gw_S), K31 v1 v2 v3 v4 S = some (zr, zS) → ∀ (H : Heap) (locs : List Loc) (ls : Array Slot), gw_I D A s.heap (gw_cw cc a b d S) H locs → lv_has ls 6 [(0, .ref (a 15)), (1, .int v1), (2, .int v2), (3, .int v3), (4, .int v4)] → W p l e (rm_X1_follow (n0 + 1)) s m args below meth c H locs 0 0 (MQ below (gw_Q (some (.int zr)) (gw_Pst D A (fun w => w = gw_cw cc a b d zS)) A) args s 0 0 A) (F0 m 31 ls [])), ∀ (v1 : Int32) (v2 : Int32) (v3 : Int32) (v4 : Int32) (v5 : Int32) (t0_ : Int32) (S : gw_S), f_X1_follow_b70 F K31 v1 v2 v3 v4 v5 t0_ S = some (zr, zS) → ∀ (H : Heap) (locs : List Loc) (ls : Array Slot), gw_I D A s.heap (gw_cw cc a b d S) H locs → lv_has ls 6 [(0, .ref (a 15)), (1, .int v1), (2, .int v2), (3, .int v3), (4, .int v4), (5, .int v5)] → W p l e (rm_X1_follow (n0 + 1)) s m args below meth c H locs 0 0 (MQ below (gw_Q (some (.int zr)) (gw_Pst D A (fun w => w = gw_cw cc a b d zS)) A) args s 0 0 A) (F0 m 70 ls [.int t0_]) := by
    intro K31 hK31
    intro v1 v2 v3 v4 v5 t0_ S h H locs ls hI hl
    unfold f_X1_follow_b70 at h
    refine lv_iload_n hx hb dX1_follow_70 rfl (lv_at hl 2 rfl) ?_
    refine lv_if_ne (tgt := 78) hx hb dX1_follow_71 (by decide) (fun c19 => ?_) (fun c19 => ?_)
    · replace h := gw_ifF c19 h
      refine lv_iconst (v := 0) hx hb dX1_follow_78 (by decide) ?_
      exact hb79 K31 hK31 v1 v2 v3 v4 v5 (0 : Int32) t0_ S h _ _ _ hI (lv_sub hl [0, 1, 2, 3, 4, 5] rfl)
    · replace h := gw_ifT c19 h
      refine lv_iconst (v := 1) hx hb dX1_follow_74 (by decide) ?_
      refine lv_goto (tgt := 79) hx hb dX1_follow_75 (by decide) ?_
      exact hb79 K31 hK31 v1 v2 v3 v4 v5 (1 : Int32) t0_ S h _ _ _ hI (lv_sub hl [0, 1, 2, 3, 4, 5] rfl)
  have hb31 :  ∀ (n : Nat), ∀ (v1 : Int32) (v2 : Int32) (v3 : Int32) (v4 : Int32) (S : gw_S), f_X1_follow_b31 F  n v1 v2 v3 v4 S = some (zr, zS) → ∀ (H : Heap) (locs : List Loc) (ls : Array Slot), gw_I D A s.heap (gw_cw cc a b d S) H locs → lv_has ls 6 [(0, .ref (a 15)), (1, .int v1), (2, .int v2), (3, .int v3), (4, .int v4)] → W p l e (rm_X1_follow (n0 + 1)) s m args below meth c H locs 0 0 (MQ below (gw_Q (some (.int zr)) (gw_Pst D A (fun w => w = gw_cw cc a b d zS)) A) args s 0 0 A) (F0 m 31 ls []) := by
    intro n
    induction n with
    | zero =>
      intro v1 v2 v3 v4 S h
      cases h
    | succ n ih =>
      intro v1 v2 v3 v4 S h H locs ls hI hl
      unfold f_X1_follow_b31 at h
      refine lv_iload hx hb dX1_follow_31 (lv_at hl 4 rfl) ?_
      refine lv_aload_n hx hb dX1_follow_33 rfl (lv_at hl 0 rfl) ?_
      refine gw_get (T := TX1) (k := 0) (v := .ref (a 3)) B hI gc_g15 rfl ly_X1_follow_1 (by decide) m_X1_follow_26 rfl rfl dX1_follow_34 ?_
      refine gw_getN (T := TX2) (k := 6) (v := .int (S 3 6)) B hI gc_g3 rfl ly_X1_follow_2 (by decide) n_RX1_87 rfl rfl dX1_follow_37 ?_
      refine lv_icmp_ge (tgt := 147) hx hb dX1_follow_40 (by decide) (fun c20 => ?_) (fun c20 => ?_)
      · replace h := gw_ifT c20 h
        refine lv_iconst (v := 0) hx hb dX1_follow_147 (by decide) ?_
        obtain ⟨h1, h2⟩ := Prod.mk.inj (Option.some.inj h)
        rw [h2] at hI
        rw [← h1]
        exact gw_zret (W' := (fun w => w = gw_cw cc a b d zS)) B hI rfl (Or.inl rfl) (Nat.zero_le _) (Nat.zero_le _) dX1_follow_148
      · replace h := gw_ifF c20 h
        refine lv_aload_n hx hb dX1_follow_43 rfl (lv_at hl 0 rfl) ?_
        refine lv_iload_n hx hb dX1_follow_44 rfl (lv_at hl 3 rfl) ?_
        refine lv_iload hx hb dX1_follow_45 (lv_at hl 4 rfl) ?_
        obtain ⟨r21, e22, h⟩ := gw_bdE h
        refine gw_callV (As := [.int v3, .int v4]) (n := 2) B hI (k_X1_sourceOf v3 v4 S e22) gX1_follow_X1_sourceOf rfl rfl rfl nd_X1_sourceOf ⟨by show 0 + 1 ≤ n0 + 1 + 2; omega, by show 8 + (4 + 11) + 0 ≤ 40 * (n0 + 1) + 80; omega⟩ gc_g15 rfl rfl rfl hl.1 (Nat.zero_le _) dX1_follow_47 ⟨Nat.le_of_ble_eq_true rfl, Nat.le_of_ble_eq_true rfl⟩ rfl (fun w' H locs hw hI => ?_)
        subst hw
        refine lv_istore (lv' := [(5, .int r21), (0, .ref (a 15)), (1, .int v1), (2, .int v2), (3, .int v3), (4, .int v4)]) hx hb dX1_follow_50 hl (by decide) rfl (fun ls hl => ?_)
        refine lv_iload hx hb dX1_follow_52 (lv_at hl 0 rfl) ?_
        refine lv_bipush (v := -2) hx hb dX1_follow_54 (by decide) ?_
        refine lv_icmp_eq (tgt := 141) hx hb dX1_follow_56 (by decide) (fun c23 => ?_) (fun c23 => ?_)
        · replace h := gw_ifT c23 h
          exact hb141 (f_X1_follow_b31 F  n) ih v1 v2 v3 v4 S h _ _ _ hI (lv_sub hl [1, 2, 3, 4, 5] rfl)
        · replace h := gw_ifF c23 h
          refine lv_iload hx hb dX1_follow_59 (lv_at hl 0 rfl) ?_
          refine lv_iconst (v := -1) hx hb dX1_follow_61 (by decide) ?_
          refine lv_icmp_ne (tgt := 69) hx hb dX1_follow_62 (by decide) (fun c24 => ?_) (fun c24 => ?_)
          · replace h := gw_ifF c24 h
            refine lv_iconst (v := 0) hx hb dX1_follow_69 (by decide) ?_
            exact hb70 (f_X1_follow_b31 F  n) ih v1 v2 v3 v4 r21 (0 : Int32) S h _ _ _ hI (lv_sub hl [1, 2, 3, 4, 5, 0] rfl)
          · replace h := gw_ifT c24 h
            refine lv_iconst (v := 1) hx hb dX1_follow_65 (by decide) ?_
            refine lv_goto (tgt := 70) hx hb dX1_follow_66 (by decide) ?_
            exact hb70 (f_X1_follow_b31 F  n) ih v1 v2 v3 v4 r21 (1 : Int32) S h _ _ _ hI (lv_sub hl [1, 2, 3, 4, 5, 0] rfl)
  unfold f_X1_follow_e at h
  refine lv_iload_n hx hb dX1_follow_0 rfl (lv_at hl 1 rfl) ?_
  refine lv_iconst (v := 4) hx hb dX1_follow_1 (by decide) ?_
  refine lv_icmp_ge (tgt := 19) hx hb dX1_follow_2 (by decide) (fun c25 => ?_) (fun c25 => ?_)
  · replace h := gw_ifT c25 h
    refine lv_iconst (v := 0) hx hb dX1_follow_19 (by decide) ?_
    obtain ⟨h1, h2⟩ := Prod.mk.inj (Option.some.inj h)
    rw [h2] at hI
    rw [← h1]
    exact gw_zret (W' := (fun w => w = gw_cw cc a b d zS)) B hI rfl (Or.inl rfl) (Nat.zero_le _) (Nat.zero_le _) dX1_follow_20
  · replace h := gw_ifF c25 h
    refine lv_aload_n hx hb dX1_follow_5 rfl (lv_at hl 0 rfl) ?_
    refine lv_aload_n hx hb dX1_follow_6 rfl (lv_at hl 0 rfl) ?_
    refine gw_get (T := TX1) (k := 3) (v := .ref (a 18)) B hI gc_g15 rfl ly_X1_follow_1 (by decide) m_X1_follow_20 rfl rfl dX1_follow_7 ?_
    refine lv_iload_n hx hb dX1_follow_10 rfl (lv_at hl 1 rfl) ?_
    obtain ⟨g26, h⟩ := gw_gdE h
    refine gw_iald (t0 := 0) B hI gc_g18 rfl g26 dX1_follow_11 ?_
    obtain ⟨r27, e28, h⟩ := gw_bdE h
    refine gw_callV (As := [.int (S 18 x1.toNatClampNeg)]) (n := 1) B hI (k_X1_nearestOf (S 18 x1.toNatClampNeg) S e28) gX1_follow_X1_nearestOf rfl rfl rfl nd_X1_nearestOf ⟨by show 0 + 1 ≤ n0 + 1 + 2; omega, by show 8 + (2 + 11) + 0 ≤ 40 * (n0 + 1) + 80; omega⟩ gc_g15 rfl rfl rfl hl.1 (Nat.zero_le _) dX1_follow_12 ⟨Nat.le_of_ble_eq_true rfl, Nat.le_of_ble_eq_true rfl⟩ rfl (fun w' H locs hw hI => ?_)
    subst hw
    refine lv_iload_n hx hb dX1_follow_15 rfl (lv_at hl 2 rfl) ?_
    refine lv_icmp_le (tgt := 21) hx hb dX1_follow_16 (by decide) (fun c29 => ?_) (fun c29 => ?_)
    · replace h := gw_ifT c29 h
      refine lv_aload_n hx hb dX1_follow_21 rfl (lv_at hl 0 rfl) ?_
      refine gw_get (T := TX1) (k := 3) (v := .ref (a 18)) B hI gc_g15 rfl ly_X1_follow_1 (by decide) m_X1_follow_20 rfl rfl dX1_follow_22 ?_
      refine lv_iload_n hx hb dX1_follow_25 rfl (lv_at hl 1 rfl) ?_
      refine gw_iald (t0 := 0) B hI gc_g18 rfl g26 dX1_follow_26 ?_
      obtain ⟨y30, e31, h⟩ := gw_letE h
      rw [← e31]
      refine lv_istore_n (lv' := [(3, .int y30), (0, .ref (a 15)), (1, .int x1), (2, .int x2)]) hx hb dX1_follow_27 rfl hl (by decide) rfl (fun ls hl => ?_)
      refine lv_iconst (v := 0) hx hb dX1_follow_28 (by decide) ?_
      refine lv_istore (lv' := [(4, .int (0 : Int32)), (3, .int y30), (0, .ref (a 15)), (1, .int x1), (2, .int x2)]) hx hb dX1_follow_29 hl (by decide) rfl (fun ls hl => ?_)
      exact hb31  gw_F x1 x2 y30 (0 : Int32) S h _ _ _ hI (lv_sub hl [2, 3, 4, 1, 0] rfl)
    · replace h := gw_ifF c29 h
      refine lv_iconst (v := 0) hx hb dX1_follow_19 (by decide) ?_
      obtain ⟨h1, h2⟩ := Prod.mk.inj (Option.some.inj h)
      rw [h2] at hI
      rw [← h1]
      exact gw_zret (W' := (fun w => w = gw_cw cc a b d zS)) B hI rfl (Or.inl rfl) (Nat.zero_le _) (Nat.zero_le _) dX1_follow_20
theorem k_X1_follow : ∀ (n0 : Nat) (x1 : Int32) (x2 : Int32) (S : gw_S) {zr : Int32} {zS : gw_S} (_ : f_X1_follow n0 x1 x2 S = some (zr, zS)), gw_M l yX1_follow wsX1_follow (rm_X1_follow n0) 0 0 D (gw_ty cc) t1 t2 [.ref (a 15), .int x1, .int x2] (gw_cw cc a b d S) (fun w => w = gw_cw cc a b d zS) (some (.int zr))
  | 0, _, _, _, _, _, h => by cases h
  | n0 + 1, x1, x2, S, _, _, h => k_X1_follow_e n0 (f_X1_follow n0) (fun y1 y2 S1 _ _ h1 => k_X1_follow n0 y1 y2 S1 h1) x1 x2 S h
theorem m_X1_spreadNearest_17 : Cond.fieldLink RX1 17 "GownLet$Chain" "nearest" "[I" ∈ wsX1_spreadNearest := by decide +kernel
theorem m_X1_spreadNearest_26 : Cond.fieldLink RX1 26 "GownLet$Chain" "house" "LGownLet$House;" ∈ wsX1_spreadNearest := by decide +kernel
theorem ly_X1_spreadNearest_1 : ∀ w ∈ wsX10, w ∈ wsX1_spreadNearest := fun w h => List.mem_cons_of_mem _ (List.mem_append_left _ (List.mem_append_right _ h))
theorem ly_X1_spreadNearest_2 : ∀ w ∈ wsX20, w ∈ wsX1_spreadNearest := fun w h => List.mem_cons_of_mem _ (List.mem_append_right _ h)
set_option maxRecDepth 100000 in
set_option maxHeartbeats 4000000 in
theorem k_X1_spreadNearest  (S : gw_S)  {zS : gw_S} (h : f_X1_spreadNearest  S = some zS) : gw_M l yX1_spreadNearest wsX1_spreadNearest rm_X1_spreadNearest 0 0 D (gw_ty cc) t1 t2 [.ref (a 15)] (gw_cw cc a b d S) (fun w => w = gw_cw cc a b d zS) none := by
  refine gw_enter (cc := cX1_spreadNearest) (maxL := 4) (ret := none) (own := RX1) rfl (by decide) rfl (Nat.le_of_ble_eq_true rfl) ?_
  intro p e s m below meth c A B hin hI ls hl
  have hl : lv_has ls 4 [(0, .ref (a 15))] := hl
  generalize ([.ref (a 15)] : List Value).toArray = args at B ⊢
  have hx := B.1.1
  have hb := B.1.2.1
  have hown : s.vm.findClass RX1 = some m.cls := B.1.2.2.2.1
  have hts := B.1.2.2.2.2
  have hb55 : ∀ (K2 : Int32 → gw_S → Option (gw_S)) (_ : ∀ (v1 : Int32) (S : gw_S), K2 v1 S = some zS → ∀ (H : Heap) (locs : List Loc) (ls : Array Slot), gw_I D A s.heap (gw_cw cc a b d S) H locs → lv_has ls 4 [(0, .ref (a 15)), (1, .int v1)] → W p l e rm_X1_spreadNearest s m args below meth c H locs 0 0 (MQ below (gw_Q none (gw_Pst D A (fun w => w = gw_cw cc a b d zS)) A) args s 0 0 A) (F0 m 2 ls [])), ∀ (K15 : Int32 → Int32 → gw_S → Option (gw_S)) (_ : ∀ (v1 : Int32) (v2 : Int32) (S : gw_S), K15 v1 v2 S = some zS → ∀ (H : Heap) (locs : List Loc) (ls : Array Slot), gw_I D A s.heap (gw_cw cc a b d S) H locs → lv_has ls 4 [(0, .ref (a 15)), (1, .int v1), (2, .int v2)] → W p l e rm_X1_spreadNearest s m args below meth c H locs 0 0 (MQ below (gw_Q none (gw_Pst D A (fun w => w = gw_cw cc a b d zS)) A) args s 0 0 A) (F0 m 15 ls [])), ∀ (v1 : Int32) (v2 : Int32) (S : gw_S), f_X1_spreadNearest_b55 K2 K15 v1 v2 S = some zS → ∀ (H : Heap) (locs : List Loc) (ls : Array Slot), gw_I D A s.heap (gw_cw cc a b d S) H locs → lv_has ls 4 [(0, .ref (a 15)), (1, .int v1), (2, .int v2)] → W p l e rm_X1_spreadNearest s m args below meth c H locs 0 0 (MQ below (gw_Q none (gw_Pst D A (fun w => w = gw_cw cc a b d zS)) A) args s 0 0 A) (F0 m 55 ls []) := by
    intro K2 hK2 K15 hK15
    intro v1 v2 S h H locs ls hI hl
    unfold f_X1_spreadNearest_b55 at h
    obtain ⟨y1, e2, h⟩ := gw_letE h
    refine lv_iinc (v := y1) (lv' := [(2, .int y1), (0, .ref (a 15)), (1, .int v1)]) hx hb dX1_spreadNearest_55 hl (k := 2) rfl (by rw [e2]; rfl) (by decide) rfl (fun ls hl => ?_)
    refine lv_goto (tgt := 15) hx hb dX1_spreadNearest_58 (by decide) ?_
    exact hK15 v1 y1 S h _ _ _ hI (lv_sub hl [1, 2, 0] rfl)
  have hb15 : ∀ (K2 : Int32 → gw_S → Option (gw_S)) (_ : ∀ (v1 : Int32) (S : gw_S), K2 v1 S = some zS → ∀ (H : Heap) (locs : List Loc) (ls : Array Slot), gw_I D A s.heap (gw_cw cc a b d S) H locs → lv_has ls 4 [(0, .ref (a 15)), (1, .int v1)] → W p l e rm_X1_spreadNearest s m args below meth c H locs 0 0 (MQ below (gw_Q none (gw_Pst D A (fun w => w = gw_cw cc a b d zS)) A) args s 0 0 A) (F0 m 2 ls [])), ∀ (n : Nat), ∀ (v1 : Int32) (v2 : Int32) (S : gw_S), f_X1_spreadNearest_b15 K2 n v1 v2 S = some zS → ∀ (H : Heap) (locs : List Loc) (ls : Array Slot), gw_I D A s.heap (gw_cw cc a b d S) H locs → lv_has ls 4 [(0, .ref (a 15)), (1, .int v1), (2, .int v2)] → W p l e rm_X1_spreadNearest s m args below meth c H locs 0 0 (MQ below (gw_Q none (gw_Pst D A (fun w => w = gw_cw cc a b d zS)) A) args s 0 0 A) (F0 m 15 ls []) := by
    intro K2 hK2
    intro n
    induction n with
    | zero =>
      intro v1 v2 S h
      cases h
    | succ n ih =>
      intro v1 v2 S h H locs ls hI hl
      unfold f_X1_spreadNearest_b15 at h
      refine lv_iload_n hx hb dX1_spreadNearest_15 rfl (lv_at hl 2 rfl) ?_
      refine lv_aload_n hx hb dX1_spreadNearest_16 rfl (lv_at hl 0 rfl) ?_
      refine gw_get (T := TX1) (k := 0) (v := .ref (a 3)) B hI gc_g15 rfl ly_X1_spreadNearest_1 (by decide) m_X1_spreadNearest_26 rfl rfl dX1_spreadNearest_17 ?_
      refine gw_getN (T := TX2) (k := 6) (v := .int (S 3 6)) B hI gc_g3 rfl ly_X1_spreadNearest_2 (by decide) n_RX1_87 rfl rfl dX1_spreadNearest_20 ?_
      refine lv_icmp_ge (tgt := 61) hx hb dX1_spreadNearest_23 (by decide) (fun c3 => ?_) (fun c3 => ?_)
      · replace h := gw_ifT c3 h
        obtain ⟨y4, e5, h⟩ := gw_letE h
        refine lv_iinc (v := y4) (lv' := [(1, .int y4), (0, .ref (a 15)), (2, .int v2)]) hx hb dX1_spreadNearest_61 hl (k := 1) rfl (by rw [e5]; rfl) (by decide) rfl (fun ls hl => ?_)
        refine lv_goto (tgt := 2) hx hb dX1_spreadNearest_64 (by decide) ?_
        exact hK2 y4 S h _ _ _ hI (lv_sub hl [1, 0] rfl)
      · replace h := gw_ifF c3 h
        refine lv_aload_n hx hb dX1_spreadNearest_26 rfl (lv_at hl 0 rfl) ?_
        refine lv_aload_n hx hb dX1_spreadNearest_27 rfl (lv_at hl 0 rfl) ?_
        refine lv_iload_n hx hb dX1_spreadNearest_28 rfl (lv_at hl 1 rfl) ?_
        refine lv_iload_n hx hb dX1_spreadNearest_29 rfl (lv_at hl 2 rfl) ?_
        obtain ⟨r6, e7, h⟩ := gw_bdE h
        refine gw_callV (As := [.int v1, .int v2]) (n := 2) B hI (k_X1_sourceOf v1 v2 S e7) gX1_spreadNearest_X1_sourceOf rfl rfl rfl nd_X1_sourceOf ⟨Nat.le_of_ble_eq_true rfl, Nat.le_of_ble_eq_true rfl⟩ gc_g15 rfl rfl rfl hl.1 (by simp [gw_catq, gw_cI, gw_cR, gw_cL]) dX1_spreadNearest_30 ⟨Nat.le_of_ble_eq_true rfl, Nat.le_of_ble_eq_true rfl⟩ rfl (fun w' H locs hw hI => ?_)
        subst hw
        obtain ⟨r8, e9, h⟩ := gw_bdE h
        refine gw_callV (As := [.int r6]) (n := 1) B hI (k_X1_nearestOf r6 S e9) gX1_spreadNearest_X1_nearestOf rfl rfl rfl nd_X1_nearestOf ⟨Nat.le_of_ble_eq_true rfl, Nat.le_of_ble_eq_true rfl⟩ gc_g15 rfl rfl rfl hl.1 (Nat.zero_le _) dX1_spreadNearest_33 ⟨Nat.le_of_ble_eq_true rfl, Nat.le_of_ble_eq_true rfl⟩ rfl (fun w' H locs hw hI => ?_)
        subst hw
        refine lv_iconst (v := 1) hx hb dX1_spreadNearest_36 (by decide) ?_
        refine lv_iadd hx hb dX1_spreadNearest_37 ?_
        obtain ⟨y10, e11, h⟩ := gw_letE h
        rw [← e11]
        refine lv_istore_n (lv' := [(3, .int y10), (0, .ref (a 15)), (1, .int v1), (2, .int v2)]) hx hb dX1_spreadNearest_38 rfl hl (by decide) rfl (fun ls hl => ?_)
        refine lv_iload_n hx hb dX1_spreadNearest_39 rfl (lv_at hl 0 rfl) ?_
        refine lv_aload_n hx hb dX1_spreadNearest_40 rfl (lv_at hl 1 rfl) ?_
        refine lv_iload_n hx hb dX1_spreadNearest_41 rfl (lv_at hl 2 rfl) ?_
        obtain ⟨r12, e13, h⟩ := gw_bdE h
        refine gw_callV (As := [.int v1]) (n := 1) B hI (k_X1_nearestOf v1 S e13) gX1_spreadNearest_X1_nearestOf rfl rfl rfl nd_X1_nearestOf ⟨Nat.le_of_ble_eq_true rfl, Nat.le_of_ble_eq_true rfl⟩ gc_g15 rfl rfl rfl hl.1 (by simp [gw_catq, gw_cI, gw_cR, gw_cL]) dX1_spreadNearest_42 ⟨Nat.le_of_ble_eq_true rfl, Nat.le_of_ble_eq_true rfl⟩ rfl (fun w' H locs hw hI => ?_)
        subst hw
        refine lv_icmp_ge (tgt := 55) hx hb dX1_spreadNearest_45 (by decide) (fun c14 => ?_) (fun c14 => ?_)
        · replace h := gw_ifT c14 h
          exact hb55 K2 hK2 (f_X1_spreadNearest_b15 K2 n) ih v1 v2 S h _ _ _ hI (lv_sub hl [1, 2, 3] rfl)
        · replace h := gw_ifF c14 h
          refine lv_aload_n hx hb dX1_spreadNearest_48 rfl (lv_at hl 1 rfl) ?_
          refine gw_get (T := TX1) (k := 2) (v := .ref (a 17)) B hI gc_g15 rfl ly_X1_spreadNearest_1 (by decide) m_X1_spreadNearest_17 rfl rfl dX1_spreadNearest_49 ?_
          refine lv_iload_n hx hb dX1_spreadNearest_52 rfl (lv_at hl 2 rfl) ?_
          refine lv_iload_n hx hb dX1_spreadNearest_53 rfl (lv_at hl 0 rfl) ?_
          obtain ⟨g15, h⟩ := gw_gdE h
          obtain ⟨S16, e17, h⟩ := gw_letE h
          refine gw_iast (t0 := 0) (w' := gw_cw cc a b d S16) B hI gc_g17 rfl g15 (gc_s17 e17) dX1_spreadNearest_54 (fun H locs hI => ?_)
          exact hb55 K2 hK2 (f_X1_spreadNearest_b15 K2 n) ih v1 v2 S16 h _ _ _ hI (lv_sub hl [1, 2, 3] rfl)
  have hb2 :  ∀ (n : Nat), ∀ (v1 : Int32) (S : gw_S), f_X1_spreadNearest_b2  n v1 S = some zS → ∀ (H : Heap) (locs : List Loc) (ls : Array Slot), gw_I D A s.heap (gw_cw cc a b d S) H locs → lv_has ls 4 [(0, .ref (a 15)), (1, .int v1)] → W p l e rm_X1_spreadNearest s m args below meth c H locs 0 0 (MQ below (gw_Q none (gw_Pst D A (fun w => w = gw_cw cc a b d zS)) A) args s 0 0 A) (F0 m 2 ls []) := by
    intro n
    induction n with
    | zero =>
      intro v1 S h
      cases h
    | succ n ih =>
      intro v1 S h H locs ls hI hl
      unfold f_X1_spreadNearest_b2 at h
      refine lv_iload_n hx hb dX1_spreadNearest_2 rfl (lv_at hl 1 rfl) ?_
      refine lv_aload_n hx hb dX1_spreadNearest_3 rfl (lv_at hl 0 rfl) ?_
      refine gw_get (T := TX1) (k := 0) (v := .ref (a 3)) B hI gc_g15 rfl ly_X1_spreadNearest_1 (by decide) m_X1_spreadNearest_26 rfl rfl dX1_spreadNearest_4 ?_
      refine gw_getN (T := TX2) (k := 7) (v := .int (S 3 7)) B hI gc_g3 rfl ly_X1_spreadNearest_2 (by decide) n_RX1_50 rfl rfl dX1_spreadNearest_7 ?_
      refine lv_icmp_ge (tgt := 67) hx hb dX1_spreadNearest_10 (by decide) (fun c18 => ?_) (fun c18 => ?_)
      · replace h := gw_ifT c18 h
        rw [Option.some.inj h] at hI
        exact gw_vret (W' := (fun w => w = gw_cw cc a b d zS)) B hI rfl (Nat.zero_le _) (Nat.zero_le _) dX1_spreadNearest_67
      · replace h := gw_ifF c18 h
        refine lv_iconst (v := 0) hx hb dX1_spreadNearest_13 (by decide) ?_
        refine lv_istore_n (lv' := [(2, .int (0 : Int32)), (0, .ref (a 15)), (1, .int v1)]) hx hb dX1_spreadNearest_14 rfl hl (by decide) rfl (fun ls hl => ?_)
        exact hb15 (f_X1_spreadNearest_b2  n) ih gw_F v1 (0 : Int32) S h _ _ _ hI (lv_sub hl [1, 2, 0] rfl)
  unfold f_X1_spreadNearest at h
  refine lv_iconst (v := 0) hx hb dX1_spreadNearest_0 (by decide) ?_
  refine lv_istore_n (lv' := [(1, .int (0 : Int32)), (0, .ref (a 15))]) hx hb dX1_spreadNearest_1 rfl hl (by decide) rfl (fun ls hl => ?_)
  exact hb2  gw_F (0 : Int32) S h _ _ _ hI (lv_sub hl [1, 0] rfl)
theorem m_X2_bookingAt_37 : Cond.fieldLink RX2 37 "GownLet$House" "bookings" "[LGownLet$Booking;" ∈ wsX2_bookingAt := by decide +kernel
theorem m_X2_bookingAt_49 : Cond.fieldLink RX2 49 "GownLet$House" "bookingCount" "I" ∈ wsX2_bookingAt := by decide +kernel
theorem ly_X2_bookingAt_2 : ∀ w ∈ wsX20, w ∈ wsX2_bookingAt := fun w h => List.mem_cons_of_mem _ (List.mem_append_right _ h)
set_option maxRecDepth 100000 in
set_option maxHeartbeats 4000000 in
theorem k_X2_bookingAt (x1 : Int32) (S : gw_S) {zr : Int32} (h : f_X2_bookingAt x1 S = some zr) : gw_M l yX2_bookingAt wsX2_bookingAt rm_X2_bookingAt 0 0 D (gw_ty cc) t1 t2 [.ref (a 3), .int x1] (gw_cw cc a b d S) (fun w => w = gw_cw cc a b d S) (some (va_rf (gw_rf d zr))) := by
  refine gw_enter (cc := cX2_bookingAt) (maxL := 2) (ret := (some (.object "GownLet$Booking"))) (own := RX2) rfl (by decide) rfl (Nat.le_of_ble_eq_true rfl) ?_
  intro p e s m below meth c A B hin hI ls hl
  have hl : lv_has ls 2 [(0, .ref (a 3)), (1, .int x1)] := hl
  generalize ([.ref (a 3), .int x1] : List Value).toArray = args at B ⊢
  have hx := B.1.1
  have hb := B.1.2.1
  have hown : s.vm.findClass RX2 = some m.cls := B.1.2.2.2.1
  have hts := B.1.2.2.2.2
  unfold f_X2_bookingAt at h
  refine lv_iload_n hx hb dX2_bookingAt_0 rfl (lv_at hl 1 rfl) ?_
  refine lv_if_lt (tgt := 27) hx hb dX2_bookingAt_1 (by decide) (fun c1 => ?_) (fun c1 => ?_)
  · replace h := gw_ifT c1 h
    refine gw_null (b := d) B dX2_bookingAt_27 ?_
    rw [← Option.some.inj h]
    exact gw_aret (W' := (fun w => w = gw_cw cc a b d S)) B hI rfl (Nat.zero_le _) (Nat.zero_le _) dX2_bookingAt_28
  · replace h := gw_ifF c1 h
    refine lv_iload_n hx hb dX2_bookingAt_4 rfl (lv_at hl 1 rfl) ?_
    refine lv_aload_n hx hb dX2_bookingAt_5 rfl (lv_at hl 0 rfl) ?_
    refine gw_get (T := TX2) (k := 7) (v := .int (S 3 7)) B hI gc_g3 rfl ly_X2_bookingAt_2 (by decide) m_X2_bookingAt_49 rfl rfl dX2_bookingAt_6 ?_
    refine lv_icmp_ge (tgt := 27) hx hb dX2_bookingAt_9 (by decide) (fun c2 => ?_) (fun c2 => ?_)
    · replace h := gw_ifT c2 h
      refine gw_null (b := d) B dX2_bookingAt_27 ?_
      rw [← Option.some.inj h]
      exact gw_aret (W' := (fun w => w = gw_cw cc a b d S)) B hI rfl (Nat.zero_le _) (Nat.zero_le _) dX2_bookingAt_28
    · replace h := gw_ifF c2 h
      refine lv_iload_n hx hb dX2_bookingAt_12 rfl (lv_at hl 1 rfl) ?_
      refine lv_bipush (v := 30) hx hb dX2_bookingAt_13 (by decide) ?_
      refine lv_icmp_ge (tgt := 27) hx hb dX2_bookingAt_15 (by decide) (fun c3 => ?_) (fun c3 => ?_)
      · replace h := gw_ifT c3 h
        refine gw_null (b := d) B dX2_bookingAt_27 ?_
        rw [← Option.some.inj h]
        exact gw_aret (W' := (fun w => w = gw_cw cc a b d S)) B hI rfl (Nat.zero_le _) (Nat.zero_le _) dX2_bookingAt_28
      · replace h := gw_ifF c3 h
        refine lv_aload_n hx hb dX2_bookingAt_18 rfl (lv_at hl 0 rfl) ?_
        refine gw_get (T := TX2) (k := 4) (v := .ref (a 13)) B hI gc_g3 rfl ly_X2_bookingAt_2 (by decide) m_X2_bookingAt_37 rfl rfl dX2_bookingAt_19 ?_
        refine lv_iload_n hx hb dX2_bookingAt_22 rfl (lv_at hl 1 rfl) ?_
        obtain ⟨g4, h⟩ := gw_gdE h
        refine gw_aald (t0 := 4) (v := va_rf (gw_rf d (S 13 x1.toNatClampNeg))) B hI gc_g13 rfl g4 rfl dX2_bookingAt_23 ?_
        refine lv_goto (tgt := 28) hx hb dX2_bookingAt_24 (by decide) ?_
        rw [← Option.some.inj h]
        exact gw_aret (W' := (fun w => w = gw_cw cc a b d S)) B hI rfl (Nat.zero_le _) (Nat.zero_le _) dX2_bookingAt_28
theorem m_X2_pieceAt_31 : Cond.fieldLink RX2 31 "GownLet$House" "pieces" "[LGownLet$Piece;" ∈ wsX2_pieceAt := by decide +kernel
theorem m_X2_pieceAt_45 : Cond.fieldLink RX2 45 "GownLet$House" "pieceCount" "I" ∈ wsX2_pieceAt := by decide +kernel
theorem ly_X2_pieceAt_2 : ∀ w ∈ wsX20, w ∈ wsX2_pieceAt := fun w h => List.mem_cons_of_mem _ (List.mem_append_right _ h)
set_option maxRecDepth 100000 in
set_option maxHeartbeats 4000000 in
theorem k_X2_pieceAt (x1 : Int32) (S : gw_S) {zr : Int32} (h : f_X2_pieceAt x1 S = some zr) : gw_M l yX2_pieceAt wsX2_pieceAt rm_X2_pieceAt 0 0 D (gw_ty cc) t1 t2 [.ref (a 3), .int x1] (gw_cw cc a b d S) (fun w => w = gw_cw cc a b d S) (some (va_rf (gw_rf b zr))) := by
  refine gw_enter (cc := cX2_pieceAt) (maxL := 2) (ret := (some (.object "GownLet$Piece"))) (own := RX2) rfl (by decide) rfl (Nat.le_of_ble_eq_true rfl) ?_
  intro p e s m below meth c A B hin hI ls hl
  have hl : lv_has ls 2 [(0, .ref (a 3)), (1, .int x1)] := hl
  generalize ([.ref (a 3), .int x1] : List Value).toArray = args at B ⊢
  have hx := B.1.1
  have hb := B.1.2.1
  have hown : s.vm.findClass RX2 = some m.cls := B.1.2.2.2.1
  have hts := B.1.2.2.2.2
  unfold f_X2_pieceAt at h
  refine lv_iload_n hx hb dX2_pieceAt_0 rfl (lv_at hl 1 rfl) ?_
  refine lv_if_lt (tgt := 27) hx hb dX2_pieceAt_1 (by decide) (fun c1 => ?_) (fun c1 => ?_)
  · replace h := gw_ifT c1 h
    refine gw_null (b := b) B dX2_pieceAt_27 ?_
    rw [← Option.some.inj h]
    exact gw_aret (W' := (fun w => w = gw_cw cc a b d S)) B hI rfl (Nat.zero_le _) (Nat.zero_le _) dX2_pieceAt_28
  · replace h := gw_ifF c1 h
    refine lv_iload_n hx hb dX2_pieceAt_4 rfl (lv_at hl 1 rfl) ?_
    refine lv_aload_n hx hb dX2_pieceAt_5 rfl (lv_at hl 0 rfl) ?_
    refine gw_get (T := TX2) (k := 6) (v := .int (S 3 6)) B hI gc_g3 rfl ly_X2_pieceAt_2 (by decide) m_X2_pieceAt_45 rfl rfl dX2_pieceAt_6 ?_
    refine lv_icmp_ge (tgt := 27) hx hb dX2_pieceAt_9 (by decide) (fun c2 => ?_) (fun c2 => ?_)
    · replace h := gw_ifT c2 h
      refine gw_null (b := b) B dX2_pieceAt_27 ?_
      rw [← Option.some.inj h]
      exact gw_aret (W' := (fun w => w = gw_cw cc a b d S)) B hI rfl (Nat.zero_le _) (Nat.zero_le _) dX2_pieceAt_28
    · replace h := gw_ifF c2 h
      refine lv_iload_n hx hb dX2_pieceAt_12 rfl (lv_at hl 1 rfl) ?_
      refine lv_bipush (v := 24) hx hb dX2_pieceAt_13 (by decide) ?_
      refine lv_icmp_ge (tgt := 27) hx hb dX2_pieceAt_15 (by decide) (fun c3 => ?_) (fun c3 => ?_)
      · replace h := gw_ifT c3 h
        refine gw_null (b := b) B dX2_pieceAt_27 ?_
        rw [← Option.some.inj h]
        exact gw_aret (W' := (fun w => w = gw_cw cc a b d S)) B hI rfl (Nat.zero_le _) (Nat.zero_le _) dX2_pieceAt_28
      · replace h := gw_ifF c3 h
        refine lv_aload_n hx hb dX2_pieceAt_18 rfl (lv_at hl 0 rfl) ?_
        refine gw_get (T := TX2) (k := 3) (v := .ref (a 12)) B hI gc_g3 rfl ly_X2_pieceAt_2 (by decide) m_X2_pieceAt_31 rfl rfl dX2_pieceAt_19 ?_
        refine lv_iload_n hx hb dX2_pieceAt_22 rfl (lv_at hl 1 rfl) ?_
        obtain ⟨g4, h⟩ := gw_gdE h
        refine gw_aald (t0 := 3) (v := va_rf (gw_rf b (S 12 x1.toNatClampNeg))) B hI gc_g12 rfl g4 rfl dX2_pieceAt_23 ?_
        refine lv_goto (tgt := 28) hx hb dX2_pieceAt_24 (by decide) ?_
        rw [← Option.some.inj h]
        exact gw_aret (W' := (fun w => w = gw_cw cc a b d S)) B hI rfl (Nat.zero_le _) (Nat.zero_le _) dX2_pieceAt_28
theorem m_X4_isRetired_33 : Cond.fieldLink RX4 33 "GownLet$Piece" "life" "I" ∈ wsX4_isRetired := by decide +kernel
theorem m_X4_isRetired_36 : Cond.fieldLink RX4 36 "GownLet$Piece" "isToldRetired" "Z" ∈ wsX4_isRetired := by decide +kernel
theorem m_X4_isRetired_40 : Cond.fieldLink RX4 40 "GownLet$Piece" "worn" "I" ∈ wsX4_isRetired := by decide +kernel
theorem ly_X4_isRetired_4 : ∀ w ∈ wsX40, w ∈ wsX4_isRetired := fun w h => List.mem_cons_of_mem _ (List.mem_append_right _ h)
set_option maxRecDepth 100000 in
set_option maxHeartbeats 4000000 in
theorem k_X4_isRetired (x0 : Int32) (S : gw_S) {zr : Int32} (h : f_X4_isRetired x0 S = some zr) : gw_M l yX4_isRetired wsX4_isRetired rm_X4_isRetired 0 0 D (gw_ty cc) t1 t2 [.ref (b x0.toNatClampNeg)] (gw_cw cc a b d S) (fun w => w = gw_cw cc a b d S) (some (.int zr)) := by
  refine gw_enter (cc := cX4_isRetired) (maxL := 1) (ret := (some .boolean)) (own := RX4) rfl (by decide) rfl (Nat.le_of_ble_eq_true rfl) ?_
  intro p e s m below meth c A B hin hI ls hl
  have hl : lv_has ls 1 [(0, .ref (b x0.toNatClampNeg))] := hl
  generalize ([.ref (b x0.toNatClampNeg)] : List Value).toArray = args at B ⊢
  have hx := B.1.1
  have hb := B.1.2.1
  have hown : s.vm.findClass RX4 = some m.cls := B.1.2.2.2.1
  have hts := B.1.2.2.2.2
  unfold f_X4_isRetired at h
  refine lv_aload_n hx hb dX4_isRetired_0 rfl (lv_at hl 0 rfl) ?_
  obtain ⟨g1, h⟩ := gw_gdE h
  refine gw_get (T := TX4) (k := 11) (v := .int (S (2 * x0.toNatClampNeg + 30) 11)) B hI (gc_gp g1) rfl ly_X4_isRetired_4 (by decide) m_X4_isRetired_36 rfl rfl dX4_isRetired_1 ?_
  refine lv_if_ne (tgt := 18) hx hb dX4_isRetired_4 (by decide) (fun c2 => ?_) (fun c2 => ?_)
  · replace h := gw_ifF c2 h
    refine lv_iconst (v := 1) hx hb dX4_isRetired_18 (by decide) ?_
    refine lv_goto (tgt := 23) hx hb dX4_isRetired_19 (by decide) ?_
    rw [← Option.some.inj h]
    exact gw_zret (W' := (fun w => w = gw_cw cc a b d S)) B hI rfl (Or.inr rfl) (Nat.zero_le _) (Nat.zero_le _) dX4_isRetired_23
  · replace h := gw_ifT c2 h
    refine lv_aload_n hx hb dX4_isRetired_7 rfl (lv_at hl 0 rfl) ?_
    refine gw_get (T := TX4) (k := 9) (v := .int (S (2 * x0.toNatClampNeg + 30) 9)) B hI (gc_gp g1) rfl ly_X4_isRetired_4 (by decide) m_X4_isRetired_40 rfl rfl dX4_isRetired_8 ?_
    refine lv_aload_n hx hb dX4_isRetired_11 rfl (lv_at hl 0 rfl) ?_
    refine gw_get (T := TX4) (k := 6) (v := .int (S (2 * x0.toNatClampNeg + 30) 6)) B hI (gc_gp g1) rfl ly_X4_isRetired_4 (by decide) m_X4_isRetired_33 rfl rfl dX4_isRetired_12 ?_
    refine lv_icmp_lt (tgt := 22) hx hb dX4_isRetired_15 (by decide) (fun c3 => ?_) (fun c3 => ?_)
    · replace h := gw_ifT c3 h
      refine lv_iconst (v := 0) hx hb dX4_isRetired_22 (by decide) ?_
      rw [← Option.some.inj h]
      exact gw_zret (W' := (fun w => w = gw_cw cc a b d S)) B hI rfl (Or.inl rfl) (Nat.zero_le _) (Nat.zero_le _) dX4_isRetired_23
    · replace h := gw_ifF c3 h
      refine lv_iconst (v := 1) hx hb dX4_isRetired_18 (by decide) ?_
      refine lv_goto (tgt := 23) hx hb dX4_isRetired_19 (by decide) ?_
      rw [← Option.some.inj h]
      exact gw_zret (W' := (fun w => w = gw_cw cc a b d S)) B hI rfl (Or.inr rfl) (Nat.zero_le _) (Nat.zero_le _) dX4_isRetired_23
theorem m_X4_isTorn_9 : Cond.fieldLink RX4 9 "GownLet$Piece" "tornFrom" "I" ∈ wsX4_isTorn := by decide +kernel
theorem ly_X4_isTorn_4 : ∀ w ∈ wsX40, w ∈ wsX4_isTorn := fun w h => List.mem_cons_of_mem _ (List.mem_append_right _ h)
set_option maxRecDepth 100000 in
set_option maxHeartbeats 4000000 in
theorem k_X4_isTorn (x0 : Int32) (S : gw_S) {zr : Int32} (h : f_X4_isTorn x0 S = some zr) : gw_M l yX4_isTorn wsX4_isTorn rm_X4_isTorn 0 0 D (gw_ty cc) t1 t2 [.ref (b x0.toNatClampNeg)] (gw_cw cc a b d S) (fun w => w = gw_cw cc a b d S) (some (.int zr)) := by
  refine gw_enter (cc := cX4_isTorn) (maxL := 1) (ret := (some .boolean)) (own := RX4) rfl (by decide) rfl (Nat.le_of_ble_eq_true rfl) ?_
  intro p e s m below meth c A B hin hI ls hl
  have hl : lv_has ls 1 [(0, .ref (b x0.toNatClampNeg))] := hl
  generalize ([.ref (b x0.toNatClampNeg)] : List Value).toArray = args at B ⊢
  have hx := B.1.1
  have hb := B.1.2.1
  have hown : s.vm.findClass RX4 = some m.cls := B.1.2.2.2.1
  have hts := B.1.2.2.2.2
  unfold f_X4_isTorn at h
  refine lv_aload_n hx hb dX4_isTorn_0 rfl (lv_at hl 0 rfl) ?_
  obtain ⟨g1, h⟩ := gw_gdE h
  refine gw_get (T := TX4) (k := 10) (v := .int (S (2 * x0.toNatClampNeg + 30) 10)) B hI (gc_gp g1) rfl ly_X4_isTorn_4 (by decide) m_X4_isTorn_9 rfl rfl dX4_isTorn_1 ?_
  refine lv_bipush (v := -4) hx hb dX4_isTorn_4 (by decide) ?_
  refine lv_icmp_eq (tgt := 13) hx hb dX4_isTorn_6 (by decide) (fun c2 => ?_) (fun c2 => ?_)
  · replace h := gw_ifT c2 h
    refine lv_iconst (v := 0) hx hb dX4_isTorn_13 (by decide) ?_
    rw [← Option.some.inj h]
    exact gw_zret (W' := (fun w => w = gw_cw cc a b d S)) B hI rfl (Or.inl rfl) (Nat.zero_le _) (Nat.zero_le _) dX4_isTorn_14
  · replace h := gw_ifF c2 h
    refine lv_iconst (v := 1) hx hb dX4_isTorn_9 (by decide) ?_
    refine lv_goto (tgt := 14) hx hb dX4_isTorn_10 (by decide) ?_
    rw [← Option.some.inj h]
    exact gw_zret (W' := (fun w => w = gw_cw cc a b d S)) B hI rfl (Or.inr rfl) (Nat.zero_le _) (Nat.zero_le _) dX4_isTorn_14
theorem m_X4_isTornBy_9 : Cond.fieldLink RX4 9 "GownLet$Piece" "tornFrom" "I" ∈ wsX4_isTornBy := by decide +kernel
theorem ly_X4_isTornBy_4 : ∀ w ∈ wsX40, w ∈ wsX4_isTornBy := fun w h => List.mem_cons_of_mem _ (List.mem_append_right _ h)
set_option maxRecDepth 100000 in
set_option maxHeartbeats 4000000 in
theorem k_X4_isTornBy (x0 : Int32) (x1 : Int32) (S : gw_S) {zr : Int32} (h : f_X4_isTornBy x0 x1 S = some zr) : gw_M l yX4_isTornBy wsX4_isTornBy rm_X4_isTornBy 0 0 D (gw_ty cc) t1 t2 [.ref (b x0.toNatClampNeg), .int x1] (gw_cw cc a b d S) (fun w => w = gw_cw cc a b d S) (some (.int zr)) := by
  refine gw_enter (cc := cX4_isTornBy) (maxL := 2) (ret := (some .boolean)) (own := RX4) rfl (by decide) rfl (Nat.le_of_ble_eq_true rfl) ?_
  intro p e s m below meth c A B hin hI ls hl
  have hl : lv_has ls 2 [(0, .ref (b x0.toNatClampNeg)), (1, .int x1)] := hl
  generalize ([.ref (b x0.toNatClampNeg), .int x1] : List Value).toArray = args at B ⊢
  have hx := B.1.1
  have hb := B.1.2.1
  have hown : s.vm.findClass RX4 = some m.cls := B.1.2.2.2.1
  have hts := B.1.2.2.2.2
  unfold f_X4_isTornBy at h
  refine lv_aload_n hx hb dX4_isTornBy_0 rfl (lv_at hl 0 rfl) ?_
  obtain ⟨g1, h⟩ := gw_gdE h
  obtain ⟨r2, e3, h⟩ := gw_bdE h
  refine gw_callV (As := []) (n := 0) B hI (k_X4_isTorn x0 S e3) gX4_isTornBy_X4_isTorn rfl rfl rfl nd_X4_isTorn ⟨Nat.le_of_ble_eq_true rfl, Nat.le_of_ble_eq_true rfl⟩ (gc_gp g1) rfl rfl rfl hl.1 (Nat.zero_le _) dX4_isTornBy_1 ⟨Nat.le_of_ble_eq_true rfl, Nat.le_of_ble_eq_true rfl⟩ rfl (fun w' H locs hw hI => ?_)
  subst hw
  refine lv_if_eq (tgt := 19) hx hb dX4_isTornBy_4 (by decide) (fun c4 => ?_) (fun c4 => ?_)
  · replace h := gw_ifT c4 h
    refine lv_iconst (v := 0) hx hb dX4_isTornBy_19 (by decide) ?_
    rw [← Option.some.inj h]
    exact gw_zret (W' := (fun w => w = gw_cw cc a b d S)) B hI rfl (Or.inl rfl) (Nat.zero_le _) (Nat.zero_le _) dX4_isTornBy_20
  · replace h := gw_ifF c4 h
    refine lv_aload_n hx hb dX4_isTornBy_7 rfl (lv_at hl 0 rfl) ?_
    refine gw_get (T := TX4) (k := 10) (v := .int (S (2 * x0.toNatClampNeg + 30) 10)) B hI (gc_gp g1) rfl ly_X4_isTornBy_4 (by decide) m_X4_isTornBy_9 rfl rfl dX4_isTornBy_8 ?_
    refine lv_iload_n hx hb dX4_isTornBy_11 rfl (lv_at hl 1 rfl) ?_
    refine lv_icmp_gt (tgt := 19) hx hb dX4_isTornBy_12 (by decide) (fun c5 => ?_) (fun c5 => ?_)
    · replace h := gw_ifT c5 h
      refine lv_iconst (v := 0) hx hb dX4_isTornBy_19 (by decide) ?_
      rw [← Option.some.inj h]
      exact gw_zret (W' := (fun w => w = gw_cw cc a b d S)) B hI rfl (Or.inl rfl) (Nat.zero_le _) (Nat.zero_le _) dX4_isTornBy_20
    · replace h := gw_ifF c5 h
      refine lv_iconst (v := 1) hx hb dX4_isTornBy_15 (by decide) ?_
      refine lv_goto (tgt := 20) hx hb dX4_isTornBy_16 (by decide) ?_
      rw [← Option.some.inj h]
      exact gw_zret (W' := (fun w => w = gw_cw cc a b d S)) B hI rfl (Or.inr rfl) (Nat.zero_le _) (Nat.zero_le _) dX4_isTornBy_20
set_option maxRecDepth 100000 in
set_option maxHeartbeats 4000000 in
theorem k_X4_canBeWornOn (x0 : Int32) (x1 : Int32) (S : gw_S) {zr : Int32} (h : f_X4_canBeWornOn x0 x1 S = some zr) : gw_M l yX4_canBeWornOn wsX4_canBeWornOn rm_X4_canBeWornOn 0 0 D (gw_ty cc) t1 t2 [.ref (b x0.toNatClampNeg), .int x1] (gw_cw cc a b d S) (fun w => w = gw_cw cc a b d S) (some (.int zr)) := by
  refine gw_enter (cc := cX4_canBeWornOn) (maxL := 2) (ret := (some .boolean)) (own := RX4) rfl (by decide) rfl (Nat.le_of_ble_eq_true rfl) ?_
  intro p e s m below meth c A B hin hI ls hl
  have hl : lv_has ls 2 [(0, .ref (b x0.toNatClampNeg)), (1, .int x1)] := hl
  generalize ([.ref (b x0.toNatClampNeg), .int x1] : List Value).toArray = args at B ⊢
  have hx := B.1.1
  have hb := B.1.2.1
  have hown : s.vm.findClass RX4 = some m.cls := B.1.2.2.2.1
  have hts := B.1.2.2.2.2
  unfold f_X4_canBeWornOn at h
  refine lv_aload_n hx hb dX4_canBeWornOn_0 rfl (lv_at hl 0 rfl) ?_
  obtain ⟨g1, h⟩ := gw_gdE h
  obtain ⟨r2, e3, h⟩ := gw_bdE h
  refine gw_callV (As := []) (n := 0) B hI (k_X4_isRetired x0 S e3) gX4_canBeWornOn_X4_isRetired rfl rfl rfl nd_X4_isRetired ⟨Nat.le_of_ble_eq_true rfl, Nat.le_of_ble_eq_true rfl⟩ (gc_gp g1) rfl rfl rfl hl.1 (Nat.zero_le _) dX4_canBeWornOn_1 ⟨Nat.le_of_ble_eq_true rfl, Nat.le_of_ble_eq_true rfl⟩ rfl (fun w' H locs hw hI => ?_)
  subst hw
  refine lv_if_ne (tgt := 19) hx hb dX4_canBeWornOn_4 (by decide) (fun c4 => ?_) (fun c4 => ?_)
  · replace h := gw_ifF c4 h
    refine lv_iconst (v := 0) hx hb dX4_canBeWornOn_19 (by decide) ?_
    rw [← Option.some.inj h]
    exact gw_zret (W' := (fun w => w = gw_cw cc a b d S)) B hI rfl (Or.inl rfl) (Nat.zero_le _) (Nat.zero_le _) dX4_canBeWornOn_20
  · replace h := gw_ifT c4 h
    refine lv_aload_n hx hb dX4_canBeWornOn_7 rfl (lv_at hl 0 rfl) ?_
    refine lv_iload_n hx hb dX4_canBeWornOn_8 rfl (lv_at hl 1 rfl) ?_
    obtain ⟨r5, e6, h⟩ := gw_bdE h
    refine gw_callV (As := [.int x1]) (n := 1) B hI (k_X4_isTornBy x0 x1 S e6) gX4_canBeWornOn_X4_isTornBy rfl rfl rfl nd_X4_isTornBy ⟨Nat.le_of_ble_eq_true rfl, Nat.le_of_ble_eq_true rfl⟩ (gc_gp g1) rfl rfl rfl hl.1 (Nat.zero_le _) dX4_canBeWornOn_9 ⟨Nat.le_of_ble_eq_true rfl, Nat.le_of_ble_eq_true rfl⟩ rfl (fun w' H locs hw hI => ?_)
    subst hw
    refine lv_if_ne (tgt := 19) hx hb dX4_canBeWornOn_12 (by decide) (fun c7 => ?_) (fun c7 => ?_)
    · replace h := gw_ifF c7 h
      refine lv_iconst (v := 0) hx hb dX4_canBeWornOn_19 (by decide) ?_
      rw [← Option.some.inj h]
      exact gw_zret (W' := (fun w => w = gw_cw cc a b d S)) B hI rfl (Or.inl rfl) (Nat.zero_le _) (Nat.zero_le _) dX4_canBeWornOn_20
    · replace h := gw_ifT c7 h
      refine lv_iconst (v := 1) hx hb dX4_canBeWornOn_15 (by decide) ?_
      refine lv_goto (tgt := 20) hx hb dX4_canBeWornOn_16 (by decide) ?_
      rw [← Option.some.inj h]
      exact gw_zret (W' := (fun w => w = gw_cw cc a b d S)) B hI rfl (Or.inr rfl) (Nat.zero_le _) (Nat.zero_le _) dX4_canBeWornOn_20
theorem m_X4_isWanted_15 : Cond.fieldLink RX4 15 "GownLet$Piece" "kind" "I" ∈ wsX4_isWanted := by decide +kernel
theorem ly_X4_isWanted_4 : ∀ w ∈ wsX40, w ∈ wsX4_isWanted := fun w h => List.mem_cons_of_mem _ (List.mem_append_right _ h)
set_option maxRecDepth 100000 in
set_option maxHeartbeats 4000000 in
theorem k_X4_isWanted (x0 : Int32) (x1 : Int32) (S : gw_S) {zr : Int32} (h : f_X4_isWanted x0 x1 S = some zr) : gw_M l yX4_isWanted wsX4_isWanted rm_X4_isWanted 0 0 D (gw_ty cc) t1 t2 [.ref (b x0.toNatClampNeg), .int x1] (gw_cw cc a b d S) (fun w => w = gw_cw cc a b d S) (some (.int zr)) := by
  refine gw_enter (cc := cX4_isWanted) (maxL := 2) (ret := (some .boolean)) (own := RX4) rfl (by decide) rfl (Nat.le_of_ble_eq_true rfl) ?_
  intro p e s m below meth c A B hin hI ls hl
  have hl : lv_has ls 2 [(0, .ref (b x0.toNatClampNeg)), (1, .int x1)] := hl
  generalize ([.ref (b x0.toNatClampNeg), .int x1] : List Value).toArray = args at B ⊢
  have hx := B.1.1
  have hb := B.1.2.1
  have hown : s.vm.findClass RX4 = some m.cls := B.1.2.2.2.1
  have hts := B.1.2.2.2.2
  unfold f_X4_isWanted at h
  refine lv_aload_n hx hb dX4_isWanted_0 rfl (lv_at hl 0 rfl) ?_
  obtain ⟨g1, h⟩ := gw_gdE h
  refine gw_get (T := TX4) (k := 0) (v := .int (S (2 * x0.toNatClampNeg + 30) 0)) B hI (gc_gp g1) rfl ly_X4_isWanted_4 (by decide) m_X4_isWanted_15 rfl rfl dX4_isWanted_1 ?_
  refine lv_iload_n hx hb dX4_isWanted_4 rfl (lv_at hl 1 rfl) ?_
  refine lv_icmp_eq (tgt := 20) hx hb dX4_isWanted_5 (by decide) (fun c2 => ?_) (fun c2 => ?_)
  · replace h := gw_ifT c2 h
    refine lv_iconst (v := 1) hx hb dX4_isWanted_20 (by decide) ?_
    refine lv_goto (tgt := 25) hx hb dX4_isWanted_21 (by decide) ?_
    rw [← Option.some.inj h]
    exact gw_zret (W' := (fun w => w = gw_cw cc a b d S)) B hI rfl (Or.inr rfl) (Nat.zero_le _) (Nat.zero_le _) dX4_isWanted_25
  · replace h := gw_ifF c2 h
    refine lv_iload_n hx hb dX4_isWanted_8 rfl (lv_at hl 1 rfl) ?_
    refine lv_if_ne (tgt := 24) hx hb dX4_isWanted_9 (by decide) (fun c3 => ?_) (fun c3 => ?_)
    · replace h := gw_ifF c3 h
      refine lv_iconst (v := 0) hx hb dX4_isWanted_24 (by decide) ?_
      rw [← Option.some.inj h]
      exact gw_zret (W' := (fun w => w = gw_cw cc a b d S)) B hI rfl (Or.inl rfl) (Nat.zero_le _) (Nat.zero_le _) dX4_isWanted_25
    · replace h := gw_ifT c3 h
      refine lv_aload_n hx hb dX4_isWanted_12 rfl (lv_at hl 0 rfl) ?_
      refine gw_get (T := TX4) (k := 0) (v := .int (S (2 * x0.toNatClampNeg + 30) 0)) B hI (gc_gp g1) rfl ly_X4_isWanted_4 (by decide) m_X4_isWanted_15 rfl rfl dX4_isWanted_13 ?_
      refine lv_iconst (v := 1) hx hb dX4_isWanted_16 (by decide) ?_
      refine lv_icmp_ne (tgt := 24) hx hb dX4_isWanted_17 (by decide) (fun c4 => ?_) (fun c4 => ?_)
      · replace h := gw_ifF c4 h
        refine lv_iconst (v := 0) hx hb dX4_isWanted_24 (by decide) ?_
        rw [← Option.some.inj h]
        exact gw_zret (W' := (fun w => w = gw_cw cc a b d S)) B hI rfl (Or.inl rfl) (Nat.zero_le _) (Nat.zero_le _) dX4_isWanted_25
      · replace h := gw_ifT c4 h
        refine lv_iconst (v := 1) hx hb dX4_isWanted_20 (by decide) ?_
        refine lv_goto (tgt := 25) hx hb dX4_isWanted_21 (by decide) ?_
        rw [← Option.some.inj h]
        exact gw_zret (W' := (fun w => w = gw_cw cc a b d S)) B hI rfl (Or.inr rfl) (Nat.zero_le _) (Nat.zero_le _) dX4_isWanted_25
theorem m_X3_low_13 : Cond.fieldLink RX3 13 "GownLet$Lies" "lows" "[I" ∈ wsX3_low := by decide +kernel
theorem ly_X3_low_3 : ∀ w ∈ wsX30, w ∈ wsX3_low := fun w h => List.mem_cons_of_mem _ (List.mem_append_right _ h)
set_option maxRecDepth 100000 in
set_option maxHeartbeats 4000000 in
theorem k_X3_low (x1 : Int32) (S : gw_S) {zr : Int32} (h : f_X3_low x1 S = some zr) : gw_M l yX3_low wsX3_low rm_X3_low 0 0 D (gw_ty cc) t1 t2 [.ref (a 7), .int x1] (gw_cw cc a b d S) (fun w => w = gw_cw cc a b d S) (some (.int zr)) := by
  refine gw_enter (cc := cX3_low) (maxL := 2) (ret := (some .int)) (own := RX3) rfl (by decide) rfl (Nat.le_of_ble_eq_true rfl) ?_
  intro p e s m below meth c A B hin hI ls hl
  have hl : lv_has ls 2 [(0, .ref (a 7)), (1, .int x1)] := hl
  generalize ([.ref (a 7), .int x1] : List Value).toArray = args at B ⊢
  have hx := B.1.1
  have hb := B.1.2.1
  have hown : s.vm.findClass RX3 = some m.cls := B.1.2.2.2.1
  have hts := B.1.2.2.2.2
  unfold f_X3_low at h
  refine lv_iload_n hx hb dX3_low_0 rfl (lv_at hl 1 rfl) ?_
  refine lv_if_lt (tgt := 19) hx hb dX3_low_1 (by decide) (fun c1 => ?_) (fun c1 => ?_)
  · replace h := gw_ifT c1 h
    refine lv_iconst (v := 0) hx hb dX3_low_19 (by decide) ?_
    rw [← Option.some.inj h]
    exact gw_iret (W' := (fun w => w = gw_cw cc a b d S)) B hI rfl (Nat.zero_le _) (Nat.zero_le _) dX3_low_20
  · replace h := gw_ifF c1 h
    refine lv_iload_n hx hb dX3_low_4 rfl (lv_at hl 1 rfl) ?_
    refine lv_bipush (v := 6) hx hb dX3_low_5 (by decide) ?_
    refine lv_icmp_ge (tgt := 19) hx hb dX3_low_7 (by decide) (fun c2 => ?_) (fun c2 => ?_)
    · replace h := gw_ifT c2 h
      refine lv_iconst (v := 0) hx hb dX3_low_19 (by decide) ?_
      rw [← Option.some.inj h]
      exact gw_iret (W' := (fun w => w = gw_cw cc a b d S)) B hI rfl (Nat.zero_le _) (Nat.zero_le _) dX3_low_20
    · replace h := gw_ifF c2 h
      refine lv_aload_n hx hb dX3_low_10 rfl (lv_at hl 0 rfl) ?_
      refine gw_get (T := TX3) (k := 1) (v := .ref (a 9)) B hI gc_g7 rfl ly_X3_low_3 (by decide) m_X3_low_13 rfl rfl dX3_low_11 ?_
      refine lv_iload_n hx hb dX3_low_14 rfl (lv_at hl 1 rfl) ?_
      obtain ⟨g3, h⟩ := gw_gdE h
      refine gw_iald (t0 := 0) B hI gc_g9 rfl g3 dX3_low_15 ?_
      refine lv_goto (tgt := 20) hx hb dX3_low_16 (by decide) ?_
      rw [← Option.some.inj h]
      exact gw_iret (W' := (fun w => w = gw_cw cc a b d S)) B hI rfl (Nat.zero_le _) (Nat.zero_le _) dX3_low_20
theorem m_X3_high_16 : Cond.fieldLink RX3 16 "GownLet$Lies" "highs" "[I" ∈ wsX3_high := by decide +kernel
theorem ly_X3_high_3 : ∀ w ∈ wsX30, w ∈ wsX3_high := fun w h => List.mem_cons_of_mem _ (List.mem_append_right _ h)
set_option maxRecDepth 100000 in
set_option maxHeartbeats 4000000 in
theorem k_X3_high (x1 : Int32) (S : gw_S) {zr : Int32} (h : f_X3_high x1 S = some zr) : gw_M l yX3_high wsX3_high rm_X3_high 0 0 D (gw_ty cc) t1 t2 [.ref (a 7), .int x1] (gw_cw cc a b d S) (fun w => w = gw_cw cc a b d S) (some (.int zr)) := by
  refine gw_enter (cc := cX3_high) (maxL := 2) (ret := (some .int)) (own := RX3) rfl (by decide) rfl (Nat.le_of_ble_eq_true rfl) ?_
  intro p e s m below meth c A B hin hI ls hl
  have hl : lv_has ls 2 [(0, .ref (a 7)), (1, .int x1)] := hl
  generalize ([.ref (a 7), .int x1] : List Value).toArray = args at B ⊢
  have hx := B.1.1
  have hb := B.1.2.1
  have hown : s.vm.findClass RX3 = some m.cls := B.1.2.2.2.1
  have hts := B.1.2.2.2.2
  unfold f_X3_high at h
  refine lv_iload_n hx hb dX3_high_0 rfl (lv_at hl 1 rfl) ?_
  refine lv_if_lt (tgt := 19) hx hb dX3_high_1 (by decide) (fun c1 => ?_) (fun c1 => ?_)
  · replace h := gw_ifT c1 h
    refine lv_iconst (v := 0) hx hb dX3_high_19 (by decide) ?_
    rw [← Option.some.inj h]
    exact gw_iret (W' := (fun w => w = gw_cw cc a b d S)) B hI rfl (Nat.zero_le _) (Nat.zero_le _) dX3_high_20
  · replace h := gw_ifF c1 h
    refine lv_iload_n hx hb dX3_high_4 rfl (lv_at hl 1 rfl) ?_
    refine lv_bipush (v := 6) hx hb dX3_high_5 (by decide) ?_
    refine lv_icmp_ge (tgt := 19) hx hb dX3_high_7 (by decide) (fun c2 => ?_) (fun c2 => ?_)
    · replace h := gw_ifT c2 h
      refine lv_iconst (v := 0) hx hb dX3_high_19 (by decide) ?_
      rw [← Option.some.inj h]
      exact gw_iret (W' := (fun w => w = gw_cw cc a b d S)) B hI rfl (Nat.zero_le _) (Nat.zero_le _) dX3_high_20
    · replace h := gw_ifF c2 h
      refine lv_aload_n hx hb dX3_high_10 rfl (lv_at hl 0 rfl) ?_
      refine gw_get (T := TX3) (k := 2) (v := .ref (a 10)) B hI gc_g7 rfl ly_X3_high_3 (by decide) m_X3_high_16 rfl rfl dX3_high_11 ?_
      refine lv_iload_n hx hb dX3_high_14 rfl (lv_at hl 1 rfl) ?_
      obtain ⟨g3, h⟩ := gw_gdE h
      refine gw_iald (t0 := 0) B hI gc_g10 rfl g3 dX3_high_15 ?_
      refine lv_goto (tgt := 20) hx hb dX3_high_16 (by decide) ?_
      rw [← Option.some.inj h]
      exact gw_iret (W' := (fun w => w = gw_cw cc a b d S)) B hI rfl (Nat.zero_le _) (Nat.zero_le _) dX3_high_20
theorem m_X2_fitOf_12 : Cond.fieldLink RX2 12 "GownLet$House" "terms" "LGownLet$Terms;" ∈ wsX2_fitOf := by decide +kernel
theorem m_X2_fitOf_21 : Cond.fieldLink RX2 21 "GownLet$House" "lies" "LGownLet$Lies;" ∈ wsX2_fitOf := by decide +kernel
theorem ly_X2_fitOf_2 : ∀ w ∈ wsX20, w ∈ wsX2_fitOf := fun w h => List.mem_cons_of_mem _ (List.mem_append_left _ (List.mem_append_left _ (List.mem_append_left _ (List.mem_append_right _ h))))
theorem ly_X2_fitOf_4 : ∀ w ∈ wsX40, w ∈ wsX2_fitOf := fun w h => List.mem_cons_of_mem _ (List.mem_append_left _ (List.mem_append_left _ (List.mem_append_right _ h)))
set_option maxRecDepth 100000 in
set_option maxHeartbeats 4000000 in
theorem k_X2_fitOf (x1 : Int32) (x2 : Int32) (x3 : Int32) (S : gw_S) {zr : Int32} (h : f_X2_fitOf x1 x2 x3 S = some zr) : gw_M l yX2_fitOf wsX2_fitOf rm_X2_fitOf 0 0 D (gw_ty cc) t1 t2 [.ref (a 3), va_rf (gw_rf b x1), .int x2, .int x3] (gw_cw cc a b d S) (fun w => w = gw_cw cc a b d S) (some (.int zr)) := by
  refine gw_enter (cc := cX2_fitOf) (maxL := 7) (ret := (some .int)) (own := RX2) rfl (by decide) rfl (by simp [lg_sl, gw_catq, gw_cI, gw_cR, gw_cL]) ?_
  intro p e s m below meth c A B hin hI ls hl
  have hl : lv_has ls 7 [(0, .ref (a 3)), (1, va_rf (gw_rf b x1)), (2, .int x2), (3, .int x3)] := by simpa [lv_args, gw_catq, gw_cI, gw_cR, gw_cL] using hl
  generalize ([.ref (a 3), va_rf (gw_rf b x1), .int x2, .int x3] : List Value).toArray = args at B ⊢
  have hx := B.1.1
  have hb := B.1.2.1
  have hown : s.vm.findClass RX2 = some m.cls := B.1.2.2.2.1
  have hts := B.1.2.2.2.2
  have hb87 :  ∀ (v4 : Int32) (v5 : Int32) (v6 : Int32), f_X2_fitOf_b87 S  v4 v5 v6 = some zr → ∀ (H : Heap) (locs : List Loc) (ls : Array Slot), gw_I D A s.heap (gw_cw cc a b d S) H locs → lv_has ls 7 [(4, .int v4), (5, .int v5), (6, .int v6)] → W p l e rm_X2_fitOf s m args below meth c H locs 0 0 (MQ below (gw_Q (some (.int zr)) (gw_Pst D A (fun w => w = gw_cw cc a b d S)) A) args s 0 0 A) (F0 m 87 ls []) := by
    intro v4 v5 v6 h H locs ls hI hl
    unfold f_X2_fitOf_b87 at h
    refine lv_iload hx hb dX2_fitOf_87 (lv_at hl 1 rfl) ?_
    refine lv_iload hx hb dX2_fitOf_89 (lv_at hl 0 rfl) ?_
    refine lv_icmp_gt (tgt := 106) hx hb dX2_fitOf_91 (by decide) (fun c1 => ?_) (fun c1 => ?_)
    · replace h := gw_ifT c1 h
      refine lv_iconst (v := 0) hx hb dX2_fitOf_106 (by decide) ?_
      rw [← Option.some.inj h]
      exact gw_iret (W' := (fun w => w = gw_cw cc a b d S)) B hI rfl (Nat.zero_le _) (Nat.zero_le _) dX2_fitOf_107
    · replace h := gw_ifF c1 h
      refine lv_iload hx hb dX2_fitOf_94 (lv_at hl 2 rfl) ?_
      refine lv_iload hx hb dX2_fitOf_96 (lv_at hl 0 rfl) ?_
      refine lv_ineg hx hb dX2_fitOf_98 ?_
      refine lv_icmp_lt (tgt := 106) hx hb dX2_fitOf_99 (by decide) (fun c2 => ?_) (fun c2 => ?_)
      · replace h := gw_ifT c2 h
        refine lv_iconst (v := 0) hx hb dX2_fitOf_106 (by decide) ?_
        rw [← Option.some.inj h]
        exact gw_iret (W' := (fun w => w = gw_cw cc a b d S)) B hI rfl (Nat.zero_le _) (Nat.zero_le _) dX2_fitOf_107
      · replace h := gw_ifF c2 h
        refine lv_iconst (v := 1) hx hb dX2_fitOf_102 (by decide) ?_
        refine lv_goto (tgt := 107) hx hb dX2_fitOf_103 (by decide) ?_
        rw [← Option.some.inj h]
        exact gw_iret (W' := (fun w => w = gw_cw cc a b d S)) B hI rfl (Nat.zero_le _) (Nat.zero_le _) dX2_fitOf_107
  unfold f_X2_fitOf at h
  refine gw_aload_n B dX2_fitOf_0 rfl (lv_at hl 1 rfl) ?_
  refine lv_iload_n hx hb dX2_fitOf_1 rfl (lv_at hl 3 rfl) ?_
  obtain ⟨g3, h⟩ := gw_gdE h
  rw [gw_rfP g3]
  obtain ⟨g4, h⟩ := gw_gdE h
  obtain ⟨r5, e6, h⟩ := gw_bdE h
  refine gw_callV (As := [.int x3]) (n := 1) B hI (k_X4_isWanted x1 x3 S e6) gX2_fitOf_X4_isWanted rfl rfl rfl nd_X4_isWanted ⟨Nat.le_of_ble_eq_true rfl, Nat.le_of_ble_eq_true rfl⟩ (gc_gp g4) rfl rfl rfl hl.1 (Nat.zero_le _) dX2_fitOf_2 ⟨Nat.le_of_ble_eq_true rfl, Nat.le_of_ble_eq_true rfl⟩ rfl (fun w' H locs hw hI => ?_)
  subst hw
  refine lv_if_ne (tgt := 10) hx hb dX2_fitOf_5 (by decide) (fun c7 => ?_) (fun c7 => ?_)
  · replace h := gw_ifF c7 h
    refine lv_aload_n hx hb dX2_fitOf_10 rfl (lv_at hl 0 rfl) ?_
    refine gw_get (T := TX2) (k := 0) (v := .ref (a 4)) B hI gc_g3 rfl ly_X2_fitOf_2 (by decide) m_X2_fitOf_12 rfl rfl dX2_fitOf_11 ?_
    refine lv_iconst (v := 4) hx hb dX2_fitOf_14 (by decide) ?_
    obtain ⟨r8, e9, h⟩ := gw_bdE h
    refine gw_callV (As := [.int (4 : Int32)]) (n := 1) B hI (k_X7_at (4 : Int32) S e9) gX2_fitOf_X7_at rfl rfl rfl nd_X7_at ⟨Nat.le_of_ble_eq_true rfl, Nat.le_of_ble_eq_true rfl⟩ gc_g4 rfl rfl rfl hl.1 (Nat.zero_le _) dX2_fitOf_15 ⟨Nat.le_of_ble_eq_true rfl, Nat.le_of_ble_eq_true rfl⟩ rfl (fun w' H locs hw hI => ?_)
    subst hw
    refine lv_istore (lv' := [(4, .int r8), (0, .ref (a 3)), (1, va_rf (gw_rf b x1)), (2, .int x2), (3, .int x3)]) hx hb dX2_fitOf_18 hl (by decide) rfl (fun ls hl => ?_)
    refine gw_aload_n B dX2_fitOf_20 rfl (lv_at hl 2 rfl) ?_
    rw [gw_rfP g3]
    refine gw_getN (T := TX4) (k := 2) (v := .int (S (2 * x1.toNatClampNeg + 30) 2)) B hI (gc_gp g4) rfl ly_X2_fitOf_4 (by decide) n_RX2_72 rfl rfl dX2_fitOf_21 ?_
    refine lv_aload_n hx hb dX2_fitOf_24 rfl (lv_at hl 1 rfl) ?_
    refine gw_get (T := TX2) (k := 1) (v := .ref (a 7)) B hI gc_g3 rfl ly_X2_fitOf_2 (by decide) m_X2_fitOf_21 rfl rfl dX2_fitOf_25 ?_
    refine gw_aload_n B dX2_fitOf_28 rfl (lv_at hl 2 rfl) ?_
    rw [gw_rfP g3]
    refine gw_getN (T := TX4) (k := 1) (v := .int (S (2 * x1.toNatClampNeg + 30) 1)) B hI (gc_gp g4) rfl ly_X2_fitOf_4 (by decide) n_RX2_75 rfl rfl dX2_fitOf_29 ?_
    obtain ⟨r10, e11, h⟩ := gw_bdE h
    refine gw_callV (As := [.int (S (2 * x1.toNatClampNeg + 30) 1)]) (n := 1) B hI (k_X3_low (S (2 * x1.toNatClampNeg + 30) 1) S e11) gX2_fitOf_X3_low rfl rfl rfl nd_X3_low ⟨Nat.le_of_ble_eq_true rfl, Nat.le_of_ble_eq_true rfl⟩ gc_g7 rfl rfl rfl hl.1 (by simp [gw_catq, gw_cI, gw_cR, gw_cL]) dX2_fitOf_32 ⟨Nat.le_of_ble_eq_true rfl, Nat.le_of_ble_eq_true rfl⟩ rfl (fun w' H locs hw hI => ?_)
    subst hw
    refine lv_iadd hx hb dX2_fitOf_35 ?_
    refine gw_aload_n B dX2_fitOf_36 rfl (lv_at hl 2 rfl) ?_
    rw [gw_rfP g3]
    refine gw_getN (T := TX4) (k := 8) (v := .int (S (2 * x1.toNatClampNeg + 30) 8)) B hI (gc_gp g4) rfl ly_X2_fitOf_4 (by decide) n_RX2_81 rfl rfl dX2_fitOf_37 ?_
    refine lv_iadd hx hb dX2_fitOf_40 ?_
    refine lv_iload_n hx hb dX2_fitOf_41 rfl (lv_at hl 3 rfl) ?_
    refine lv_isub hx hb dX2_fitOf_42 ?_
    obtain ⟨y12, e13, h⟩ := gw_letE h
    rw [← e13]
    refine lv_istore (lv' := [(5, .int y12), (4, .int r8), (0, .ref (a 3)), (1, va_rf (gw_rf b x1)), (2, .int x2), (3, .int x3)]) hx hb dX2_fitOf_43 hl (by decide) rfl (fun ls hl => ?_)
    refine gw_aload_n B dX2_fitOf_45 rfl (lv_at hl 3 rfl) ?_
    rw [gw_rfP g3]
    refine gw_getN (T := TX4) (k := 2) (v := .int (S (2 * x1.toNatClampNeg + 30) 2)) B hI (gc_gp g4) rfl ly_X2_fitOf_4 (by decide) n_RX2_72 rfl rfl dX2_fitOf_46 ?_
    refine lv_aload_n hx hb dX2_fitOf_49 rfl (lv_at hl 2 rfl) ?_
    refine gw_get (T := TX2) (k := 1) (v := .ref (a 7)) B hI gc_g3 rfl ly_X2_fitOf_2 (by decide) m_X2_fitOf_21 rfl rfl dX2_fitOf_50 ?_
    refine gw_aload_n B dX2_fitOf_53 rfl (lv_at hl 3 rfl) ?_
    rw [gw_rfP g3]
    refine gw_getN (T := TX4) (k := 1) (v := .int (S (2 * x1.toNatClampNeg + 30) 1)) B hI (gc_gp g4) rfl ly_X2_fitOf_4 (by decide) n_RX2_75 rfl rfl dX2_fitOf_54 ?_
    obtain ⟨r14, e15, h⟩ := gw_bdE h
    refine gw_callV (As := [.int (S (2 * x1.toNatClampNeg + 30) 1)]) (n := 1) B hI (k_X3_high (S (2 * x1.toNatClampNeg + 30) 1) S e15) gX2_fitOf_X3_high rfl rfl rfl nd_X3_high ⟨Nat.le_of_ble_eq_true rfl, Nat.le_of_ble_eq_true rfl⟩ gc_g7 rfl rfl rfl hl.1 (by simp [gw_catq, gw_cI, gw_cR, gw_cL]) dX2_fitOf_57 ⟨Nat.le_of_ble_eq_true rfl, Nat.le_of_ble_eq_true rfl⟩ rfl (fun w' H locs hw hI => ?_)
    subst hw
    refine lv_iadd hx hb dX2_fitOf_60 ?_
    refine gw_aload_n B dX2_fitOf_61 rfl (lv_at hl 3 rfl) ?_
    rw [gw_rfP g3]
    refine gw_getN (T := TX4) (k := 8) (v := .int (S (2 * x1.toNatClampNeg + 30) 8)) B hI (gc_gp g4) rfl ly_X2_fitOf_4 (by decide) n_RX2_81 rfl rfl dX2_fitOf_62 ?_
    refine lv_iadd hx hb dX2_fitOf_65 ?_
    refine lv_iload_n hx hb dX2_fitOf_66 rfl (lv_at hl 4 rfl) ?_
    refine lv_isub hx hb dX2_fitOf_67 ?_
    obtain ⟨y16, e17, h⟩ := gw_letE h
    rw [← e17]
    refine lv_istore (lv' := [(6, .int y16), (5, .int y12), (4, .int r8), (0, .ref (a 3)), (1, va_rf (gw_rf b x1)), (2, .int x2), (3, .int x3)]) hx hb dX2_fitOf_68 hl (by decide) rfl (fun ls hl => ?_)
    refine lv_iload hx hb dX2_fitOf_70 (lv_at hl 1 rfl) ?_
    refine lv_iload hx hb dX2_fitOf_72 (lv_at hl 2 rfl) ?_
    refine lv_ineg hx hb dX2_fitOf_74 ?_
    refine lv_icmp_lt (tgt := 87) hx hb dX2_fitOf_75 (by decide) (fun c18 => ?_) (fun c18 => ?_)
    · replace h := gw_ifT c18 h
      exact hb87  r8 y12 y16 h _ _ _ hI (lv_sub hl [2, 1, 0] rfl)
    · replace h := gw_ifF c18 h
      refine lv_iload hx hb dX2_fitOf_78 (lv_at hl 0 rfl) ?_
      refine lv_iload hx hb dX2_fitOf_80 (lv_at hl 2 rfl) ?_
      refine lv_icmp_gt (tgt := 87) hx hb dX2_fitOf_82 (by decide) (fun c19 => ?_) (fun c19 => ?_)
      · replace h := gw_ifT c19 h
        exact hb87  r8 y12 y16 h _ _ _ hI (lv_sub hl [2, 1, 0] rfl)
      · replace h := gw_ifF c19 h
        refine lv_iconst (v := 2) hx hb dX2_fitOf_85 (by decide) ?_
        rw [← Option.some.inj h]
        exact gw_iret (W' := (fun w => w = gw_cw cc a b d S)) B hI rfl (Nat.zero_le _) (Nat.zero_le _) dX2_fitOf_86
  · replace h := gw_ifT c7 h
    refine lv_iconst (v := 0) hx hb dX2_fitOf_8 (by decide) ?_
    rw [← Option.some.inj h]
    exact gw_iret (W' := (fun w => w = gw_cw cc a b d S)) B hI rfl (Nat.zero_le _) (Nat.zero_le _) dX2_fitOf_9
theorem ly_X2_surelyFits_0 : ∀ w ∈ wsX00, w ∈ wsX2_surelyFits := fun w h => List.mem_cons_of_mem _ (List.mem_append_left _ (List.mem_append_left _ (List.mem_append_left _ (List.mem_append_left _ (List.mem_append_right _ h)))))
set_option maxRecDepth 100000 in
set_option maxHeartbeats 4000000 in
theorem k_X2_surelyFits (x1 : Int32) (x2 : Int32) (S : gw_S) {zr : Int32} (h : f_X2_surelyFits x1 x2 S = some zr) : gw_M l yX2_surelyFits wsX2_surelyFits rm_X2_surelyFits 0 0 D (gw_ty cc) t1 t2 [.ref (a 3), va_rf (gw_rf b x1), va_rf (gw_rf d x2)] (gw_cw cc a b d S) (fun w => w = gw_cw cc a b d S) (some (.int zr)) := by
  refine gw_enter (cc := cX2_surelyFits) (maxL := 3) (ret := (some .boolean)) (own := RX2) rfl (by decide) rfl (by simp [lg_sl, gw_catq, gw_cI, gw_cR, gw_cL]) ?_
  intro p e s m below meth c A B hin hI ls hl
  have hl : lv_has ls 3 [(0, .ref (a 3)), (1, va_rf (gw_rf b x1)), (2, va_rf (gw_rf d x2))] := by simpa [lv_args, gw_catq, gw_cI, gw_cR, gw_cL] using hl
  generalize ([.ref (a 3), va_rf (gw_rf b x1), va_rf (gw_rf d x2)] : List Value).toArray = args at B ⊢
  have hx := B.1.1
  have hb := B.1.2.1
  have hown : s.vm.findClass RX2 = some m.cls := B.1.2.2.2.1
  have hts := B.1.2.2.2.2
  unfold f_X2_surelyFits at h
  refine lv_aload_n hx hb dX2_surelyFits_0 rfl (lv_at hl 0 rfl) ?_
  refine gw_aload_n B dX2_surelyFits_1 rfl (lv_at hl 1 rfl) ?_
  refine gw_aload_n B dX2_surelyFits_2 rfl (lv_at hl 2 rfl) ?_
  obtain ⟨g1, h⟩ := gw_gdE h
  rw [gw_rfP g1]
  obtain ⟨g2, h⟩ := gw_gdE h
  refine gw_getN (T := TX0) (k := 1) (v := .int (S (2 * x2.toNatClampNeg + 31) 1)) B hI (gc_gb g2) rfl ly_X2_surelyFits_0 (by decide) n_RX2_87 rfl rfl dX2_surelyFits_3 ?_
  refine gw_aload_n B dX2_surelyFits_6 rfl (lv_at hl 2 rfl) ?_
  rw [gw_rfP g1]
  refine gw_getN (T := TX0) (k := 2) (v := .int (S (2 * x2.toNatClampNeg + 31) 2)) B hI (gc_gb g2) rfl ly_X2_surelyFits_0 (by decide) n_RX2_90 rfl rfl dX2_surelyFits_7 ?_
  obtain ⟨r3, e4, h⟩ := gw_bdE h
  refine gw_callV (As := [va_rf (gw_rf b x1), .int (S (2 * x2.toNatClampNeg + 31) 1), .int (S (2 * x2.toNatClampNeg + 31) 2)]) (n := 3) B hI (k_X2_fitOf x1 (S (2 * x2.toNatClampNeg + 31) 1) (S (2 * x2.toNatClampNeg + 31) 2) S e4) gX2_surelyFits_X2_fitOf rfl rfl rfl nd_X2_fitOf ⟨Nat.le_of_ble_eq_true rfl, Nat.le_of_ble_eq_true rfl⟩ gc_g3 rfl rfl rfl hl.1 (Nat.zero_le _) dX2_surelyFits_10 ⟨Nat.le_of_ble_eq_true rfl, Nat.le_of_ble_eq_true rfl⟩ rfl (fun w' H locs hw hI => ?_)
  subst hw
  refine lv_iconst (v := 2) hx hb dX2_surelyFits_13 (by decide) ?_
  refine lv_icmp_ne (tgt := 21) hx hb dX2_surelyFits_14 (by decide) (fun c5 => ?_) (fun c5 => ?_)
  · replace h := gw_ifF c5 h
    refine lv_iconst (v := 0) hx hb dX2_surelyFits_21 (by decide) ?_
    rw [← Option.some.inj h]
    exact gw_zret (W' := (fun w => w = gw_cw cc a b d S)) B hI rfl (Or.inl rfl) (Nat.zero_le _) (Nat.zero_le _) dX2_surelyFits_22
  · replace h := gw_ifT c5 h
    refine lv_iconst (v := 1) hx hb dX2_surelyFits_17 (by decide) ?_
    refine lv_goto (tgt := 22) hx hb dX2_surelyFits_18 (by decide) ?_
    rw [← Option.some.inj h]
    exact gw_zret (W' := (fun w => w = gw_cw cc a b d S)) B hI rfl (Or.inr rfl) (Nat.zero_le _) (Nat.zero_le _) dX2_surelyFits_22
theorem m_X2_postBetween_25 : Cond.fieldLink RX2 25 "GownLet$House" "post" "[I" ∈ wsX2_postBetween := by decide +kernel
theorem ly_X2_postBetween_2 : ∀ w ∈ wsX20, w ∈ wsX2_postBetween := fun w h => List.mem_cons_of_mem _ (List.mem_append_right _ h)
set_option maxRecDepth 100000 in
set_option maxHeartbeats 4000000 in
theorem k_X2_postBetween (x1 : Int32) (x2 : Int32) (S : gw_S) {zr : Int32} (h : f_X2_postBetween x1 x2 S = some zr) : gw_M l yX2_postBetween wsX2_postBetween rm_X2_postBetween 0 0 D (gw_ty cc) t1 t2 [.ref (a 3), .int x1, .int x2] (gw_cw cc a b d S) (fun w => w = gw_cw cc a b d S) (some (.int zr)) := by
  refine gw_enter (cc := cX2_postBetween) (maxL := 4) (ret := (some .int)) (own := RX2) rfl (by decide) rfl (Nat.le_of_ble_eq_true rfl) ?_
  intro p e s m below meth c A B hin hI ls hl
  have hl : lv_has ls 4 [(0, .ref (a 3)), (1, .int x1), (2, .int x2)] := hl
  generalize ([.ref (a 3), .int x1, .int x2] : List Value).toArray = args at B ⊢
  have hx := B.1.1
  have hb := B.1.2.1
  have hown : s.vm.findClass RX2 = some m.cls := B.1.2.2.2.1
  have hts := B.1.2.2.2.2
  unfold f_X2_postBetween at h
  refine lv_iload_n hx hb dX2_postBetween_0 rfl (lv_at hl 1 rfl) ?_
  refine lv_bipush (v := 9) hx hb dX2_postBetween_1 (by decide) ?_
  refine lv_imul hx hb dX2_postBetween_3 ?_
  refine lv_iload_n hx hb dX2_postBetween_4 rfl (lv_at hl 2 rfl) ?_
  refine lv_iadd hx hb dX2_postBetween_5 ?_
  obtain ⟨y1, e2, h⟩ := gw_letE h
  rw [← e2]
  refine lv_istore_n (lv' := [(3, .int y1), (0, .ref (a 3)), (1, .int x1), (2, .int x2)]) hx hb dX2_postBetween_6 rfl hl (by decide) rfl (fun ls hl => ?_)
  refine lv_iload_n hx hb dX2_postBetween_7 rfl (lv_at hl 0 rfl) ?_
  refine lv_if_lt (tgt := 29) hx hb dX2_postBetween_8 (by decide) (fun c3 => ?_) (fun c3 => ?_)
  · replace h := gw_ifT c3 h
    refine lv_iconst (v := 0) hx hb dX2_postBetween_29 (by decide) ?_
    rw [← Option.some.inj h]
    exact gw_iret (W' := (fun w => w = gw_cw cc a b d S)) B hI rfl (Nat.zero_le _) (Nat.zero_le _) dX2_postBetween_30
  · replace h := gw_ifF c3 h
    refine lv_iload_n hx hb dX2_postBetween_11 rfl (lv_at hl 0 rfl) ?_
    refine lv_aload_n hx hb dX2_postBetween_12 rfl (lv_at hl 1 rfl) ?_
    refine gw_get (T := TX2) (k := 2) (v := .ref (a 11)) B hI gc_g3 rfl ly_X2_postBetween_2 (by decide) m_X2_postBetween_25 rfl rfl dX2_postBetween_13 ?_
    refine gw_alen (t0 := 0) (v := 81) B hI gc_g11 rfl (by decide) dX2_postBetween_16 ?_
    refine lv_icmp_ge (tgt := 29) hx hb dX2_postBetween_17 (by decide) (fun c4 => ?_) (fun c4 => ?_)
    · replace h := gw_ifT c4 h
      refine lv_iconst (v := 0) hx hb dX2_postBetween_29 (by decide) ?_
      rw [← Option.some.inj h]
      exact gw_iret (W' := (fun w => w = gw_cw cc a b d S)) B hI rfl (Nat.zero_le _) (Nat.zero_le _) dX2_postBetween_30
    · replace h := gw_ifF c4 h
      refine lv_aload_n hx hb dX2_postBetween_20 rfl (lv_at hl 1 rfl) ?_
      refine gw_get (T := TX2) (k := 2) (v := .ref (a 11)) B hI gc_g3 rfl ly_X2_postBetween_2 (by decide) m_X2_postBetween_25 rfl rfl dX2_postBetween_21 ?_
      refine lv_iload_n hx hb dX2_postBetween_24 rfl (lv_at hl 0 rfl) ?_
      obtain ⟨g5, h⟩ := gw_gdE h
      refine gw_iald (t0 := 0) B hI gc_g11 rfl g5 dX2_postBetween_25 ?_
      refine lv_goto (tgt := 30) hx hb dX2_postBetween_26 (by decide) ?_
      rw [← Option.some.inj h]
      exact gw_iret (W' := (fun w => w = gw_cw cc a b d S)) B hI rfl (Nat.zero_le _) (Nat.zero_le _) dX2_postBetween_30
end
end
section
/-! contracts: printed by wip/gen -/
section
variable {l : Launch} {D : va_G} {t1 t2 : Nat} {cc : Nat → ClassId} {a b d : Nat → Nat}
theorem m_X2_shareDays_12 : Cond.fieldLink RX2 12 "GownLet$House" "terms" "LGownLet$Terms;" ∈ wsX2_shareDays := by decide +kernel
theorem ly_X2_shareDays_0 : ∀ w ∈ wsX00, w ∈ wsX2_shareDays := fun w h => List.mem_cons_of_mem _ (List.mem_append_left _ (List.mem_append_left _ (List.mem_append_right _ h)))
theorem ly_X2_shareDays_2 : ∀ w ∈ wsX20, w ∈ wsX2_shareDays := fun w h => List.mem_cons_of_mem _ (List.mem_append_left _ (List.mem_append_right _ h))
theorem ly_X2_shareDays_4 : ∀ w ∈ wsX40, w ∈ wsX2_shareDays := fun w h => List.mem_cons_of_mem _ (List.mem_append_left _ (List.mem_append_left _ (List.mem_append_left _ (List.mem_append_right _ h))))
set_option maxRecDepth 100000 in
set_option maxHeartbeats 4000000 in
theorem k_X2_shareDays (x1 : Int32) (x2 : Int32) (x3 : Int32) (S : gw_S) {zr : Int32} (h : f_X2_shareDays x1 x2 x3 S = some zr) : gw_M l yX2_shareDays wsX2_shareDays rm_X2_shareDays 0 0 D (gw_ty cc) t1 t2 [.ref (a 3), va_rf (gw_rf b x1), va_rf (gw_rf d x2), va_rf (gw_rf d x3)] (gw_cw cc a b d S) (fun w => w = gw_cw cc a b d S) (some (.int zr)) := by
  refine gw_enter (cc := cX2_shareDays) (maxL := 6) (ret := (some .boolean)) (own := RX2) rfl (by decide) rfl (by simp [lg_sl, gw_catq, gw_cI, gw_cR, gw_cL]) ?_
  intro p e s m below meth c A B hin hI ls hl
  have hl : lv_has ls 6 [(0, .ref (a 3)), (1, va_rf (gw_rf b x1)), (2, va_rf (gw_rf d x2)), (3, va_rf (gw_rf d x3))] := by simpa [lv_args, gw_catq, gw_cI, gw_cR, gw_cL] using hl
  generalize ([.ref (a 3), va_rf (gw_rf b x1), va_rf (gw_rf d x2), va_rf (gw_rf d x3)] : List Value).toArray = args at B ⊢
  have hx := B.1.1
  have hb := B.1.2.1
  have hown : s.vm.findClass RX2 = some m.cls := B.1.2.2.2.1
  have hts := B.1.2.2.2.2
  unfold f_X2_shareDays at h
  refine lv_aload_n hx hb dX2_shareDays_0 rfl (lv_at hl 0 rfl) ?_
  refine gw_aload_n B dX2_shareDays_1 rfl (lv_at hl 1 rfl) ?_
  obtain ⟨g1, h⟩ := gw_gdE h
  rw [gw_rfP g1]
  obtain ⟨g2, h⟩ := gw_gdE h
  refine gw_getN (T := TX4) (k := 4) (v := .int (S (2 * x1.toNatClampNeg + 30) 4)) B hI (gc_gp g2) rfl ly_X2_shareDays_4 (by decide) n_RX2_105 rfl rfl dX2_shareDays_2 ?_
  refine gw_aload_n B dX2_shareDays_5 rfl (lv_at hl 2 rfl) ?_
  obtain ⟨g3, h⟩ := gw_gdE h
  rw [gw_rfP g3]
  obtain ⟨g4, h⟩ := gw_gdE h
  refine gw_getN (T := TX0) (k := 4) (v := .int (S (2 * x2.toNatClampNeg + 31) 4)) B hI (gc_gb g4) rfl ly_X2_shareDays_0 (by decide) n_RX2_108 rfl rfl dX2_shareDays_6 ?_
  obtain ⟨r5, e6, h⟩ := gw_bdE h
  refine gw_callV (As := [.int (S (2 * x1.toNatClampNeg + 30) 4), .int (S (2 * x2.toNatClampNeg + 31) 4)]) (n := 2) B hI (k_X2_postBetween (S (2 * x1.toNatClampNeg + 30) 4) (S (2 * x2.toNatClampNeg + 31) 4) S e6) gX2_shareDays_X2_postBetween rfl rfl rfl nd_X2_postBetween ⟨Nat.le_of_ble_eq_true rfl, Nat.le_of_ble_eq_true rfl⟩ gc_g3 rfl rfl rfl hl.1 (Nat.zero_le _) dX2_shareDays_9 ⟨Nat.le_of_ble_eq_true rfl, Nat.le_of_ble_eq_true rfl⟩ rfl (fun w' H locs hw hI => ?_)
  subst hw
  refine lv_aload_n hx hb dX2_shareDays_12 rfl (lv_at hl 0 rfl) ?_
  refine gw_aload_n B dX2_shareDays_13 rfl (lv_at hl 1 rfl) ?_
  rw [gw_rfP g1]
  refine gw_getN (T := TX4) (k := 4) (v := .int (S (2 * x1.toNatClampNeg + 30) 4)) B hI (gc_gp g2) rfl ly_X2_shareDays_4 (by decide) n_RX2_105 rfl rfl dX2_shareDays_14 ?_
  refine gw_aload_n B dX2_shareDays_17 rfl (lv_at hl 3 rfl) ?_
  obtain ⟨g7, h⟩ := gw_gdE h
  rw [gw_rfP g7]
  obtain ⟨g8, h⟩ := gw_gdE h
  refine gw_getN (T := TX0) (k := 4) (v := .int (S (2 * x3.toNatClampNeg + 31) 4)) B hI (gc_gb g8) rfl ly_X2_shareDays_0 (by decide) n_RX2_108 rfl rfl dX2_shareDays_18 ?_
  obtain ⟨r9, e10, h⟩ := gw_bdE h
  refine gw_callV (As := [.int (S (2 * x1.toNatClampNeg + 30) 4), .int (S (2 * x3.toNatClampNeg + 31) 4)]) (n := 2) B hI (k_X2_postBetween (S (2 * x1.toNatClampNeg + 30) 4) (S (2 * x3.toNatClampNeg + 31) 4) S e10) gX2_shareDays_X2_postBetween rfl rfl rfl nd_X2_postBetween ⟨Nat.le_of_ble_eq_true rfl, Nat.le_of_ble_eq_true rfl⟩ gc_g3 rfl rfl rfl hl.1 (by simp [gw_catq, gw_cI, gw_cR, gw_cL]) dX2_shareDays_21 ⟨Nat.le_of_ble_eq_true rfl, Nat.le_of_ble_eq_true rfl⟩ rfl (fun w' H locs hw hI => ?_)
  subst hw
  refine lv_iadd hx hb dX2_shareDays_24 ?_
  obtain ⟨y11, e12, h⟩ := gw_letE h
  rw [← e12]
  refine lv_istore (i := 4) (lv' := [(4, .int y11), (0, .ref (a 3)), (1, va_rf (gw_rf b x1)), (2, va_rf (gw_rf d x2)), (3, va_rf (gw_rf d x3))]) hx hb dX2_shareDays_25 hl (by decide) (by simp [gw_catq, gw_cI, gw_cR, gw_cL]) (fun ls hl => ?_)
  refine lv_iload hx hb dX2_shareDays_27 (lv_at hl 0 rfl) ?_
  refine lv_aload_n hx hb dX2_shareDays_29 rfl (lv_at hl 1 rfl) ?_
  refine gw_get (T := TX2) (k := 0) (v := .ref (a 4)) B hI gc_g3 rfl ly_X2_shareDays_2 (by decide) m_X2_shareDays_12 rfl rfl dX2_shareDays_30 ?_
  refine lv_iconst (v := 0) hx hb dX2_shareDays_33 (by decide) ?_
  obtain ⟨r13, e14, h⟩ := gw_bdE h
  refine gw_callV (As := [.int (0 : Int32)]) (n := 1) B hI (k_X7_at (0 : Int32) S e14) gX2_shareDays_X7_at rfl rfl rfl nd_X7_at ⟨Nat.le_of_ble_eq_true rfl, Nat.le_of_ble_eq_true rfl⟩ gc_g4 rfl rfl rfl hl.1 (by simp [gw_catq, gw_cI, gw_cR, gw_cL]) dX2_shareDays_34 ⟨Nat.le_of_ble_eq_true rfl, Nat.le_of_ble_eq_true rfl⟩ rfl (fun w' H locs hw hI => ?_)
  subst hw
  refine lv_iadd hx hb dX2_shareDays_37 ?_
  refine lv_aload_n hx hb dX2_shareDays_38 rfl (lv_at hl 1 rfl) ?_
  refine gw_get (T := TX2) (k := 0) (v := .ref (a 4)) B hI gc_g3 rfl ly_X2_shareDays_2 (by decide) m_X2_shareDays_12 rfl rfl dX2_shareDays_39 ?_
  refine lv_iconst (v := 1) hx hb dX2_shareDays_42 (by decide) ?_
  obtain ⟨r15, e16, h⟩ := gw_bdE h
  refine gw_callV (As := [.int (1 : Int32)]) (n := 1) B hI (k_X7_at (1 : Int32) S e16) gX2_shareDays_X7_at rfl rfl rfl nd_X7_at ⟨Nat.le_of_ble_eq_true rfl, Nat.le_of_ble_eq_true rfl⟩ gc_g4 rfl rfl rfl hl.1 (by simp [gw_catq, gw_cI, gw_cR, gw_cL]) dX2_shareDays_43 ⟨Nat.le_of_ble_eq_true rfl, Nat.le_of_ble_eq_true rfl⟩ rfl (fun w' H locs hw hI => ?_)
  subst hw
  refine lv_iadd hx hb dX2_shareDays_46 ?_
  obtain ⟨y17, e18, h⟩ := gw_letE h
  rw [← e18]
  refine lv_istore (lv' := [(5, .int y17), (4, .int y11), (0, .ref (a 3)), (1, va_rf (gw_rf b x1)), (2, va_rf (gw_rf d x2)), (3, va_rf (gw_rf d x3))]) hx hb dX2_shareDays_47 hl (by decide) rfl (fun ls hl => ?_)
  refine gw_aload_n B dX2_shareDays_49 rfl (lv_at hl 4 rfl) ?_
  rw [gw_rfP g3]
  refine gw_getN (T := TX0) (k := 3) (v := .int (S (2 * x2.toNatClampNeg + 31) 3)) B hI (gc_gb g4) rfl ly_X2_shareDays_0 (by decide) n_RX2_102 rfl rfl dX2_shareDays_50 ?_
  refine gw_aload_n B dX2_shareDays_53 rfl (lv_at hl 5 rfl) ?_
  rw [gw_rfP g7]
  refine gw_getN (T := TX0) (k := 3) (v := .int (S (2 * x3.toNatClampNeg + 31) 3)) B hI (gc_gb g8) rfl ly_X2_shareDays_0 (by decide) n_RX2_102 rfl rfl dX2_shareDays_54 ?_
  refine lv_isub hx hb dX2_shareDays_57 ?_
  refine gw_mabs B hl.1 (hown := hown) (by decide +kernel) (by decide +kernel) (by decide +kernel) (by decide +kernel) (by decide) (by simp [gw_catq, gw_cI, gw_cR, gw_cL]) (Nat.zero_le _) (Nat.zero_le _) dX2_shareDays_58 ?_
  refine lv_iload hx hb dX2_shareDays_61 (lv_at hl 0 rfl) ?_
  refine lv_icmp_gt (tgt := 70) hx hb dX2_shareDays_63 (by decide) (fun c19 => ?_) (fun c19 => ?_)
  · replace h := gw_ifT c19 h
    refine lv_iconst (v := 0) hx hb dX2_shareDays_70 (by decide) ?_
    rw [← Option.some.inj h]
    exact gw_zret (W' := (fun w => w = gw_cw cc a b d S)) B hI rfl (Or.inl rfl) (Nat.zero_le _) (Nat.zero_le _) dX2_shareDays_71
  · replace h := gw_ifF c19 h
    refine lv_iconst (v := 1) hx hb dX2_shareDays_66 (by decide) ?_
    refine lv_goto (tgt := 71) hx hb dX2_shareDays_67 (by decide) ?_
    rw [← Option.some.inj h]
    exact gw_zret (W' := (fun w => w = gw_cw cc a b d S)) B hI rfl (Or.inr rfl) (Nat.zero_le _) (Nat.zero_le _) dX2_shareDays_71
theorem m_X2_holderInTheWay_49 : Cond.fieldLink RX2 49 "GownLet$House" "bookingCount" "I" ∈ wsX2_holderInTheWay := by decide +kernel
theorem ly_X2_holderInTheWay_0 : ∀ w ∈ wsX00, w ∈ wsX2_holderInTheWay := fun w h => List.mem_cons_of_mem _ (List.mem_append_left _ (List.mem_append_left _ (List.mem_append_right _ h)))
theorem ly_X2_holderInTheWay_2 : ∀ w ∈ wsX20, w ∈ wsX2_holderInTheWay := fun w h => List.mem_cons_of_mem _ (List.mem_append_left _ (List.mem_append_left _ (List.mem_append_left _ (List.mem_append_right _ h))))
set_option maxRecDepth 100000 in
set_option maxHeartbeats 4000000 in
theorem k_X2_holderInTheWay (x1 : Int32) (x2 : Int32) (S : gw_S) {zr : Int32} (h : f_X2_holderInTheWay x1 x2 S = some zr) : gw_M l yX2_holderInTheWay wsX2_holderInTheWay rm_X2_holderInTheWay 0 0 D (gw_ty cc) t1 t2 [.ref (a 3), va_rf (gw_rf b x1), va_rf (gw_rf d x2)] (gw_cw cc a b d S) (fun w => w = gw_cw cc a b d S) (some (.int zr)) := by
  refine gw_enter (cc := cX2_holderInTheWay) (maxL := 6) (ret := (some .int)) (own := RX2) rfl (by decide) rfl (by simp [lg_sl, gw_catq, gw_cI, gw_cR, gw_cL]) ?_
  intro p e s m below meth c A B hin hI ls hl
  have hl : lv_has ls 6 [(0, .ref (a 3)), (1, va_rf (gw_rf b x1)), (2, va_rf (gw_rf d x2))] := by simpa [lv_args, gw_catq, gw_cI, gw_cR, gw_cL] using hl
  generalize ([.ref (a 3), va_rf (gw_rf b x1), va_rf (gw_rf d x2)] : List Value).toArray = args at B ⊢
  have hx := B.1.1
  have hb := B.1.2.1
  have hown : s.vm.findClass RX2 = some m.cls := B.1.2.2.2.1
  have hts := B.1.2.2.2.2
  have hb67 : ∀ (K5 : Int32 → Int32 → Int32 → Int32 → Option (Int32)) (_ : ∀ (v1 : Int32) (v2 : Int32) (v3 : Int32) (v4 : Int32), K5 v1 v2 v3 v4 = some zr → ∀ (H : Heap) (locs : List Loc) (ls : Array Slot), gw_I D A s.heap (gw_cw cc a b d S) H locs → lv_has ls 6 [(0, .ref (a 3)), (1, va_rf (gw_rf b v1)), (2, va_rf (gw_rf d v2)), (3, .int v3), (4, .int v4)] → W p l e rm_X2_holderInTheWay s m args below meth c H locs 0 0 (MQ below (gw_Q (some (.int zr)) (gw_Pst D A (fun w => w = gw_cw cc a b d S)) A) args s 0 0 A) (F0 m 5 ls [])), ∀ (v1 : Int32) (v2 : Int32) (v3 : Int32) (v4 : Int32), f_X2_holderInTheWay_b67 S K5 v1 v2 v3 v4 = some zr → ∀ (H : Heap) (locs : List Loc) (ls : Array Slot), gw_I D A s.heap (gw_cw cc a b d S) H locs → lv_has ls 6 [(0, .ref (a 3)), (1, va_rf (gw_rf b v1)), (2, va_rf (gw_rf d v2)), (3, .int v3), (4, .int v4)] → W p l e rm_X2_holderInTheWay s m args below meth c H locs 0 0 (MQ below (gw_Q (some (.int zr)) (gw_Pst D A (fun w => w = gw_cw cc a b d S)) A) args s 0 0 A) (F0 m 67 ls []) := by
    intro K5 hK5
    intro v1 v2 v3 v4 h H locs ls hI hl
    unfold f_X2_holderInTheWay_b67 at h
    obtain ⟨y1, e2, h⟩ := gw_letE h
    refine lv_iinc (v := y1) (lv' := [(4, .int y1), (0, .ref (a 3)), (1, va_rf (gw_rf b v1)), (2, va_rf (gw_rf d v2)), (3, .int v3)]) hx hb dX2_holderInTheWay_67 hl (k := 4) rfl (by rw [e2]; rfl) (by decide) rfl (fun ls hl => ?_)
    refine lv_goto (tgt := 5) hx hb dX2_holderInTheWay_70 (by decide) ?_
    exact hK5 v1 v2 v3 y1 h _ _ _ hI (lv_sub hl [1, 2, 3, 4, 0] rfl)
  have hb5 :  ∀ (n : Nat), ∀ (v1 : Int32) (v2 : Int32) (v3 : Int32) (v4 : Int32), f_X2_holderInTheWay_b5 S  n v1 v2 v3 v4 = some zr → ∀ (H : Heap) (locs : List Loc) (ls : Array Slot), gw_I D A s.heap (gw_cw cc a b d S) H locs → lv_has ls 6 [(0, .ref (a 3)), (1, va_rf (gw_rf b v1)), (2, va_rf (gw_rf d v2)), (3, .int v3), (4, .int v4)] → W p l e rm_X2_holderInTheWay s m args below meth c H locs 0 0 (MQ below (gw_Q (some (.int zr)) (gw_Pst D A (fun w => w = gw_cw cc a b d S)) A) args s 0 0 A) (F0 m 5 ls []) := by
    intro n
    induction n with
    | zero =>
      intro v1 v2 v3 v4 h
      cases h
    | succ n ih =>
      intro v1 v2 v3 v4 h H locs ls hI hl
      unfold f_X2_holderInTheWay_b5 at h
      refine lv_iload hx hb dX2_holderInTheWay_5 (lv_at hl 4 rfl) ?_
      refine lv_aload_n hx hb dX2_holderInTheWay_7 rfl (lv_at hl 0 rfl) ?_
      refine gw_get (T := TX2) (k := 7) (v := .int (S 3 7)) B hI gc_g3 rfl ly_X2_holderInTheWay_2 (by decide) m_X2_holderInTheWay_49 rfl rfl dX2_holderInTheWay_8 ?_
      refine lv_icmp_ge (tgt := 73) hx hb dX2_holderInTheWay_11 (by decide) (fun c3 => ?_) (fun c3 => ?_)
      · replace h := gw_ifT c3 h
        refine lv_iload_n hx hb dX2_holderInTheWay_73 rfl (lv_at hl 3 rfl) ?_
        rw [← Option.some.inj h]
        exact gw_iret (W' := (fun w => w = gw_cw cc a b d S)) B hI rfl (Nat.zero_le _) (Nat.zero_le _) dX2_holderInTheWay_74
      · replace h := gw_ifF c3 h
        refine lv_aload_n hx hb dX2_holderInTheWay_14 rfl (lv_at hl 0 rfl) ?_
        refine lv_iload hx hb dX2_holderInTheWay_15 (lv_at hl 4 rfl) ?_
        obtain ⟨r4, e5, h⟩ := gw_bdE h
        refine gw_callV (As := [.int v4]) (n := 1) B hI (k_X2_bookingAt v4 S e5) gX2_holderInTheWay_X2_bookingAt rfl rfl rfl nd_X2_bookingAt ⟨Nat.le_of_ble_eq_true rfl, Nat.le_of_ble_eq_true rfl⟩ gc_g3 rfl rfl rfl hl.1 (Nat.zero_le _) dX2_holderInTheWay_17 ⟨Nat.le_of_ble_eq_true rfl, Nat.le_of_ble_eq_true rfl⟩ rfl (fun w' H locs hw hI => ?_)
        subst hw
        refine gw_astore (lv' := [(5, va_rf (gw_rf d r4)), (0, .ref (a 3)), (1, va_rf (gw_rf b v1)), (2, va_rf (gw_rf d v2)), (3, .int v3), (4, .int v4)]) B dX2_holderInTheWay_20 hl (by decide) rfl (fun ls hl => ?_)
        refine gw_aload B dX2_holderInTheWay_22 (lv_at hl 0 rfl) ?_
        refine gw_ifnull (tgt := 67) B dX2_holderInTheWay_24 (by decide) (fun c6 => ?_) (fun c6 => ?_)
        · replace h := gw_ifT c6 h
          exact hb67 (f_X2_holderInTheWay_b5 S  n) ih v1 v2 v3 v4 h _ _ _ hI (lv_sub hl [1, 2, 3, 4, 5] rfl)
        · replace h := gw_ifF c6 h
          refine gw_aload B dX2_holderInTheWay_27 (lv_at hl 0 rfl) ?_
          refine gw_aload_n B dX2_holderInTheWay_29 rfl (lv_at hl 3 rfl) ?_
          obtain ⟨g7, h⟩ := gw_gdE h
          obtain ⟨g8, h⟩ := gw_gdE h
          refine gw_acmp_eqb (tgt := 67) B hI g7 g8 dX2_holderInTheWay_30 (by decide) (fun c9 => ?_) (fun c9 => ?_)
          · replace h := gw_ifT c9 h
            exact hb67 (f_X2_holderInTheWay_b5 S  n) ih v1 v2 v3 v4 h _ _ _ hI (lv_sub hl [1, 2, 3, 4, 5] rfl)
          · replace h := gw_ifF c9 h
            refine gw_aload B dX2_holderInTheWay_33 (lv_at hl 0 rfl) ?_
            rw [gw_rfP c6]
            obtain ⟨g10, h⟩ := gw_gdE h
            refine gw_getN (T := TX0) (k := 8) (v := va_rf (gw_rf b (S (2 * r4.toNatClampNeg + 31) 8))) B hI (gc_gb g10) rfl ly_X2_holderInTheWay_0 (by decide) n_RX2_117 rfl rfl dX2_holderInTheWay_35 ?_
            refine gw_aload_n B dX2_holderInTheWay_38 rfl (lv_at hl 2 rfl) ?_
            obtain ⟨g11, h⟩ := gw_gdE h
            obtain ⟨g12, h⟩ := gw_gdE h
            refine gw_acmp_nep (tgt := 67) B hI g11 g12 dX2_holderInTheWay_39 (by decide) (fun c13 => ?_) (fun c13 => ?_)
            · replace h := gw_ifF c13 h
              exact hb67 (f_X2_holderInTheWay_b5 S  n) ih v1 v2 v3 v4 h _ _ _ hI (lv_sub hl [1, 2, 3, 4, 5] rfl)
            · replace h := gw_ifT c13 h
              refine lv_aload_n hx hb dX2_holderInTheWay_42 rfl (lv_at hl 1 rfl) ?_
              refine gw_aload_n B dX2_holderInTheWay_43 rfl (lv_at hl 2 rfl) ?_
              refine gw_aload_n B dX2_holderInTheWay_44 rfl (lv_at hl 3 rfl) ?_
              refine gw_aload B dX2_holderInTheWay_45 (lv_at hl 0 rfl) ?_
              obtain ⟨r14, e15, h⟩ := gw_bdE h
              refine gw_callV (As := [va_rf (gw_rf b v1), va_rf (gw_rf d v2), va_rf (gw_rf d r4)]) (n := 3) B hI (k_X2_shareDays v1 v2 r4 S e15) gX2_holderInTheWay_X2_shareDays rfl rfl rfl nd_X2_shareDays ⟨Nat.le_of_ble_eq_true rfl, Nat.le_of_ble_eq_true rfl⟩ gc_g3 rfl rfl rfl hl.1 (Nat.zero_le _) dX2_holderInTheWay_47 ⟨Nat.le_of_ble_eq_true rfl, Nat.le_of_ble_eq_true rfl⟩ rfl (fun w' H locs hw hI => ?_)
              subst hw
              refine lv_if_ne (tgt := 56) hx hb dX2_holderInTheWay_50 (by decide) (fun c16 => ?_) (fun c16 => ?_)
              · replace h := gw_ifF c16 h
                refine lv_iload_n hx hb dX2_holderInTheWay_56 rfl (lv_at hl 4 rfl) ?_
                refine lv_iconst (v := -1) hx hb dX2_holderInTheWay_57 (by decide) ?_
                refine lv_icmp_eq (tgt := 64) hx hb dX2_holderInTheWay_58 (by decide) (fun c17 => ?_) (fun c17 => ?_)
                · replace h := gw_ifT c17 h
                  refine lv_iload hx hb dX2_holderInTheWay_64 (lv_at hl 5 rfl) ?_
                  refine lv_istore_n (i := 3) (lv' := [(3, .int v4), (5, va_rf (gw_rf d r4)), (0, .ref (a 3)), (1, va_rf (gw_rf b v1)), (2, va_rf (gw_rf d v2)), (4, .int v4)]) hx hb dX2_holderInTheWay_66 rfl hl (by decide) (by simp [gw_catq, gw_cI, gw_cR, gw_cL]) (fun ls hl => ?_)
                  exact hb67 (f_X2_holderInTheWay_b5 S  n) ih v1 v2 v4 v4 h _ _ _ hI (lv_sub hl [2, 3, 4, 0, 5] rfl)
                · replace h := gw_ifF c17 h
                  refine lv_bipush (v := -2) hx hb dX2_holderInTheWay_61 (by decide) ?_
                  rw [← Option.some.inj h]
                  exact gw_iret (W' := (fun w => w = gw_cw cc a b d S)) B hI rfl (Nat.zero_le _) (Nat.zero_le _) dX2_holderInTheWay_63
              · replace h := gw_ifT c16 h
                refine lv_goto (tgt := 67) hx hb dX2_holderInTheWay_53 (by decide) ?_
                exact hb67 (f_X2_holderInTheWay_b5 S  n) ih v1 v2 v3 v4 h _ _ _ hI (lv_sub hl [1, 2, 3, 4, 5] rfl)
  unfold f_X2_holderInTheWay at h
  refine lv_iconst (v := -1) hx hb dX2_holderInTheWay_0 (by decide) ?_
  refine lv_istore_n (i := 3) (lv' := [(3, .int (-1 : Int32)), (0, .ref (a 3)), (1, va_rf (gw_rf b x1)), (2, va_rf (gw_rf d x2))]) hx hb dX2_holderInTheWay_1 rfl hl (by decide) (by simp [gw_catq, gw_cI, gw_cR, gw_cL]) (fun ls hl => ?_)
  refine lv_iconst (v := 0) hx hb dX2_holderInTheWay_2 (by decide) ?_
  refine lv_istore (lv' := [(4, .int (0 : Int32)), (3, .int (-1 : Int32)), (0, .ref (a 3)), (1, va_rf (gw_rf b x1)), (2, va_rf (gw_rf d x2))]) hx hb dX2_holderInTheWay_3 hl (by decide) rfl (fun ls hl => ?_)
  exact hb5  gw_F x1 x2 (-1 : Int32) (0 : Int32) h _ _ _ hI (lv_sub hl [2, 3, 4, 1, 0] rfl)
theorem m_X1_readSources_11 : Cond.fieldLink RX1 11 "GownLet$Chain" "source" "[I" ∈ wsX1_readSources := by decide +kernel
theorem m_X1_readSources_17 : Cond.fieldLink RX1 17 "GownLet$Chain" "nearest" "[I" ∈ wsX1_readSources := by decide +kernel
theorem m_X1_readSources_26 : Cond.fieldLink RX1 26 "GownLet$Chain" "house" "LGownLet$House;" ∈ wsX1_readSources := by decide +kernel
theorem ly_X1_readSources_0 : ∀ w ∈ wsX00, w ∈ wsX1_readSources := fun w h => List.mem_cons_of_mem _ (List.mem_append_left _ (List.mem_append_left _ (List.mem_append_left _ (List.mem_append_left _ (List.mem_append_left _ (List.mem_append_right _ h))))))
theorem ly_X1_readSources_1 : ∀ w ∈ wsX10, w ∈ wsX1_readSources := fun w h => List.mem_cons_of_mem _ (List.mem_append_left _ (List.mem_append_left _ (List.mem_append_left _ (List.mem_append_left _ (List.mem_append_right _ h)))))
theorem ly_X1_readSources_2 : ∀ w ∈ wsX20, w ∈ wsX1_readSources := fun w h => List.mem_cons_of_mem _ (List.mem_append_left _ (List.mem_append_left _ (List.mem_append_left _ (List.mem_append_right _ h))))
set_option maxRecDepth 100000 in
set_option maxHeartbeats 4000000 in
theorem k_X1_readSources (x1 : Int32) (x2 : Int32) (S : gw_S)  {zS : gw_S} (h : f_X1_readSources x1 x2 S = some zS) : gw_M l yX1_readSources wsX1_readSources rm_X1_readSources 0 0 D (gw_ty cc) t1 t2 [.ref (a 15), va_rf (gw_rf d x1), va_rf (gw_rf d x2)] (gw_cw cc a b d S) (fun w => w = gw_cw cc a b d zS) none := by
  refine gw_enter (cc := cX1_readSources) (maxL := 8) (ret := none) (own := RX1) rfl (by decide) rfl (by simp [lg_sl, gw_catq, gw_cI, gw_cR, gw_cL]) ?_
  intro p e s m below meth c A B hin hI ls hl
  have hl : lv_has ls 8 [(0, .ref (a 15)), (1, va_rf (gw_rf d x1)), (2, va_rf (gw_rf d x2))] := by simpa [lv_args, gw_catq, gw_cI, gw_cR, gw_cL] using hl
  generalize ([.ref (a 15), va_rf (gw_rf d x1), va_rf (gw_rf d x2)] : List Value).toArray = args at B ⊢
  have hx := B.1.1
  have hb := B.1.2.1
  have hown : s.vm.findClass RX1 = some m.cls := B.1.2.2.2.1
  have hts := B.1.2.2.2.2
  have hb163 : ∀ (K37 : Int32 → Int32 → Int32 → gw_S → Option (gw_S)) (_ : ∀ (v1 : Int32) (v3 : Int32) (v4 : Int32) (S : gw_S), K37 v1 v3 v4 S = some zS → ∀ (H : Heap) (locs : List Loc) (ls : Array Slot), gw_I D A s.heap (gw_cw cc a b d S) H locs → lv_has ls 8 [(0, .ref (a 15)), (1, va_rf (gw_rf d v1)), (3, .int v3), (4, .int v4)] → W p l e rm_X1_readSources s m args below meth c H locs 0 0 (MQ below (gw_Q none (gw_Pst D A (fun w => w = gw_cw cc a b d zS)) A) args s 0 0 A) (F0 m 37 ls [])), ∀ (v1 : Int32) (v3 : Int32) (v4 : Int32) (v5 : Int32) (S : gw_S), f_X1_readSources_b163 K37 v1 v3 v4 v5 S = some zS → ∀ (H : Heap) (locs : List Loc) (ls : Array Slot), gw_I D A s.heap (gw_cw cc a b d S) H locs → lv_has ls 8 [(0, .ref (a 15)), (1, va_rf (gw_rf d v1)), (3, .int v3), (4, .int v4), (5, .int v5)] → W p l e rm_X1_readSources s m args below meth c H locs 0 0 (MQ below (gw_Q none (gw_Pst D A (fun w => w = gw_cw cc a b d zS)) A) args s 0 0 A) (F0 m 163 ls []) := by
    intro K37 hK37
    intro v1 v3 v4 v5 S h H locs ls hI hl
    unfold f_X1_readSources_b163 at h
    refine lv_aload_n hx hb dX1_readSources_163 rfl (lv_at hl 0 rfl) ?_
    refine gw_get (T := TX1) (k := 1) (v := .ref (a 16)) B hI gc_g15 rfl ly_X1_readSources_1 (by decide) m_X1_readSources_11 rfl rfl dX1_readSources_164 ?_
    refine gw_aload_n B dX1_readSources_167 rfl (lv_at hl 1 rfl) ?_
    obtain ⟨g1, h⟩ := gw_gdE h
    rw [gw_rfP g1]
    obtain ⟨g2, h⟩ := gw_gdE h
    refine gw_getN (T := TX0) (k := 0) (v := .int (S (2 * v1.toNatClampNeg + 31) 0)) B hI (gc_gb g2) rfl ly_X1_readSources_0 (by decide) n_RX1_64 rfl rfl dX1_readSources_168 ?_
    refine lv_bipush (v := 24) hx hb dX1_readSources_171 (by decide) ?_
    refine lv_imul hx hb dX1_readSources_173 ?_
    refine lv_iload hx hb dX1_readSources_174 (lv_at hl 3 rfl) ?_
    refine lv_iadd hx hb dX1_readSources_176 ?_
    refine lv_iload hx hb dX1_readSources_177 (lv_at hl 4 rfl) ?_
    obtain ⟨g3, h⟩ := gw_gdE h
    obtain ⟨S4, e5, h⟩ := gw_letE h
    refine gw_iast (t0 := 0) (w' := gw_cw cc a b d S4) B hI gc_g16 rfl g3 (gc_s16 e5) dX1_readSources_179 (fun H locs hI => ?_)
    obtain ⟨y6, e7, h⟩ := gw_letE h
    refine lv_iinc (v := y6) (lv' := [(4, .int y6), (0, .ref (a 15)), (1, va_rf (gw_rf d v1)), (3, .int v3), (5, .int v5)]) hx hb dX1_readSources_180 hl (k := 3) rfl (by rw [e7]; rfl) (by decide) rfl (fun ls hl => ?_)
    refine lv_goto (tgt := 37) hx hb dX1_readSources_183 (by decide) ?_
    exact hK37 v1 v3 y6 S4 h _ _ _ hI (lv_sub hl [1, 2, 3, 0] rfl)
  have hb147 : ∀ (K37 : Int32 → Int32 → Int32 → gw_S → Option (gw_S)) (_ : ∀ (v1 : Int32) (v3 : Int32) (v4 : Int32) (S : gw_S), K37 v1 v3 v4 S = some zS → ∀ (H : Heap) (locs : List Loc) (ls : Array Slot), gw_I D A s.heap (gw_cw cc a b d S) H locs → lv_has ls 8 [(0, .ref (a 15)), (1, va_rf (gw_rf d v1)), (3, .int v3), (4, .int v4)] → W p l e rm_X1_readSources s m args below meth c H locs 0 0 (MQ below (gw_Q none (gw_Pst D A (fun w => w = gw_cw cc a b d zS)) A) args s 0 0 A) (F0 m 37 ls [])), ∀ (v1 : Int32) (v3 : Int32) (v4 : Int32) (v5 : Int32) (S : gw_S), f_X1_readSources_b147 K37 v1 v3 v4 v5 S = some zS → ∀ (H : Heap) (locs : List Loc) (ls : Array Slot), gw_I D A s.heap (gw_cw cc a b d S) H locs → lv_has ls 8 [(0, .ref (a 15)), (1, va_rf (gw_rf d v1)), (3, .int v3), (4, .int v4), (5, .int v5)] → W p l e rm_X1_readSources s m args below meth c H locs 0 0 (MQ below (gw_Q none (gw_Pst D A (fun w => w = gw_cw cc a b d zS)) A) args s 0 0 A) (F0 m 147 ls []) := by
    intro K37 hK37
    intro v1 v3 v4 v5 S h H locs ls hI hl
    unfold f_X1_readSources_b147 at h
    refine lv_iload hx hb dX1_readSources_147 (lv_at hl 4 rfl) ?_
    refine lv_iconst (v := -1) hx hb dX1_readSources_149 (by decide) ?_
    refine lv_icmp_ne (tgt := 163) hx hb dX1_readSources_150 (by decide) (fun c8 => ?_) (fun c8 => ?_)
    · replace h := gw_ifF c8 h
      exact hb163 K37 hK37 v1 v3 v4 v5 S h _ _ _ hI (lv_sub hl [0, 1, 2, 3, 4] rfl)
    · replace h := gw_ifT c8 h
      refine lv_aload_n hx hb dX1_readSources_153 rfl (lv_at hl 0 rfl) ?_
      refine gw_get (T := TX1) (k := 2) (v := .ref (a 17)) B hI gc_g15 rfl ly_X1_readSources_1 (by decide) m_X1_readSources_17 rfl rfl dX1_readSources_154 ?_
      refine gw_aload_n B dX1_readSources_157 rfl (lv_at hl 1 rfl) ?_
      obtain ⟨g9, h⟩ := gw_gdE h
      rw [gw_rfP g9]
      obtain ⟨g10, h⟩ := gw_gdE h
      refine gw_getN (T := TX0) (k := 0) (v := .int (S (2 * v1.toNatClampNeg + 31) 0)) B hI (gc_gb g10) rfl ly_X1_readSources_0 (by decide) n_RX1_64 rfl rfl dX1_readSources_158 ?_
      refine lv_iconst (v := 0) hx hb dX1_readSources_161 (by decide) ?_
      obtain ⟨g11, h⟩ := gw_gdE h
      obtain ⟨S12, e13, h⟩ := gw_letE h
      refine gw_iast (t0 := 0) (w' := gw_cw cc a b d S12) B hI gc_g17 rfl g11 (gc_s17 e13) dX1_readSources_162 (fun H locs hI => ?_)
      exact hb163 K37 hK37 v1 v3 v4 v5 S12 h _ _ _ hI (lv_sub hl [0, 1, 2, 3, 4] rfl)
  have hb119 : ∀ (K37 : Int32 → Int32 → Int32 → gw_S → Option (gw_S)) (_ : ∀ (v1 : Int32) (v3 : Int32) (v4 : Int32) (S : gw_S), K37 v1 v3 v4 S = some zS → ∀ (H : Heap) (locs : List Loc) (ls : Array Slot), gw_I D A s.heap (gw_cw cc a b d S) H locs → lv_has ls 8 [(0, .ref (a 15)), (1, va_rf (gw_rf d v1)), (3, .int v3), (4, .int v4)] → W p l e rm_X1_readSources s m args below meth c H locs 0 0 (MQ below (gw_Q none (gw_Pst D A (fun w => w = gw_cw cc a b d zS)) A) args s 0 0 A) (F0 m 37 ls [])), ∀ (v1 : Int32) (v3 : Int32) (v4 : Int32) (v5 : Int32) (S : gw_S), f_X1_readSources_b119 K37 v1 v3 v4 v5 S = some zS → ∀ (H : Heap) (locs : List Loc) (ls : Array Slot), gw_I D A s.heap (gw_cw cc a b d S) H locs → lv_has ls 8 [(0, .ref (a 15)), (1, va_rf (gw_rf d v1)), (3, .int v3), (4, .int v4), (5, .int v5)] → W p l e rm_X1_readSources s m args below meth c H locs 0 0 (MQ below (gw_Q none (gw_Pst D A (fun w => w = gw_cw cc a b d zS)) A) args s 0 0 A) (F0 m 119 ls []) := by
    intro K37 hK37
    intro v1 v3 v4 v5 S h H locs ls hI hl
    unfold f_X1_readSources_b119 at h
    refine lv_aload_n hx hb dX1_readSources_119 rfl (lv_at hl 0 rfl) ?_
    refine gw_get (T := TX1) (k := 0) (v := .ref (a 3)) B hI gc_g15 rfl ly_X1_readSources_1 (by decide) m_X1_readSources_26 rfl rfl dX1_readSources_120 ?_
    refine lv_iload hx hb dX1_readSources_123 (lv_at hl 4 rfl) ?_
    obtain ⟨r14, e15, h⟩ := gw_bdE h
    refine gw_callV (As := [.int v5]) (n := 1) B hI (k_X2_bookingAt v5 S e15) gX1_readSources_X2_bookingAt rfl rfl rfl nd_X2_bookingAt ⟨Nat.le_of_ble_eq_true rfl, Nat.le_of_ble_eq_true rfl⟩ gc_g3 rfl rfl rfl hl.1 (Nat.zero_le _) dX1_readSources_125 ⟨Nat.le_of_ble_eq_true rfl, Nat.le_of_ble_eq_true rfl⟩ rfl (fun w' H locs hw hI => ?_)
    subst hw
    refine gw_astore (lv' := [(7, va_rf (gw_rf d r14)), (0, .ref (a 15)), (1, va_rf (gw_rf d v1)), (3, .int v3), (4, .int v4), (5, .int v5)]) B dX1_readSources_128 hl (by decide) rfl (fun ls hl => ?_)
    refine gw_aload B dX1_readSources_130 (lv_at hl 0 rfl) ?_
    refine gw_ifnull (tgt := 147) B dX1_readSources_132 (by decide) (fun c16 => ?_) (fun c16 => ?_)
    · replace h := gw_ifT c16 h
      exact hb147 K37 hK37 v1 v3 v4 v5 S h _ _ _ hI (lv_sub hl [1, 2, 3, 4, 5] rfl)
    · replace h := gw_ifF c16 h
      refine gw_aload B dX1_readSources_135 (lv_at hl 0 rfl) ?_
      rw [gw_rfP c16]
      obtain ⟨g17, h⟩ := gw_gdE h
      obtain ⟨r18, e19, h⟩ := gw_bdE h
      refine gw_callV (As := []) (n := 0) B hI (k_X0_wentOut r14 S e19) gX1_readSources_X0_wentOut rfl rfl rfl nd_X0_wentOut ⟨Nat.le_of_ble_eq_true rfl, Nat.le_of_ble_eq_true rfl⟩ (gc_gb g17) rfl rfl rfl hl.1 (Nat.zero_le _) dX1_readSources_137 ⟨Nat.le_of_ble_eq_true rfl, Nat.le_of_ble_eq_true rfl⟩ rfl (fun w' H locs hw hI => ?_)
      subst hw
      refine lv_if_eq (tgt := 147) hx hb dX1_readSources_140 (by decide) (fun c20 => ?_) (fun c20 => ?_)
      · replace h := gw_ifT c20 h
        exact hb147 K37 hK37 v1 v3 v4 v5 S h _ _ _ hI (lv_sub hl [1, 2, 3, 4, 5] rfl)
      · replace h := gw_ifF c20 h
        refine lv_bipush (v := -2) hx hb dX1_readSources_143 (by decide) ?_
        refine lv_istore (lv' := [(5, .int (-2 : Int32)), (7, va_rf (gw_rf d r14)), (0, .ref (a 15)), (1, va_rf (gw_rf d v1)), (3, .int v3), (4, .int v4)]) hx hb dX1_readSources_145 hl (by decide) rfl (fun ls hl => ?_)
        exact hb147 K37 hK37 v1 v3 v4 (-2 : Int32) S h _ _ _ hI (lv_sub hl [2, 3, 4, 5, 0] rfl)
  have hb37 :  ∀ (n : Nat), ∀ (v1 : Int32) (v3 : Int32) (v4 : Int32) (S : gw_S), f_X1_readSources_b37  n v1 v3 v4 S = some zS → ∀ (H : Heap) (locs : List Loc) (ls : Array Slot), gw_I D A s.heap (gw_cw cc a b d S) H locs → lv_has ls 8 [(0, .ref (a 15)), (1, va_rf (gw_rf d v1)), (3, .int v3), (4, .int v4)] → W p l e rm_X1_readSources s m args below meth c H locs 0 0 (MQ below (gw_Q none (gw_Pst D A (fun w => w = gw_cw cc a b d zS)) A) args s 0 0 A) (F0 m 37 ls []) := by
    intro n
    induction n with
    | zero =>
      intro v1 v3 v4 S h
      cases h
    | succ n ih =>
      intro v1 v3 v4 S h H locs ls hI hl
      unfold f_X1_readSources_b37 at h
      refine lv_iload hx hb dX1_readSources_37 (lv_at hl 3 rfl) ?_
      refine lv_aload_n hx hb dX1_readSources_39 rfl (lv_at hl 0 rfl) ?_
      refine gw_get (T := TX1) (k := 0) (v := .ref (a 3)) B hI gc_g15 rfl ly_X1_readSources_1 (by decide) m_X1_readSources_26 rfl rfl dX1_readSources_40 ?_
      refine gw_getN (T := TX2) (k := 6) (v := .int (S 3 6)) B hI gc_g3 rfl ly_X1_readSources_2 (by decide) n_RX1_87 rfl rfl dX1_readSources_43 ?_
      refine lv_icmp_ge (tgt := 186) hx hb dX1_readSources_46 (by decide) (fun c21 => ?_) (fun c21 => ?_)
      · replace h := gw_ifT c21 h
        rw [Option.some.inj h] at hI
        exact gw_vret (W' := (fun w => w = gw_cw cc a b d zS)) B hI rfl (Nat.zero_le _) (Nat.zero_le _) dX1_readSources_186
      · replace h := gw_ifF c21 h
        refine lv_bipush (v := -2) hx hb dX1_readSources_49 (by decide) ?_
        refine lv_istore (lv' := [(5, .int (-2 : Int32)), (0, .ref (a 15)), (1, va_rf (gw_rf d v1)), (3, .int v3), (4, .int v4)]) hx hb dX1_readSources_51 hl (by decide) rfl (fun ls hl => ?_)
        refine lv_aload_n hx hb dX1_readSources_53 rfl (lv_at hl 1 rfl) ?_
        refine gw_get (T := TX1) (k := 0) (v := .ref (a 3)) B hI gc_g15 rfl ly_X1_readSources_1 (by decide) m_X1_readSources_26 rfl rfl dX1_readSources_54 ?_
        refine lv_iload hx hb dX1_readSources_57 (lv_at hl 4 rfl) ?_
        obtain ⟨r22, e23, h⟩ := gw_bdE h
        refine gw_callV (As := [.int v4]) (n := 1) B hI (k_X2_pieceAt v4 S e23) gX1_readSources_X2_pieceAt rfl rfl rfl nd_X2_pieceAt ⟨Nat.le_of_ble_eq_true rfl, Nat.le_of_ble_eq_true rfl⟩ gc_g3 rfl rfl rfl hl.1 (Nat.zero_le _) dX1_readSources_59 ⟨Nat.le_of_ble_eq_true rfl, Nat.le_of_ble_eq_true rfl⟩ rfl (fun w' H locs hw hI => ?_)
        subst hw
        refine gw_astore (lv' := [(6, va_rf (gw_rf b r22)), (5, .int (-2 : Int32)), (0, .ref (a 15)), (1, va_rf (gw_rf d v1)), (3, .int v3), (4, .int v4)]) B dX1_readSources_62 hl (by decide) rfl (fun ls hl => ?_)
        refine lv_iload_n hx hb dX1_readSources_64 rfl (lv_at hl 4 rfl) ?_
        refine lv_if_eq (tgt := 119) hx hb dX1_readSources_65 (by decide) (fun c24 => ?_) (fun c24 => ?_)
        · replace h := gw_ifT c24 h
          exact hb119 (f_X1_readSources_b37  n) ih v1 v3 v4 (-2 : Int32) S h _ _ _ hI (lv_sub hl [2, 3, 4, 5, 1] rfl)
        · replace h := gw_ifF c24 h
          refine gw_aload B dX1_readSources_68 (lv_at hl 0 rfl) ?_
          refine gw_ifnull (tgt := 119) B dX1_readSources_70 (by decide) (fun c25 => ?_) (fun c25 => ?_)
          · replace h := gw_ifT c25 h
            exact hb119 (f_X1_readSources_b37  n) ih v1 v3 v4 (-2 : Int32) S h _ _ _ hI (lv_sub hl [2, 3, 4, 5, 1] rfl)
          · replace h := gw_ifF c25 h
            refine gw_aload B dX1_readSources_73 (lv_at hl 0 rfl) ?_
            refine gw_aload_n B dX1_readSources_75 rfl (lv_at hl 3 rfl) ?_
            obtain ⟨g26, h⟩ := gw_gdE h
            rw [gw_rfP g26]
            obtain ⟨g27, h⟩ := gw_gdE h
            refine gw_getN (T := TX0) (k := 8) (v := va_rf (gw_rf b (S (2 * v1.toNatClampNeg + 31) 8))) B hI (gc_gb g27) rfl ly_X1_readSources_0 (by decide) n_RX1_83 rfl rfl dX1_readSources_76 ?_
            obtain ⟨g28, h⟩ := gw_gdE h
            obtain ⟨g29, h⟩ := gw_gdE h
            refine gw_acmp_eqp (tgt := 119) B hI g28 g29 dX1_readSources_79 (by decide) (fun c30 => ?_) (fun c30 => ?_)
            · replace h := gw_ifT c30 h
              exact hb119 (f_X1_readSources_b37  n) ih v1 v3 v4 (-2 : Int32) S h _ _ _ hI (lv_sub hl [2, 3, 4, 5, 1] rfl)
            · replace h := gw_ifF c30 h
              refine gw_aload B dX1_readSources_82 (lv_at hl 0 rfl) ?_
              refine gw_aload_n B dX1_readSources_84 rfl (lv_at hl 3 rfl) ?_
              rw [gw_rfP g26]
              refine gw_getN (T := TX0) (k := 3) (v := .int (S (2 * v1.toNatClampNeg + 31) 3)) B hI (gc_gb g27) rfl ly_X1_readSources_0 (by decide) n_RX1_90 rfl rfl dX1_readSources_85 ?_
              rw [gw_rfP c25]
              obtain ⟨g31, h⟩ := gw_gdE h
              obtain ⟨r32, e33, h⟩ := gw_bdE h
              refine gw_callV (As := [.int (S (2 * v1.toNatClampNeg + 31) 3)]) (n := 1) B hI (k_X4_canBeWornOn r22 (S (2 * v1.toNatClampNeg + 31) 3) S e33) gX1_readSources_X4_canBeWornOn rfl rfl rfl nd_X4_canBeWornOn ⟨Nat.le_of_ble_eq_true rfl, Nat.le_of_ble_eq_true rfl⟩ (gc_gp g31) rfl rfl rfl hl.1 (Nat.zero_le _) dX1_readSources_88 ⟨Nat.le_of_ble_eq_true rfl, Nat.le_of_ble_eq_true rfl⟩ rfl (fun w' H locs hw hI => ?_)
              subst hw
              refine lv_if_eq (tgt := 119) hx hb dX1_readSources_91 (by decide) (fun c34 => ?_) (fun c34 => ?_)
              · replace h := gw_ifT c34 h
                exact hb119 (f_X1_readSources_b37  n) ih v1 v3 v4 (-2 : Int32) S h _ _ _ hI (lv_sub hl [2, 3, 4, 5, 1] rfl)
              · replace h := gw_ifF c34 h
                refine lv_aload_n hx hb dX1_readSources_94 rfl (lv_at hl 2 rfl) ?_
                refine gw_get (T := TX1) (k := 0) (v := .ref (a 3)) B hI gc_g15 rfl ly_X1_readSources_1 (by decide) m_X1_readSources_26 rfl rfl dX1_readSources_95 ?_
                refine gw_aload B dX1_readSources_98 (lv_at hl 0 rfl) ?_
                refine gw_aload_n B dX1_readSources_100 rfl (lv_at hl 3 rfl) ?_
                obtain ⟨r35, e36, h⟩ := gw_bdE h
                refine gw_callV (As := [va_rf (gw_rf b r22), va_rf (gw_rf d v1)]) (n := 2) B hI (k_X2_surelyFits r22 v1 S e36) gX1_readSources_X2_surelyFits rfl rfl rfl nd_X2_surelyFits ⟨Nat.le_of_ble_eq_true rfl, Nat.le_of_ble_eq_true rfl⟩ gc_g3 rfl rfl rfl hl.1 (Nat.zero_le _) dX1_readSources_101 ⟨Nat.le_of_ble_eq_true rfl, Nat.le_of_ble_eq_true rfl⟩ rfl (fun w' H locs hw hI => ?_)
                subst hw
                refine lv_if_eq (tgt := 119) hx hb dX1_readSources_104 (by decide) (fun c37 => ?_) (fun c37 => ?_)
                · replace h := gw_ifT c37 h
                  exact hb119 (f_X1_readSources_b37  n) ih v1 v3 v4 (-2 : Int32) S h _ _ _ hI (lv_sub hl [2, 3, 4, 5, 1] rfl)
                · replace h := gw_ifF c37 h
                  refine lv_aload_n hx hb dX1_readSources_107 rfl (lv_at hl 2 rfl) ?_
                  refine gw_get (T := TX1) (k := 0) (v := .ref (a 3)) B hI gc_g15 rfl ly_X1_readSources_1 (by decide) m_X1_readSources_26 rfl rfl dX1_readSources_108 ?_
                  refine gw_aload B dX1_readSources_111 (lv_at hl 0 rfl) ?_
                  refine gw_aload_n B dX1_readSources_113 rfl (lv_at hl 3 rfl) ?_
                  obtain ⟨r38, e39, h⟩ := gw_bdE h
                  refine gw_callV (As := [va_rf (gw_rf b r22), va_rf (gw_rf d v1)]) (n := 2) B hI (k_X2_holderInTheWay r22 v1 S e39) gX1_readSources_X2_holderInTheWay rfl rfl rfl nd_X2_holderInTheWay ⟨Nat.le_of_ble_eq_true rfl, Nat.le_of_ble_eq_true rfl⟩ gc_g3 rfl rfl rfl hl.1 (Nat.zero_le _) dX1_readSources_114 ⟨Nat.le_of_ble_eq_true rfl, Nat.le_of_ble_eq_true rfl⟩ rfl (fun w' H locs hw hI => ?_)
                  subst hw
                  refine lv_istore (lv' := [(5, .int r38), (6, va_rf (gw_rf b r22)), (0, .ref (a 15)), (1, va_rf (gw_rf d v1)), (3, .int v3), (4, .int v4)]) hx hb dX1_readSources_117 hl (by decide) rfl (fun ls hl => ?_)
                  exact hb119 (f_X1_readSources_b37  n) ih v1 v3 v4 r38 S h _ _ _ hI (lv_sub hl [2, 3, 4, 5, 0] rfl)
  have hb22 :  ∀ (v1 : Int32) (t0_ : Int32) (S : gw_S), f_X1_readSources_b22  v1 t0_ S = some zS → ∀ (H : Heap) (locs : List Loc) (ls : Array Slot), gw_I D A s.heap (gw_cw cc a b d S) H locs → lv_has ls 8 [(0, .ref (a 15)), (1, va_rf (gw_rf d v1))] → W p l e rm_X1_readSources s m args below meth c H locs 0 0 (MQ below (gw_Q none (gw_Pst D A (fun w => w = gw_cw cc a b d zS)) A) args s 0 0 A) (F0 m 22 ls [.int t0_]) := by
    intro v1 t0_ S h H locs ls hI hl
    unfold f_X1_readSources_b22 at h
    refine lv_istore_n (lv' := [(3, .int t0_), (0, .ref (a 15)), (1, va_rf (gw_rf d v1))]) hx hb dX1_readSources_22 rfl hl (by decide) rfl (fun ls hl => ?_)
    refine lv_aload_n hx hb dX1_readSources_23 rfl (lv_at hl 1 rfl) ?_
    refine gw_get (T := TX1) (k := 2) (v := .ref (a 17)) B hI gc_g15 rfl ly_X1_readSources_1 (by decide) m_X1_readSources_17 rfl rfl dX1_readSources_24 ?_
    refine gw_aload_n B dX1_readSources_27 rfl (lv_at hl 2 rfl) ?_
    obtain ⟨g40, h⟩ := gw_gdE h
    rw [gw_rfP g40]
    obtain ⟨g41, h⟩ := gw_gdE h
    refine gw_getN (T := TX0) (k := 0) (v := .int (S (2 * v1.toNatClampNeg + 31) 0)) B hI (gc_gb g41) rfl ly_X1_readSources_0 (by decide) n_RX1_64 rfl rfl dX1_readSources_28 ?_
    refine lv_bipush (v := 99) hx hb dX1_readSources_31 (by decide) ?_
    obtain ⟨g42, h⟩ := gw_gdE h
    obtain ⟨S43, e44, h⟩ := gw_letE h
    refine gw_iast (t0 := 0) (w' := gw_cw cc a b d S43) B hI gc_g17 rfl g42 (gc_s17 e44) dX1_readSources_33 (fun H locs hI => ?_)
    refine lv_iconst (v := 0) hx hb dX1_readSources_34 (by decide) ?_
    refine lv_istore (lv' := [(4, .int (0 : Int32)), (3, .int t0_), (0, .ref (a 15)), (1, va_rf (gw_rf d v1))]) hx hb dX1_readSources_35 hl (by decide) rfl (fun ls hl => ?_)
    exact hb37  gw_F v1 t0_ (0 : Int32) S43 h _ _ _ hI (lv_sub hl [2, 3, 1, 0] rfl)
  have hb17 :  ∀ (v1 : Int32) (S : gw_S), f_X1_readSources_b17  v1 S = some zS → ∀ (H : Heap) (locs : List Loc) (ls : Array Slot), gw_I D A s.heap (gw_cw cc a b d S) H locs → lv_has ls 8 [(0, .ref (a 15)), (1, va_rf (gw_rf d v1))] → W p l e rm_X1_readSources s m args below meth c H locs 0 0 (MQ below (gw_Q none (gw_Pst D A (fun w => w = gw_cw cc a b d zS)) A) args s 0 0 A) (F0 m 17 ls []) := by
    intro v1 S h H locs ls hI hl
    unfold f_X1_readSources_b17 at h
    refine lv_iconst (v := 1) hx hb dX1_readSources_17 (by decide) ?_
    refine lv_goto (tgt := 22) hx hb dX1_readSources_18 (by decide) ?_
    exact hb22  v1 (1 : Int32) S h _ _ _ hI (lv_sub hl [0, 1] rfl)
  unfold f_X1_readSources at h
  refine gw_aload_n B dX1_readSources_0 rfl (lv_at hl 1 rfl) ?_
  refine gw_ifnonnull (tgt := 5) B dX1_readSources_1 (by decide) (fun c45 => ?_) (fun c45 => ?_)
  · replace h := gw_ifF c45 h
    refine gw_aload_n B dX1_readSources_5 rfl (lv_at hl 1 rfl) ?_
    refine gw_aload_n B dX1_readSources_6 rfl (lv_at hl 2 rfl) ?_
    obtain ⟨g46, h⟩ := gw_gdE h
    obtain ⟨g47, h⟩ := gw_gdE h
    refine gw_acmp_eqb (tgt := 17) B hI g46 g47 dX1_readSources_7 (by decide) (fun c48 => ?_) (fun c48 => ?_)
    · replace h := gw_ifT c48 h
      exact hb17  x1 S h _ _ _ hI (lv_sub hl [0, 1] rfl)
    · replace h := gw_ifF c48 h
      refine gw_aload_n B dX1_readSources_10 rfl (lv_at hl 1 rfl) ?_
      rw [gw_rfP c45]
      obtain ⟨g49, h⟩ := gw_gdE h
      refine gw_getN (T := TX0) (k := 8) (v := va_rf (gw_rf b (S (2 * x1.toNatClampNeg + 31) 8))) B hI (gc_gb g49) rfl ly_X1_readSources_0 (by decide) n_RX1_83 rfl rfl dX1_readSources_11 ?_
      refine gw_ifnull (tgt := 21) B dX1_readSources_14 (by decide) (fun c50 => ?_) (fun c50 => ?_)
      · replace h := gw_ifT c50 h
        refine lv_iconst (v := 0) hx hb dX1_readSources_21 (by decide) ?_
        exact hb22  x1 (0 : Int32) S h _ _ _ hI (lv_sub hl [0, 1] rfl)
      · replace h := gw_ifF c50 h
        exact hb17  x1 S h _ _ _ hI (lv_sub hl [0, 1] rfl)
  · replace h := gw_ifT c45 h
    rw [Option.some.inj h] at hI
    exact gw_vret (W' := (fun w => w = gw_cw cc a b d zS)) B hI rfl (Nat.zero_le _) (Nat.zero_le _) dX1_readSources_4
theorem m_X1_find_20 : Cond.fieldLink RX1 20 "GownLet$Chain" "takers" "[I" ∈ wsX1_find := by decide +kernel
theorem m_X1_find_26 : Cond.fieldLink RX1 26 "GownLet$Chain" "house" "LGownLet$House;" ∈ wsX1_find := by decide +kernel
theorem m_X1_find_30 : Cond.fieldLink RX1 30 "GownLet$Chain" "length" "I" ∈ wsX1_find := by decide +kernel
theorem ly_X1_find_0 : ∀ w ∈ wsX00, w ∈ wsX1_find := fun w h => List.mem_cons_of_mem _ (List.mem_append_left _ (List.mem_append_left _ (List.mem_append_left _ (List.mem_append_right _ h))))
theorem ly_X1_find_1 : ∀ w ∈ wsX10, w ∈ wsX1_find := fun w h => List.mem_cons_of_mem _ (List.mem_append_left _ (List.mem_append_left _ (List.mem_append_left _ (List.mem_append_left _ (List.mem_append_left _ (List.mem_append_right _ h))))))
theorem ly_X1_find_2 : ∀ w ∈ wsX20, w ∈ wsX1_find := fun w h => List.mem_cons_of_mem _ (List.mem_append_left _ (List.mem_append_left _ (List.mem_append_left _ (List.mem_append_left _ (List.mem_append_right _ h)))))
set_option maxRecDepth 100000 in
set_option maxHeartbeats 4000000 in
theorem k_X1_find (x1 : Int32) (S : gw_S) {zr : Int32} {zS : gw_S} (h : f_X1_find x1 S = some (zr, zS)) : gw_M l yX1_find wsX1_find rm_X1_find 0 0 D (gw_ty cc) t1 t2 [.ref (a 15), va_rf (gw_rf d x1)] (gw_cw cc a b d S) (fun w => w = gw_cw cc a b d zS) (some (.int zr)) := by
  refine gw_enter (cc := cX1_find) (maxL := 4) (ret := (some .int)) (own := RX1) rfl (by decide) rfl (by simp [lg_sl, gw_catq, gw_cI, gw_cR, gw_cL]) ?_
  intro p e s m below meth c A B hin hI ls hl
  have hl : lv_has ls 4 [(0, .ref (a 15)), (1, va_rf (gw_rf d x1))] := by simpa [lv_args, gw_catq, gw_cI, gw_cR, gw_cL] using hl
  generalize ([.ref (a 15), va_rf (gw_rf d x1)] : List Value).toArray = args at B ⊢
  have hx := B.1.1
  have hb := B.1.2.1
  have hown : s.vm.findClass RX1 = some m.cls := B.1.2.2.2.1
  have hts := B.1.2.2.2.2
  have hb83 :  ∀ (n : Nat), ∀ (v2 : Int32) (v3 : Int32) (S : gw_S), f_X1_find_b83  n v2 v3 S = some (zr, zS) → ∀ (H : Heap) (locs : List Loc) (ls : Array Slot), gw_I D A s.heap (gw_cw cc a b d S) H locs → lv_has ls 4 [(0, .ref (a 15)), (2, .int v2), (3, .int v3)] → W p l e rm_X1_find s m args below meth c H locs 0 0 (MQ below (gw_Q (some (.int zr)) (gw_Pst D A (fun w => w = gw_cw cc a b d zS)) A) args s 0 0 A) (F0 m 83 ls []) := by
    intro n
    induction n with
    | zero =>
      intro v2 v3 S h
      cases h
    | succ n ih =>
      intro v2 v3 S h H locs ls hI hl
      unfold f_X1_find_b83 at h
      refine lv_iload_n hx hb dX1_find_83 rfl (lv_at hl 2 rfl) ?_
      refine lv_iload_n hx hb dX1_find_84 rfl (lv_at hl 1 rfl) ?_
      refine lv_icmp_gt (tgt := 115) hx hb dX1_find_85 (by decide) (fun c1 => ?_) (fun c1 => ?_)
      · replace h := gw_ifT c1 h
        refine lv_bipush (v := -4) hx hb dX1_find_115 (by decide) ?_
        obtain ⟨h1, h2⟩ := Prod.mk.inj (Option.some.inj h)
        rw [h2] at hI
        rw [← h1]
        exact gw_iret (W' := (fun w => w = gw_cw cc a b d zS)) B hI rfl (Nat.zero_le _) (Nat.zero_le _) dX1_find_117
      · replace h := gw_ifF c1 h
        refine lv_aload_n hx hb dX1_find_88 rfl (lv_at hl 0 rfl) ?_
        refine lv_iconst (v := 0) hx hb dX1_find_89 (by decide) ?_
        refine lv_iload_n hx hb dX1_find_90 rfl (lv_at hl 2 rfl) ?_
        obtain ⟨r2, S3, e4, h⟩ := gw_b2E h
        refine gw_callS (As := [.ref (a 15), .int (0 : Int32), .int v3]) (n := 3) B hI (k_X1_follow 6 (0 : Int32) v3 S e4) gX1_find_X1_follow rfl rfl rfl nds_X1_follow ⟨Nat.le_of_ble_eq_true rfl, Nat.le_of_ble_eq_true rfl⟩ rfl hl.1 (Nat.zero_le _) dX1_find_91 ⟨Nat.le_of_ble_eq_true rfl, Nat.le_of_ble_eq_true rfl⟩ rfl (fun w' H locs hw hI => ?_)
        subst hw
        refine lv_if_eq (tgt := 109) hx hb dX1_find_94 (by decide) (fun c5 => ?_) (fun c5 => ?_)
        · replace h := gw_ifT c5 h
          obtain ⟨y6, e7, h⟩ := gw_letE h
          refine lv_iinc (v := y6) (lv' := [(3, .int y6), (0, .ref (a 15)), (2, .int v2)]) hx hb dX1_find_109 hl (k := 2) rfl (by rw [e7]; rfl) (by decide) rfl (fun ls hl => ?_)
          refine lv_goto (tgt := 83) hx hb dX1_find_112 (by decide) ?_
          exact ih v2 y6 S3 h _ _ _ hI (lv_sub hl [1, 2, 0] rfl)
        · replace h := gw_ifF c5 h
          refine lv_aload_n hx hb dX1_find_97 rfl (lv_at hl 0 rfl) ?_
          refine lv_iload_n hx hb dX1_find_98 rfl (lv_at hl 2 rfl) ?_
          refine lv_iconst (v := 1) hx hb dX1_find_99 (by decide) ?_
          refine lv_iadd hx hb dX1_find_100 ?_
          obtain ⟨S8, e9, h⟩ := gw_letE h
          refine gw_put (T := TX1) (k := 5) (w' := gw_cw cc a b d S8) B hI gc_g15 rfl ly_X1_find_1 tyX1 tyX1_ok nmX1 (by decide) m_X1_find_30 rfl rfl rfl rfl (Nat.le_of_ble_eq_true rfl) (gc_s15_5 e9) dX1_find_101 (fun H locs hI => ?_)
          refine lv_aload_n hx hb dX1_find_104 rfl (lv_at hl 0 rfl) ?_
          refine gw_get (T := TX1) (k := 5) (v := .int (S8 15 5)) B hI gc_g15 rfl ly_X1_find_1 (by decide) m_X1_find_30 rfl rfl dX1_find_105 ?_
          obtain ⟨h1, h2⟩ := Prod.mk.inj (Option.some.inj h)
          rw [h2] at hI
          rw [← h1]
          exact gw_iret (W' := (fun w => w = gw_cw cc a b d zS)) B hI rfl (Nat.zero_le _) (Nat.zero_le _) dX1_find_108
  have hb56 :  ∀ (n : Nat), ∀ (v1 : Int32) (v2 : Int32) (v3 : Int32) (S : gw_S), f_X1_find_b56  n v1 v2 v3 S = some (zr, zS) → ∀ (H : Heap) (locs : List Loc) (ls : Array Slot), gw_I D A s.heap (gw_cw cc a b d S) H locs → lv_has ls 4 [(0, .ref (a 15)), (1, va_rf (gw_rf d v1)), (2, .int v2), (3, .int v3)] → W p l e rm_X1_find s m args below meth c H locs 0 0 (MQ below (gw_Q (some (.int zr)) (gw_Pst D A (fun w => w = gw_cw cc a b d zS)) A) args s 0 0 A) (F0 m 56 ls []) := by
    intro n
    induction n with
    | zero =>
      intro v1 v2 v3 S h
      cases h
    | succ n ih =>
      intro v1 v2 v3 S h H locs ls hI hl
      unfold f_X1_find_b56 at h
      refine lv_iload_n hx hb dX1_find_56 rfl (lv_at hl 3 rfl) ?_
      refine lv_iload_n hx hb dX1_find_57 rfl (lv_at hl 2 rfl) ?_
      refine lv_icmp_ge (tgt := 71) hx hb dX1_find_58 (by decide) (fun c10 => ?_) (fun c10 => ?_)
      · replace h := gw_ifT c10 h
        refine lv_aload_n hx hb dX1_find_71 rfl (lv_at hl 0 rfl) ?_
        refine gw_get (T := TX1) (k := 3) (v := .ref (a 18)) B hI gc_g15 rfl ly_X1_find_1 (by decide) m_X1_find_20 rfl rfl dX1_find_72 ?_
        refine lv_iconst (v := 0) hx hb dX1_find_75 (by decide) ?_
        refine gw_aload_n B dX1_find_76 rfl (lv_at hl 1 rfl) ?_
        obtain ⟨g11, h⟩ := gw_gdE h
        rw [gw_rfP g11]
        obtain ⟨g12, h⟩ := gw_gdE h
        refine gw_getN (T := TX0) (k := 0) (v := .int (S (2 * v1.toNatClampNeg + 31) 0)) B hI (gc_gb g12) rfl ly_X1_find_0 (by decide) n_RX1_64 rfl rfl dX1_find_77 ?_
        obtain ⟨S13, e14, h⟩ := gw_letE h
        refine gw_iast (t0 := 0) (w' := gw_cw cc a b d S13) B hI gc_g18 rfl (by decide) (gc_s18 e14) dX1_find_80 (fun H locs hI => ?_)
        refine lv_iconst (v := 0) hx hb dX1_find_81 (by decide) ?_
        refine lv_istore_n (lv' := [(3, .int (0 : Int32)), (0, .ref (a 15)), (1, va_rf (gw_rf d v1)), (2, .int v2)]) hx hb dX1_find_82 rfl hl (by decide) rfl (fun ls hl => ?_)
        exact hb83  gw_F v2 (0 : Int32) S13 h _ _ _ hI (lv_sub hl [1, 3, 0] rfl)
      · replace h := gw_ifF c10 h
        refine lv_aload_n hx hb dX1_find_61 rfl (lv_at hl 0 rfl) ?_
        obtain ⟨S15, e16, h⟩ := gw_bdE h
        refine gw_callVv (As := []) (n := 0) B hI (k_X1_spreadNearest  S e16) gX1_find_X1_spreadNearest rfl rfl rfl nd_X1_spreadNearest ⟨Nat.le_of_ble_eq_true rfl, Nat.le_of_ble_eq_true rfl⟩ gc_g15 rfl rfl rfl hl.1 (Nat.zero_le _) dX1_find_62 ⟨Nat.le_of_ble_eq_true rfl, Nat.le_of_ble_eq_true rfl⟩ rfl (fun w' H locs hw hI => ?_)
        subst hw
        obtain ⟨y17, e18, h⟩ := gw_letE h
        refine lv_iinc (v := y17) (lv' := [(3, .int y17), (0, .ref (a 15)), (1, va_rf (gw_rf d v1)), (2, .int v2)]) hx hb dX1_find_65 hl (k := 3) rfl (by rw [e18]; rfl) (by decide) rfl (fun ls hl => ?_)
        refine lv_goto (tgt := 56) hx hb dX1_find_68 (by decide) ?_
        exact ih v1 v2 y17 S15 h _ _ _ hI (lv_sub hl [1, 2, 3, 0] rfl)
  have hb24 :  ∀ (n : Nat), ∀ (v1 : Int32) (v2 : Int32) (v3 : Int32) (S : gw_S), f_X1_find_b24  n v1 v2 v3 S = some (zr, zS) → ∀ (H : Heap) (locs : List Loc) (ls : Array Slot), gw_I D A s.heap (gw_cw cc a b d S) H locs → lv_has ls 4 [(0, .ref (a 15)), (1, va_rf (gw_rf d v1)), (2, .int v2), (3, .int v3)] → W p l e rm_X1_find s m args below meth c H locs 0 0 (MQ below (gw_Q (some (.int zr)) (gw_Pst D A (fun w => w = gw_cw cc a b d zS)) A) args s 0 0 A) (F0 m 24 ls []) := by
    intro n
    induction n with
    | zero =>
      intro v1 v2 v3 S h
      cases h
    | succ n ih =>
      intro v1 v2 v3 S h H locs ls hI hl
      unfold f_X1_find_b24 at h
      refine lv_iload_n hx hb dX1_find_24 rfl (lv_at hl 3 rfl) ?_
      refine lv_aload_n hx hb dX1_find_25 rfl (lv_at hl 0 rfl) ?_
      refine gw_get (T := TX1) (k := 0) (v := .ref (a 3)) B hI gc_g15 rfl ly_X1_find_1 (by decide) m_X1_find_26 rfl rfl dX1_find_26 ?_
      refine gw_getN (T := TX2) (k := 7) (v := .int (S 3 7)) B hI gc_g3 rfl ly_X1_find_2 (by decide) n_RX1_50 rfl rfl dX1_find_29 ?_
      refine lv_icmp_ge (tgt := 54) hx hb dX1_find_32 (by decide) (fun c19 => ?_) (fun c19 => ?_)
      · replace h := gw_ifT c19 h
        refine lv_iconst (v := 0) hx hb dX1_find_54 (by decide) ?_
        refine lv_istore_n (lv' := [(3, .int (0 : Int32)), (0, .ref (a 15)), (1, va_rf (gw_rf d v1)), (2, .int v2)]) hx hb dX1_find_55 rfl hl (by decide) rfl (fun ls hl => ?_)
        exact hb56  gw_F v1 v2 (0 : Int32) S h _ _ _ hI (lv_sub hl [1, 2, 3, 0] rfl)
      · replace h := gw_ifF c19 h
        refine lv_aload_n hx hb dX1_find_35 rfl (lv_at hl 0 rfl) ?_
        refine lv_aload_n hx hb dX1_find_36 rfl (lv_at hl 0 rfl) ?_
        refine gw_get (T := TX1) (k := 0) (v := .ref (a 3)) B hI gc_g15 rfl ly_X1_find_1 (by decide) m_X1_find_26 rfl rfl dX1_find_37 ?_
        refine lv_iload_n hx hb dX1_find_40 rfl (lv_at hl 3 rfl) ?_
        obtain ⟨r20, e21, h⟩ := gw_bdE h
        refine gw_callV (As := [.int v3]) (n := 1) B hI (k_X2_bookingAt v3 S e21) gX1_find_X2_bookingAt rfl rfl rfl nd_X2_bookingAt ⟨Nat.le_of_ble_eq_true rfl, Nat.le_of_ble_eq_true rfl⟩ gc_g3 rfl rfl rfl hl.1 (by simp [gw_catq, gw_cI, gw_cR, gw_cL]) dX1_find_41 ⟨Nat.le_of_ble_eq_true rfl, Nat.le_of_ble_eq_true rfl⟩ rfl (fun w' H locs hw hI => ?_)
        subst hw
        refine gw_aload_n B dX1_find_44 rfl (lv_at hl 1 rfl) ?_
        obtain ⟨S22, e23, h⟩ := gw_bdE h
        refine gw_callVv (As := [va_rf (gw_rf d r20), va_rf (gw_rf d v1)]) (n := 2) B hI (k_X1_readSources r20 v1 S e23) gX1_find_X1_readSources rfl rfl rfl nd_X1_readSources ⟨Nat.le_of_ble_eq_true rfl, Nat.le_of_ble_eq_true rfl⟩ gc_g15 rfl rfl rfl hl.1 (Nat.zero_le _) dX1_find_45 ⟨Nat.le_of_ble_eq_true rfl, Nat.le_of_ble_eq_true rfl⟩ rfl (fun w' H locs hw hI => ?_)
        subst hw
        obtain ⟨y24, e25, h⟩ := gw_letE h
        refine lv_iinc (v := y24) (lv' := [(3, .int y24), (0, .ref (a 15)), (1, va_rf (gw_rf d v1)), (2, .int v2)]) hx hb dX1_find_48 hl (k := 3) rfl (by rw [e25]; rfl) (by decide) rfl (fun ls hl => ?_)
        refine lv_goto (tgt := 24) hx hb dX1_find_51 (by decide) ?_
        exact ih v1 v2 y24 S22 h _ _ _ hI (lv_sub hl [1, 2, 3, 0] rfl)
  unfold f_X1_find at h
  refine lv_aload_n hx hb dX1_find_0 rfl (lv_at hl 0 rfl) ?_
  refine gw_get (T := TX1) (k := 0) (v := .ref (a 3)) B hI gc_g15 rfl ly_X1_find_1 (by decide) m_X1_find_26 rfl rfl dX1_find_1 ?_
  refine gw_getN (T := TX2) (k := 0) (v := .ref (a 4)) B hI gc_g3 rfl ly_X1_find_2 (by decide) n_RX1_34 rfl rfl dX1_find_4 ?_
  refine lv_bipush (v := 7) hx hb dX1_find_7 (by decide) ?_
  obtain ⟨r26, e27, h⟩ := gw_bdE h
  refine gw_callV (As := [.int (7 : Int32)]) (n := 1) B hI (k_X7_at (7 : Int32) S e27) gX1_find_X7_at rfl rfl rfl nd_X7_at ⟨Nat.le_of_ble_eq_true rfl, Nat.le_of_ble_eq_true rfl⟩ gc_g4 rfl rfl rfl hl.1 (Nat.zero_le _) dX1_find_9 ⟨Nat.le_of_ble_eq_true rfl, Nat.le_of_ble_eq_true rfl⟩ rfl (fun w' H locs hw hI => ?_)
  subst hw
  refine lv_iconst (v := 3) hx hb dX1_find_12 (by decide) ?_
  refine gw_mmin B hl.1 (hown := hown) (by decide +kernel) (by decide +kernel) (by decide +kernel) (by decide +kernel) (by decide) (by simp [gw_catq, gw_cI, gw_cR, gw_cL]) (Nat.zero_le _) (Nat.zero_le _) dX1_find_13 ?_
  obtain ⟨y28, e29, h⟩ := gw_letE h
  rw [← e29]
  refine lv_istore_n (i := 2) (lv' := [(2, .int y28), (0, .ref (a 15)), (1, va_rf (gw_rf d x1))]) hx hb dX1_find_16 rfl hl (by decide) (by simp [gw_catq, gw_cI, gw_cR, gw_cL]) (fun ls hl => ?_)
  refine lv_aload_n hx hb dX1_find_17 rfl (lv_at hl 1 rfl) ?_
  refine lv_iconst (v := 0) hx hb dX1_find_18 (by decide) ?_
  obtain ⟨S30, e31, h⟩ := gw_letE h
  refine gw_put (T := TX1) (k := 5) (w' := gw_cw cc a b d S30) B hI gc_g15 rfl ly_X1_find_1 tyX1 tyX1_ok nmX1 (by decide) m_X1_find_30 rfl rfl rfl rfl (Nat.le_of_ble_eq_true rfl) (gc_s15_5 e31) dX1_find_19 (fun H locs hI => ?_)
  refine lv_iconst (v := 0) hx hb dX1_find_22 (by decide) ?_
  refine lv_istore_n (lv' := [(3, .int (0 : Int32)), (2, .int y28), (0, .ref (a 15)), (1, va_rf (gw_rf d x1))]) hx hb dX1_find_23 rfl hl (by decide) rfl (fun ls hl => ?_)
  exact hb24  gw_F x1 y28 (0 : Int32) S30 h _ _ _ hI (lv_sub hl [2, 3, 1, 0] rfl)
theorem m_X1_perform_26 : Cond.fieldLink RX1 26 "GownLet$Chain" "house" "LGownLet$House;" ∈ wsX1_perform := by decide +kernel
theorem m_X1_perform_30 : Cond.fieldLink RX1 30 "GownLet$Chain" "length" "I" ∈ wsX1_perform := by decide +kernel
theorem ly_X1_perform_0 : ∀ w ∈ wsX00, w ∈ wsX1_perform := fun w h => List.mem_cons_of_mem _ (List.mem_append_left _ (List.mem_append_right _ h))
theorem ly_X1_perform_1 : ∀ w ∈ wsX10, w ∈ wsX1_perform := fun w h => List.mem_cons_of_mem _ (List.mem_append_left _ (List.mem_append_left _ (List.mem_append_right _ h)))
set_option maxRecDepth 100000 in
set_option maxHeartbeats 4000000 in
theorem k_X1_perform  (S : gw_S)  {zS : gw_S} (h : f_X1_perform  S = some zS) : gw_M l yX1_perform wsX1_perform rm_X1_perform 0 0 D (gw_ty cc) t1 t2 [.ref (a 15)] (gw_cw cc a b d S) (fun w => w = gw_cw cc a b d zS) none := by
  refine gw_enter (cc := cX1_perform) (maxL := 4) (ret := none) (own := RX1) rfl (by decide) rfl (Nat.le_of_ble_eq_true rfl) ?_
  intro p e s m below meth c A B hin hI ls hl
  have hl : lv_has ls 4 [(0, .ref (a 15))] := hl
  generalize ([.ref (a 15)] : List Value).toArray = args at B ⊢
  have hx := B.1.1
  have hb := B.1.2.1
  have hown : s.vm.findClass RX1 = some m.cls := B.1.2.2.2.1
  have hts := B.1.2.2.2.2
  have hb49 : ∀ (K2 : Int32 → gw_S → Option (gw_S)) (_ : ∀ (v1 : Int32) (S : gw_S), K2 v1 S = some zS → ∀ (H : Heap) (locs : List Loc) (ls : Array Slot), gw_I D A s.heap (gw_cw cc a b d S) H locs → lv_has ls 4 [(0, .ref (a 15)), (1, .int v1)] → W p l e rm_X1_perform s m args below meth c H locs 0 0 (MQ below (gw_Q none (gw_Pst D A (fun w => w = gw_cw cc a b d zS)) A) args s 0 0 A) (F0 m 2 ls [])), ∀ (v1 : Int32) (S : gw_S), f_X1_perform_b49 K2 v1 S = some zS → ∀ (H : Heap) (locs : List Loc) (ls : Array Slot), gw_I D A s.heap (gw_cw cc a b d S) H locs → lv_has ls 4 [(0, .ref (a 15)), (1, .int v1)] → W p l e rm_X1_perform s m args below meth c H locs 0 0 (MQ below (gw_Q none (gw_Pst D A (fun w => w = gw_cw cc a b d zS)) A) args s 0 0 A) (F0 m 49 ls []) := by
    intro K2 hK2
    intro v1 S h H locs ls hI hl
    unfold f_X1_perform_b49 at h
    obtain ⟨y1, e2, h⟩ := gw_letE h
    refine lv_iinc (v := y1) (lv' := [(1, .int y1), (0, .ref (a 15))]) hx hb dX1_perform_49 hl (k := 1) rfl (by rw [e2]; rfl) (by decide) rfl (fun ls hl => ?_)
    refine lv_goto (tgt := 2) hx hb dX1_perform_52 (by decide) ?_
    exact hK2 y1 S h _ _ _ hI (lv_sub hl [1, 0] rfl)
  have hb2 :  ∀ (n : Nat), ∀ (v1 : Int32) (S : gw_S), f_X1_perform_b2  n v1 S = some zS → ∀ (H : Heap) (locs : List Loc) (ls : Array Slot), gw_I D A s.heap (gw_cw cc a b d S) H locs → lv_has ls 4 [(0, .ref (a 15)), (1, .int v1)] → W p l e rm_X1_perform s m args below meth c H locs 0 0 (MQ below (gw_Q none (gw_Pst D A (fun w => w = gw_cw cc a b d zS)) A) args s 0 0 A) (F0 m 2 ls []) := by
    intro n
    induction n with
    | zero =>
      intro v1 S h
      cases h
    | succ n ih =>
      intro v1 S h H locs ls hI hl
      unfold f_X1_perform_b2 at h
      refine lv_iload_n hx hb dX1_perform_2 rfl (lv_at hl 1 rfl) ?_
      refine lv_aload_n hx hb dX1_perform_3 rfl (lv_at hl 0 rfl) ?_
      refine gw_get (T := TX1) (k := 5) (v := .int (S 15 5)) B hI gc_g15 rfl ly_X1_perform_1 (by decide) m_X1_perform_30 rfl rfl dX1_perform_4 ?_
      refine lv_icmp_ge (tgt := 55) hx hb dX1_perform_7 (by decide) (fun c3 => ?_) (fun c3 => ?_)
      · replace h := gw_ifT c3 h
        rw [Option.some.inj h] at hI
        exact gw_vret (W' := (fun w => w = gw_cw cc a b d zS)) B hI rfl (Nat.zero_le _) (Nat.zero_le _) dX1_perform_55
      · replace h := gw_ifF c3 h
        refine lv_aload_n hx hb dX1_perform_10 rfl (lv_at hl 0 rfl) ?_
        refine gw_get (T := TX1) (k := 0) (v := .ref (a 3)) B hI gc_g15 rfl ly_X1_perform_1 (by decide) m_X1_perform_26 rfl rfl dX1_perform_11 ?_
        refine lv_aload_n hx hb dX1_perform_14 rfl (lv_at hl 0 rfl) ?_
        refine lv_iload_n hx hb dX1_perform_15 rfl (lv_at hl 1 rfl) ?_
        obtain ⟨r4, e5, h⟩ := gw_bdE h
        refine gw_callV (As := [.int v1]) (n := 1) B hI (k_X1_bookingIn v1 S e5) gX1_perform_X1_bookingIn rfl rfl rfl nd_X1_bookingIn ⟨Nat.le_of_ble_eq_true rfl, Nat.le_of_ble_eq_true rfl⟩ gc_g15 rfl rfl rfl hl.1 (by simp [gw_catq, gw_cI, gw_cR, gw_cL]) dX1_perform_16 ⟨Nat.le_of_ble_eq_true rfl, Nat.le_of_ble_eq_true rfl⟩ rfl (fun w' H locs hw hI => ?_)
        subst hw
        obtain ⟨r6, e7, h⟩ := gw_bdE h
        refine gw_callV (As := [.int r4]) (n := 1) B hI (k_X2_bookingAt r4 S e7) gX1_perform_X2_bookingAt rfl rfl rfl nd_X2_bookingAt ⟨Nat.le_of_ble_eq_true rfl, Nat.le_of_ble_eq_true rfl⟩ gc_g3 rfl rfl rfl hl.1 (Nat.zero_le _) dX1_perform_19 ⟨Nat.le_of_ble_eq_true rfl, Nat.le_of_ble_eq_true rfl⟩ rfl (fun w' H locs hw hI => ?_)
        subst hw
        refine gw_astore_n (lv' := [(2, va_rf (gw_rf d r6)), (0, .ref (a 15)), (1, .int v1)]) B dX1_perform_22 rfl hl (by decide) rfl (fun ls hl => ?_)
        refine lv_aload_n hx hb dX1_perform_23 rfl (lv_at hl 1 rfl) ?_
        refine gw_get (T := TX1) (k := 0) (v := .ref (a 3)) B hI gc_g15 rfl ly_X1_perform_1 (by decide) m_X1_perform_26 rfl rfl dX1_perform_24 ?_
        refine lv_aload_n hx hb dX1_perform_27 rfl (lv_at hl 1 rfl) ?_
        refine lv_iload_n hx hb dX1_perform_28 rfl (lv_at hl 2 rfl) ?_
        obtain ⟨r8, e9, h⟩ := gw_bdE h
        refine gw_callV (As := [.int v1]) (n := 1) B hI (k_X1_pieceIn v1 S e9) gX1_perform_X1_pieceIn rfl rfl rfl nd_X1_pieceIn ⟨Nat.le_of_ble_eq_true rfl, Nat.le_of_ble_eq_true rfl⟩ gc_g15 rfl rfl rfl hl.1 (by simp [gw_catq, gw_cI, gw_cR, gw_cL]) dX1_perform_29 ⟨Nat.le_of_ble_eq_true rfl, Nat.le_of_ble_eq_true rfl⟩ rfl (fun w' H locs hw hI => ?_)
        subst hw
        obtain ⟨r10, e11, h⟩ := gw_bdE h
        refine gw_callV (As := [.int r8]) (n := 1) B hI (k_X2_pieceAt r8 S e11) gX1_perform_X2_pieceAt rfl rfl rfl nd_X2_pieceAt ⟨Nat.le_of_ble_eq_true rfl, Nat.le_of_ble_eq_true rfl⟩ gc_g3 rfl rfl rfl hl.1 (Nat.zero_le _) dX1_perform_32 ⟨Nat.le_of_ble_eq_true rfl, Nat.le_of_ble_eq_true rfl⟩ rfl (fun w' H locs hw hI => ?_)
        subst hw
        refine gw_astore_n (i := 3) (lv' := [(3, va_rf (gw_rf b r10)), (2, va_rf (gw_rf d r6)), (0, .ref (a 15)), (1, .int v1)]) B dX1_perform_35 rfl hl (by decide) (by simp [gw_catq, gw_cI, gw_cR, gw_cL]) (fun ls hl => ?_)
        refine gw_aload_n B dX1_perform_36 rfl (lv_at hl 1 rfl) ?_
        refine gw_ifnull (tgt := 49) B dX1_perform_37 (by decide) (fun c12 => ?_) (fun c12 => ?_)
        · replace h := gw_ifT c12 h
          exact hb49 (f_X1_perform_b2  n) ih v1 S h _ _ _ hI (lv_sub hl [2, 3] rfl)
        · replace h := gw_ifF c12 h
          refine gw_aload_n B dX1_perform_40 rfl (lv_at hl 0 rfl) ?_
          refine gw_ifnull (tgt := 49) B dX1_perform_41 (by decide) (fun c13 => ?_) (fun c13 => ?_)
          · replace h := gw_ifT c13 h
            exact hb49 (f_X1_perform_b2  n) ih v1 S h _ _ _ hI (lv_sub hl [2, 3] rfl)
          · replace h := gw_ifF c13 h
            refine gw_aload_n B dX1_perform_44 rfl (lv_at hl 1 rfl) ?_
            refine gw_aload_n B dX1_perform_45 rfl (lv_at hl 0 rfl) ?_
            rw [gw_rfP c12]
            obtain ⟨g14, h⟩ := gw_gdE h
            obtain ⟨S15, e16, h⟩ := gw_letE h
            refine gw_putN (T := TX0) (k := 8) (w' := gw_cw cc a b d S15) B hI (gc_gb g14) rfl ly_X1_perform_0 tyX0 tyX0_ok nmX0 (by decide) n_RX1_83 rfl rfl gw_rn gw_rfit (Nat.le_of_ble_eq_true rfl) (gc_sb_8 g14 e16) dX1_perform_46 (fun H locs hI => ?_)
            exact hb49 (f_X1_perform_b2  n) ih v1 S15 h _ _ _ hI (lv_sub hl [2, 3] rfl)
  unfold f_X1_perform at h
  refine lv_iconst (v := 0) hx hb dX1_perform_0 (by decide) ?_
  refine lv_istore_n (lv' := [(1, .int (0 : Int32)), (0, .ref (a 15))]) hx hb dX1_perform_1 rfl hl (by decide) rfl (fun ls hl => ?_)
  exact hb2  gw_F (0 : Int32) S h _ _ _ hI (lv_sub hl [1, 0] rfl)
theorem m_X2_hasRoomForBookings_49 : Cond.fieldLink RX2 49 "GownLet$House" "bookingCount" "I" ∈ wsX2_hasRoomForBookings := by decide +kernel
theorem ly_X2_hasRoomForBookings_2 : ∀ w ∈ wsX20, w ∈ wsX2_hasRoomForBookings := fun w h => List.mem_cons_of_mem _ (List.mem_append_right _ h)
set_option maxRecDepth 100000 in
set_option maxHeartbeats 4000000 in
theorem k_X2_hasRoomForBookings (x1 : Int32) (S : gw_S) {zr : Int32} (h : f_X2_hasRoomForBookings x1 S = some zr) : gw_M l yX2_hasRoomForBookings wsX2_hasRoomForBookings rm_X2_hasRoomForBookings 0 0 D (gw_ty cc) t1 t2 [.ref (a 3), .int x1] (gw_cw cc a b d S) (fun w => w = gw_cw cc a b d S) (some (.int zr)) := by
  refine gw_enter (cc := cX2_hasRoomForBookings) (maxL := 2) (ret := (some .boolean)) (own := RX2) rfl (by decide) rfl (Nat.le_of_ble_eq_true rfl) ?_
  intro p e s m below meth c A B hin hI ls hl
  have hl : lv_has ls 2 [(0, .ref (a 3)), (1, .int x1)] := hl
  generalize ([.ref (a 3), .int x1] : List Value).toArray = args at B ⊢
  have hx := B.1.1
  have hb := B.1.2.1
  have hown : s.vm.findClass RX2 = some m.cls := B.1.2.2.2.1
  have hts := B.1.2.2.2.2
  unfold f_X2_hasRoomForBookings at h
  refine lv_iload_n hx hb dX2_hasRoomForBookings_0 rfl (lv_at hl 1 rfl) ?_
  refine lv_bipush (v := 30) hx hb dX2_hasRoomForBookings_1 (by decide) ?_
  refine lv_aload_n hx hb dX2_hasRoomForBookings_3 rfl (lv_at hl 0 rfl) ?_
  refine gw_get (T := TX2) (k := 7) (v := .int (S 3 7)) B hI gc_g3 rfl ly_X2_hasRoomForBookings_2 (by decide) m_X2_hasRoomForBookings_49 rfl rfl dX2_hasRoomForBookings_4 ?_
  refine lv_isub hx hb dX2_hasRoomForBookings_7 ?_
  refine lv_icmp_gt (tgt := 15) hx hb dX2_hasRoomForBookings_8 (by decide) (fun c1 => ?_) (fun c1 => ?_)
  · replace h := gw_ifT c1 h
    refine lv_iconst (v := 0) hx hb dX2_hasRoomForBookings_15 (by decide) ?_
    rw [← Option.some.inj h]
    exact gw_zret (W' := (fun w => w = gw_cw cc a b d S)) B hI rfl (Or.inl rfl) (Nat.zero_le _) (Nat.zero_le _) dX2_hasRoomForBookings_16
  · replace h := gw_ifF c1 h
    refine lv_iconst (v := 1) hx hb dX2_hasRoomForBookings_11 (by decide) ?_
    refine lv_goto (tgt := 16) hx hb dX2_hasRoomForBookings_12 (by decide) ?_
    rw [← Option.some.inj h]
    exact gw_zret (W' := (fun w => w = gw_cw cc a b d S)) B hI rfl (Or.inr rfl) (Nat.zero_le _) (Nat.zero_le _) dX2_hasRoomForBookings_16
set_option maxRecDepth 100000 in
set_option maxHeartbeats 4000000 in
theorem k_X8_isIn (x0 : Int32) (x1 : Int32) (x2 : Int32) (S : gw_S) {zr : Int32} (h : f_X8_isIn x0 x1 x2 S = some zr) : gw_M l yX8_isIn wsX8_isIn rm_X8_isIn 0 0 D (gw_ty cc) t1 t2 [.int x0, .int x1, .int x2] (gw_cw cc a b d S) (fun w => w = gw_cw cc a b d S) (some (.int zr)) := by
  refine gw_enter (cc := cX8_isIn) (maxL := 3) (ret := (some .boolean)) (own := RX8) rfl (by decide) rfl (Nat.le_of_ble_eq_true rfl) ?_
  intro p e s m below meth c A B hin hI ls hl
  have hl : lv_has ls 3 [(0, .int x0), (1, .int x1), (2, .int x2)] := hl
  generalize ([.int x0, .int x1, .int x2] : List Value).toArray = args at B ⊢
  have hx := B.1.1
  have hb := B.1.2.1
  have hown : s.vm.findClass RX8 = some m.cls := B.1.2.2.2.1
  have hts := B.1.2.2.2.2
  unfold f_X8_isIn at h
  refine lv_iload_n hx hb dX8_isIn_0 rfl (lv_at hl 0 rfl) ?_
  refine lv_iload_n hx hb dX8_isIn_1 rfl (lv_at hl 1 rfl) ?_
  refine lv_icmp_lt (tgt := 14) hx hb dX8_isIn_2 (by decide) (fun c1 => ?_) (fun c1 => ?_)
  · replace h := gw_ifT c1 h
    refine lv_iconst (v := 0) hx hb dX8_isIn_14 (by decide) ?_
    rw [← Option.some.inj h]
    exact gw_zret (W' := (fun w => w = gw_cw cc a b d S)) B hI rfl (Or.inl rfl) (Nat.zero_le _) (Nat.zero_le _) dX8_isIn_15
  · replace h := gw_ifF c1 h
    refine lv_iload_n hx hb dX8_isIn_5 rfl (lv_at hl 0 rfl) ?_
    refine lv_iload_n hx hb dX8_isIn_6 rfl (lv_at hl 2 rfl) ?_
    refine lv_icmp_gt (tgt := 14) hx hb dX8_isIn_7 (by decide) (fun c2 => ?_) (fun c2 => ?_)
    · replace h := gw_ifT c2 h
      refine lv_iconst (v := 0) hx hb dX8_isIn_14 (by decide) ?_
      rw [← Option.some.inj h]
      exact gw_zret (W' := (fun w => w = gw_cw cc a b d S)) B hI rfl (Or.inl rfl) (Nat.zero_le _) (Nat.zero_le _) dX8_isIn_15
    · replace h := gw_ifF c2 h
      refine lv_iconst (v := 1) hx hb dX8_isIn_10 (by decide) ?_
      refine lv_goto (tgt := 15) hx hb dX8_isIn_11 (by decide) ?_
      rw [← Option.some.inj h]
      exact gw_zret (W' := (fun w => w = gw_cw cc a b d S)) B hI rfl (Or.inr rfl) (Nat.zero_le _) (Nat.zero_le _) dX8_isIn_15
set_option maxRecDepth 100000 in
set_option maxHeartbeats 4000000 in
theorem k_X8_isTown (x0 : Int32) (S : gw_S) {zr : Int32} (h : f_X8_isTown x0 S = some zr) : gw_M l yX8_isTown wsX8_isTown rm_X8_isTown 0 0 D (gw_ty cc) t1 t2 [.int x0] (gw_cw cc a b d S) (fun w => w = gw_cw cc a b d S) (some (.int zr)) := by
  refine gw_enter (cc := cX8_isTown) (maxL := 1) (ret := (some .boolean)) (own := RX8) rfl (by decide) rfl (Nat.le_of_ble_eq_true rfl) ?_
  intro p e s m below meth c A B hin hI ls hl
  have hl : lv_has ls 1 [(0, .int x0)] := hl
  generalize ([.int x0] : List Value).toArray = args at B ⊢
  have hx := B.1.1
  have hb := B.1.2.1
  have hown : s.vm.findClass RX8 = some m.cls := B.1.2.2.2.1
  have hts := B.1.2.2.2.2
  unfold f_X8_isTown at h
  refine lv_iload_n hx hb dX8_isTown_0 rfl (lv_at hl 0 rfl) ?_
  refine lv_iconst (v := 0) hx hb dX8_isTown_1 (by decide) ?_
  refine lv_bipush (v := 8) hx hb dX8_isTown_2 (by decide) ?_
  obtain ⟨r1, e2, h⟩ := gw_bdE h
  refine gw_callS (As := [.int x0, .int (0 : Int32), .int (8 : Int32)]) (n := 3) B hI (k_X8_isIn x0 (0 : Int32) (8 : Int32) S e2) gX8_isTown_X8_isIn rfl rfl rfl nds_X8_isIn ⟨Nat.le_of_ble_eq_true rfl, Nat.le_of_ble_eq_true rfl⟩ rfl hl.1 (Nat.zero_le _) dX8_isTown_4 ⟨Nat.le_of_ble_eq_true rfl, Nat.le_of_ble_eq_true rfl⟩ rfl (fun w' H locs hw hI => ?_)
  subst hw
  obtain ⟨g3, h⟩ := gw_gdE h
  rw [← Option.some.inj h]
  exact gw_zret (W' := (fun w => w = gw_cw cc a b d S)) B hI rfl g3 (Nat.zero_le _) (Nat.zero_le _) dX8_isTown_7
theorem m_X2_setPost_25 : Cond.fieldLink RX2 25 "GownLet$House" "post" "[I" ∈ wsX2_setPost := by decide +kernel
theorem ly_X2_setPost_2 : ∀ w ∈ wsX20, w ∈ wsX2_setPost := fun w h => List.mem_cons_of_mem _ (List.mem_append_right _ h)
set_option maxRecDepth 100000 in
set_option maxHeartbeats 4000000 in
theorem k_X2_setPost (x1 : Int32) (x2 : Int32) (x3 : Int32) (S : gw_S)  {zS : gw_S} (h : f_X2_setPost x1 x2 x3 S = some zS) : gw_M l yX2_setPost wsX2_setPost rm_X2_setPost 0 0 D (gw_ty cc) t1 t2 [.ref (a 3), .int x1, .int x2, .int x3] (gw_cw cc a b d S) (fun w => w = gw_cw cc a b d zS) none := by
  refine gw_enter (cc := cX2_setPost) (maxL := 4) (ret := none) (own := RX2) rfl (by decide) rfl (Nat.le_of_ble_eq_true rfl) ?_
  intro p e s m below meth c A B hin hI ls hl
  have hl : lv_has ls 4 [(0, .ref (a 3)), (1, .int x1), (2, .int x2), (3, .int x3)] := hl
  generalize ([.ref (a 3), .int x1, .int x2, .int x3] : List Value).toArray = args at B ⊢
  have hx := B.1.1
  have hb := B.1.2.1
  have hown : s.vm.findClass RX2 = some m.cls := B.1.2.2.2.1
  have hts := B.1.2.2.2.2
  unfold f_X2_setPost at h
  refine lv_iload_n hx hb dX2_setPost_0 rfl (lv_at hl 1 rfl) ?_
  obtain ⟨r1, e2, h⟩ := gw_bdE h
  refine gw_callSN (As := [.int x1]) (n := 1) B hI (k_X8_isTown x1 S e2) ggX2_setPost_X8_isTown rfl rfl rfl n_RX2_X8_isTown (by decide +kernel) (by decide +kernel) nds_X8_isTown ⟨Nat.le_of_ble_eq_true rfl, Nat.le_of_ble_eq_true rfl⟩ rfl hl.1 (Nat.zero_le _) dX2_setPost_1 ⟨Nat.le_of_ble_eq_true rfl, Nat.le_of_ble_eq_true rfl⟩ rfl (fun w' H locs hw hI => ?_)
  subst hw
  refine lv_if_eq (tgt := 38) hx hb dX2_setPost_4 (by decide) (fun c3 => ?_) (fun c3 => ?_)
  · replace h := gw_ifT c3 h
    rw [Option.some.inj h] at hI
    exact gw_vret (W' := (fun w => w = gw_cw cc a b d zS)) B hI rfl (Nat.zero_le _) (Nat.zero_le _) dX2_setPost_38
  · replace h := gw_ifF c3 h
    refine lv_iload_n hx hb dX2_setPost_7 rfl (lv_at hl 2 rfl) ?_
    obtain ⟨r4, e5, h⟩ := gw_bdE h
    refine gw_callSN (As := [.int x2]) (n := 1) B hI (k_X8_isTown x2 S e5) ggX2_setPost_X8_isTown rfl rfl rfl n_RX2_X8_isTown (by decide +kernel) (by decide +kernel) nds_X8_isTown ⟨Nat.le_of_ble_eq_true rfl, Nat.le_of_ble_eq_true rfl⟩ rfl hl.1 (Nat.zero_le _) dX2_setPost_8 ⟨Nat.le_of_ble_eq_true rfl, Nat.le_of_ble_eq_true rfl⟩ rfl (fun w' H locs hw hI => ?_)
    subst hw
    refine lv_if_eq (tgt := 38) hx hb dX2_setPost_11 (by decide) (fun c6 => ?_) (fun c6 => ?_)
    · replace h := gw_ifT c6 h
      rw [Option.some.inj h] at hI
      exact gw_vret (W' := (fun w => w = gw_cw cc a b d zS)) B hI rfl (Nat.zero_le _) (Nat.zero_le _) dX2_setPost_38
    · replace h := gw_ifF c6 h
      refine lv_aload_n hx hb dX2_setPost_14 rfl (lv_at hl 0 rfl) ?_
      refine gw_get (T := TX2) (k := 2) (v := .ref (a 11)) B hI gc_g3 rfl ly_X2_setPost_2 (by decide) m_X2_setPost_25 rfl rfl dX2_setPost_15 ?_
      refine lv_iload_n hx hb dX2_setPost_18 rfl (lv_at hl 1 rfl) ?_
      refine lv_bipush (v := 9) hx hb dX2_setPost_19 (by decide) ?_
      refine lv_imul hx hb dX2_setPost_21 ?_
      refine lv_iload_n hx hb dX2_setPost_22 rfl (lv_at hl 2 rfl) ?_
      refine lv_iadd hx hb dX2_setPost_23 ?_
      refine lv_iload_n hx hb dX2_setPost_24 rfl (lv_at hl 3 rfl) ?_
      obtain ⟨g7, h⟩ := gw_gdE h
      obtain ⟨S8, e9, h⟩ := gw_letE h
      refine gw_iast (t0 := 0) (w' := gw_cw cc a b d S8) B hI gc_g11 rfl g7 (gc_s11 e9) dX2_setPost_25 (fun H locs hI => ?_)
      refine lv_aload_n hx hb dX2_setPost_26 rfl (lv_at hl 0 rfl) ?_
      refine gw_get (T := TX2) (k := 2) (v := .ref (a 11)) B hI gc_g3 rfl ly_X2_setPost_2 (by decide) m_X2_setPost_25 rfl rfl dX2_setPost_27 ?_
      refine lv_iload_n hx hb dX2_setPost_30 rfl (lv_at hl 2 rfl) ?_
      refine lv_bipush (v := 9) hx hb dX2_setPost_31 (by decide) ?_
      refine lv_imul hx hb dX2_setPost_33 ?_
      refine lv_iload_n hx hb dX2_setPost_34 rfl (lv_at hl 1 rfl) ?_
      refine lv_iadd hx hb dX2_setPost_35 ?_
      refine lv_iload_n hx hb dX2_setPost_36 rfl (lv_at hl 3 rfl) ?_
      obtain ⟨g10, h⟩ := gw_gdE h
      obtain ⟨S11, e12, h⟩ := gw_letE h
      refine gw_iast (t0 := 0) (w' := gw_cw cc a b d S11) B hI gc_g11 rfl g10 (gc_s11 e12) dX2_setPost_37 (fun H locs hI => ?_)
      rw [Option.some.inj h] at hI
      exact gw_vret (W' := (fun w => w = gw_cw cc a b d zS)) B hI rfl (Nat.zero_le _) (Nat.zero_le _) dX2_setPost_38
theorem m_X2_offBy_21 : Cond.fieldLink RX2 21 "GownLet$House" "lies" "LGownLet$Lies;" ∈ wsX2_offBy := by decide +kernel
theorem ly_X2_offBy_0 : ∀ w ∈ wsX00, w ∈ wsX2_offBy := fun w h => List.mem_cons_of_mem _ (List.mem_append_left _ (List.mem_append_right _ h))
theorem ly_X2_offBy_2 : ∀ w ∈ wsX20, w ∈ wsX2_offBy := fun w h => List.mem_cons_of_mem _ (List.mem_append_left _ (List.mem_append_left _ (List.mem_append_right _ h)))
theorem ly_X2_offBy_4 : ∀ w ∈ wsX40, w ∈ wsX2_offBy := fun w h => List.mem_cons_of_mem _ (List.mem_append_left _ (List.mem_append_left _ (List.mem_append_left _ (List.mem_append_right _ h))))
set_option maxRecDepth 100000 in
set_option maxHeartbeats 4000000 in
theorem k_X2_offBy (x1 : Int32) (x2 : Int32) (S : gw_S) {zr : Int32} (h : f_X2_offBy x1 x2 S = some zr) : gw_M l yX2_offBy wsX2_offBy rm_X2_offBy 0 0 D (gw_ty cc) t1 t2 [.ref (a 3), va_rf (gw_rf b x1), va_rf (gw_rf d x2)] (gw_cw cc a b d S) (fun w => w = gw_cw cc a b d S) (some (.int zr)) := by
  refine gw_enter (cc := cX2_offBy) (maxL := 3) (ret := (some .int)) (own := RX2) rfl (by decide) rfl (by simp [lg_sl, gw_catq, gw_cI, gw_cR, gw_cL]) ?_
  intro p e s m below meth c A B hin hI ls hl
  have hl : lv_has ls 3 [(0, .ref (a 3)), (1, va_rf (gw_rf b x1)), (2, va_rf (gw_rf d x2))] := by simpa [lv_args, gw_catq, gw_cI, gw_cR, gw_cL] using hl
  generalize ([.ref (a 3), va_rf (gw_rf b x1), va_rf (gw_rf d x2)] : List Value).toArray = args at B ⊢
  have hx := B.1.1
  have hb := B.1.2.1
  have hown : s.vm.findClass RX2 = some m.cls := B.1.2.2.2.1
  have hts := B.1.2.2.2.2
  unfold f_X2_offBy at h
  refine gw_aload_n B dX2_offBy_0 rfl (lv_at hl 1 rfl) ?_
  obtain ⟨g1, h⟩ := gw_gdE h
  rw [gw_rfP g1]
  obtain ⟨g2, h⟩ := gw_gdE h
  refine gw_getN (T := TX4) (k := 2) (v := .int (S (2 * x1.toNatClampNeg + 30) 2)) B hI (gc_gp g2) rfl ly_X2_offBy_4 (by decide) n_RX2_72 rfl rfl dX2_offBy_1 ?_
  refine lv_aload_n hx hb dX2_offBy_4 rfl (lv_at hl 0 rfl) ?_
  refine gw_get (T := TX2) (k := 1) (v := .ref (a 7)) B hI gc_g3 rfl ly_X2_offBy_2 (by decide) m_X2_offBy_21 rfl rfl dX2_offBy_5 ?_
  refine gw_aload_n B dX2_offBy_8 rfl (lv_at hl 1 rfl) ?_
  rw [gw_rfP g1]
  refine gw_getN (T := TX4) (k := 1) (v := .int (S (2 * x1.toNatClampNeg + 30) 1)) B hI (gc_gp g2) rfl ly_X2_offBy_4 (by decide) n_RX2_75 rfl rfl dX2_offBy_9 ?_
  obtain ⟨r3, e4, h⟩ := gw_bdE h
  refine gw_callV (As := [.int (S (2 * x1.toNatClampNeg + 30) 1)]) (n := 1) B hI (k_X3_low (S (2 * x1.toNatClampNeg + 30) 1) S e4) gX2_offBy_X3_low rfl rfl rfl nd_X3_low ⟨Nat.le_of_ble_eq_true rfl, Nat.le_of_ble_eq_true rfl⟩ gc_g7 rfl rfl rfl hl.1 (by simp [gw_catq, gw_cI, gw_cR, gw_cL]) dX2_offBy_12 ⟨Nat.le_of_ble_eq_true rfl, Nat.le_of_ble_eq_true rfl⟩ rfl (fun w' H locs hw hI => ?_)
  subst hw
  refine lv_iadd hx hb dX2_offBy_15 ?_
  refine gw_aload_n B dX2_offBy_16 rfl (lv_at hl 1 rfl) ?_
  rw [gw_rfP g1]
  refine gw_getN (T := TX4) (k := 8) (v := .int (S (2 * x1.toNatClampNeg + 30) 8)) B hI (gc_gp g2) rfl ly_X2_offBy_4 (by decide) n_RX2_81 rfl rfl dX2_offBy_17 ?_
  refine lv_iadd hx hb dX2_offBy_20 ?_
  refine gw_aload_n B dX2_offBy_21 rfl (lv_at hl 2 rfl) ?_
  obtain ⟨g5, h⟩ := gw_gdE h
  rw [gw_rfP g5]
  obtain ⟨g6, h⟩ := gw_gdE h
  refine gw_getN (T := TX0) (k := 1) (v := .int (S (2 * x2.toNatClampNeg + 31) 1)) B hI (gc_gb g6) rfl ly_X2_offBy_0 (by decide) n_RX2_87 rfl rfl dX2_offBy_22 ?_
  refine lv_isub hx hb dX2_offBy_25 ?_
  refine gw_mabs B hl.1 (hown := hown) (by decide +kernel) (by decide +kernel) (by decide +kernel) (by decide +kernel) (by decide) (by simp [gw_catq, gw_cI, gw_cR, gw_cL]) (Nat.zero_le _) (Nat.zero_le _) dX2_offBy_26 ?_
  rw [← Option.some.inj h]
  exact gw_iret (W' := (fun w => w = gw_cw cc a b d S)) B hI rfl (Nat.zero_le _) (Nat.zero_le _) dX2_offBy_29
theorem m_X2_firstAway_12 : Cond.fieldLink RX2 12 "GownLet$House" "terms" "LGownLet$Terms;" ∈ wsX2_firstAway := by decide +kernel
theorem ly_X2_firstAway_0 : ∀ w ∈ wsX00, w ∈ wsX2_firstAway := fun w h => List.mem_cons_of_mem _ (List.mem_append_left _ (List.mem_append_left _ (List.mem_append_left _ (List.mem_append_right _ h))))
theorem ly_X2_firstAway_2 : ∀ w ∈ wsX20, w ∈ wsX2_firstAway := fun w h => List.mem_cons_of_mem _ (List.mem_append_left _ (List.mem_append_left _ (List.mem_append_right _ h)))
theorem ly_X2_firstAway_4 : ∀ w ∈ wsX40, w ∈ wsX2_firstAway := fun w h => List.mem_cons_of_mem _ (List.mem_append_left _ (List.mem_append_right _ h))
set_option maxRecDepth 100000 in
set_option maxHeartbeats 4000000 in
theorem k_X2_firstAway (x1 : Int32) (x2 : Int32) (S : gw_S) {zr : Int32} (h : f_X2_firstAway x1 x2 S = some zr) : gw_M l yX2_firstAway wsX2_firstAway rm_X2_firstAway 0 0 D (gw_ty cc) t1 t2 [.ref (a 3), va_rf (gw_rf b x1), va_rf (gw_rf d x2)] (gw_cw cc a b d S) (fun w => w = gw_cw cc a b d S) (some (.int zr)) := by
  refine gw_enter (cc := cX2_firstAway) (maxL := 3) (ret := (some .int)) (own := RX2) rfl (by decide) rfl (by simp [lg_sl, gw_catq, gw_cI, gw_cR, gw_cL]) ?_
  intro p e s m below meth c A B hin hI ls hl
  have hl : lv_has ls 3 [(0, .ref (a 3)), (1, va_rf (gw_rf b x1)), (2, va_rf (gw_rf d x2))] := by simpa [lv_args, gw_catq, gw_cI, gw_cR, gw_cL] using hl
  generalize ([.ref (a 3), va_rf (gw_rf b x1), va_rf (gw_rf d x2)] : List Value).toArray = args at B ⊢
  have hx := B.1.1
  have hb := B.1.2.1
  have hown : s.vm.findClass RX2 = some m.cls := B.1.2.2.2.1
  have hts := B.1.2.2.2.2
  unfold f_X2_firstAway at h
  refine gw_aload_n B dX2_firstAway_0 rfl (lv_at hl 2 rfl) ?_
  obtain ⟨g1, h⟩ := gw_gdE h
  rw [gw_rfP g1]
  obtain ⟨g2, h⟩ := gw_gdE h
  refine gw_getN (T := TX0) (k := 3) (v := .int (S (2 * x2.toNatClampNeg + 31) 3)) B hI (gc_gb g2) rfl ly_X2_firstAway_0 (by decide) n_RX2_102 rfl rfl dX2_firstAway_1 ?_
  refine lv_aload_n hx hb dX2_firstAway_4 rfl (lv_at hl 0 rfl) ?_
  refine gw_get (T := TX2) (k := 0) (v := .ref (a 4)) B hI gc_g3 rfl ly_X2_firstAway_2 (by decide) m_X2_firstAway_12 rfl rfl dX2_firstAway_5 ?_
  refine lv_iconst (v := 0) hx hb dX2_firstAway_8 (by decide) ?_
  obtain ⟨r3, e4, h⟩ := gw_bdE h
  refine gw_callV (As := [.int (0 : Int32)]) (n := 1) B hI (k_X7_at (0 : Int32) S e4) gX2_firstAway_X7_at rfl rfl rfl nd_X7_at ⟨Nat.le_of_ble_eq_true rfl, Nat.le_of_ble_eq_true rfl⟩ gc_g4 rfl rfl rfl hl.1 (by simp [gw_catq, gw_cI, gw_cR, gw_cL]) dX2_firstAway_9 ⟨Nat.le_of_ble_eq_true rfl, Nat.le_of_ble_eq_true rfl⟩ rfl (fun w' H locs hw hI => ?_)
  subst hw
  refine lv_isub hx hb dX2_firstAway_12 ?_
  refine lv_aload_n hx hb dX2_firstAway_13 rfl (lv_at hl 0 rfl) ?_
  refine gw_aload_n B dX2_firstAway_14 rfl (lv_at hl 1 rfl) ?_
  obtain ⟨g5, h⟩ := gw_gdE h
  rw [gw_rfP g5]
  obtain ⟨g6, h⟩ := gw_gdE h
  refine gw_getN (T := TX4) (k := 4) (v := .int (S (2 * x1.toNatClampNeg + 30) 4)) B hI (gc_gp g6) rfl ly_X2_firstAway_4 (by decide) n_RX2_105 rfl rfl dX2_firstAway_15 ?_
  refine gw_aload_n B dX2_firstAway_18 rfl (lv_at hl 2 rfl) ?_
  rw [gw_rfP g1]
  refine gw_getN (T := TX0) (k := 4) (v := .int (S (2 * x2.toNatClampNeg + 31) 4)) B hI (gc_gb g2) rfl ly_X2_firstAway_0 (by decide) n_RX2_108 rfl rfl dX2_firstAway_19 ?_
  obtain ⟨r7, e8, h⟩ := gw_bdE h
  refine gw_callV (As := [.int (S (2 * x1.toNatClampNeg + 30) 4), .int (S (2 * x2.toNatClampNeg + 31) 4)]) (n := 2) B hI (k_X2_postBetween (S (2 * x1.toNatClampNeg + 30) 4) (S (2 * x2.toNatClampNeg + 31) 4) S e8) gX2_firstAway_X2_postBetween rfl rfl rfl nd_X2_postBetween ⟨Nat.le_of_ble_eq_true rfl, Nat.le_of_ble_eq_true rfl⟩ gc_g3 rfl rfl rfl hl.1 (by simp [gw_catq, gw_cI, gw_cR, gw_cL]) dX2_firstAway_22 ⟨Nat.le_of_ble_eq_true rfl, Nat.le_of_ble_eq_true rfl⟩ rfl (fun w' H locs hw hI => ?_)
  subst hw
  refine lv_isub hx hb dX2_firstAway_25 ?_
  rw [← Option.some.inj h]
  exact gw_iret (W' := (fun w => w = gw_cw cc a b d S)) B hI rfl (Nat.zero_le _) (Nat.zero_le _) dX2_firstAway_26
theorem m_X2_lastAway_12 : Cond.fieldLink RX2 12 "GownLet$House" "terms" "LGownLet$Terms;" ∈ wsX2_lastAway := by decide +kernel
theorem ly_X2_lastAway_0 : ∀ w ∈ wsX00, w ∈ wsX2_lastAway := fun w h => List.mem_cons_of_mem _ (List.mem_append_left _ (List.mem_append_left _ (List.mem_append_left _ (List.mem_append_right _ h))))
theorem ly_X2_lastAway_2 : ∀ w ∈ wsX20, w ∈ wsX2_lastAway := fun w h => List.mem_cons_of_mem _ (List.mem_append_left _ (List.mem_append_right _ h))
theorem ly_X2_lastAway_4 : ∀ w ∈ wsX40, w ∈ wsX2_lastAway := fun w h => List.mem_cons_of_mem _ (List.mem_append_left _ (List.mem_append_left _ (List.mem_append_right _ h)))
set_option maxRecDepth 100000 in
set_option maxHeartbeats 4000000 in
theorem k_X2_lastAway (x1 : Int32) (x2 : Int32) (S : gw_S) {zr : Int32} (h : f_X2_lastAway x1 x2 S = some zr) : gw_M l yX2_lastAway wsX2_lastAway rm_X2_lastAway 0 0 D (gw_ty cc) t1 t2 [.ref (a 3), va_rf (gw_rf b x1), va_rf (gw_rf d x2)] (gw_cw cc a b d S) (fun w => w = gw_cw cc a b d S) (some (.int zr)) := by
  refine gw_enter (cc := cX2_lastAway) (maxL := 3) (ret := (some .int)) (own := RX2) rfl (by decide) rfl (by simp [lg_sl, gw_catq, gw_cI, gw_cR, gw_cL]) ?_
  intro p e s m below meth c A B hin hI ls hl
  have hl : lv_has ls 3 [(0, .ref (a 3)), (1, va_rf (gw_rf b x1)), (2, va_rf (gw_rf d x2))] := by simpa [lv_args, gw_catq, gw_cI, gw_cR, gw_cL] using hl
  generalize ([.ref (a 3), va_rf (gw_rf b x1), va_rf (gw_rf d x2)] : List Value).toArray = args at B ⊢
  have hx := B.1.1
  have hb := B.1.2.1
  have hown : s.vm.findClass RX2 = some m.cls := B.1.2.2.2.1
  have hts := B.1.2.2.2.2
  unfold f_X2_lastAway at h
  refine gw_aload_n B dX2_lastAway_0 rfl (lv_at hl 2 rfl) ?_
  obtain ⟨g1, h⟩ := gw_gdE h
  rw [gw_rfP g1]
  obtain ⟨g2, h⟩ := gw_gdE h
  refine gw_getN (T := TX0) (k := 3) (v := .int (S (2 * x2.toNatClampNeg + 31) 3)) B hI (gc_gb g2) rfl ly_X2_lastAway_0 (by decide) n_RX2_102 rfl rfl dX2_lastAway_1 ?_
  refine lv_aload_n hx hb dX2_lastAway_4 rfl (lv_at hl 0 rfl) ?_
  refine gw_aload_n B dX2_lastAway_5 rfl (lv_at hl 1 rfl) ?_
  obtain ⟨g3, h⟩ := gw_gdE h
  rw [gw_rfP g3]
  obtain ⟨g4, h⟩ := gw_gdE h
  refine gw_getN (T := TX4) (k := 4) (v := .int (S (2 * x1.toNatClampNeg + 30) 4)) B hI (gc_gp g4) rfl ly_X2_lastAway_4 (by decide) n_RX2_105 rfl rfl dX2_lastAway_6 ?_
  refine gw_aload_n B dX2_lastAway_9 rfl (lv_at hl 2 rfl) ?_
  rw [gw_rfP g1]
  refine gw_getN (T := TX0) (k := 4) (v := .int (S (2 * x2.toNatClampNeg + 31) 4)) B hI (gc_gb g2) rfl ly_X2_lastAway_0 (by decide) n_RX2_108 rfl rfl dX2_lastAway_10 ?_
  obtain ⟨r5, e6, h⟩ := gw_bdE h
  refine gw_callV (As := [.int (S (2 * x1.toNatClampNeg + 30) 4), .int (S (2 * x2.toNatClampNeg + 31) 4)]) (n := 2) B hI (k_X2_postBetween (S (2 * x1.toNatClampNeg + 30) 4) (S (2 * x2.toNatClampNeg + 31) 4) S e6) gX2_lastAway_X2_postBetween rfl rfl rfl nd_X2_postBetween ⟨Nat.le_of_ble_eq_true rfl, Nat.le_of_ble_eq_true rfl⟩ gc_g3 rfl rfl rfl hl.1 (by simp [gw_catq, gw_cI, gw_cR, gw_cL]) dX2_lastAway_13 ⟨Nat.le_of_ble_eq_true rfl, Nat.le_of_ble_eq_true rfl⟩ rfl (fun w' H locs hw hI => ?_)
  subst hw
  refine lv_iadd hx hb dX2_lastAway_16 ?_
  refine lv_aload_n hx hb dX2_lastAway_17 rfl (lv_at hl 0 rfl) ?_
  refine gw_get (T := TX2) (k := 0) (v := .ref (a 4)) B hI gc_g3 rfl ly_X2_lastAway_2 (by decide) m_X2_lastAway_12 rfl rfl dX2_lastAway_18 ?_
  refine lv_iconst (v := 1) hx hb dX2_lastAway_21 (by decide) ?_
  obtain ⟨r7, e8, h⟩ := gw_bdE h
  refine gw_callV (As := [.int (1 : Int32)]) (n := 1) B hI (k_X7_at (1 : Int32) S e8) gX2_lastAway_X7_at rfl rfl rfl nd_X7_at ⟨Nat.le_of_ble_eq_true rfl, Nat.le_of_ble_eq_true rfl⟩ gc_g4 rfl rfl rfl hl.1 (by simp [gw_catq, gw_cI, gw_cR, gw_cL]) dX2_lastAway_22 ⟨Nat.le_of_ble_eq_true rfl, Nat.le_of_ble_eq_true rfl⟩ rfl (fun w' H locs hw hI => ?_)
  subst hw
  refine lv_iadd hx hb dX2_lastAway_25 ?_
  rw [← Option.some.inj h]
  exact gw_iret (W' := (fun w => w = gw_cw cc a b d S)) B hI rfl (Nat.zero_le _) (Nat.zero_le _) dX2_lastAway_26
theorem ly_X2_isFree_0 : ∀ w ∈ wsX00, w ∈ wsX2_isFree := fun w h => List.mem_cons_of_mem _ (List.mem_append_left _ (List.mem_append_left _ (List.mem_append_left _ (List.mem_append_right _ h))))
set_option maxRecDepth 100000 in
set_option maxHeartbeats 4000000 in
theorem k_X2_isFree (x1 : Int32) (x2 : Int32) (S : gw_S) {zr : Int32} (h : f_X2_isFree x1 x2 S = some zr) : gw_M l yX2_isFree wsX2_isFree rm_X2_isFree 0 0 D (gw_ty cc) t1 t2 [.ref (a 3), va_rf (gw_rf b x1), va_rf (gw_rf d x2)] (gw_cw cc a b d S) (fun w => w = gw_cw cc a b d S) (some (.int zr)) := by
  refine gw_enter (cc := cX2_isFree) (maxL := 3) (ret := (some .boolean)) (own := RX2) rfl (by decide) rfl (by simp [lg_sl, gw_catq, gw_cI, gw_cR, gw_cL]) ?_
  intro p e s m below meth c A B hin hI ls hl
  have hl : lv_has ls 3 [(0, .ref (a 3)), (1, va_rf (gw_rf b x1)), (2, va_rf (gw_rf d x2))] := by simpa [lv_args, gw_catq, gw_cI, gw_cR, gw_cL] using hl
  generalize ([.ref (a 3), va_rf (gw_rf b x1), va_rf (gw_rf d x2)] : List Value).toArray = args at B ⊢
  have hx := B.1.1
  have hb := B.1.2.1
  have hown : s.vm.findClass RX2 = some m.cls := B.1.2.2.2.1
  have hts := B.1.2.2.2.2
  unfold f_X2_isFree at h
  refine gw_aload_n B dX2_isFree_0 rfl (lv_at hl 1 rfl) ?_
  refine gw_aload_n B dX2_isFree_1 rfl (lv_at hl 2 rfl) ?_
  obtain ⟨g1, h⟩ := gw_gdE h
  rw [gw_rfP g1]
  obtain ⟨g2, h⟩ := gw_gdE h
  refine gw_getN (T := TX0) (k := 3) (v := .int (S (2 * x2.toNatClampNeg + 31) 3)) B hI (gc_gb g2) rfl ly_X2_isFree_0 (by decide) n_RX2_102 rfl rfl dX2_isFree_2 ?_
  obtain ⟨g3, h⟩ := gw_gdE h
  rw [gw_rfP g3]
  obtain ⟨g4, h⟩ := gw_gdE h
  obtain ⟨r5, e6, h⟩ := gw_bdE h
  refine gw_callV (As := [.int (S (2 * x2.toNatClampNeg + 31) 3)]) (n := 1) B hI (k_X4_canBeWornOn x1 (S (2 * x2.toNatClampNeg + 31) 3) S e6) gX2_isFree_X4_canBeWornOn rfl rfl rfl nd_X4_canBeWornOn ⟨Nat.le_of_ble_eq_true rfl, Nat.le_of_ble_eq_true rfl⟩ (gc_gp g4) rfl rfl rfl hl.1 (Nat.zero_le _) dX2_isFree_5 ⟨Nat.le_of_ble_eq_true rfl, Nat.le_of_ble_eq_true rfl⟩ rfl (fun w' H locs hw hI => ?_)
  subst hw
  refine lv_if_eq (tgt := 25) hx hb dX2_isFree_8 (by decide) (fun c7 => ?_) (fun c7 => ?_)
  · replace h := gw_ifT c7 h
    refine lv_iconst (v := 0) hx hb dX2_isFree_25 (by decide) ?_
    rw [← Option.some.inj h]
    exact gw_zret (W' := (fun w => w = gw_cw cc a b d S)) B hI rfl (Or.inl rfl) (Nat.zero_le _) (Nat.zero_le _) dX2_isFree_26
  · replace h := gw_ifF c7 h
    refine lv_aload_n hx hb dX2_isFree_11 rfl (lv_at hl 0 rfl) ?_
    refine gw_aload_n B dX2_isFree_12 rfl (lv_at hl 1 rfl) ?_
    refine gw_aload_n B dX2_isFree_13 rfl (lv_at hl 2 rfl) ?_
    obtain ⟨r8, e9, h⟩ := gw_bdE h
    refine gw_callV (As := [va_rf (gw_rf b x1), va_rf (gw_rf d x2)]) (n := 2) B hI (k_X2_holderInTheWay x1 x2 S e9) gX2_isFree_X2_holderInTheWay rfl rfl rfl nd_X2_holderInTheWay ⟨Nat.le_of_ble_eq_true rfl, Nat.le_of_ble_eq_true rfl⟩ gc_g3 rfl rfl rfl hl.1 (Nat.zero_le _) dX2_isFree_14 ⟨Nat.le_of_ble_eq_true rfl, Nat.le_of_ble_eq_true rfl⟩ rfl (fun w' H locs hw hI => ?_)
    subst hw
    refine lv_iconst (v := -1) hx hb dX2_isFree_17 (by decide) ?_
    refine lv_icmp_ne (tgt := 25) hx hb dX2_isFree_18 (by decide) (fun c10 => ?_) (fun c10 => ?_)
    · replace h := gw_ifF c10 h
      refine lv_iconst (v := 0) hx hb dX2_isFree_25 (by decide) ?_
      rw [← Option.some.inj h]
      exact gw_zret (W' := (fun w => w = gw_cw cc a b d S)) B hI rfl (Or.inl rfl) (Nat.zero_le _) (Nat.zero_le _) dX2_isFree_26
    · replace h := gw_ifT c10 h
      refine lv_iconst (v := 1) hx hb dX2_isFree_21 (by decide) ?_
      refine lv_goto (tgt := 26) hx hb dX2_isFree_22 (by decide) ?_
      rw [← Option.some.inj h]
      exact gw_zret (W' := (fun w => w = gw_cw cc a b d S)) B hI rfl (Or.inr rfl) (Nat.zero_le _) (Nat.zero_le _) dX2_isFree_26
theorem ly_X2_isBetter_0 : ∀ w ∈ wsX00, w ∈ wsX2_isBetter := fun w h => List.mem_cons_of_mem _ (List.mem_append_left _ (List.mem_append_left _ (List.mem_append_right _ h)))
theorem ly_X2_isBetter_4 : ∀ w ∈ wsX40, w ∈ wsX2_isBetter := fun w h => List.mem_cons_of_mem _ (List.mem_append_left _ (List.mem_append_left _ (List.mem_append_left _ (List.mem_append_right _ h))))
set_option maxRecDepth 100000 in
set_option maxHeartbeats 4000000 in
theorem k_X2_isBetter (x1 : Int32) (x2 : Int32) (x3 : Int32) (S : gw_S) {zr : Int32} (h : f_X2_isBetter x1 x2 x3 S = some zr) : gw_M l yX2_isBetter wsX2_isBetter rm_X2_isBetter 0 0 D (gw_ty cc) t1 t2 [.ref (a 3), va_rf (gw_rf b x1), va_rf (gw_rf b x2), va_rf (gw_rf d x3)] (gw_cw cc a b d S) (fun w => w = gw_cw cc a b d S) (some (.int zr)) := by
  refine gw_enter (cc := cX2_isBetter) (maxL := 6) (ret := (some .boolean)) (own := RX2) rfl (by decide) rfl (by simp [lg_sl, gw_catq, gw_cI, gw_cR, gw_cL]) ?_
  intro p e s m below meth c A B hin hI ls hl
  have hl : lv_has ls 6 [(0, .ref (a 3)), (1, va_rf (gw_rf b x1)), (2, va_rf (gw_rf b x2)), (3, va_rf (gw_rf d x3))] := by simpa [lv_args, gw_catq, gw_cI, gw_cR, gw_cL] using hl
  generalize ([.ref (a 3), va_rf (gw_rf b x1), va_rf (gw_rf b x2), va_rf (gw_rf d x3)] : List Value).toArray = args at B ⊢
  have hx := B.1.1
  have hb := B.1.2.1
  have hown : s.vm.findClass RX2 = some m.cls := B.1.2.2.2.1
  have hts := B.1.2.2.2.2
  unfold f_X2_isBetter at h
  refine lv_aload_n hx hb dX2_isBetter_0 rfl (lv_at hl 0 rfl) ?_
  refine gw_aload_n B dX2_isBetter_1 rfl (lv_at hl 1 rfl) ?_
  refine gw_aload_n B dX2_isBetter_2 rfl (lv_at hl 3 rfl) ?_
  obtain ⟨r1, e2, h⟩ := gw_bdE h
  refine gw_callV (As := [va_rf (gw_rf b x1), va_rf (gw_rf d x3)]) (n := 2) B hI (k_X2_offBy x1 x3 S e2) gX2_isBetter_X2_offBy rfl rfl rfl nd_X2_offBy ⟨Nat.le_of_ble_eq_true rfl, Nat.le_of_ble_eq_true rfl⟩ gc_g3 rfl rfl rfl hl.1 (Nat.zero_le _) dX2_isBetter_3 ⟨Nat.le_of_ble_eq_true rfl, Nat.le_of_ble_eq_true rfl⟩ rfl (fun w' H locs hw hI => ?_)
  subst hw
  refine lv_istore (i := 4) (lv' := [(4, .int r1), (0, .ref (a 3)), (1, va_rf (gw_rf b x1)), (2, va_rf (gw_rf b x2)), (3, va_rf (gw_rf d x3))]) hx hb dX2_isBetter_6 hl (by decide) (by simp [gw_catq, gw_cI, gw_cR, gw_cL]) (fun ls hl => ?_)
  refine lv_aload_n hx hb dX2_isBetter_8 rfl (lv_at hl 1 rfl) ?_
  refine gw_aload_n B dX2_isBetter_9 rfl (lv_at hl 3 rfl) ?_
  refine gw_aload_n B dX2_isBetter_10 rfl (lv_at hl 4 rfl) ?_
  obtain ⟨r3, e4, h⟩ := gw_bdE h
  refine gw_callV (As := [va_rf (gw_rf b x2), va_rf (gw_rf d x3)]) (n := 2) B hI (k_X2_offBy x2 x3 S e4) gX2_isBetter_X2_offBy rfl rfl rfl nd_X2_offBy ⟨Nat.le_of_ble_eq_true rfl, Nat.le_of_ble_eq_true rfl⟩ gc_g3 rfl rfl rfl hl.1 (Nat.zero_le _) dX2_isBetter_11 ⟨Nat.le_of_ble_eq_true rfl, Nat.le_of_ble_eq_true rfl⟩ rfl (fun w' H locs hw hI => ?_)
  subst hw
  refine lv_istore (lv' := [(5, .int r3), (4, .int r1), (0, .ref (a 3)), (1, va_rf (gw_rf b x1)), (2, va_rf (gw_rf b x2)), (3, va_rf (gw_rf d x3))]) hx hb dX2_isBetter_14 hl (by decide) rfl (fun ls hl => ?_)
  refine lv_iload hx hb dX2_isBetter_16 (lv_at hl 1 rfl) ?_
  refine lv_iload hx hb dX2_isBetter_18 (lv_at hl 0 rfl) ?_
  refine lv_icmp_eq (tgt := 36) hx hb dX2_isBetter_20 (by decide) (fun c5 => ?_) (fun c5 => ?_)
  · replace h := gw_ifT c5 h
    refine lv_aload_n hx hb dX2_isBetter_36 rfl (lv_at hl 2 rfl) ?_
    refine gw_aload_n B dX2_isBetter_37 rfl (lv_at hl 3 rfl) ?_
    obtain ⟨g6, h⟩ := gw_gdE h
    rw [gw_rfP g6]
    obtain ⟨g7, h⟩ := gw_gdE h
    refine gw_getN (T := TX4) (k := 4) (v := .int (S (2 * x1.toNatClampNeg + 30) 4)) B hI (gc_gp g7) rfl ly_X2_isBetter_4 (by decide) n_RX2_105 rfl rfl dX2_isBetter_38 ?_
    refine gw_aload_n B dX2_isBetter_41 rfl (lv_at hl 5 rfl) ?_
    obtain ⟨g8, h⟩ := gw_gdE h
    rw [gw_rfP g8]
    obtain ⟨g9, h⟩ := gw_gdE h
    refine gw_getN (T := TX0) (k := 4) (v := .int (S (2 * x3.toNatClampNeg + 31) 4)) B hI (gc_gb g9) rfl ly_X2_isBetter_0 (by decide) n_RX2_108 rfl rfl dX2_isBetter_42 ?_
    obtain ⟨r10, e11, h⟩ := gw_bdE h
    refine gw_callV (As := [.int (S (2 * x1.toNatClampNeg + 30) 4), .int (S (2 * x3.toNatClampNeg + 31) 4)]) (n := 2) B hI (k_X2_postBetween (S (2 * x1.toNatClampNeg + 30) 4) (S (2 * x3.toNatClampNeg + 31) 4) S e11) gX2_isBetter_X2_postBetween rfl rfl rfl nd_X2_postBetween ⟨Nat.le_of_ble_eq_true rfl, Nat.le_of_ble_eq_true rfl⟩ gc_g3 rfl rfl rfl hl.1 (Nat.zero_le _) dX2_isBetter_45 ⟨Nat.le_of_ble_eq_true rfl, Nat.le_of_ble_eq_true rfl⟩ rfl (fun w' H locs hw hI => ?_)
    subst hw
    refine lv_aload_n hx hb dX2_isBetter_48 rfl (lv_at hl 2 rfl) ?_
    refine gw_aload_n B dX2_isBetter_49 rfl (lv_at hl 4 rfl) ?_
    obtain ⟨g12, h⟩ := gw_gdE h
    rw [gw_rfP g12]
    obtain ⟨g13, h⟩ := gw_gdE h
    refine gw_getN (T := TX4) (k := 4) (v := .int (S (2 * x2.toNatClampNeg + 30) 4)) B hI (gc_gp g13) rfl ly_X2_isBetter_4 (by decide) n_RX2_105 rfl rfl dX2_isBetter_50 ?_
    refine gw_aload_n B dX2_isBetter_53 rfl (lv_at hl 5 rfl) ?_
    rw [gw_rfP g8]
    refine gw_getN (T := TX0) (k := 4) (v := .int (S (2 * x3.toNatClampNeg + 31) 4)) B hI (gc_gb g9) rfl ly_X2_isBetter_0 (by decide) n_RX2_108 rfl rfl dX2_isBetter_54 ?_
    obtain ⟨r14, e15, h⟩ := gw_bdE h
    refine gw_callV (As := [.int (S (2 * x2.toNatClampNeg + 30) 4), .int (S (2 * x3.toNatClampNeg + 31) 4)]) (n := 2) B hI (k_X2_postBetween (S (2 * x2.toNatClampNeg + 30) 4) (S (2 * x3.toNatClampNeg + 31) 4) S e15) gX2_isBetter_X2_postBetween rfl rfl rfl nd_X2_postBetween ⟨Nat.le_of_ble_eq_true rfl, Nat.le_of_ble_eq_true rfl⟩ gc_g3 rfl rfl rfl hl.1 (by simp [gw_catq, gw_cI, gw_cR, gw_cL]) dX2_isBetter_57 ⟨Nat.le_of_ble_eq_true rfl, Nat.le_of_ble_eq_true rfl⟩ rfl (fun w' H locs hw hI => ?_)
    subst hw
    refine lv_icmp_ge (tgt := 67) hx hb dX2_isBetter_60 (by decide) (fun c16 => ?_) (fun c16 => ?_)
    · replace h := gw_ifT c16 h
      refine lv_iconst (v := 0) hx hb dX2_isBetter_67 (by decide) ?_
      rw [← Option.some.inj h]
      exact gw_zret (W' := (fun w => w = gw_cw cc a b d S)) B hI rfl (Or.inl rfl) (Nat.zero_le _) (Nat.zero_le _) dX2_isBetter_68
    · replace h := gw_ifF c16 h
      refine lv_iconst (v := 1) hx hb dX2_isBetter_63 (by decide) ?_
      refine lv_goto (tgt := 68) hx hb dX2_isBetter_64 (by decide) ?_
      rw [← Option.some.inj h]
      exact gw_zret (W' := (fun w => w = gw_cw cc a b d S)) B hI rfl (Or.inr rfl) (Nat.zero_le _) (Nat.zero_le _) dX2_isBetter_68
  · replace h := gw_ifF c5 h
    refine lv_iload hx hb dX2_isBetter_23 (lv_at hl 1 rfl) ?_
    refine lv_iload hx hb dX2_isBetter_25 (lv_at hl 0 rfl) ?_
    refine lv_icmp_ge (tgt := 34) hx hb dX2_isBetter_27 (by decide) (fun c17 => ?_) (fun c17 => ?_)
    · replace h := gw_ifT c17 h
      refine lv_iconst (v := 0) hx hb dX2_isBetter_34 (by decide) ?_
      rw [← Option.some.inj h]
      exact gw_zret (W' := (fun w => w = gw_cw cc a b d S)) B hI rfl (Or.inl rfl) (Nat.zero_le _) (Nat.zero_le _) dX2_isBetter_35
    · replace h := gw_ifF c17 h
      refine lv_iconst (v := 1) hx hb dX2_isBetter_30 (by decide) ?_
      refine lv_goto (tgt := 35) hx hb dX2_isBetter_31 (by decide) ?_
      rw [← Option.some.inj h]
      exact gw_zret (W' := (fun w => w = gw_cw cc a b d S)) B hI rfl (Or.inr rfl) (Nat.zero_le _) (Nat.zero_le _) dX2_isBetter_35
theorem m_X2_bestFor_45 : Cond.fieldLink RX2 45 "GownLet$House" "pieceCount" "I" ∈ wsX2_bestFor := by decide +kernel
theorem ly_X2_bestFor_2 : ∀ w ∈ wsX20, w ∈ wsX2_bestFor := fun w h => List.mem_cons_of_mem _ (List.mem_append_left _ (List.mem_append_left _ (List.mem_append_left _ (List.mem_append_left _ (List.mem_append_right _ h)))))
theorem ly_X2_bestFor_4 : ∀ w ∈ wsX40, w ∈ wsX2_bestFor := fun w h => List.mem_cons_of_mem _ (List.mem_append_left _ (List.mem_append_left _ (List.mem_append_left _ (List.mem_append_right _ h))))
set_option maxRecDepth 100000 in
set_option maxHeartbeats 4000000 in
theorem k_X2_bestFor (x1 : Int32) (x2 : Int32) (S : gw_S) {zr : Int32} (h : f_X2_bestFor x1 x2 S = some zr) : gw_M l yX2_bestFor wsX2_bestFor rm_X2_bestFor 0 0 D (gw_ty cc) t1 t2 [.ref (a 3), va_rf (gw_rf d x1), .int x2] (gw_cw cc a b d S) (fun w => w = gw_cw cc a b d S) (some (va_rf (gw_rf b zr))) := by
  refine gw_enter (cc := cX2_bestFor) (maxL := 6) (ret := (some (.object "GownLet$Piece"))) (own := RX2) rfl (by decide) rfl (by simp [lg_sl, gw_catq, gw_cI, gw_cR, gw_cL]) ?_
  intro p e s m below meth c A B hin hI ls hl
  have hl : lv_has ls 6 [(0, .ref (a 3)), (1, va_rf (gw_rf d x1)), (2, .int x2)] := by simpa [lv_args, gw_catq, gw_cI, gw_cR, gw_cL] using hl
  generalize ([.ref (a 3), va_rf (gw_rf d x1), .int x2] : List Value).toArray = args at B ⊢
  have hx := B.1.1
  have hb := B.1.2.1
  have hown : s.vm.findClass RX2 = some m.cls := B.1.2.2.2.1
  have hts := B.1.2.2.2.2
  have hb82 : ∀ (K5 : Int32 → Int32 → Int32 → Int32 → Option (Int32)) (_ : ∀ (v1 : Int32) (v2 : Int32) (v3 : Int32) (v4 : Int32), K5 v1 v2 v3 v4 = some zr → ∀ (H : Heap) (locs : List Loc) (ls : Array Slot), gw_I D A s.heap (gw_cw cc a b d S) H locs → lv_has ls 6 [(0, .ref (a 3)), (1, va_rf (gw_rf d v1)), (2, .int v2), (3, va_rf (gw_rf b v3)), (4, .int v4)] → W p l e rm_X2_bestFor s m args below meth c H locs 0 0 (MQ below (gw_Q (some (va_rf (gw_rf b zr))) (gw_Pst D A (fun w => w = gw_cw cc a b d S)) A) args s 0 0 A) (F0 m 5 ls [])), ∀ (v1 : Int32) (v2 : Int32) (v3 : Int32) (v4 : Int32), f_X2_bestFor_b82 S K5 v1 v2 v3 v4 = some zr → ∀ (H : Heap) (locs : List Loc) (ls : Array Slot), gw_I D A s.heap (gw_cw cc a b d S) H locs → lv_has ls 6 [(0, .ref (a 3)), (1, va_rf (gw_rf d v1)), (2, .int v2), (3, va_rf (gw_rf b v3)), (4, .int v4)] → W p l e rm_X2_bestFor s m args below meth c H locs 0 0 (MQ below (gw_Q (some (va_rf (gw_rf b zr))) (gw_Pst D A (fun w => w = gw_cw cc a b d S)) A) args s 0 0 A) (F0 m 82 ls []) := by
    intro K5 hK5
    intro v1 v2 v3 v4 h H locs ls hI hl
    unfold f_X2_bestFor_b82 at h
    obtain ⟨y1, e2, h⟩ := gw_letE h
    refine lv_iinc (v := y1) (lv' := [(4, .int y1), (0, .ref (a 3)), (1, va_rf (gw_rf d v1)), (2, .int v2), (3, va_rf (gw_rf b v3))]) hx hb dX2_bestFor_82 hl (k := 4) rfl (by rw [e2]; rfl) (by decide) (by simp [gw_catq, gw_cI, gw_cR, gw_cL]) (fun ls hl => ?_)
    refine lv_goto (tgt := 5) hx hb dX2_bestFor_85 (by decide) ?_
    exact hK5 v1 v2 v3 y1 h _ _ _ hI (lv_sub hl [1, 2, 3, 4, 0] rfl)
  have hb79 : ∀ (K5 : Int32 → Int32 → Int32 → Int32 → Option (Int32)) (_ : ∀ (v1 : Int32) (v2 : Int32) (v3 : Int32) (v4 : Int32), K5 v1 v2 v3 v4 = some zr → ∀ (H : Heap) (locs : List Loc) (ls : Array Slot), gw_I D A s.heap (gw_cw cc a b d S) H locs → lv_has ls 6 [(0, .ref (a 3)), (1, va_rf (gw_rf d v1)), (2, .int v2), (3, va_rf (gw_rf b v3)), (4, .int v4)] → W p l e rm_X2_bestFor s m args below meth c H locs 0 0 (MQ below (gw_Q (some (va_rf (gw_rf b zr))) (gw_Pst D A (fun w => w = gw_cw cc a b d S)) A) args s 0 0 A) (F0 m 5 ls [])), ∀ (v1 : Int32) (v2 : Int32) (v4 : Int32) (v5 : Int32), f_X2_bestFor_b79 S K5 v1 v2 v4 v5 = some zr → ∀ (H : Heap) (locs : List Loc) (ls : Array Slot), gw_I D A s.heap (gw_cw cc a b d S) H locs → lv_has ls 6 [(0, .ref (a 3)), (1, va_rf (gw_rf d v1)), (2, .int v2), (4, .int v4), (5, va_rf (gw_rf b v5))] → W p l e rm_X2_bestFor s m args below meth c H locs 0 0 (MQ below (gw_Q (some (va_rf (gw_rf b zr))) (gw_Pst D A (fun w => w = gw_cw cc a b d S)) A) args s 0 0 A) (F0 m 79 ls []) := by
    intro K5 hK5
    intro v1 v2 v4 v5 h H locs ls hI hl
    unfold f_X2_bestFor_b79 at h
    refine gw_aload B dX2_bestFor_79 (lv_at hl 4 rfl) ?_
    refine gw_astore_n (lv' := [(3, va_rf (gw_rf b v5)), (0, .ref (a 3)), (1, va_rf (gw_rf d v1)), (2, .int v2), (4, .int v4), (5, va_rf (gw_rf b v5))]) B dX2_bestFor_81 rfl hl (by decide) rfl (fun ls hl => ?_)
    exact hb82 K5 hK5 v1 v2 v5 v4 h _ _ _ hI (lv_sub hl [1, 2, 3, 0, 4] rfl)
  have hb44 : ∀ (K5 : Int32 → Int32 → Int32 → Int32 → Option (Int32)) (_ : ∀ (v1 : Int32) (v2 : Int32) (v3 : Int32) (v4 : Int32), K5 v1 v2 v3 v4 = some zr → ∀ (H : Heap) (locs : List Loc) (ls : Array Slot), gw_I D A s.heap (gw_cw cc a b d S) H locs → lv_has ls 6 [(0, .ref (a 3)), (1, va_rf (gw_rf d v1)), (2, .int v2), (3, va_rf (gw_rf b v3)), (4, .int v4)] → W p l e rm_X2_bestFor s m args below meth c H locs 0 0 (MQ below (gw_Q (some (va_rf (gw_rf b zr))) (gw_Pst D A (fun w => w = gw_cw cc a b d S)) A) args s 0 0 A) (F0 m 5 ls [])), ∀ (v1 : Int32) (v2 : Int32) (v3 : Int32) (v4 : Int32) (v5 : Int32), f_X2_bestFor_b44 S K5 v1 v2 v3 v4 v5 = some zr → ∀ (H : Heap) (locs : List Loc) (ls : Array Slot), gw_I D A s.heap (gw_cw cc a b d S) H locs → lv_has ls 6 [(0, .ref (a 3)), (1, va_rf (gw_rf d v1)), (2, .int v2), (3, va_rf (gw_rf b v3)), (4, .int v4), (5, va_rf (gw_rf b v5))] → W p l e rm_X2_bestFor s m args below meth c H locs 0 0 (MQ below (gw_Q (some (va_rf (gw_rf b zr))) (gw_Pst D A (fun w => w = gw_cw cc a b d S)) A) args s 0 0 A) (F0 m 44 ls []) := by
    intro K5 hK5
    intro v1 v2 v3 v4 v5 h H locs ls hI hl
    unfold f_X2_bestFor_b44 at h
    refine lv_aload_n hx hb dX2_bestFor_44 rfl (lv_at hl 0 rfl) ?_
    refine gw_aload B dX2_bestFor_45 (lv_at hl 5 rfl) ?_
    refine gw_aload_n B dX2_bestFor_47 rfl (lv_at hl 1 rfl) ?_
    obtain ⟨r3, e4, h⟩ := gw_bdE h
    refine gw_callV (As := [va_rf (gw_rf b v5), va_rf (gw_rf d v1)]) (n := 2) B hI (k_X2_surelyFits v5 v1 S e4) gX2_bestFor_X2_surelyFits rfl rfl rfl nd_X2_surelyFits ⟨Nat.le_of_ble_eq_true rfl, Nat.le_of_ble_eq_true rfl⟩ gc_g3 rfl rfl rfl hl.1 (Nat.zero_le _) dX2_bestFor_48 ⟨Nat.le_of_ble_eq_true rfl, Nat.le_of_ble_eq_true rfl⟩ rfl (fun w' H locs hw hI => ?_)
    subst hw
    refine lv_if_eq (tgt := 82) hx hb dX2_bestFor_51 (by decide) (fun c5 => ?_) (fun c5 => ?_)
    · replace h := gw_ifT c5 h
      exact hb82 K5 hK5 v1 v2 v3 v4 h _ _ _ hI (lv_sub hl [0, 1, 2, 3, 4] rfl)
    · replace h := gw_ifF c5 h
      refine lv_aload_n hx hb dX2_bestFor_54 rfl (lv_at hl 0 rfl) ?_
      refine gw_aload B dX2_bestFor_55 (lv_at hl 5 rfl) ?_
      refine gw_aload_n B dX2_bestFor_57 rfl (lv_at hl 1 rfl) ?_
      obtain ⟨r6, e7, h⟩ := gw_bdE h
      refine gw_callV (As := [va_rf (gw_rf b v5), va_rf (gw_rf d v1)]) (n := 2) B hI (k_X2_isFree v5 v1 S e7) gX2_bestFor_X2_isFree rfl rfl rfl nd_X2_isFree ⟨Nat.le_of_ble_eq_true rfl, Nat.le_of_ble_eq_true rfl⟩ gc_g3 rfl rfl rfl hl.1 (Nat.zero_le _) dX2_bestFor_58 ⟨Nat.le_of_ble_eq_true rfl, Nat.le_of_ble_eq_true rfl⟩ rfl (fun w' H locs hw hI => ?_)
      subst hw
      refine lv_if_eq (tgt := 82) hx hb dX2_bestFor_61 (by decide) (fun c8 => ?_) (fun c8 => ?_)
      · replace h := gw_ifT c8 h
        exact hb82 K5 hK5 v1 v2 v3 v4 h _ _ _ hI (lv_sub hl [0, 1, 2, 3, 4] rfl)
      · replace h := gw_ifF c8 h
        refine gw_aload_n B dX2_bestFor_64 rfl (lv_at hl 3 rfl) ?_
        refine gw_ifnull (tgt := 79) B dX2_bestFor_65 (by decide) (fun c9 => ?_) (fun c9 => ?_)
        · replace h := gw_ifT c9 h
          exact hb79 K5 hK5 v1 v2 v4 v5 h _ _ _ hI (lv_sub hl [0, 1, 2, 4, 5] rfl)
        · replace h := gw_ifF c9 h
          refine lv_aload_n hx hb dX2_bestFor_68 rfl (lv_at hl 0 rfl) ?_
          refine gw_aload B dX2_bestFor_69 (lv_at hl 5 rfl) ?_
          refine gw_aload_n B dX2_bestFor_71 rfl (lv_at hl 3 rfl) ?_
          refine gw_aload_n B dX2_bestFor_72 rfl (lv_at hl 1 rfl) ?_
          obtain ⟨r10, e11, h⟩ := gw_bdE h
          refine gw_callV (As := [va_rf (gw_rf b v5), va_rf (gw_rf b v3), va_rf (gw_rf d v1)]) (n := 3) B hI (k_X2_isBetter v5 v3 v1 S e11) gX2_bestFor_X2_isBetter rfl rfl rfl nd_X2_isBetter ⟨Nat.le_of_ble_eq_true rfl, Nat.le_of_ble_eq_true rfl⟩ gc_g3 rfl rfl rfl hl.1 (Nat.zero_le _) dX2_bestFor_73 ⟨Nat.le_of_ble_eq_true rfl, Nat.le_of_ble_eq_true rfl⟩ rfl (fun w' H locs hw hI => ?_)
          subst hw
          refine lv_if_eq (tgt := 82) hx hb dX2_bestFor_76 (by decide) (fun c12 => ?_) (fun c12 => ?_)
          · replace h := gw_ifT c12 h
            exact hb82 K5 hK5 v1 v2 v3 v4 h _ _ _ hI (lv_sub hl [0, 1, 2, 3, 4] rfl)
          · replace h := gw_ifF c12 h
            exact hb79 K5 hK5 v1 v2 v4 v5 h _ _ _ hI (lv_sub hl [0, 1, 2, 4, 5] rfl)
  have hb5 :  ∀ (n : Nat), ∀ (v1 : Int32) (v2 : Int32) (v3 : Int32) (v4 : Int32), f_X2_bestFor_b5 S  n v1 v2 v3 v4 = some zr → ∀ (H : Heap) (locs : List Loc) (ls : Array Slot), gw_I D A s.heap (gw_cw cc a b d S) H locs → lv_has ls 6 [(0, .ref (a 3)), (1, va_rf (gw_rf d v1)), (2, .int v2), (3, va_rf (gw_rf b v3)), (4, .int v4)] → W p l e rm_X2_bestFor s m args below meth c H locs 0 0 (MQ below (gw_Q (some (va_rf (gw_rf b zr))) (gw_Pst D A (fun w => w = gw_cw cc a b d S)) A) args s 0 0 A) (F0 m 5 ls []) := by
    intro n
    induction n with
    | zero =>
      intro v1 v2 v3 v4 h
      cases h
    | succ n ih =>
      intro v1 v2 v3 v4 h H locs ls hI hl
      unfold f_X2_bestFor_b5 at h
      refine lv_iload hx hb dX2_bestFor_5 (lv_at hl 4 rfl) ?_
      refine lv_aload_n hx hb dX2_bestFor_7 rfl (lv_at hl 0 rfl) ?_
      refine gw_get (T := TX2) (k := 6) (v := .int (S 3 6)) B hI gc_g3 rfl ly_X2_bestFor_2 (by decide) m_X2_bestFor_45 rfl rfl dX2_bestFor_8 ?_
      refine lv_icmp_ge (tgt := 88) hx hb dX2_bestFor_11 (by decide) (fun c13 => ?_) (fun c13 => ?_)
      · replace h := gw_ifT c13 h
        refine gw_aload_n B dX2_bestFor_88 rfl (lv_at hl 3 rfl) ?_
        rw [← Option.some.inj h]
        exact gw_aret (W' := (fun w => w = gw_cw cc a b d S)) B hI rfl (Nat.zero_le _) (Nat.zero_le _) dX2_bestFor_89
      · replace h := gw_ifF c13 h
        refine lv_aload_n hx hb dX2_bestFor_14 rfl (lv_at hl 0 rfl) ?_
        refine lv_iload hx hb dX2_bestFor_15 (lv_at hl 4 rfl) ?_
        obtain ⟨r14, e15, h⟩ := gw_bdE h
        refine gw_callV (As := [.int v4]) (n := 1) B hI (k_X2_pieceAt v4 S e15) gX2_bestFor_X2_pieceAt rfl rfl rfl nd_X2_pieceAt ⟨Nat.le_of_ble_eq_true rfl, Nat.le_of_ble_eq_true rfl⟩ gc_g3 rfl rfl rfl hl.1 (Nat.zero_le _) dX2_bestFor_17 ⟨Nat.le_of_ble_eq_true rfl, Nat.le_of_ble_eq_true rfl⟩ rfl (fun w' H locs hw hI => ?_)
        subst hw
        refine gw_astore (lv' := [(5, va_rf (gw_rf b r14)), (0, .ref (a 3)), (1, va_rf (gw_rf d v1)), (2, .int v2), (3, va_rf (gw_rf b v3)), (4, .int v4)]) B dX2_bestFor_20 hl (by decide) rfl (fun ls hl => ?_)
        refine gw_aload B dX2_bestFor_22 (lv_at hl 0 rfl) ?_
        refine gw_ifnull (tgt := 82) B dX2_bestFor_24 (by decide) (fun c16 => ?_) (fun c16 => ?_)
        · replace h := gw_ifT c16 h
          exact hb82 (f_X2_bestFor_b5 S  n) ih v1 v2 v3 v4 h _ _ _ hI (lv_sub hl [1, 2, 3, 4, 5] rfl)
        · replace h := gw_ifF c16 h
          refine lv_iload_n hx hb dX2_bestFor_27 rfl (lv_at hl 3 rfl) ?_
          refine lv_iconst (v := -1) hx hb dX2_bestFor_28 (by decide) ?_
          refine lv_icmp_eq (tgt := 44) hx hb dX2_bestFor_29 (by decide) (fun c17 => ?_) (fun c17 => ?_)
          · replace h := gw_ifT c17 h
            exact hb44 (f_X2_bestFor_b5 S  n) ih v1 v2 v3 v4 r14 h _ _ _ hI (lv_sub hl [1, 2, 3, 4, 5, 0] rfl)
          · replace h := gw_ifF c17 h
            refine gw_aload B dX2_bestFor_32 (lv_at hl 0 rfl) ?_
            rw [gw_rfP c16]
            obtain ⟨g18, h⟩ := gw_gdE h
            refine gw_getN (T := TX4) (k := 3) (v := .int (S (2 * r14.toNatClampNeg + 30) 3)) B hI (gc_gp g18) rfl ly_X2_bestFor_4 (by decide) n_RX2_136 rfl rfl dX2_bestFor_34 ?_
            refine lv_iload_n hx hb dX2_bestFor_37 rfl (lv_at hl 3 rfl) ?_
            refine lv_icmp_eq (tgt := 44) hx hb dX2_bestFor_38 (by decide) (fun c19 => ?_) (fun c19 => ?_)
            · replace h := gw_ifT c19 h
              exact hb44 (f_X2_bestFor_b5 S  n) ih v1 v2 v3 v4 r14 h _ _ _ hI (lv_sub hl [1, 2, 3, 4, 5, 0] rfl)
            · replace h := gw_ifF c19 h
              refine lv_goto (tgt := 82) hx hb dX2_bestFor_41 (by decide) ?_
              exact hb82 (f_X2_bestFor_b5 S  n) ih v1 v2 v3 v4 h _ _ _ hI (lv_sub hl [1, 2, 3, 4, 5] rfl)
  unfold f_X2_bestFor at h
  refine gw_null (b := b) B dX2_bestFor_0 ?_
  refine gw_astore_n (lv' := [(3, va_rf (gw_rf b (-1 : Int32))), (0, .ref (a 3)), (1, va_rf (gw_rf d x1)), (2, .int x2)]) B dX2_bestFor_1 rfl hl (by decide) rfl (fun ls hl => ?_)
  refine lv_iconst (v := 0) hx hb dX2_bestFor_2 (by decide) ?_
  refine lv_istore (i := 4) (lv' := [(4, .int (0 : Int32)), (3, va_rf (gw_rf b (-1 : Int32))), (0, .ref (a 3)), (1, va_rf (gw_rf d x1)), (2, .int x2)]) hx hb dX2_bestFor_3 hl (by decide) (by simp [gw_catq, gw_cI, gw_cR, gw_cL]) (fun ls hl => ?_)
  exact hb5  gw_F x1 x2 (-1 : Int32) (0 : Int32) h _ _ _ hI (lv_sub hl [2, 3, 4, 1, 0] rfl)
theorem m_X2_takeFromNights_49 : Cond.fieldLink RX2 49 "GownLet$House" "bookingCount" "I" ∈ wsX2_takeFromNights := by decide +kernel
theorem ly_X2_takeFromNights_0 : ∀ w ∈ wsX00, w ∈ wsX2_takeFromNights := fun w h => List.mem_cons_of_mem _ (List.mem_append_right _ h)
theorem ly_X2_takeFromNights_2 : ∀ w ∈ wsX20, w ∈ wsX2_takeFromNights := fun w h => List.mem_cons_of_mem _ (List.mem_append_left _ (List.mem_append_right _ h))
set_option maxRecDepth 100000 in
set_option maxHeartbeats 4000000 in
theorem k_X2_takeFromNights (x1 : Int32) (x2 : Int32) (S : gw_S) {zr : Int32} {zS : gw_S} (h : f_X2_takeFromNights x1 x2 S = some (zr, zS)) : gw_M l yX2_takeFromNights wsX2_takeFromNights rm_X2_takeFromNights 0 0 D (gw_ty cc) t1 t2 [.ref (a 3), va_rf (gw_rf b x1), .int x2] (gw_cw cc a b d S) (fun w => w = gw_cw cc a b d zS) (some (.int zr)) := by
  refine gw_enter (cc := cX2_takeFromNights) (maxL := 6) (ret := (some .int)) (own := RX2) rfl (by decide) rfl (by simp [lg_sl, gw_catq, gw_cI, gw_cR, gw_cL]) ?_
  intro p e s m below meth c A B hin hI ls hl
  have hl : lv_has ls 6 [(0, .ref (a 3)), (1, va_rf (gw_rf b x1)), (2, .int x2)] := by simpa [lv_args, gw_catq, gw_cI, gw_cR, gw_cL] using hl
  generalize ([.ref (a 3), va_rf (gw_rf b x1), .int x2] : List Value).toArray = args at B ⊢
  have hx := B.1.1
  have hb := B.1.2.1
  have hown : s.vm.findClass RX2 = some m.cls := B.1.2.2.2.1
  have hts := B.1.2.2.2.2
  have hb62 : ∀ (K5 : Int32 → Int32 → Int32 → Int32 → gw_S → Option (Int32 × gw_S)) (_ : ∀ (v1 : Int32) (v2 : Int32) (v3 : Int32) (v4 : Int32) (S : gw_S), K5 v1 v2 v3 v4 S = some (zr, zS) → ∀ (H : Heap) (locs : List Loc) (ls : Array Slot), gw_I D A s.heap (gw_cw cc a b d S) H locs → lv_has ls 6 [(0, .ref (a 3)), (1, va_rf (gw_rf b v1)), (2, .int v2), (3, .int v3), (4, .int v4)] → W p l e rm_X2_takeFromNights s m args below meth c H locs 0 0 (MQ below (gw_Q (some (.int zr)) (gw_Pst D A (fun w => w = gw_cw cc a b d zS)) A) args s 0 0 A) (F0 m 5 ls [])), ∀ (v1 : Int32) (v2 : Int32) (v3 : Int32) (v4 : Int32) (S : gw_S), f_X2_takeFromNights_b62 K5 v1 v2 v3 v4 S = some (zr, zS) → ∀ (H : Heap) (locs : List Loc) (ls : Array Slot), gw_I D A s.heap (gw_cw cc a b d S) H locs → lv_has ls 6 [(0, .ref (a 3)), (1, va_rf (gw_rf b v1)), (2, .int v2), (3, .int v3), (4, .int v4)] → W p l e rm_X2_takeFromNights s m args below meth c H locs 0 0 (MQ below (gw_Q (some (.int zr)) (gw_Pst D A (fun w => w = gw_cw cc a b d zS)) A) args s 0 0 A) (F0 m 62 ls []) := by
    intro K5 hK5
    intro v1 v2 v3 v4 S h H locs ls hI hl
    unfold f_X2_takeFromNights_b62 at h
    obtain ⟨y1, e2, h⟩ := gw_letE h
    refine lv_iinc (v := y1) (lv' := [(4, .int y1), (0, .ref (a 3)), (1, va_rf (gw_rf b v1)), (2, .int v2), (3, .int v3)]) hx hb dX2_takeFromNights_62 hl (k := 4) rfl (by rw [e2]; rfl) (by decide) rfl (fun ls hl => ?_)
    refine lv_goto (tgt := 5) hx hb dX2_takeFromNights_65 (by decide) ?_
    exact hK5 v1 v2 v3 y1 S h _ _ _ hI (lv_sub hl [1, 2, 3, 4, 0] rfl)
  have hb5 :  ∀ (n : Nat), ∀ (v1 : Int32) (v2 : Int32) (v3 : Int32) (v4 : Int32) (S : gw_S), f_X2_takeFromNights_b5  n v1 v2 v3 v4 S = some (zr, zS) → ∀ (H : Heap) (locs : List Loc) (ls : Array Slot), gw_I D A s.heap (gw_cw cc a b d S) H locs → lv_has ls 6 [(0, .ref (a 3)), (1, va_rf (gw_rf b v1)), (2, .int v2), (3, .int v3), (4, .int v4)] → W p l e rm_X2_takeFromNights s m args below meth c H locs 0 0 (MQ below (gw_Q (some (.int zr)) (gw_Pst D A (fun w => w = gw_cw cc a b d zS)) A) args s 0 0 A) (F0 m 5 ls []) := by
    intro n
    induction n with
    | zero =>
      intro v1 v2 v3 v4 S h
      cases h
    | succ n ih =>
      intro v1 v2 v3 v4 S h H locs ls hI hl
      unfold f_X2_takeFromNights_b5 at h
      refine lv_iload hx hb dX2_takeFromNights_5 (lv_at hl 4 rfl) ?_
      refine lv_aload_n hx hb dX2_takeFromNights_7 rfl (lv_at hl 0 rfl) ?_
      refine gw_get (T := TX2) (k := 7) (v := .int (S 3 7)) B hI gc_g3 rfl ly_X2_takeFromNights_2 (by decide) m_X2_takeFromNights_49 rfl rfl dX2_takeFromNights_8 ?_
      refine lv_icmp_ge (tgt := 68) hx hb dX2_takeFromNights_11 (by decide) (fun c3 => ?_) (fun c3 => ?_)
      · replace h := gw_ifT c3 h
        refine lv_iload_n hx hb dX2_takeFromNights_68 rfl (lv_at hl 3 rfl) ?_
        obtain ⟨h1, h2⟩ := Prod.mk.inj (Option.some.inj h)
        rw [h2] at hI
        rw [← h1]
        exact gw_iret (W' := (fun w => w = gw_cw cc a b d zS)) B hI rfl (Nat.zero_le _) (Nat.zero_le _) dX2_takeFromNights_69
      · replace h := gw_ifF c3 h
        refine lv_aload_n hx hb dX2_takeFromNights_14 rfl (lv_at hl 0 rfl) ?_
        refine lv_iload hx hb dX2_takeFromNights_15 (lv_at hl 4 rfl) ?_
        obtain ⟨r4, e5, h⟩ := gw_bdE h
        refine gw_callV (As := [.int v4]) (n := 1) B hI (k_X2_bookingAt v4 S e5) gX2_takeFromNights_X2_bookingAt rfl rfl rfl nd_X2_bookingAt ⟨Nat.le_of_ble_eq_true rfl, Nat.le_of_ble_eq_true rfl⟩ gc_g3 rfl rfl rfl hl.1 (Nat.zero_le _) dX2_takeFromNights_17 ⟨Nat.le_of_ble_eq_true rfl, Nat.le_of_ble_eq_true rfl⟩ rfl (fun w' H locs hw hI => ?_)
        subst hw
        refine gw_astore (lv' := [(5, va_rf (gw_rf d r4)), (0, .ref (a 3)), (1, va_rf (gw_rf b v1)), (2, .int v2), (3, .int v3), (4, .int v4)]) B dX2_takeFromNights_20 hl (by decide) rfl (fun ls hl => ?_)
        refine gw_aload B dX2_takeFromNights_22 (lv_at hl 0 rfl) ?_
        refine gw_ifnull (tgt := 62) B dX2_takeFromNights_24 (by decide) (fun c6 => ?_) (fun c6 => ?_)
        · replace h := gw_ifT c6 h
          exact hb62 (f_X2_takeFromNights_b5  n) ih v1 v2 v3 v4 S h _ _ _ hI (lv_sub hl [1, 2, 3, 4, 5] rfl)
        · replace h := gw_ifF c6 h
          refine gw_aload B dX2_takeFromNights_27 (lv_at hl 0 rfl) ?_
          rw [gw_rfP c6]
          obtain ⟨g7, h⟩ := gw_gdE h
          refine gw_getN (T := TX0) (k := 8) (v := va_rf (gw_rf b (S (2 * r4.toNatClampNeg + 31) 8))) B hI (gc_gb g7) rfl ly_X2_takeFromNights_0 (by decide) n_RX2_117 rfl rfl dX2_takeFromNights_29 ?_
          refine gw_aload_n B dX2_takeFromNights_32 rfl (lv_at hl 2 rfl) ?_
          obtain ⟨g8, h⟩ := gw_gdE h
          obtain ⟨g9, h⟩ := gw_gdE h
          refine gw_acmp_nep (tgt := 62) B hI g8 g9 dX2_takeFromNights_33 (by decide) (fun c10 => ?_) (fun c10 => ?_)
          · replace h := gw_ifF c10 h
            exact hb62 (f_X2_takeFromNights_b5  n) ih v1 v2 v3 v4 S h _ _ _ hI (lv_sub hl [1, 2, 3, 4, 5] rfl)
          · replace h := gw_ifT c10 h
            refine gw_aload B dX2_takeFromNights_36 (lv_at hl 0 rfl) ?_
            rw [gw_rfP c6]
            refine gw_getN (T := TX0) (k := 3) (v := .int (S (2 * r4.toNatClampNeg + 31) 3)) B hI (gc_gb g7) rfl ly_X2_takeFromNights_0 (by decide) n_RX2_102 rfl rfl dX2_takeFromNights_38 ?_
            refine lv_iload_n hx hb dX2_takeFromNights_41 rfl (lv_at hl 3 rfl) ?_
            refine lv_icmp_lt (tgt := 62) hx hb dX2_takeFromNights_42 (by decide) (fun c11 => ?_) (fun c11 => ?_)
            · replace h := gw_ifT c11 h
              exact hb62 (f_X2_takeFromNights_b5  n) ih v1 v2 v3 v4 S h _ _ _ hI (lv_sub hl [1, 2, 3, 4, 5] rfl)
            · replace h := gw_ifF c11 h
              refine gw_aload B dX2_takeFromNights_45 (lv_at hl 0 rfl) ?_
              rw [gw_rfP c6]
              obtain ⟨r12, e13, h⟩ := gw_bdE h
              refine gw_callV (As := []) (n := 0) B hI (k_X0_wentOut r4 S e13) gX2_takeFromNights_X0_wentOut rfl rfl rfl nd_X0_wentOut ⟨Nat.le_of_ble_eq_true rfl, Nat.le_of_ble_eq_true rfl⟩ (gc_gb g7) rfl rfl rfl hl.1 (Nat.zero_le _) dX2_takeFromNights_47 ⟨Nat.le_of_ble_eq_true rfl, Nat.le_of_ble_eq_true rfl⟩ rfl (fun w' H locs hw hI => ?_)
              subst hw
              refine lv_if_ne (tgt := 62) hx hb dX2_takeFromNights_50 (by decide) (fun c14 => ?_) (fun c14 => ?_)
              · replace h := gw_ifF c14 h
                exact hb62 (f_X2_takeFromNights_b5  n) ih v1 v2 v3 v4 S h _ _ _ hI (lv_sub hl [1, 2, 3, 4, 5] rfl)
              · replace h := gw_ifT c14 h
                refine gw_aload B dX2_takeFromNights_53 (lv_at hl 0 rfl) ?_
                refine gw_null (b := b) B dX2_takeFromNights_55 ?_
                rw [gw_rfP c6]
                obtain ⟨S15, e16, h⟩ := gw_letE h
                refine gw_putN (T := TX0) (k := 8) (w' := gw_cw cc a b d S15) B hI (gc_gb g7) rfl ly_X2_takeFromNights_0 tyX0 tyX0_ok nmX0 (by decide) n_RX2_117 rfl rfl gw_rn gw_rfit (Nat.le_of_ble_eq_true rfl) (gc_sb_8 g7 e16) dX2_takeFromNights_56 (fun H locs hI => ?_)
                obtain ⟨y17, e18, h⟩ := gw_letE h
                refine lv_iinc (v := y17) (lv' := [(3, .int y17), (5, va_rf (gw_rf d r4)), (0, .ref (a 3)), (1, va_rf (gw_rf b v1)), (2, .int v2), (4, .int v4)]) hx hb dX2_takeFromNights_59 hl (k := 4) rfl (by rw [e18]; rfl) (by decide) rfl (fun ls hl => ?_)
                exact hb62 (f_X2_takeFromNights_b5  n) ih v1 v2 y17 v4 S15 h _ _ _ hI (lv_sub hl [2, 3, 4, 0, 5] rfl)
  unfold f_X2_takeFromNights at h
  refine lv_iconst (v := 0) hx hb dX2_takeFromNights_0 (by decide) ?_
  refine lv_istore_n (lv' := [(3, .int (0 : Int32)), (0, .ref (a 3)), (1, va_rf (gw_rf b x1)), (2, .int x2)]) hx hb dX2_takeFromNights_1 rfl hl (by decide) rfl (fun ls hl => ?_)
  refine lv_iconst (v := 0) hx hb dX2_takeFromNights_2 (by decide) ?_
  refine lv_istore (lv' := [(4, .int (0 : Int32)), (3, .int (0 : Int32)), (0, .ref (a 3)), (1, va_rf (gw_rf b x1)), (2, .int x2)]) hx hb dX2_takeFromNights_3 hl (by decide) rfl (fun ls hl => ?_)
  exact hb5  gw_F x1 x2 (0 : Int32) (0 : Int32) S h _ _ _ hI (lv_sub hl [2, 3, 4, 1, 0] rfl)
theorem ly_X2_isMember_0 : ∀ w ∈ wsX00, w ∈ wsX2_isMember := fun w h => List.mem_cons_of_mem _ (List.mem_append_right _ h)
set_option maxRecDepth 100000 in
set_option maxHeartbeats 4000000 in
theorem k_X2_isMember (x1 : Int32) (x2 : Int32) (S : gw_S) {zr : Int32} (h : f_X2_isMember x1 x2 S = some zr) : gw_M l yX2_isMember wsX2_isMember rm_X2_isMember 0 0 D (gw_ty cc) t1 t2 [.ref (a 3), va_rf (gw_rf d x1), .int x2] (gw_cw cc a b d S) (fun w => w = gw_cw cc a b d S) (some (.int zr)) := by
  refine gw_enter (cc := cX2_isMember) (maxL := 3) (ret := (some .boolean)) (own := RX2) rfl (by decide) rfl (by simp [lg_sl, gw_catq, gw_cI, gw_cR, gw_cL]) ?_
  intro p e s m below meth c A B hin hI ls hl
  have hl : lv_has ls 3 [(0, .ref (a 3)), (1, va_rf (gw_rf d x1)), (2, .int x2)] := by simpa [lv_args, gw_catq, gw_cI, gw_cR, gw_cL] using hl
  generalize ([.ref (a 3), va_rf (gw_rf d x1), .int x2] : List Value).toArray = args at B ⊢
  have hx := B.1.1
  have hb := B.1.2.1
  have hown : s.vm.findClass RX2 = some m.cls := B.1.2.2.2.1
  have hts := B.1.2.2.2.2
  unfold f_X2_isMember at h
  refine gw_aload_n B dX2_isMember_0 rfl (lv_at hl 1 rfl) ?_
  refine gw_ifnull (tgt := 23) B dX2_isMember_1 (by decide) (fun c1 => ?_) (fun c1 => ?_)
  · replace h := gw_ifT c1 h
    refine lv_iconst (v := 0) hx hb dX2_isMember_23 (by decide) ?_
    rw [← Option.some.inj h]
    exact gw_zret (W' := (fun w => w = gw_cw cc a b d S)) B hI rfl (Or.inl rfl) (Nat.zero_le _) (Nat.zero_le _) dX2_isMember_24
  · replace h := gw_ifF c1 h
    refine gw_aload_n B dX2_isMember_4 rfl (lv_at hl 1 rfl) ?_
    rw [gw_rfP c1]
    obtain ⟨g2, h⟩ := gw_gdE h
    refine gw_getN (T := TX0) (k := 6) (v := .int (S (2 * x1.toNatClampNeg + 31) 6)) B hI (gc_gb g2) rfl ly_X2_isMember_0 (by decide) n_RX2_157 rfl rfl dX2_isMember_5 ?_
    refine lv_iload_n hx hb dX2_isMember_8 rfl (lv_at hl 2 rfl) ?_
    refine lv_icmp_ne (tgt := 23) hx hb dX2_isMember_9 (by decide) (fun c3 => ?_) (fun c3 => ?_)
    · replace h := gw_ifF c3 h
      refine lv_iconst (v := 0) hx hb dX2_isMember_23 (by decide) ?_
      rw [← Option.some.inj h]
      exact gw_zret (W' := (fun w => w = gw_cw cc a b d S)) B hI rfl (Or.inl rfl) (Nat.zero_le _) (Nat.zero_le _) dX2_isMember_24
    · replace h := gw_ifT c3 h
      refine gw_aload_n B dX2_isMember_12 rfl (lv_at hl 1 rfl) ?_
      rw [gw_rfP c1]
      obtain ⟨r4, e5, h⟩ := gw_bdE h
      refine gw_callV (As := []) (n := 0) B hI (k_X0_isCalledOff x1 S e5) gX2_isMember_X0_isCalledOff rfl rfl rfl nd_X0_isCalledOff ⟨Nat.le_of_ble_eq_true rfl, Nat.le_of_ble_eq_true rfl⟩ (gc_gb g2) rfl rfl rfl hl.1 (Nat.zero_le _) dX2_isMember_13 ⟨Nat.le_of_ble_eq_true rfl, Nat.le_of_ble_eq_true rfl⟩ rfl (fun w' H locs hw hI => ?_)
      subst hw
      refine lv_if_ne (tgt := 23) hx hb dX2_isMember_16 (by decide) (fun c6 => ?_) (fun c6 => ?_)
      · replace h := gw_ifF c6 h
        refine lv_iconst (v := 0) hx hb dX2_isMember_23 (by decide) ?_
        rw [← Option.some.inj h]
        exact gw_zret (W' := (fun w => w = gw_cw cc a b d S)) B hI rfl (Or.inl rfl) (Nat.zero_le _) (Nat.zero_le _) dX2_isMember_24
      · replace h := gw_ifT c6 h
        refine lv_iconst (v := 1) hx hb dX2_isMember_19 (by decide) ?_
        refine lv_goto (tgt := 24) hx hb dX2_isMember_20 (by decide) ?_
        rw [← Option.some.inj h]
        exact gw_zret (W' := (fun w => w = gw_cw cc a b d S)) B hI rfl (Or.inr rfl) (Nat.zero_le _) (Nat.zero_le _) dX2_isMember_24
theorem m_X2_membersOf_49 : Cond.fieldLink RX2 49 "GownLet$House" "bookingCount" "I" ∈ wsX2_membersOf := by decide +kernel
theorem ly_X2_membersOf_2 : ∀ w ∈ wsX20, w ∈ wsX2_membersOf := fun w h => List.mem_cons_of_mem _ (List.mem_append_left _ (List.mem_append_right _ h))
set_option maxRecDepth 100000 in
set_option maxHeartbeats 4000000 in
theorem k_X2_membersOf (x1 : Int32) (S : gw_S) {zr : Int32} (h : f_X2_membersOf x1 S = some zr) : gw_M l yX2_membersOf wsX2_membersOf rm_X2_membersOf 0 0 D (gw_ty cc) t1 t2 [.ref (a 3), .int x1] (gw_cw cc a b d S) (fun w => w = gw_cw cc a b d S) (some (.int zr)) := by
  refine gw_enter (cc := cX2_membersOf) (maxL := 4) (ret := (some .int)) (own := RX2) rfl (by decide) rfl (Nat.le_of_ble_eq_true rfl) ?_
  intro p e s m below meth c A B hin hI ls hl
  have hl : lv_has ls 4 [(0, .ref (a 3)), (1, .int x1)] := hl
  generalize ([.ref (a 3), .int x1] : List Value).toArray = args at B ⊢
  have hx := B.1.1
  have hb := B.1.2.1
  have hown : s.vm.findClass RX2 = some m.cls := B.1.2.2.2.1
  have hts := B.1.2.2.2.2
  have hb28 : ∀ (K4 : Int32 → Int32 → Int32 → Option (Int32)) (_ : ∀ (v1 : Int32) (v2 : Int32) (v3 : Int32), K4 v1 v2 v3 = some zr → ∀ (H : Heap) (locs : List Loc) (ls : Array Slot), gw_I D A s.heap (gw_cw cc a b d S) H locs → lv_has ls 4 [(0, .ref (a 3)), (1, .int v1), (2, .int v2), (3, .int v3)] → W p l e rm_X2_membersOf s m args below meth c H locs 0 0 (MQ below (gw_Q (some (.int zr)) (gw_Pst D A (fun w => w = gw_cw cc a b d S)) A) args s 0 0 A) (F0 m 4 ls [])), ∀ (v1 : Int32) (v2 : Int32) (v3 : Int32), f_X2_membersOf_b28 S K4 v1 v2 v3 = some zr → ∀ (H : Heap) (locs : List Loc) (ls : Array Slot), gw_I D A s.heap (gw_cw cc a b d S) H locs → lv_has ls 4 [(0, .ref (a 3)), (1, .int v1), (2, .int v2), (3, .int v3)] → W p l e rm_X2_membersOf s m args below meth c H locs 0 0 (MQ below (gw_Q (some (.int zr)) (gw_Pst D A (fun w => w = gw_cw cc a b d S)) A) args s 0 0 A) (F0 m 28 ls []) := by
    intro K4 hK4
    intro v1 v2 v3 h H locs ls hI hl
    unfold f_X2_membersOf_b28 at h
    obtain ⟨y1, e2, h⟩ := gw_letE h
    refine lv_iinc (v := y1) (lv' := [(3, .int y1), (0, .ref (a 3)), (1, .int v1), (2, .int v2)]) hx hb dX2_membersOf_28 hl (k := 3) rfl (by rw [e2]; rfl) (by decide) rfl (fun ls hl => ?_)
    refine lv_goto (tgt := 4) hx hb dX2_membersOf_31 (by decide) ?_
    exact hK4 v1 v2 y1 h _ _ _ hI (lv_sub hl [1, 2, 3, 0] rfl)
  have hb4 :  ∀ (n : Nat), ∀ (v1 : Int32) (v2 : Int32) (v3 : Int32), f_X2_membersOf_b4 S  n v1 v2 v3 = some zr → ∀ (H : Heap) (locs : List Loc) (ls : Array Slot), gw_I D A s.heap (gw_cw cc a b d S) H locs → lv_has ls 4 [(0, .ref (a 3)), (1, .int v1), (2, .int v2), (3, .int v3)] → W p l e rm_X2_membersOf s m args below meth c H locs 0 0 (MQ below (gw_Q (some (.int zr)) (gw_Pst D A (fun w => w = gw_cw cc a b d S)) A) args s 0 0 A) (F0 m 4 ls []) := by
    intro n
    induction n with
    | zero =>
      intro v1 v2 v3 h
      cases h
    | succ n ih =>
      intro v1 v2 v3 h H locs ls hI hl
      unfold f_X2_membersOf_b4 at h
      refine lv_iload_n hx hb dX2_membersOf_4 rfl (lv_at hl 3 rfl) ?_
      refine lv_aload_n hx hb dX2_membersOf_5 rfl (lv_at hl 0 rfl) ?_
      refine gw_get (T := TX2) (k := 7) (v := .int (S 3 7)) B hI gc_g3 rfl ly_X2_membersOf_2 (by decide) m_X2_membersOf_49 rfl rfl dX2_membersOf_6 ?_
      refine lv_icmp_ge (tgt := 34) hx hb dX2_membersOf_9 (by decide) (fun c3 => ?_) (fun c3 => ?_)
      · replace h := gw_ifT c3 h
        refine lv_iload_n hx hb dX2_membersOf_34 rfl (lv_at hl 2 rfl) ?_
        rw [← Option.some.inj h]
        exact gw_iret (W' := (fun w => w = gw_cw cc a b d S)) B hI rfl (Nat.zero_le _) (Nat.zero_le _) dX2_membersOf_35
      · replace h := gw_ifF c3 h
        refine lv_aload_n hx hb dX2_membersOf_12 rfl (lv_at hl 0 rfl) ?_
        refine lv_aload_n hx hb dX2_membersOf_13 rfl (lv_at hl 0 rfl) ?_
        refine lv_iload_n hx hb dX2_membersOf_14 rfl (lv_at hl 3 rfl) ?_
        obtain ⟨r4, e5, h⟩ := gw_bdE h
        refine gw_callV (As := [.int v3]) (n := 1) B hI (k_X2_bookingAt v3 S e5) gX2_membersOf_X2_bookingAt rfl rfl rfl nd_X2_bookingAt ⟨Nat.le_of_ble_eq_true rfl, Nat.le_of_ble_eq_true rfl⟩ gc_g3 rfl rfl rfl hl.1 (by simp [gw_catq, gw_cI, gw_cR, gw_cL]) dX2_membersOf_15 ⟨Nat.le_of_ble_eq_true rfl, Nat.le_of_ble_eq_true rfl⟩ rfl (fun w' H locs hw hI => ?_)
        subst hw
        refine lv_iload_n hx hb dX2_membersOf_18 rfl (lv_at hl 1 rfl) ?_
        obtain ⟨r6, e7, h⟩ := gw_bdE h
        refine gw_callV (As := [va_rf (gw_rf d r4), .int v1]) (n := 2) B hI (k_X2_isMember r4 v1 S e7) gX2_membersOf_X2_isMember rfl rfl rfl nd_X2_isMember ⟨Nat.le_of_ble_eq_true rfl, Nat.le_of_ble_eq_true rfl⟩ gc_g3 rfl rfl rfl hl.1 (Nat.zero_le _) dX2_membersOf_19 ⟨Nat.le_of_ble_eq_true rfl, Nat.le_of_ble_eq_true rfl⟩ rfl (fun w' H locs hw hI => ?_)
        subst hw
        refine lv_if_eq (tgt := 28) hx hb dX2_membersOf_22 (by decide) (fun c8 => ?_) (fun c8 => ?_)
        · replace h := gw_ifT c8 h
          exact hb28 (f_X2_membersOf_b4 S  n) ih v1 v2 v3 h _ _ _ hI (lv_sub hl [0, 1, 2, 3] rfl)
        · replace h := gw_ifF c8 h
          obtain ⟨y9, e10, h⟩ := gw_letE h
          refine lv_iinc (v := y9) (lv' := [(2, .int y9), (0, .ref (a 3)), (1, .int v1), (3, .int v3)]) hx hb dX2_membersOf_25 hl (k := 2) rfl (by rw [e10]; rfl) (by decide) rfl (fun ls hl => ?_)
          exact hb28 (f_X2_membersOf_b4 S  n) ih v1 y9 v3 h _ _ _ hI (lv_sub hl [1, 2, 0, 3] rfl)
  unfold f_X2_membersOf at h
  refine lv_iconst (v := 0) hx hb dX2_membersOf_0 (by decide) ?_
  refine lv_istore_n (lv' := [(2, .int (0 : Int32)), (0, .ref (a 3)), (1, .int x1)]) hx hb dX2_membersOf_1 rfl hl (by decide) rfl (fun ls hl => ?_)
  refine lv_iconst (v := 0) hx hb dX2_membersOf_2 (by decide) ?_
  refine lv_istore_n (lv' := [(3, .int (0 : Int32)), (2, .int (0 : Int32)), (0, .ref (a 3)), (1, .int x1)]) hx hb dX2_membersOf_3 rfl hl (by decide) rfl (fun ls hl => ?_)
  exact hb4  gw_F x1 (0 : Int32) (0 : Int32) h _ _ _ hI (lv_sub hl [2, 3, 1, 0] rfl)
theorem m_X2_takeTrialsBack_41 : Cond.fieldLink RX2 41 "GownLet$House" "isTrial" "[Z" ∈ wsX2_takeTrialsBack := by decide +kernel
theorem m_X2_takeTrialsBack_49 : Cond.fieldLink RX2 49 "GownLet$House" "bookingCount" "I" ∈ wsX2_takeTrialsBack := by decide +kernel
theorem ly_X2_takeTrialsBack_0 : ∀ w ∈ wsX00, w ∈ wsX2_takeTrialsBack := fun w h => List.mem_cons_of_mem _ (List.mem_append_right _ h)
theorem ly_X2_takeTrialsBack_2 : ∀ w ∈ wsX20, w ∈ wsX2_takeTrialsBack := fun w h => List.mem_cons_of_mem _ (List.mem_append_left _ (List.mem_append_right _ h))
set_option maxRecDepth 100000 in
set_option maxHeartbeats 4000000 in
theorem k_X2_takeTrialsBack  (S : gw_S)  {zS : gw_S} (h : f_X2_takeTrialsBack  S = some zS) : gw_M l yX2_takeTrialsBack wsX2_takeTrialsBack rm_X2_takeTrialsBack 0 0 D (gw_ty cc) t1 t2 [.ref (a 3)] (gw_cw cc a b d S) (fun w => w = gw_cw cc a b d zS) none := by
  refine gw_enter (cc := cX2_takeTrialsBack) (maxL := 3) (ret := none) (own := RX2) rfl (by decide) rfl (Nat.le_of_ble_eq_true rfl) ?_
  intro p e s m below meth c A B hin hI ls hl
  have hl : lv_has ls 3 [(0, .ref (a 3))] := hl
  generalize ([.ref (a 3)] : List Value).toArray = args at B ⊢
  have hx := B.1.1
  have hb := B.1.2.1
  have hown : s.vm.findClass RX2 = some m.cls := B.1.2.2.2.1
  have hts := B.1.2.2.2.2
  have hb41 : ∀ (K2 : Int32 → gw_S → Option (gw_S)) (_ : ∀ (v1 : Int32) (S : gw_S), K2 v1 S = some zS → ∀ (H : Heap) (locs : List Loc) (ls : Array Slot), gw_I D A s.heap (gw_cw cc a b d S) H locs → lv_has ls 3 [(0, .ref (a 3)), (1, .int v1)] → W p l e rm_X2_takeTrialsBack s m args below meth c H locs 0 0 (MQ below (gw_Q none (gw_Pst D A (fun w => w = gw_cw cc a b d zS)) A) args s 0 0 A) (F0 m 2 ls [])), ∀ (v1 : Int32) (S : gw_S), f_X2_takeTrialsBack_b41 K2 v1 S = some zS → ∀ (H : Heap) (locs : List Loc) (ls : Array Slot), gw_I D A s.heap (gw_cw cc a b d S) H locs → lv_has ls 3 [(0, .ref (a 3)), (1, .int v1)] → W p l e rm_X2_takeTrialsBack s m args below meth c H locs 0 0 (MQ below (gw_Q none (gw_Pst D A (fun w => w = gw_cw cc a b d zS)) A) args s 0 0 A) (F0 m 41 ls []) := by
    intro K2 hK2
    intro v1 S h H locs ls hI hl
    unfold f_X2_takeTrialsBack_b41 at h
    obtain ⟨y1, e2, h⟩ := gw_letE h
    refine lv_iinc (v := y1) (lv' := [(1, .int y1), (0, .ref (a 3))]) hx hb dX2_takeTrialsBack_41 hl (k := 1) rfl (by rw [e2]; rfl) (by decide) rfl (fun ls hl => ?_)
    refine lv_goto (tgt := 2) hx hb dX2_takeTrialsBack_44 (by decide) ?_
    exact hK2 y1 S h _ _ _ hI (lv_sub hl [1, 0] rfl)
  have hb2 :  ∀ (n : Nat), ∀ (v1 : Int32) (S : gw_S), f_X2_takeTrialsBack_b2  n v1 S = some zS → ∀ (H : Heap) (locs : List Loc) (ls : Array Slot), gw_I D A s.heap (gw_cw cc a b d S) H locs → lv_has ls 3 [(0, .ref (a 3)), (1, .int v1)] → W p l e rm_X2_takeTrialsBack s m args below meth c H locs 0 0 (MQ below (gw_Q none (gw_Pst D A (fun w => w = gw_cw cc a b d zS)) A) args s 0 0 A) (F0 m 2 ls []) := by
    intro n
    induction n with
    | zero =>
      intro v1 S h
      cases h
    | succ n ih =>
      intro v1 S h H locs ls hI hl
      unfold f_X2_takeTrialsBack_b2 at h
      refine lv_iload_n hx hb dX2_takeTrialsBack_2 rfl (lv_at hl 1 rfl) ?_
      refine lv_aload_n hx hb dX2_takeTrialsBack_3 rfl (lv_at hl 0 rfl) ?_
      refine gw_get (T := TX2) (k := 7) (v := .int (S 3 7)) B hI gc_g3 rfl ly_X2_takeTrialsBack_2 (by decide) m_X2_takeTrialsBack_49 rfl rfl dX2_takeTrialsBack_4 ?_
      refine lv_icmp_ge (tgt := 47) hx hb dX2_takeTrialsBack_7 (by decide) (fun c3 => ?_) (fun c3 => ?_)
      · replace h := gw_ifT c3 h
        rw [Option.some.inj h] at hI
        exact gw_vret (W' := (fun w => w = gw_cw cc a b d zS)) B hI rfl (Nat.zero_le _) (Nat.zero_le _) dX2_takeTrialsBack_47
      · replace h := gw_ifF c3 h
        refine lv_aload_n hx hb dX2_takeTrialsBack_10 rfl (lv_at hl 0 rfl) ?_
        refine lv_iload_n hx hb dX2_takeTrialsBack_11 rfl (lv_at hl 1 rfl) ?_
        obtain ⟨r4, e5, h⟩ := gw_bdE h
        refine gw_callV (As := [.int v1]) (n := 1) B hI (k_X2_bookingAt v1 S e5) gX2_takeTrialsBack_X2_bookingAt rfl rfl rfl nd_X2_bookingAt ⟨Nat.le_of_ble_eq_true rfl, Nat.le_of_ble_eq_true rfl⟩ gc_g3 rfl rfl rfl hl.1 (Nat.zero_le _) dX2_takeTrialsBack_12 ⟨Nat.le_of_ble_eq_true rfl, Nat.le_of_ble_eq_true rfl⟩ rfl (fun w' H locs hw hI => ?_)
        subst hw
        refine gw_astore_n (lv' := [(2, va_rf (gw_rf d r4)), (0, .ref (a 3)), (1, .int v1)]) B dX2_takeTrialsBack_15 rfl hl (by decide) rfl (fun ls hl => ?_)
        refine gw_aload_n B dX2_takeTrialsBack_16 rfl (lv_at hl 0 rfl) ?_
        refine gw_ifnull (tgt := 41) B dX2_takeTrialsBack_17 (by decide) (fun c6 => ?_) (fun c6 => ?_)
        · replace h := gw_ifT c6 h
          exact hb41 (f_X2_takeTrialsBack_b2  n) ih v1 S h _ _ _ hI (lv_sub hl [1, 2] rfl)
        · replace h := gw_ifF c6 h
          refine lv_aload_n hx hb dX2_takeTrialsBack_20 rfl (lv_at hl 1 rfl) ?_
          refine gw_get (T := TX2) (k := 5) (v := .ref (a 14)) B hI gc_g3 rfl ly_X2_takeTrialsBack_2 (by decide) m_X2_takeTrialsBack_41 rfl rfl dX2_takeTrialsBack_21 ?_
          refine lv_iload_n hx hb dX2_takeTrialsBack_24 rfl (lv_at hl 2 rfl) ?_
          obtain ⟨g7, h⟩ := gw_gdE h
          refine gw_zald (t0 := 2) B hI gc_g14 rfl g7 dX2_takeTrialsBack_25 ?_
          refine lv_if_eq (tgt := 41) hx hb dX2_takeTrialsBack_26 (by decide) (fun c8 => ?_) (fun c8 => ?_)
          · replace h := gw_ifT c8 h
            exact hb41 (f_X2_takeTrialsBack_b2  n) ih v1 S h _ _ _ hI (lv_sub hl [1, 2] rfl)
          · replace h := gw_ifF c8 h
            refine gw_aload_n B dX2_takeTrialsBack_29 rfl (lv_at hl 0 rfl) ?_
            refine gw_null (b := b) B dX2_takeTrialsBack_30 ?_
            rw [gw_rfP c6]
            obtain ⟨g9, h⟩ := gw_gdE h
            obtain ⟨S10, e11, h⟩ := gw_letE h
            refine gw_putN (T := TX0) (k := 8) (w' := gw_cw cc a b d S10) B hI (gc_gb g9) rfl ly_X2_takeTrialsBack_0 tyX0 tyX0_ok nmX0 (by decide) n_RX2_117 rfl rfl gw_rn gw_rfit (Nat.le_of_ble_eq_true rfl) (gc_sb_8 g9 e11) dX2_takeTrialsBack_31 (fun H locs hI => ?_)
            refine lv_aload_n hx hb dX2_takeTrialsBack_34 rfl (lv_at hl 1 rfl) ?_
            refine gw_get (T := TX2) (k := 5) (v := .ref (a 14)) B hI gc_g3 rfl ly_X2_takeTrialsBack_2 (by decide) m_X2_takeTrialsBack_41 rfl rfl dX2_takeTrialsBack_35 ?_
            refine lv_iload_n hx hb dX2_takeTrialsBack_38 rfl (lv_at hl 2 rfl) ?_
            refine lv_iconst (v := 0) hx hb dX2_takeTrialsBack_39 (by decide) ?_
            obtain ⟨S12, e13, h⟩ := gw_letE h
            refine gw_zast (t0 := 2) (w' := gw_cw cc a b d S12) B hI gc_g14 rfl g7 (gc_s14 e13) dX2_takeTrialsBack_40 (fun H locs hI => ?_)
            exact hb41 (f_X2_takeTrialsBack_b2  n) ih v1 S12 h _ _ _ hI (lv_sub hl [1, 2] rfl)
  unfold f_X2_takeTrialsBack at h
  refine lv_iconst (v := 0) hx hb dX2_takeTrialsBack_0 (by decide) ?_
  refine lv_istore_n (lv' := [(1, .int (0 : Int32)), (0, .ref (a 3))]) hx hb dX2_takeTrialsBack_1 rfl hl (by decide) rfl (fun ls hl => ?_)
  exact hb2  gw_F (0 : Int32) S h _ _ _ hI (lv_sub hl [1, 0] rfl)
end
end
