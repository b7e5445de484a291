def nN_cX0_init : Nat := 0xb12400b507152a2100b506152a1e00b505152a1b00b504152a1800b51d2a1500b51c2a1200b51b2a0f00b5032a0900b5fc102a0300b72a
theorem hN_cX0_init : qr_n cX0_init.data.toList = nN_cX0_init := by decide +kernel
theorem hn_cX0_init : cX0_init.size = 55 := by decide +kernel
theorem dX0_init_0 : decode cX0_init 0 = .ok (.aload_n 0, 1) := qr_o42 hN_cX0_init hn_cX0_init rfl rfl
theorem dX0_init_1 : decode cX0_init 1 = .ok (.invokespecial 3, 3) := qr_o183 0 3 hN_cX0_init hn_cX0_init rfl rfl rfl rfl
theorem dX0_init_4 : decode cX0_init 4 = .ok (.aload_n 0, 1) := qr_o42 hN_cX0_init hn_cX0_init rfl rfl
theorem dX0_init_5 : decode cX0_init 5 = .ok (.bipush (-4), 2) := qr_w16 252 4 rfl rfl hN_cX0_init hn_cX0_init rfl rfl rfl
theorem dX0_init_7 : decode cX0_init 7 = .ok (.putfield 9, 3) := qr_o181 0 9 hN_cX0_init hn_cX0_init rfl rfl rfl rfl
theorem dX0_init_10 : decode cX0_init 10 = .ok (.aload_n 0, 1) := qr_o42 hN_cX0_init hn_cX0_init rfl rfl
theorem dX0_init_11 : decode cX0_init 11 = .ok (.iconst 0, 1) := qr_o3 hN_cX0_init hn_cX0_init rfl rfl
theorem dX0_init_12 : decode cX0_init 12 = .ok (.putfield 15, 3) := qr_o181 0 15 hN_cX0_init hn_cX0_init rfl rfl rfl rfl
theorem dX0_init_15 : decode cX0_init 15 = .ok (.aload_n 0, 1) := qr_o42 hN_cX0_init hn_cX0_init rfl rfl
theorem dX0_init_16 : decode cX0_init 16 = .ok (.iload_n 1, 1) := qr_o27 hN_cX0_init hn_cX0_init rfl rfl
theorem dX0_init_17 : decode cX0_init 17 = .ok (.putfield 18, 3) := qr_o181 0 18 hN_cX0_init hn_cX0_init rfl rfl rfl rfl
theorem dX0_init_20 : decode cX0_init 20 = .ok (.aload_n 0, 1) := qr_o42 hN_cX0_init hn_cX0_init rfl rfl
theorem dX0_init_21 : decode cX0_init 21 = .ok (.iload_n 2, 1) := qr_o28 hN_cX0_init hn_cX0_init rfl rfl
theorem dX0_init_22 : decode cX0_init 22 = .ok (.putfield 21, 3) := qr_o181 0 21 hN_cX0_init hn_cX0_init rfl rfl rfl rfl
theorem dX0_init_25 : decode cX0_init 25 = .ok (.aload_n 0, 1) := qr_o42 hN_cX0_init hn_cX0_init rfl rfl
theorem dX0_init_26 : decode cX0_init 26 = .ok (.iload_n 3, 1) := qr_o29 hN_cX0_init hn_cX0_init rfl rfl
theorem dX0_init_27 : decode cX0_init 27 = .ok (.putfield 24, 3) := qr_o181 0 24 hN_cX0_init hn_cX0_init rfl rfl rfl rfl
theorem dX0_init_30 : decode cX0_init 30 = .ok (.aload_n 0, 1) := qr_o42 hN_cX0_init hn_cX0_init rfl rfl
theorem dX0_init_31 : decode cX0_init 31 = .ok (.iload 4, 2) := qr_o21 4 hN_cX0_init hn_cX0_init rfl rfl rfl
theorem dX0_init_33 : decode cX0_init 33 = .ok (.putfield 27, 3) := qr_o181 0 27 hN_cX0_init hn_cX0_init rfl rfl rfl rfl
theorem dX0_init_36 : decode cX0_init 36 = .ok (.aload_n 0, 1) := qr_o42 hN_cX0_init hn_cX0_init rfl rfl
theorem dX0_init_37 : decode cX0_init 37 = .ok (.iload 5, 2) := qr_o21 5 hN_cX0_init hn_cX0_init rfl rfl rfl
theorem dX0_init_39 : decode cX0_init 39 = .ok (.putfield 30, 3) := qr_o181 0 30 hN_cX0_init hn_cX0_init rfl rfl rfl rfl
theorem dX0_init_42 : decode cX0_init 42 = .ok (.aload_n 0, 1) := qr_o42 hN_cX0_init hn_cX0_init rfl rfl
theorem dX0_init_43 : decode cX0_init 43 = .ok (.iload 6, 2) := qr_o21 6 hN_cX0_init hn_cX0_init rfl rfl rfl
theorem dX0_init_45 : decode cX0_init 45 = .ok (.putfield 33, 3) := qr_o181 0 33 hN_cX0_init hn_cX0_init rfl rfl rfl rfl
theorem dX0_init_48 : decode cX0_init 48 = .ok (.aload_n 0, 1) := qr_o42 hN_cX0_init hn_cX0_init rfl rfl
theorem dX0_init_49 : decode cX0_init 49 = .ok (.iload 7, 2) := qr_o21 7 hN_cX0_init hn_cX0_init rfl rfl rfl
theorem dX0_init_51 : decode cX0_init 51 = .ok (.putfield 36, 3) := qr_o181 0 36 hN_cX0_init hn_cX0_init rfl rfl rfl rfl
theorem dX0_init_54 : decode cX0_init 54 = .ok (.return_, 1) := qr_o177 hN_cX0_init hn_cX0_init rfl rfl
def nN_cX0_isCalledOff : Nat := 0xac030400a70407009ffc100900b42a
theorem hN_cX0_isCalledOff : qr_n cX0_isCalledOff.data.toList = nN_cX0_isCalledOff := by decide +kernel
theorem hn_cX0_isCalledOff : cX0_isCalledOff.size = 15 := by decide +kernel
theorem dX0_isCalledOff_0 : decode cX0_isCalledOff 0 = .ok (.aload_n 0, 1) := qr_o42 hN_cX0_isCalledOff hn_cX0_isCalledOff rfl rfl
theorem dX0_isCalledOff_1 : decode cX0_isCalledOff 1 = .ok (.getfield 9, 3) := qr_o180 0 9 hN_cX0_isCalledOff hn_cX0_isCalledOff rfl rfl rfl rfl
theorem dX0_isCalledOff_4 : decode cX0_isCalledOff 4 = .ok (.bipush (-4), 2) := qr_w16 252 4 rfl rfl hN_cX0_isCalledOff hn_cX0_isCalledOff rfl rfl rfl
theorem dX0_isCalledOff_6 : decode cX0_isCalledOff 6 = .ok (.if_icmp .eq 7, 3) := qr_o159 0 7 rfl hN_cX0_isCalledOff hn_cX0_isCalledOff rfl rfl rfl rfl
theorem dX0_isCalledOff_9 : decode cX0_isCalledOff 9 = .ok (.iconst 1, 1) := qr_o4 hN_cX0_isCalledOff hn_cX0_isCalledOff rfl rfl
theorem dX0_isCalledOff_10 : decode cX0_isCalledOff 10 = .ok (.goto 4, 3) := qr_o167 0 4 rfl hN_cX0_isCalledOff hn_cX0_isCalledOff rfl rfl rfl rfl
theorem dX0_isCalledOff_13 : decode cX0_isCalledOff 13 = .ok (.iconst 0, 1) := qr_o3 hN_cX0_isCalledOff hn_cX0_isCalledOff rfl rfl
theorem dX0_isCalledOff_14 : decode cX0_isCalledOff 14 = .ok (.ireturn, 1) := qr_o172 hN_cX0_isCalledOff hn_cX0_isCalledOff rfl rfl
def nN_cX0_wentOut : Nat := 0xac030400a7040700990f00b42a
theorem hN_cX0_wentOut : qr_n cX0_wentOut.data.toList = nN_cX0_wentOut := by decide +kernel
theorem hn_cX0_wentOut : cX0_wentOut.size = 13 := by decide +kernel
theorem dX0_wentOut_0 : decode cX0_wentOut 0 = .ok (.aload_n 0, 1) := qr_o42 hN_cX0_wentOut hn_cX0_wentOut rfl rfl
theorem dX0_wentOut_1 : decode cX0_wentOut 1 = .ok (.getfield 15, 3) := qr_o180 0 15 hN_cX0_wentOut hn_cX0_wentOut rfl rfl rfl rfl
theorem dX0_wentOut_4 : decode cX0_wentOut 4 = .ok (.ifCond .eq 7, 3) := qr_o153 0 7 rfl hN_cX0_wentOut hn_cX0_wentOut rfl rfl rfl rfl
theorem dX0_wentOut_7 : decode cX0_wentOut 7 = .ok (.iconst 1, 1) := qr_o4 hN_cX0_wentOut hn_cX0_wentOut rfl rfl
theorem dX0_wentOut_8 : decode cX0_wentOut 8 = .ok (.goto 4, 3) := qr_o167 0 4 rfl hN_cX0_wentOut hn_cX0_wentOut rfl rfl rfl rfl
theorem dX0_wentOut_11 : decode cX0_wentOut 11 = .ok (.iconst 0, 1) := qr_o3 hN_cX0_wentOut hn_cX0_wentOut rfl rfl
theorem dX0_wentOut_12 : decode cX0_wentOut 12 = .ok (.ireturn, 1) := qr_o172 hN_cX0_wentOut hn_cX0_wentOut rfl rfl
def nN_cX0_waits : Nat := 0xac030400a70407009a2b00b62a0e00c72700b42a
theorem hN_cX0_waits : qr_n cX0_waits.data.toList = nN_cX0_waits := by decide +kernel
theorem hn_cX0_waits : cX0_waits.size = 20 := by decide +kernel
theorem dX0_waits_0 : decode cX0_waits 0 = .ok (.aload_n 0, 1) := qr_o42 hN_cX0_waits hn_cX0_waits rfl rfl
theorem dX0_waits_1 : decode cX0_waits 1 = .ok (.getfield 39, 3) := qr_o180 0 39 hN_cX0_waits hn_cX0_waits rfl rfl rfl rfl
theorem dX0_waits_4 : decode cX0_waits 4 = .ok (.ifnonnull 14, 3) := qr_o199 0 14 rfl hN_cX0_waits hn_cX0_waits rfl rfl rfl rfl
theorem dX0_waits_7 : decode cX0_waits 7 = .ok (.aload_n 0, 1) := qr_o42 hN_cX0_waits hn_cX0_waits rfl rfl
theorem dX0_waits_8 : decode cX0_waits 8 = .ok (.invokevirtual 43, 3) := qr_o182 0 43 hN_cX0_waits hn_cX0_waits rfl rfl rfl rfl
theorem dX0_waits_11 : decode cX0_waits 11 = .ok (.ifCond .ne 7, 3) := qr_o154 0 7 rfl hN_cX0_waits hn_cX0_waits rfl rfl rfl rfl
theorem dX0_waits_14 : decode cX0_waits 14 = .ok (.iconst 1, 1) := qr_o4 hN_cX0_waits hn_cX0_waits rfl rfl
theorem dX0_waits_15 : decode cX0_waits 15 = .ok (.goto 4, 3) := qr_o167 0 4 rfl hN_cX0_waits hn_cX0_waits rfl rfl rfl rfl
theorem dX0_waits_18 : decode cX0_waits 18 = .ok (.iconst 0, 1) := qr_o3 hN_cX0_waits hn_cX0_waits rfl rfl
theorem dX0_waits_19 : decode cX0_waits 19 = .ok (.ireturn, 1) := qr_o172 hN_cX0_waits hn_cX0_waits rfl rfl
def nN_cX0_pieceNumber : Nat := 0xac2f00b42700b42a0a00a7fc100800c72700b42a
theorem hN_cX0_pieceNumber : qr_n cX0_pieceNumber.data.toList = nN_cX0_pieceNumber := by decide +kernel
theorem hn_cX0_pieceNumber : cX0_pieceNumber.size = 20 := by decide +kernel
theorem dX0_pieceNumber_0 : decode cX0_pieceNumber 0 = .ok (.aload_n 0, 1) := qr_o42 hN_cX0_pieceNumber hn_cX0_pieceNumber rfl rfl
theorem dX0_pieceNumber_1 : decode cX0_pieceNumber 1 = .ok (.getfield 39, 3) := qr_o180 0 39 hN_cX0_pieceNumber hn_cX0_pieceNumber rfl rfl rfl rfl
theorem dX0_pieceNumber_4 : decode cX0_pieceNumber 4 = .ok (.ifnonnull 8, 3) := qr_o199 0 8 rfl hN_cX0_pieceNumber hn_cX0_pieceNumber rfl rfl rfl rfl
theorem dX0_pieceNumber_7 : decode cX0_pieceNumber 7 = .ok (.bipush (-4), 2) := qr_w16 252 4 rfl rfl hN_cX0_pieceNumber hn_cX0_pieceNumber rfl rfl rfl
theorem dX0_pieceNumber_9 : decode cX0_pieceNumber 9 = .ok (.goto 10, 3) := qr_o167 0 10 rfl hN_cX0_pieceNumber hn_cX0_pieceNumber rfl rfl rfl rfl
theorem dX0_pieceNumber_12 : decode cX0_pieceNumber 12 = .ok (.aload_n 0, 1) := qr_o42 hN_cX0_pieceNumber hn_cX0_pieceNumber rfl rfl
theorem dX0_pieceNumber_13 : decode cX0_pieceNumber 13 = .ok (.getfield 39, 3) := qr_o180 0 39 hN_cX0_pieceNumber hn_cX0_pieceNumber rfl rfl rfl rfl
theorem dX0_pieceNumber_16 : decode cX0_pieceNumber 16 = .ok (.getfield 47, 3) := qr_o180 0 47 hN_cX0_pieceNumber hn_cX0_pieceNumber rfl rfl rfl rfl
theorem dX0_pieceNumber_19 : decode cX0_pieceNumber 19 = .ok (.ireturn, 1) := qr_o172 hN_cX0_pieceNumber hn_cX0_pieceNumber rfl rfl
def nN_cX0_isKnownOn : Nat := 0xac030400a7040700a41b0900b42a0b00992b00b62a1600a31b2100b42a
theorem hN_cX0_isKnownOn : qr_n cX0_isKnownOn.data.toList = nN_cX0_isKnownOn := by decide +kernel
theorem hn_cX0_isKnownOn : cX0_isKnownOn.size = 29 := by decide +kernel
theorem dX0_isKnownOn_0 : decode cX0_isKnownOn 0 = .ok (.aload_n 0, 1) := qr_o42 hN_cX0_isKnownOn hn_cX0_isKnownOn rfl rfl
theorem dX0_isKnownOn_1 : decode cX0_isKnownOn 1 = .ok (.getfield 33, 3) := qr_o180 0 33 hN_cX0_isKnownOn hn_cX0_isKnownOn rfl rfl rfl rfl
theorem dX0_isKnownOn_4 : decode cX0_isKnownOn 4 = .ok (.iload_n 1, 1) := qr_o27 hN_cX0_isKnownOn hn_cX0_isKnownOn rfl rfl
theorem dX0_isKnownOn_5 : decode cX0_isKnownOn 5 = .ok (.if_icmp .gt 22, 3) := qr_o163 0 22 rfl hN_cX0_isKnownOn hn_cX0_isKnownOn rfl rfl rfl rfl
theorem dX0_isKnownOn_8 : decode cX0_isKnownOn 8 = .ok (.aload_n 0, 1) := qr_o42 hN_cX0_isKnownOn hn_cX0_isKnownOn rfl rfl
theorem dX0_isKnownOn_9 : decode cX0_isKnownOn 9 = .ok (.invokevirtual 43, 3) := qr_o182 0 43 hN_cX0_isKnownOn hn_cX0_isKnownOn rfl rfl rfl rfl
theorem dX0_isKnownOn_12 : decode cX0_isKnownOn 12 = .ok (.ifCond .eq 11, 3) := qr_o153 0 11 rfl hN_cX0_isKnownOn hn_cX0_isKnownOn rfl rfl rfl rfl
theorem dX0_isKnownOn_15 : decode cX0_isKnownOn 15 = .ok (.aload_n 0, 1) := qr_o42 hN_cX0_isKnownOn hn_cX0_isKnownOn rfl rfl
theorem dX0_isKnownOn_16 : decode cX0_isKnownOn 16 = .ok (.getfield 9, 3) := qr_o180 0 9 hN_cX0_isKnownOn hn_cX0_isKnownOn rfl rfl rfl rfl
theorem dX0_isKnownOn_19 : decode cX0_isKnownOn 19 = .ok (.iload_n 1, 1) := qr_o27 hN_cX0_isKnownOn hn_cX0_isKnownOn rfl rfl
theorem dX0_isKnownOn_20 : decode cX0_isKnownOn 20 = .ok (.if_icmp .le 7, 3) := qr_o164 0 7 rfl hN_cX0_isKnownOn hn_cX0_isKnownOn rfl rfl rfl rfl
theorem dX0_isKnownOn_23 : decode cX0_isKnownOn 23 = .ok (.iconst 1, 1) := qr_o4 hN_cX0_isKnownOn hn_cX0_isKnownOn rfl rfl
theorem dX0_isKnownOn_24 : decode cX0_isKnownOn 24 = .ok (.goto 4, 3) := qr_o167 0 4 rfl hN_cX0_isKnownOn hn_cX0_isKnownOn rfl rfl rfl rfl
theorem dX0_isKnownOn_27 : decode cX0_isKnownOn 27 = .ok (.iconst 0, 1) := qr_o3 hN_cX0_isKnownOn hn_cX0_isKnownOn rfl rfl
theorem dX0_isKnownOn_28 : decode cX0_isKnownOn 28 = .ok (.ireturn, 1) := qr_o172 hN_cX0_isKnownOn hn_cX0_isKnownOn rfl rfl
def nN_cX0_tally : Nat := 0xac03ac030400a7040700c62700b42aac030400a7040700992b00b62a28000000060000001b0000000500000002000000350000000000ab1b
theorem hN_cX0_tally : qr_n cX0_tally.data.toList = nN_cX0_tally := by decide +kernel
theorem hn_cX0_tally : cX0_tally.size = 56 := by decide +kernel
theorem dX0_tally_0 : decode cX0_tally 0 = .ok (.iload_n 1, 1) := qr_o27 hN_cX0_tally hn_cX0_tally rfl rfl
theorem dX0_tally_1 : decode cX0_tally 1 = .ok (.lookupswitch 53 #[(5, 27), (6, 40)], 27) := by decide +kernel
theorem dX0_tally_28 : decode cX0_tally 28 = .ok (.aload_n 0, 1) := qr_o42 hN_cX0_tally hn_cX0_tally rfl rfl
theorem dX0_tally_29 : decode cX0_tally 29 = .ok (.invokevirtual 43, 3) := qr_o182 0 43 hN_cX0_tally hn_cX0_tally rfl rfl rfl rfl
theorem dX0_tally_32 : decode cX0_tally 32 = .ok (.ifCond .eq 7, 3) := qr_o153 0 7 rfl hN_cX0_tally hn_cX0_tally rfl rfl rfl rfl
theorem dX0_tally_35 : decode cX0_tally 35 = .ok (.iconst 1, 1) := qr_o4 hN_cX0_tally hn_cX0_tally rfl rfl
theorem dX0_tally_36 : decode cX0_tally 36 = .ok (.goto 4, 3) := qr_o167 0 4 rfl hN_cX0_tally hn_cX0_tally rfl rfl rfl rfl
theorem dX0_tally_39 : decode cX0_tally 39 = .ok (.iconst 0, 1) := qr_o3 hN_cX0_tally hn_cX0_tally rfl rfl
theorem dX0_tally_40 : decode cX0_tally 40 = .ok (.ireturn, 1) := qr_o172 hN_cX0_tally hn_cX0_tally rfl rfl
theorem dX0_tally_41 : decode cX0_tally 41 = .ok (.aload_n 0, 1) := qr_o42 hN_cX0_tally hn_cX0_tally rfl rfl
theorem dX0_tally_42 : decode cX0_tally 42 = .ok (.getfield 39, 3) := qr_o180 0 39 hN_cX0_tally hn_cX0_tally rfl rfl rfl rfl
theorem dX0_tally_45 : decode cX0_tally 45 = .ok (.ifnull 7, 3) := qr_o198 0 7 rfl hN_cX0_tally hn_cX0_tally rfl rfl rfl rfl
theorem dX0_tally_48 : decode cX0_tally 48 = .ok (.iconst 1, 1) := qr_o4 hN_cX0_tally hn_cX0_tally rfl rfl
theorem dX0_tally_49 : decode cX0_tally 49 = .ok (.goto 4, 3) := qr_o167 0 4 rfl hN_cX0_tally hn_cX0_tally rfl rfl rfl rfl
theorem dX0_tally_52 : decode cX0_tally 52 = .ok (.iconst 0, 1) := qr_o3 hN_cX0_tally hn_cX0_tally rfl rfl
theorem dX0_tally_53 : decode cX0_tally 53 = .ok (.ireturn, 1) := qr_o172 hN_cX0_tally hn_cX0_tally rfl rfl
theorem dX0_tally_54 : decode cX0_tally 54 = .ok (.iconst 0, 1) := qr_o3 hN_cX0_tally hn_cX0_tally rfl rfl
theorem dX0_tally_55 : decode cX0_tally 55 = .ok (.ireturn, 1) := qr_o172 hN_cX0_tally hn_cX0_tally rfl rfl
def nN_cX0_goOut : Nat := 0xb13500b51c2a3200b51b2a0f00b5042a
theorem hN_cX0_goOut : qr_n cX0_goOut.data.toList = nN_cX0_goOut := by decide +kernel
theorem hn_cX0_goOut : cX0_goOut.size = 16 := by decide +kernel
theorem dX0_goOut_0 : decode cX0_goOut 0 = .ok (.aload_n 0, 1) := qr_o42 hN_cX0_goOut hn_cX0_goOut rfl rfl
theorem dX0_goOut_1 : decode cX0_goOut 1 = .ok (.iconst 1, 1) := qr_o4 hN_cX0_goOut hn_cX0_goOut rfl rfl
theorem dX0_goOut_2 : decode cX0_goOut 2 = .ok (.putfield 15, 3) := qr_o181 0 15 hN_cX0_goOut hn_cX0_goOut rfl rfl rfl rfl
theorem dX0_goOut_5 : decode cX0_goOut 5 = .ok (.aload_n 0, 1) := qr_o42 hN_cX0_goOut hn_cX0_goOut rfl rfl
theorem dX0_goOut_6 : decode cX0_goOut 6 = .ok (.iload_n 1, 1) := qr_o27 hN_cX0_goOut hn_cX0_goOut rfl rfl
theorem dX0_goOut_7 : decode cX0_goOut 7 = .ok (.putfield 50, 3) := qr_o181 0 50 hN_cX0_goOut hn_cX0_goOut rfl rfl rfl rfl
theorem dX0_goOut_10 : decode cX0_goOut 10 = .ok (.aload_n 0, 1) := qr_o42 hN_cX0_goOut hn_cX0_goOut rfl rfl
theorem dX0_goOut_11 : decode cX0_goOut 11 = .ok (.iload_n 2, 1) := qr_o28 hN_cX0_goOut hn_cX0_goOut rfl rfl
theorem dX0_goOut_12 : decode cX0_goOut 12 = .ok (.putfield 53, 3) := qr_o181 0 53 hN_cX0_goOut hn_cX0_goOut rfl rfl rfl rfl
theorem dX0_goOut_15 : decode cX0_goOut 15 = .ok (.return_, 1) := qr_o177 hN_cX0_goOut hn_cX0_goOut rfl rfl
def nN_cX0_comeHome : Nat := 0xb13b00b51c2a3800b51b2a0f00b5052a
theorem hN_cX0_comeHome : qr_n cX0_comeHome.data.toList = nN_cX0_comeHome := by decide +kernel
theorem hn_cX0_comeHome : cX0_comeHome.size = 16 := by decide +kernel
theorem dX0_comeHome_0 : decode cX0_comeHome 0 = .ok (.aload_n 0, 1) := qr_o42 hN_cX0_comeHome hn_cX0_comeHome rfl rfl
theorem dX0_comeHome_1 : decode cX0_comeHome 1 = .ok (.iconst 2, 1) := qr_o5 hN_cX0_comeHome hn_cX0_comeHome rfl rfl
theorem dX0_comeHome_2 : decode cX0_comeHome 2 = .ok (.putfield 15, 3) := qr_o181 0 15 hN_cX0_comeHome hn_cX0_comeHome rfl rfl rfl rfl
theorem dX0_comeHome_5 : decode cX0_comeHome 5 = .ok (.aload_n 0, 1) := qr_o42 hN_cX0_comeHome hn_cX0_comeHome rfl rfl
theorem dX0_comeHome_6 : decode cX0_comeHome 6 = .ok (.iload_n 1, 1) := qr_o27 hN_cX0_comeHome hn_cX0_comeHome rfl rfl
theorem dX0_comeHome_7 : decode cX0_comeHome 7 = .ok (.putfield 56, 3) := qr_o181 0 56 hN_cX0_comeHome hn_cX0_comeHome rfl rfl rfl rfl
theorem dX0_comeHome_10 : decode cX0_comeHome 10 = .ok (.aload_n 0, 1) := qr_o42 hN_cX0_comeHome hn_cX0_comeHome rfl rfl
theorem dX0_comeHome_11 : decode cX0_comeHome 11 = .ok (.iload_n 2, 1) := qr_o28 hN_cX0_comeHome hn_cX0_comeHome rfl rfl
theorem dX0_comeHome_12 : decode cX0_comeHome 12 = .ok (.putfield 59, 3) := qr_o181 0 59 hN_cX0_comeHome hn_cX0_comeHome rfl rfl rfl rfl
theorem dX0_comeHome_15 : decode cX0_comeHome 15 = .ok (.return_, 1) := qr_o177 hN_cX0_comeHome hn_cX0_comeHome rfl rfl
def nN_cX1_init : Nat := 0xb11a00b52b2a1700b50abc072a1400b50abc072a1100b50abc1e102a0b00b50abcd002112a0500b72a
theorem hN_cX1_init : qr_n cX1_init.data.toList = nN_cX1_init := by decide +kernel
theorem hn_cX1_init : cX1_init.size = 41 := by decide +kernel
theorem dX1_init_0 : decode cX1_init 0 = .ok (.aload_n 0, 1) := qr_o42 hN_cX1_init hn_cX1_init rfl rfl
theorem dX1_init_1 : decode cX1_init 1 = .ok (.invokespecial 5, 3) := qr_o183 0 5 hN_cX1_init hn_cX1_init rfl rfl rfl rfl
theorem dX1_init_4 : decode cX1_init 4 = .ok (.aload_n 0, 1) := qr_o42 hN_cX1_init hn_cX1_init rfl rfl
theorem dX1_init_5 : decode cX1_init 5 = .ok (.sipush 720, 3) := qr_o17 2 208 rfl hN_cX1_init hn_cX1_init rfl rfl rfl rfl
theorem dX1_init_8 : decode cX1_init 8 = .ok (.newarray .int, 2) := qr_na10 hN_cX1_init hn_cX1_init rfl rfl rfl
theorem dX1_init_10 : decode cX1_init 10 = .ok (.putfield 11, 3) := qr_o181 0 11 hN_cX1_init hn_cX1_init rfl rfl rfl rfl
theorem dX1_init_13 : decode cX1_init 13 = .ok (.aload_n 0, 1) := qr_o42 hN_cX1_init hn_cX1_init rfl rfl
theorem dX1_init_14 : decode cX1_init 14 = .ok (.bipush 30, 2) := qr_o16 30 rfl hN_cX1_init hn_cX1_init rfl rfl rfl
theorem dX1_init_16 : decode cX1_init 16 = .ok (.newarray .int, 2) := qr_na10 hN_cX1_init hn_cX1_init rfl rfl rfl
theorem dX1_init_18 : decode cX1_init 18 = .ok (.putfield 17, 3) := qr_o181 0 17 hN_cX1_init hn_cX1_init rfl rfl rfl rfl
theorem dX1_init_21 : decode cX1_init 21 = .ok (.aload_n 0, 1) := qr_o42 hN_cX1_init hn_cX1_init rfl rfl
theorem dX1_init_22 : decode cX1_init 22 = .ok (.iconst 4, 1) := qr_o7 hN_cX1_init hn_cX1_init rfl rfl
theorem dX1_init_23 : decode cX1_init 23 = .ok (.newarray .int, 2) := qr_na10 hN_cX1_init hn_cX1_init rfl rfl rfl
theorem dX1_init_25 : decode cX1_init 25 = .ok (.putfield 20, 3) := qr_o181 0 20 hN_cX1_init hn_cX1_init rfl rfl rfl rfl
theorem dX1_init_28 : decode cX1_init 28 = .ok (.aload_n 0, 1) := qr_o42 hN_cX1_init hn_cX1_init rfl rfl
theorem dX1_init_29 : decode cX1_init 29 = .ok (.iconst 4, 1) := qr_o7 hN_cX1_init hn_cX1_init rfl rfl
theorem dX1_init_30 : decode cX1_init 30 = .ok (.newarray .int, 2) := qr_na10 hN_cX1_init hn_cX1_init rfl rfl rfl
theorem dX1_init_32 : decode cX1_init 32 = .ok (.putfield 23, 3) := qr_o181 0 23 hN_cX1_init hn_cX1_init rfl rfl rfl rfl
theorem dX1_init_35 : decode cX1_init 35 = .ok (.aload_n 0, 1) := qr_o42 hN_cX1_init hn_cX1_init rfl rfl
theorem dX1_init_36 : decode cX1_init 36 = .ok (.aload_n 1, 1) := qr_o43 hN_cX1_init hn_cX1_init rfl rfl
theorem dX1_init_37 : decode cX1_init 37 = .ok (.putfield 26, 3) := qr_o181 0 26 hN_cX1_init hn_cX1_init rfl rfl rfl rfl
theorem dX1_init_40 : decode cX1_init 40 = .ok (.return_, 1) := qr_o177 hN_cX1_init hn_cX1_init rfl rfl
def nN_cX1_bookingIn : Nat := 0xac020400a72e1b1400b42a0c00a2071b1100a21e00b42a1b19009b1b
theorem hN_cX1_bookingIn : qr_n cX1_bookingIn.data.toList = nN_cX1_bookingIn := by decide +kernel
theorem hn_cX1_bookingIn : cX1_bookingIn.size = 28 := by decide +kernel
theorem dX1_bookingIn_0 : decode cX1_bookingIn 0 = .ok (.iload_n 1, 1) := qr_o27 hN_cX1_bookingIn hn_cX1_bookingIn rfl rfl
theorem dX1_bookingIn_1 : decode cX1_bookingIn 1 = .ok (.ifCond .lt 25, 3) := qr_o155 0 25 rfl hN_cX1_bookingIn hn_cX1_bookingIn rfl rfl rfl rfl
theorem dX1_bookingIn_4 : decode cX1_bookingIn 4 = .ok (.iload_n 1, 1) := qr_o27 hN_cX1_bookingIn hn_cX1_bookingIn rfl rfl
theorem dX1_bookingIn_5 : decode cX1_bookingIn 5 = .ok (.aload_n 0, 1) := qr_o42 hN_cX1_bookingIn hn_cX1_bookingIn rfl rfl
theorem dX1_bookingIn_6 : decode cX1_bookingIn 6 = .ok (.getfield 30, 3) := qr_o180 0 30 hN_cX1_bookingIn hn_cX1_bookingIn rfl rfl rfl rfl
theorem dX1_bookingIn_9 : decode cX1_bookingIn 9 = .ok (.if_icmp .ge 17, 3) := qr_o162 0 17 rfl hN_cX1_bookingIn hn_cX1_bookingIn rfl rfl rfl rfl
theorem dX1_bookingIn_12 : decode cX1_bookingIn 12 = .ok (.iload_n 1, 1) := qr_o27 hN_cX1_bookingIn hn_cX1_bookingIn rfl rfl
theorem dX1_bookingIn_13 : decode cX1_bookingIn 13 = .ok (.iconst 4, 1) := qr_o7 hN_cX1_bookingIn hn_cX1_bookingIn rfl rfl
theorem dX1_bookingIn_14 : decode cX1_bookingIn 14 = .ok (.if_icmp .ge 12, 3) := qr_o162 0 12 rfl hN_cX1_bookingIn hn_cX1_bookingIn rfl rfl rfl rfl
theorem dX1_bookingIn_17 : decode cX1_bookingIn 17 = .ok (.aload_n 0, 1) := qr_o42 hN_cX1_bookingIn hn_cX1_bookingIn rfl rfl
theorem dX1_bookingIn_18 : decode cX1_bookingIn 18 = .ok (.getfield 20, 3) := qr_o180 0 20 hN_cX1_bookingIn hn_cX1_bookingIn rfl rfl rfl rfl
theorem dX1_bookingIn_21 : decode cX1_bookingIn 21 = .ok (.iload_n 1, 1) := qr_o27 hN_cX1_bookingIn hn_cX1_bookingIn rfl rfl
theorem dX1_bookingIn_22 : decode cX1_bookingIn 22 = .ok (.iaload, 1) := qr_o46 hN_cX1_bookingIn hn_cX1_bookingIn rfl rfl
theorem dX1_bookingIn_23 : decode cX1_bookingIn 23 = .ok (.goto 4, 3) := qr_o167 0 4 rfl hN_cX1_bookingIn hn_cX1_bookingIn rfl rfl rfl rfl
theorem dX1_bookingIn_26 : decode cX1_bookingIn 26 = .ok (.iconst (-1), 1) := qr_o2 hN_cX1_bookingIn hn_cX1_bookingIn rfl rfl
theorem dX1_bookingIn_27 : decode cX1_bookingIn 27 = .ok (.ireturn, 1) := qr_o172 hN_cX1_bookingIn hn_cX1_bookingIn rfl rfl
def nN_cX1_pieceIn : Nat := 0xac020400a72e1b1700b42a0c00a2071b1100a21e00b42a1b19009b1b
theorem hN_cX1_pieceIn : qr_n cX1_pieceIn.data.toList = nN_cX1_pieceIn := by decide +kernel
theorem hn_cX1_pieceIn : cX1_pieceIn.size = 28 := by decide +kernel
theorem dX1_pieceIn_0 : decode cX1_pieceIn 0 = .ok (.iload_n 1, 1) := qr_o27 hN_cX1_pieceIn hn_cX1_pieceIn rfl rfl
theorem dX1_pieceIn_1 : decode cX1_pieceIn 1 = .ok (.ifCond .lt 25, 3) := qr_o155 0 25 rfl hN_cX1_pieceIn hn_cX1_pieceIn rfl rfl rfl rfl
theorem dX1_pieceIn_4 : decode cX1_pieceIn 4 = .ok (.iload_n 1, 1) := qr_o27 hN_cX1_pieceIn hn_cX1_pieceIn rfl rfl
theorem dX1_pieceIn_5 : decode cX1_pieceIn 5 = .ok (.aload_n 0, 1) := qr_o42 hN_cX1_pieceIn hn_cX1_pieceIn rfl rfl
theorem dX1_pieceIn_6 : decode cX1_pieceIn 6 = .ok (.getfield 30, 3) := qr_o180 0 30 hN_cX1_pieceIn hn_cX1_pieceIn rfl rfl rfl rfl
theorem dX1_pieceIn_9 : decode cX1_pieceIn 9 = .ok (.if_icmp .ge 17, 3) := qr_o162 0 17 rfl hN_cX1_pieceIn hn_cX1_pieceIn rfl rfl rfl rfl
theorem dX1_pieceIn_12 : decode cX1_pieceIn 12 = .ok (.iload_n 1, 1) := qr_o27 hN_cX1_pieceIn hn_cX1_pieceIn rfl rfl
theorem dX1_pieceIn_13 : decode cX1_pieceIn 13 = .ok (.iconst 4, 1) := qr_o7 hN_cX1_pieceIn hn_cX1_pieceIn rfl rfl
theorem dX1_pieceIn_14 : decode cX1_pieceIn 14 = .ok (.if_icmp .ge 12, 3) := qr_o162 0 12 rfl hN_cX1_pieceIn hn_cX1_pieceIn rfl rfl rfl rfl
theorem dX1_pieceIn_17 : decode cX1_pieceIn 17 = .ok (.aload_n 0, 1) := qr_o42 hN_cX1_pieceIn hn_cX1_pieceIn rfl rfl
theorem dX1_pieceIn_18 : decode cX1_pieceIn 18 = .ok (.getfield 23, 3) := qr_o180 0 23 hN_cX1_pieceIn hn_cX1_pieceIn rfl rfl rfl rfl
theorem dX1_pieceIn_21 : decode cX1_pieceIn 21 = .ok (.iload_n 1, 1) := qr_o27 hN_cX1_pieceIn hn_cX1_pieceIn rfl rfl
theorem dX1_pieceIn_22 : decode cX1_pieceIn 22 = .ok (.iaload, 1) := qr_o46 hN_cX1_pieceIn hn_cX1_pieceIn rfl rfl
theorem dX1_pieceIn_23 : decode cX1_pieceIn 23 = .ok (.goto 4, 3) := qr_o167 0 4 rfl hN_cX1_pieceIn hn_cX1_pieceIn rfl rfl rfl rfl
theorem dX1_pieceIn_26 : decode cX1_pieceIn 26 = .ok (.iconst (-1), 1) := qr_o2 hN_cX1_pieceIn hn_cX1_pieceIn rfl rfl
theorem dX1_pieceIn_27 : decode cX1_pieceIn 27 = .ok (.ireturn, 1) := qr_o172 hN_cX1_pieceIn hn_cX1_pieceIn rfl rfl
def nN_cX1_find : Nat := 0xacfc10e3ffa7010384ac1e00b42a1e00b560041d2a0f00994500b81d032a1e00a31c1d3e034f4000b42b031400b42af4ffa70103843d00b62a0d00a21c1d3e03e5ffa70103843900b62b3500b61d1a00b42a2a1600a23200b41a00b42a1d3e031e00b5032a3d2c00b8062800b607102200b41a00b42a
theorem hN_cX1_find : qr_n cX1_find.data.toList = nN_cX1_find := by decide +kernel
theorem hn_cX1_find : cX1_find.size = 118 := by decide +kernel
theorem dX1_find_0 : decode cX1_find 0 = .ok (.aload_n 0, 1) := qr_o42 hN_cX1_find hn_cX1_find rfl rfl
theorem dX1_find_1 : decode cX1_find 1 = .ok (.getfield 26, 3) := qr_o180 0 26 hN_cX1_find hn_cX1_find rfl rfl rfl rfl
theorem dX1_find_4 : decode cX1_find 4 = .ok (.getfield 34, 3) := qr_o180 0 34 hN_cX1_find hn_cX1_find rfl rfl rfl rfl
theorem dX1_find_7 : decode cX1_find 7 = .ok (.bipush 7, 2) := qr_o16 7 rfl hN_cX1_find hn_cX1_find rfl rfl rfl
theorem dX1_find_9 : decode cX1_find 9 = .ok (.invokevirtual 40, 3) := qr_o182 0 40 hN_cX1_find hn_cX1_find rfl rfl rfl rfl
theorem dX1_find_12 : decode cX1_find 12 = .ok (.iconst 3, 1) := qr_o6 hN_cX1_find hn_cX1_find rfl rfl
theorem dX1_find_13 : decode cX1_find 13 = .ok (.invokestatic 44, 3) := qr_o184 0 44 hN_cX1_find hn_cX1_find rfl rfl rfl rfl
theorem dX1_find_16 : decode cX1_find 16 = .ok (.istore_n 2, 1) := qr_o61 hN_cX1_find hn_cX1_find rfl rfl
theorem dX1_find_17 : decode cX1_find 17 = .ok (.aload_n 0, 1) := qr_o42 hN_cX1_find hn_cX1_find rfl rfl
theorem dX1_find_18 : decode cX1_find 18 = .ok (.iconst 0, 1) := qr_o3 hN_cX1_find hn_cX1_find rfl rfl
theorem dX1_find_19 : decode cX1_find 19 = .ok (.putfield 30, 3) := qr_o181 0 30 hN_cX1_find hn_cX1_find rfl rfl rfl rfl
theorem dX1_find_22 : decode cX1_find 22 = .ok (.iconst 0, 1) := qr_o3 hN_cX1_find hn_cX1_find rfl rfl
theorem dX1_find_23 : decode cX1_find 23 = .ok (.istore_n 3, 1) := qr_o62 hN_cX1_find hn_cX1_find rfl rfl
theorem dX1_find_24 : decode cX1_find 24 = .ok (.iload_n 3, 1) := qr_o29 hN_cX1_find hn_cX1_find rfl rfl
theorem dX1_find_25 : decode cX1_find 25 = .ok (.aload_n 0, 1) := qr_o42 hN_cX1_find hn_cX1_find rfl rfl
theorem dX1_find_26 : decode cX1_find 26 = .ok (.getfield 26, 3) := qr_o180 0 26 hN_cX1_find hn_cX1_find rfl rfl rfl rfl
theorem dX1_find_29 : decode cX1_find 29 = .ok (.getfield 50, 3) := qr_o180 0 50 hN_cX1_find hn_cX1_find rfl rfl rfl rfl
theorem dX1_find_32 : decode cX1_find 32 = .ok (.if_icmp .ge 22, 3) := qr_o162 0 22 rfl hN_cX1_find hn_cX1_find rfl rfl rfl rfl
theorem dX1_find_35 : decode cX1_find 35 = .ok (.aload_n 0, 1) := qr_o42 hN_cX1_find hn_cX1_find rfl rfl
theorem dX1_find_36 : decode cX1_find 36 = .ok (.aload_n 0, 1) := qr_o42 hN_cX1_find hn_cX1_find rfl rfl
theorem dX1_find_37 : decode cX1_find 37 = .ok (.getfield 26, 3) := qr_o180 0 26 hN_cX1_find hn_cX1_find rfl rfl rfl rfl
theorem dX1_find_40 : decode cX1_find 40 = .ok (.iload_n 3, 1) := qr_o29 hN_cX1_find hn_cX1_find rfl rfl
theorem dX1_find_41 : decode cX1_find 41 = .ok (.invokevirtual 53, 3) := qr_o182 0 53 hN_cX1_find hn_cX1_find rfl rfl rfl rfl
theorem dX1_find_44 : decode cX1_find 44 = .ok (.aload_n 1, 1) := qr_o43 hN_cX1_find hn_cX1_find rfl rfl
theorem dX1_find_45 : decode cX1_find 45 = .ok (.invokevirtual 57, 3) := qr_o182 0 57 hN_cX1_find hn_cX1_find rfl rfl rfl rfl
theorem dX1_find_48 : decode cX1_find 48 = .ok (.iinc 3 1, 3) := qr_o132 3 1 rfl hN_cX1_find hn_cX1_find rfl rfl rfl rfl
theorem dX1_find_51 : decode cX1_find 51 = .ok (.goto (-27), 3) := qr_w167 255 229 27 rfl rfl hN_cX1_find hn_cX1_find rfl rfl rfl rfl
theorem dX1_find_54 : decode cX1_find 54 = .ok (.iconst 0, 1) := qr_o3 hN_cX1_find hn_cX1_find rfl rfl
theorem dX1_find_55 : decode cX1_find 55 = .ok (.istore_n 3, 1) := qr_o62 hN_cX1_find hn_cX1_find rfl rfl
theorem dX1_find_56 : decode cX1_find 56 = .ok (.iload_n 3, 1) := qr_o29 hN_cX1_find hn_cX1_find rfl rfl
theorem dX1_find_57 : decode cX1_find 57 = .ok (.iload_n 2, 1) := qr_o28 hN_cX1_find hn_cX1_find rfl rfl
theorem dX1_find_58 : decode cX1_find 58 = .ok (.if_icmp .ge 13, 3) := qr_o162 0 13 rfl hN_cX1_find hn_cX1_find rfl rfl rfl rfl
theorem dX1_find_61 : decode cX1_find 61 = .ok (.aload_n 0, 1) := qr_o42 hN_cX1_find hn_cX1_find rfl rfl
theorem dX1_find_62 : decode cX1_find 62 = .ok (.invokevirtual 61, 3) := qr_o182 0 61 hN_cX1_find hn_cX1_find rfl rfl rfl rfl
theorem dX1_find_65 : decode cX1_find 65 = .ok (.iinc 3 1, 3) := qr_o132 3 1 rfl hN_cX1_find hn_cX1_find rfl rfl rfl rfl
theorem dX1_find_68 : decode cX1_find 68 = .ok (.goto (-12), 3) := qr_w167 255 244 12 rfl rfl hN_cX1_find hn_cX1_find rfl rfl rfl rfl
theorem dX1_find_71 : decode cX1_find 71 = .ok (.aload_n 0, 1) := qr_o42 hN_cX1_find hn_cX1_find rfl rfl
theorem dX1_find_72 : decode cX1_find 72 = .ok (.getfield 20, 3) := qr_o180 0 20 hN_cX1_find hn_cX1_find rfl rfl rfl rfl
theorem dX1_find_75 : decode cX1_find 75 = .ok (.iconst 0, 1) := qr_o3 hN_cX1_find hn_cX1_find rfl rfl
theorem dX1_find_76 : decode cX1_find 76 = .ok (.aload_n 1, 1) := qr_o43 hN_cX1_find hn_cX1_find rfl rfl
theorem dX1_find_77 : decode cX1_find 77 = .ok (.getfield 64, 3) := qr_o180 0 64 hN_cX1_find hn_cX1_find rfl rfl rfl rfl
theorem dX1_find_80 : decode cX1_find 80 = .ok (.iastore, 1) := qr_o79 hN_cX1_find hn_cX1_find rfl rfl
theorem dX1_find_81 : decode cX1_find 81 = .ok (.iconst 0, 1) := qr_o3 hN_cX1_find hn_cX1_find rfl rfl
theorem dX1_find_82 : decode cX1_find 82 = .ok (.istore_n 3, 1) := qr_o62 hN_cX1_find hn_cX1_find rfl rfl
theorem dX1_find_83 : decode cX1_find 83 = .ok (.iload_n 3, 1) := qr_o29 hN_cX1_find hn_cX1_find rfl rfl
theorem dX1_find_84 : decode cX1_find 84 = .ok (.iload_n 2, 1) := qr_o28 hN_cX1_find hn_cX1_find rfl rfl
theorem dX1_find_85 : decode cX1_find 85 = .ok (.if_icmp .gt 30, 3) := qr_o163 0 30 rfl hN_cX1_find hn_cX1_find rfl rfl rfl rfl
theorem dX1_find_88 : decode cX1_find 88 = .ok (.aload_n 0, 1) := qr_o42 hN_cX1_find hn_cX1_find rfl rfl
theorem dX1_find_89 : decode cX1_find 89 = .ok (.iconst 0, 1) := qr_o3 hN_cX1_find hn_cX1_find rfl rfl
theorem dX1_find_90 : decode cX1_find 90 = .ok (.iload_n 3, 1) := qr_o29 hN_cX1_find hn_cX1_find rfl rfl
theorem dX1_find_91 : decode cX1_find 91 = .ok (.invokestatic 69, 3) := qr_o184 0 69 hN_cX1_find hn_cX1_find rfl rfl rfl rfl
theorem dX1_find_94 : decode cX1_find 94 = .ok (.ifCond .eq 15, 3) := qr_o153 0 15 rfl hN_cX1_find hn_cX1_find rfl rfl rfl rfl
theorem dX1_find_97 : decode cX1_find 97 = .ok (.aload_n 0, 1) := qr_o42 hN_cX1_find hn_cX1_find rfl rfl
theorem dX1_find_98 : decode cX1_find 98 = .ok (.iload_n 3, 1) := qr_o29 hN_cX1_find hn_cX1_find rfl rfl
theorem dX1_find_99 : decode cX1_find 99 = .ok (.iconst 1, 1) := qr_o4 hN_cX1_find hn_cX1_find rfl rfl
theorem dX1_find_100 : decode cX1_find 100 = .ok (.iadd, 1) := qr_o96 hN_cX1_find hn_cX1_find rfl rfl
theorem dX1_find_101 : decode cX1_find 101 = .ok (.putfield 30, 3) := qr_o181 0 30 hN_cX1_find hn_cX1_find rfl rfl rfl rfl
theorem dX1_find_104 : decode cX1_find 104 = .ok (.aload_n 0, 1) := qr_o42 hN_cX1_find hn_cX1_find rfl rfl
theorem dX1_find_105 : decode cX1_find 105 = .ok (.getfield 30, 3) := qr_o180 0 30 hN_cX1_find hn_cX1_find rfl rfl rfl rfl
theorem dX1_find_108 : decode cX1_find 108 = .ok (.ireturn, 1) := qr_o172 hN_cX1_find hn_cX1_find rfl rfl
theorem dX1_find_109 : decode cX1_find 109 = .ok (.iinc 3 1, 3) := qr_o132 3 1 rfl hN_cX1_find hn_cX1_find rfl rfl rfl rfl
theorem dX1_find_112 : decode cX1_find 112 = .ok (.goto (-29), 3) := qr_w167 255 227 29 rfl rfl hN_cX1_find hn_cX1_find rfl rfl rfl rfl
theorem dX1_find_115 : decode cX1_find 115 = .ok (.bipush (-4), 2) := qr_w16 252 4 rfl rfl hN_cX1_find hn_cX1_find rfl rfl rfl
theorem dX1_find_117 : decode cX1_find 117 = .ok (.ireturn, 1) := qr_o172 hN_cX1_find hn_cX1_find rfl rfl
def nN_cX1_perform : Nat := 0xb1ceffa70101845300b52d2c0800c62d0c00c62c4e4f00b64c00b61b2a1a00b42a4d3500b64900b61b2a1a00b42a3000a21e00b42a1b3c03
theorem hN_cX1_perform : qr_n cX1_perform.data.toList = nN_cX1_perform := by decide +kernel
theorem hn_cX1_perform : cX1_perform.size = 56 := by decide +kernel
theorem dX1_perform_0 : decode cX1_perform 0 = .ok (.iconst 0, 1) := qr_o3 hN_cX1_perform hn_cX1_perform rfl rfl
theorem dX1_perform_1 : decode cX1_perform 1 = .ok (.istore_n 1, 1) := qr_o60 hN_cX1_perform hn_cX1_perform rfl rfl
theorem dX1_perform_2 : decode cX1_perform 2 = .ok (.iload_n 1, 1) := qr_o27 hN_cX1_perform hn_cX1_perform rfl rfl
theorem dX1_perform_3 : decode cX1_perform 3 = .ok (.aload_n 0, 1) := qr_o42 hN_cX1_perform hn_cX1_perform rfl rfl
theorem dX1_perform_4 : decode cX1_perform 4 = .ok (.getfield 30, 3) := qr_o180 0 30 hN_cX1_perform hn_cX1_perform rfl rfl rfl rfl
theorem dX1_perform_7 : decode cX1_perform 7 = .ok (.if_icmp .ge 48, 3) := qr_o162 0 48 rfl hN_cX1_perform hn_cX1_perform rfl rfl rfl rfl
theorem dX1_perform_10 : decode cX1_perform 10 = .ok (.aload_n 0, 1) := qr_o42 hN_cX1_perform hn_cX1_perform rfl rfl
theorem dX1_perform_11 : decode cX1_perform 11 = .ok (.getfield 26, 3) := qr_o180 0 26 hN_cX1_perform hn_cX1_perform rfl rfl rfl rfl
theorem dX1_perform_14 : decode cX1_perform 14 = .ok (.aload_n 0, 1) := qr_o42 hN_cX1_perform hn_cX1_perform rfl rfl
theorem dX1_perform_15 : decode cX1_perform 15 = .ok (.iload_n 1, 1) := qr_o27 hN_cX1_perform hn_cX1_perform rfl rfl
theorem dX1_perform_16 : decode cX1_perform 16 = .ok (.invokevirtual 73, 3) := qr_o182 0 73 hN_cX1_perform hn_cX1_perform rfl rfl rfl rfl
theorem dX1_perform_19 : decode cX1_perform 19 = .ok (.invokevirtual 53, 3) := qr_o182 0 53 hN_cX1_perform hn_cX1_perform rfl rfl rfl rfl
theorem dX1_perform_22 : decode cX1_perform 22 = .ok (.astore_n 2, 1) := qr_o77 hN_cX1_perform hn_cX1_perform rfl rfl
theorem dX1_perform_23 : decode cX1_perform 23 = .ok (.aload_n 0, 1) := qr_o42 hN_cX1_perform hn_cX1_perform rfl rfl
theorem dX1_perform_24 : decode cX1_perform 24 = .ok (.getfield 26, 3) := qr_o180 0 26 hN_cX1_perform hn_cX1_perform rfl rfl rfl rfl
theorem dX1_perform_27 : decode cX1_perform 27 = .ok (.aload_n 0, 1) := qr_o42 hN_cX1_perform hn_cX1_perform rfl rfl
theorem dX1_perform_28 : decode cX1_perform 28 = .ok (.iload_n 1, 1) := qr_o27 hN_cX1_perform hn_cX1_perform rfl rfl
theorem dX1_perform_29 : decode cX1_perform 29 = .ok (.invokevirtual 76, 3) := qr_o182 0 76 hN_cX1_perform hn_cX1_perform rfl rfl rfl rfl
theorem dX1_perform_32 : decode cX1_perform 32 = .ok (.invokevirtual 79, 3) := qr_o182 0 79 hN_cX1_perform hn_cX1_perform rfl rfl rfl rfl
theorem dX1_perform_35 : decode cX1_perform 35 = .ok (.astore_n 3, 1) := qr_o78 hN_cX1_perform hn_cX1_perform rfl rfl
theorem dX1_perform_36 : decode cX1_perform 36 = .ok (.aload_n 2, 1) := qr_o44 hN_cX1_perform hn_cX1_perform rfl rfl
theorem dX1_perform_37 : decode cX1_perform 37 = .ok (.ifnull 12, 3) := qr_o198 0 12 rfl hN_cX1_perform hn_cX1_perform rfl rfl rfl rfl
theorem dX1_perform_40 : decode cX1_perform 40 = .ok (.aload_n 3, 1) := qr_o45 hN_cX1_perform hn_cX1_perform rfl rfl
theorem dX1_perform_41 : decode cX1_perform 41 = .ok (.ifnull 8, 3) := qr_o198 0 8 rfl hN_cX1_perform hn_cX1_perform rfl rfl rfl rfl
theorem dX1_perform_44 : decode cX1_perform 44 = .ok (.aload_n 2, 1) := qr_o44 hN_cX1_perform hn_cX1_perform rfl rfl
theorem dX1_perform_45 : decode cX1_perform 45 = .ok (.aload_n 3, 1) := qr_o45 hN_cX1_perform hn_cX1_perform rfl rfl
theorem dX1_perform_46 : decode cX1_perform 46 = .ok (.putfield 83, 3) := qr_o181 0 83 hN_cX1_perform hn_cX1_perform rfl rfl rfl rfl
theorem dX1_perform_49 : decode cX1_perform 49 = .ok (.iinc 1 1, 3) := qr_o132 1 1 rfl hN_cX1_perform hn_cX1_perform rfl rfl rfl rfl
theorem dX1_perform_52 : decode cX1_perform 52 = .ok (.goto (-50), 3) := qr_w167 255 206 50 rfl rfl hN_cX1_perform hn_cX1_perform rfl rfl rfl rfl
theorem dX1_perform_55 : decode cX1_perform 55 = .ok (.return_, 1) := qr_o177 hN_cX1_perform hn_cX1_perform rfl rfl
def nN_cX1_readSources : Nat := 0xb16effa70104844f05156004156818104000b42b0b00b42a4f034000b42b1100b42a0d00a00205150536fe100700996b00b607190f00c60719073a3500b605151a00b42a05366700b62b06191a00b42a0f00996300b62b06191a00b42a1c00995d00b65a00b42b06192800a55300b42b06193100c606193600991d063a4f00b604151a00b42a0536fe108c00a25700b41a00b42a04150436034f63104000b42b1100b42a3e030400a7040700c65300b42b0a00a52c2bb10400c72b
theorem hN_cX1_readSources : qr_n cX1_readSources.data.toList = nN_cX1_readSources := by decide +kernel
theorem hn_cX1_readSources : cX1_readSources.size = 187 := by decide +kernel
theorem dX1_readSources_0 : decode cX1_readSources 0 = .ok (.aload_n 1, 1) := qr_o43 hN_cX1_readSources hn_cX1_readSources rfl rfl
theorem dX1_readSources_1 : decode cX1_readSources 1 = .ok (.ifnonnull 4, 3) := qr_o199 0 4 rfl hN_cX1_readSources hn_cX1_readSources rfl rfl rfl rfl
theorem dX1_readSources_4 : decode cX1_readSources 4 = .ok (.return_, 1) := qr_o177 hN_cX1_readSources hn_cX1_readSources rfl rfl
theorem dX1_readSources_5 : decode cX1_readSources 5 = .ok (.aload_n 1, 1) := qr_o43 hN_cX1_readSources hn_cX1_readSources rfl rfl
theorem dX1_readSources_6 : decode cX1_readSources 6 = .ok (.aload_n 2, 1) := qr_o44 hN_cX1_readSources hn_cX1_readSources rfl rfl
theorem dX1_readSources_7 : decode cX1_readSources 7 = .ok (.if_acmp .eq 10, 3) := qr_o165 0 10 rfl hN_cX1_readSources hn_cX1_readSources rfl rfl rfl rfl
theorem dX1_readSources_10 : decode cX1_readSources 10 = .ok (.aload_n 1, 1) := qr_o43 hN_cX1_readSources hn_cX1_readSources rfl rfl
theorem dX1_readSources_11 : decode cX1_readSources 11 = .ok (.getfield 83, 3) := qr_o180 0 83 hN_cX1_readSources hn_cX1_readSources rfl rfl rfl rfl
theorem dX1_readSources_14 : decode cX1_readSources 14 = .ok (.ifnull 7, 3) := qr_o198 0 7 rfl hN_cX1_readSources hn_cX1_readSources rfl rfl rfl rfl
theorem dX1_readSources_17 : decode cX1_readSources 17 = .ok (.iconst 1, 1) := qr_o4 hN_cX1_readSources hn_cX1_readSources rfl rfl
theorem dX1_readSources_18 : decode cX1_readSources 18 = .ok (.goto 4, 3) := qr_o167 0 4 rfl hN_cX1_readSources hn_cX1_readSources rfl rfl rfl rfl
theorem dX1_readSources_21 : decode cX1_readSources 21 = .ok (.iconst 0, 1) := qr_o3 hN_cX1_readSources hn_cX1_readSources rfl rfl
theorem dX1_readSources_22 : decode cX1_readSources 22 = .ok (.istore_n 3, 1) := qr_o62 hN_cX1_readSources hn_cX1_readSources rfl rfl
theorem dX1_readSources_23 : decode cX1_readSources 23 = .ok (.aload_n 0, 1) := qr_o42 hN_cX1_readSources hn_cX1_readSources rfl rfl
theorem dX1_readSources_24 : decode cX1_readSources 24 = .ok (.getfield 17, 3) := qr_o180 0 17 hN_cX1_readSources hn_cX1_readSources rfl rfl rfl rfl
theorem dX1_readSources_27 : decode cX1_readSources 27 = .ok (.aload_n 1, 1) := qr_o43 hN_cX1_readSources hn_cX1_readSources rfl rfl
theorem dX1_readSources_28 : decode cX1_readSources 28 = .ok (.getfield 64, 3) := qr_o180 0 64 hN_cX1_readSources hn_cX1_readSources rfl rfl rfl rfl
theorem dX1_readSources_31 : decode cX1_readSources 31 = .ok (.bipush 99, 2) := qr_o16 99 rfl hN_cX1_readSources hn_cX1_readSources rfl rfl rfl
theorem dX1_readSources_33 : decode cX1_readSources 33 = .ok (.iastore, 1) := qr_o79 hN_cX1_readSources hn_cX1_readSources rfl rfl
theorem dX1_readSources_34 : decode cX1_readSources 34 = .ok (.iconst 0, 1) := qr_o3 hN_cX1_readSources hn_cX1_readSources rfl rfl
theorem dX1_readSources_35 : decode cX1_readSources 35 = .ok (.istore 4, 2) := qr_o54 4 hN_cX1_readSources hn_cX1_readSources rfl rfl rfl
theorem dX1_readSources_37 : decode cX1_readSources 37 = .ok (.iload 4, 2) := qr_o21 4 hN_cX1_readSources hn_cX1_readSources rfl rfl rfl
theorem dX1_readSources_39 : decode cX1_readSources 39 = .ok (.aload_n 0, 1) := qr_o42 hN_cX1_readSources hn_cX1_readSources rfl rfl
theorem dX1_readSources_40 : decode cX1_readSources 40 = .ok (.getfield 26, 3) := qr_o180 0 26 hN_cX1_readSources hn_cX1_readSources rfl rfl rfl rfl
theorem dX1_readSources_43 : decode cX1_readSources 43 = .ok (.getfield 87, 3) := qr_o180 0 87 hN_cX1_readSources hn_cX1_readSources rfl rfl rfl rfl
theorem dX1_readSources_46 : decode cX1_readSources 46 = .ok (.if_icmp .ge 140, 3) := qr_o162 0 140 rfl hN_cX1_readSources hn_cX1_readSources rfl rfl rfl rfl
theorem dX1_readSources_49 : decode cX1_readSources 49 = .ok (.bipush (-2), 2) := qr_w16 254 2 rfl rfl hN_cX1_readSources hn_cX1_readSources rfl rfl rfl
theorem dX1_readSources_51 : decode cX1_readSources 51 = .ok (.istore 5, 2) := qr_o54 5 hN_cX1_readSources hn_cX1_readSources rfl rfl rfl
theorem dX1_readSources_53 : decode cX1_readSources 53 = .ok (.aload_n 0, 1) := qr_o42 hN_cX1_readSources hn_cX1_readSources rfl rfl
theorem dX1_readSources_54 : decode cX1_readSources 54 = .ok (.getfield 26, 3) := qr_o180 0 26 hN_cX1_readSources hn_cX1_readSources rfl rfl rfl rfl
theorem dX1_readSources_57 : decode cX1_readSources 57 = .ok (.iload 4, 2) := qr_o21 4 hN_cX1_readSources hn_cX1_readSources rfl rfl rfl
theorem dX1_readSources_59 : decode cX1_readSources 59 = .ok (.invokevirtual 79, 3) := qr_o182 0 79 hN_cX1_readSources hn_cX1_readSources rfl rfl rfl rfl
theorem dX1_readSources_62 : decode cX1_readSources 62 = .ok (.astore 6, 2) := qr_o58 6 hN_cX1_readSources hn_cX1_readSources rfl rfl rfl
theorem dX1_readSources_64 : decode cX1_readSources 64 = .ok (.iload_n 3, 1) := qr_o29 hN_cX1_readSources hn_cX1_readSources rfl rfl
theorem dX1_readSources_65 : decode cX1_readSources 65 = .ok (.ifCond .eq 54, 3) := qr_o153 0 54 rfl hN_cX1_readSources hn_cX1_readSources rfl rfl rfl rfl
theorem dX1_readSources_68 : decode cX1_readSources 68 = .ok (.aload 6, 2) := qr_o25 6 hN_cX1_readSources hn_cX1_readSources rfl rfl rfl
theorem dX1_readSources_70 : decode cX1_readSources 70 = .ok (.ifnull 49, 3) := qr_o198 0 49 rfl hN_cX1_readSources hn_cX1_readSources rfl rfl rfl rfl
theorem dX1_readSources_73 : decode cX1_readSources 73 = .ok (.aload 6, 2) := qr_o25 6 hN_cX1_readSources hn_cX1_readSources rfl rfl rfl
theorem dX1_readSources_75 : decode cX1_readSources 75 = .ok (.aload_n 1, 1) := qr_o43 hN_cX1_readSources hn_cX1_readSources rfl rfl
theorem dX1_readSources_76 : decode cX1_readSources 76 = .ok (.getfield 83, 3) := qr_o180 0 83 hN_cX1_readSources hn_cX1_readSources rfl rfl rfl rfl
theorem dX1_readSources_79 : decode cX1_readSources 79 = .ok (.if_acmp .eq 40, 3) := qr_o165 0 40 rfl hN_cX1_readSources hn_cX1_readSources rfl rfl rfl rfl
theorem dX1_readSources_82 : decode cX1_readSources 82 = .ok (.aload 6, 2) := qr_o25 6 hN_cX1_readSources hn_cX1_readSources rfl rfl rfl
theorem dX1_readSources_84 : decode cX1_readSources 84 = .ok (.aload_n 1, 1) := qr_o43 hN_cX1_readSources hn_cX1_readSources rfl rfl
theorem dX1_readSources_85 : decode cX1_readSources 85 = .ok (.getfield 90, 3) := qr_o180 0 90 hN_cX1_readSources hn_cX1_readSources rfl rfl rfl rfl
theorem dX1_readSources_88 : decode cX1_readSources 88 = .ok (.invokevirtual 93, 3) := qr_o182 0 93 hN_cX1_readSources hn_cX1_readSources rfl rfl rfl rfl
theorem dX1_readSources_91 : decode cX1_readSources 91 = .ok (.ifCond .eq 28, 3) := qr_o153 0 28 rfl hN_cX1_readSources hn_cX1_readSources rfl rfl rfl rfl
theorem dX1_readSources_94 : decode cX1_readSources 94 = .ok (.aload_n 0, 1) := qr_o42 hN_cX1_readSources hn_cX1_readSources rfl rfl
theorem dX1_readSources_95 : decode cX1_readSources 95 = .ok (.getfield 26, 3) := qr_o180 0 26 hN_cX1_readSources hn_cX1_readSources rfl rfl rfl rfl
theorem dX1_readSources_98 : decode cX1_readSources 98 = .ok (.aload 6, 2) := qr_o25 6 hN_cX1_readSources hn_cX1_readSources rfl rfl rfl
theorem dX1_readSources_100 : decode cX1_readSources 100 = .ok (.aload_n 1, 1) := qr_o43 hN_cX1_readSources hn_cX1_readSources rfl rfl
theorem dX1_readSources_101 : decode cX1_readSources 101 = .ok (.invokevirtual 99, 3) := qr_o182 0 99 hN_cX1_readSources hn_cX1_readSources rfl rfl rfl rfl
theorem dX1_readSources_104 : decode cX1_readSources 104 = .ok (.ifCond .eq 15, 3) := qr_o153 0 15 rfl hN_cX1_readSources hn_cX1_readSources rfl rfl rfl rfl
theorem dX1_readSources_107 : decode cX1_readSources 107 = .ok (.aload_n 0, 1) := qr_o42 hN_cX1_readSources hn_cX1_readSources rfl rfl
theorem dX1_readSources_108 : decode cX1_readSources 108 = .ok (.getfield 26, 3) := qr_o180 0 26 hN_cX1_readSources hn_cX1_readSources rfl rfl rfl rfl
theorem dX1_readSources_111 : decode cX1_readSources 111 = .ok (.aload 6, 2) := qr_o25 6 hN_cX1_readSources hn_cX1_readSources rfl rfl rfl
theorem dX1_readSources_113 : decode cX1_readSources 113 = .ok (.aload_n 1, 1) := qr_o43 hN_cX1_readSources hn_cX1_readSources rfl rfl
theorem dX1_readSources_114 : decode cX1_readSources 114 = .ok (.invokevirtual 103, 3) := qr_o182 0 103 hN_cX1_readSources hn_cX1_readSources rfl rfl rfl rfl
theorem dX1_readSources_117 : decode cX1_readSources 117 = .ok (.istore 5, 2) := qr_o54 5 hN_cX1_readSources hn_cX1_readSources rfl rfl rfl
theorem dX1_readSources_119 : decode cX1_readSources 119 = .ok (.aload_n 0, 1) := qr_o42 hN_cX1_readSources hn_cX1_readSources rfl rfl
theorem dX1_readSources_120 : decode cX1_readSources 120 = .ok (.getfield 26, 3) := qr_o180 0 26 hN_cX1_readSources hn_cX1_readSources rfl rfl rfl rfl
theorem dX1_readSources_123 : decode cX1_readSources 123 = .ok (.iload 5, 2) := qr_o21 5 hN_cX1_readSources hn_cX1_readSources rfl rfl rfl
theorem dX1_readSources_125 : decode cX1_readSources 125 = .ok (.invokevirtual 53, 3) := qr_o182 0 53 hN_cX1_readSources hn_cX1_readSources rfl rfl rfl rfl
theorem dX1_readSources_128 : decode cX1_readSources 128 = .ok (.astore 7, 2) := qr_o58 7 hN_cX1_readSources hn_cX1_readSources rfl rfl rfl
theorem dX1_readSources_130 : decode cX1_readSources 130 = .ok (.aload 7, 2) := qr_o25 7 hN_cX1_readSources hn_cX1_readSources rfl rfl rfl
theorem dX1_readSources_132 : decode cX1_readSources 132 = .ok (.ifnull 15, 3) := qr_o198 0 15 rfl hN_cX1_readSources hn_cX1_readSources rfl rfl rfl rfl
theorem dX1_readSources_135 : decode cX1_readSources 135 = .ok (.aload 7, 2) := qr_o25 7 hN_cX1_readSources hn_cX1_readSources rfl rfl rfl
theorem dX1_readSources_137 : decode cX1_readSources 137 = .ok (.invokevirtual 107, 3) := qr_o182 0 107 hN_cX1_readSources hn_cX1_readSources rfl rfl rfl rfl
theorem dX1_readSources_140 : decode cX1_readSources 140 = .ok (.ifCond .eq 7, 3) := qr_o153 0 7 rfl hN_cX1_readSources hn_cX1_readSources rfl rfl rfl rfl
theorem dX1_readSources_143 : decode cX1_readSources 143 = .ok (.bipush (-2), 2) := qr_w16 254 2 rfl rfl hN_cX1_readSources hn_cX1_readSources rfl rfl rfl
theorem dX1_readSources_145 : decode cX1_readSources 145 = .ok (.istore 5, 2) := qr_o54 5 hN_cX1_readSources hn_cX1_readSources rfl rfl rfl
theorem dX1_readSources_147 : decode cX1_readSources 147 = .ok (.iload 5, 2) := qr_o21 5 hN_cX1_readSources hn_cX1_readSources rfl rfl rfl
theorem dX1_readSources_149 : decode cX1_readSources 149 = .ok (.iconst (-1), 1) := qr_o2 hN_cX1_readSources hn_cX1_readSources rfl rfl
theorem dX1_readSources_150 : decode cX1_readSources 150 = .ok (.if_icmp .ne 13, 3) := qr_o160 0 13 rfl hN_cX1_readSources hn_cX1_readSources rfl rfl rfl rfl
theorem dX1_readSources_153 : decode cX1_readSources 153 = .ok (.aload_n 0, 1) := qr_o42 hN_cX1_readSources hn_cX1_readSources rfl rfl
theorem dX1_readSources_154 : decode cX1_readSources 154 = .ok (.getfield 17, 3) := qr_o180 0 17 hN_cX1_readSources hn_cX1_readSources rfl rfl rfl rfl
theorem dX1_readSources_157 : decode cX1_readSources 157 = .ok (.aload_n 1, 1) := qr_o43 hN_cX1_readSources hn_cX1_readSources rfl rfl
theorem dX1_readSources_158 : decode cX1_readSources 158 = .ok (.getfield 64, 3) := qr_o180 0 64 hN_cX1_readSources hn_cX1_readSources rfl rfl rfl rfl
theorem dX1_readSources_161 : decode cX1_readSources 161 = .ok (.iconst 0, 1) := qr_o3 hN_cX1_readSources hn_cX1_readSources rfl rfl
theorem dX1_readSources_162 : decode cX1_readSources 162 = .ok (.iastore, 1) := qr_o79 hN_cX1_readSources hn_cX1_readSources rfl rfl
theorem dX1_readSources_163 : decode cX1_readSources 163 = .ok (.aload_n 0, 1) := qr_o42 hN_cX1_readSources hn_cX1_readSources rfl rfl
theorem dX1_readSources_164 : decode cX1_readSources 164 = .ok (.getfield 11, 3) := qr_o180 0 11 hN_cX1_readSources hn_cX1_readSources rfl rfl rfl rfl
theorem dX1_readSources_167 : decode cX1_readSources 167 = .ok (.aload_n 1, 1) := qr_o43 hN_cX1_readSources hn_cX1_readSources rfl rfl
theorem dX1_readSources_168 : decode cX1_readSources 168 = .ok (.getfield 64, 3) := qr_o180 0 64 hN_cX1_readSources hn_cX1_readSources rfl rfl rfl rfl
theorem dX1_readSources_171 : decode cX1_readSources 171 = .ok (.bipush 24, 2) := qr_o16 24 rfl hN_cX1_readSources hn_cX1_readSources rfl rfl rfl
theorem dX1_readSources_173 : decode cX1_readSources 173 = .ok (.imul, 1) := qr_o104 hN_cX1_readSources hn_cX1_readSources rfl rfl
theorem dX1_readSources_174 : decode cX1_readSources 174 = .ok (.iload 4, 2) := qr_o21 4 hN_cX1_readSources hn_cX1_readSources rfl rfl rfl
theorem dX1_readSources_176 : decode cX1_readSources 176 = .ok (.iadd, 1) := qr_o96 hN_cX1_readSources hn_cX1_readSources rfl rfl
theorem dX1_readSources_177 : decode cX1_readSources 177 = .ok (.iload 5, 2) := qr_o21 5 hN_cX1_readSources hn_cX1_readSources rfl rfl rfl
theorem dX1_readSources_179 : decode cX1_readSources 179 = .ok (.iastore, 1) := qr_o79 hN_cX1_readSources hn_cX1_readSources rfl rfl
theorem dX1_readSources_180 : decode cX1_readSources 180 = .ok (.iinc 4 1, 3) := qr_o132 4 1 rfl hN_cX1_readSources hn_cX1_readSources rfl rfl rfl rfl
theorem dX1_readSources_183 : decode cX1_readSources 183 = .ok (.goto (-146), 3) := qr_w167 255 110 146 rfl rfl hN_cX1_readSources hn_cX1_readSources rfl rfl rfl rfl
theorem dX1_readSources_186 : decode cX1_readSources 186 = .ok (.return_, 1) := qr_o177 hN_cX1_readSources hn_cX1_readSources rfl rfl
def nN_cX1_sourceOf : Nat := 0xacfe100500a72e1d0b00b42a0c00a2be0b00b42a1d15009b1d3e601c6818101b
theorem hN_cX1_sourceOf : qr_n cX1_sourceOf.data.toList = nN_cX1_sourceOf := by decide +kernel
theorem hn_cX1_sourceOf : cX1_sourceOf.size = 32 := by decide +kernel
theorem dX1_sourceOf_0 : decode cX1_sourceOf 0 = .ok (.iload_n 1, 1) := qr_o27 hN_cX1_sourceOf hn_cX1_sourceOf rfl rfl
theorem dX1_sourceOf_1 : decode cX1_sourceOf 1 = .ok (.bipush 24, 2) := qr_o16 24 rfl hN_cX1_sourceOf hn_cX1_sourceOf rfl rfl rfl
theorem dX1_sourceOf_3 : decode cX1_sourceOf 3 = .ok (.imul, 1) := qr_o104 hN_cX1_sourceOf hn_cX1_sourceOf rfl rfl
theorem dX1_sourceOf_4 : decode cX1_sourceOf 4 = .ok (.iload_n 2, 1) := qr_o28 hN_cX1_sourceOf hn_cX1_sourceOf rfl rfl
theorem dX1_sourceOf_5 : decode cX1_sourceOf 5 = .ok (.iadd, 1) := qr_o96 hN_cX1_sourceOf hn_cX1_sourceOf rfl rfl
theorem dX1_sourceOf_6 : decode cX1_sourceOf 6 = .ok (.istore_n 3, 1) := qr_o62 hN_cX1_sourceOf hn_cX1_sourceOf rfl rfl
theorem dX1_sourceOf_7 : decode cX1_sourceOf 7 = .ok (.iload_n 3, 1) := qr_o29 hN_cX1_sourceOf hn_cX1_sourceOf rfl rfl
theorem dX1_sourceOf_8 : decode cX1_sourceOf 8 = .ok (.ifCond .lt 21, 3) := qr_o155 0 21 rfl hN_cX1_sourceOf hn_cX1_sourceOf rfl rfl rfl rfl
theorem dX1_sourceOf_11 : decode cX1_sourceOf 11 = .ok (.iload_n 3, 1) := qr_o29 hN_cX1_sourceOf hn_cX1_sourceOf rfl rfl
theorem dX1_sourceOf_12 : decode cX1_sourceOf 12 = .ok (.aload_n 0, 1) := qr_o42 hN_cX1_sourceOf hn_cX1_sourceOf rfl rfl
theorem dX1_sourceOf_13 : decode cX1_sourceOf 13 = .ok (.getfield 11, 3) := qr_o180 0 11 hN_cX1_sourceOf hn_cX1_sourceOf rfl rfl rfl rfl
theorem dX1_sourceOf_16 : decode cX1_sourceOf 16 = .ok (.arraylength, 1) := qr_o190 hN_cX1_sourceOf hn_cX1_sourceOf rfl rfl
theorem dX1_sourceOf_17 : decode cX1_sourceOf 17 = .ok (.if_icmp .ge 12, 3) := qr_o162 0 12 rfl hN_cX1_sourceOf hn_cX1_sourceOf rfl rfl rfl rfl
theorem dX1_sourceOf_20 : decode cX1_sourceOf 20 = .ok (.aload_n 0, 1) := qr_o42 hN_cX1_sourceOf hn_cX1_sourceOf rfl rfl
theorem dX1_sourceOf_21 : decode cX1_sourceOf 21 = .ok (.getfield 11, 3) := qr_o180 0 11 hN_cX1_sourceOf hn_cX1_sourceOf rfl rfl rfl rfl
theorem dX1_sourceOf_24 : decode cX1_sourceOf 24 = .ok (.iload_n 3, 1) := qr_o29 hN_cX1_sourceOf hn_cX1_sourceOf rfl rfl
theorem dX1_sourceOf_25 : decode cX1_sourceOf 25 = .ok (.iaload, 1) := qr_o46 hN_cX1_sourceOf hn_cX1_sourceOf rfl rfl
theorem dX1_sourceOf_26 : decode cX1_sourceOf 26 = .ok (.goto 5, 3) := qr_o167 0 5 rfl hN_cX1_sourceOf hn_cX1_sourceOf rfl rfl rfl rfl
theorem dX1_sourceOf_29 : decode cX1_sourceOf 29 = .ok (.bipush (-2), 2) := qr_w16 254 2 rfl rfl hN_cX1_sourceOf hn_cX1_sourceOf rfl rfl rfl
theorem dX1_sourceOf_31 : decode cX1_sourceOf 31 = .ok (.ireturn, 1) := qr_o172 hN_cX1_sourceOf hn_cX1_sourceOf rfl rfl
def nN_cX1_nearestOf : Nat := 0xac63100500a72e1b1100b42a0c00a2be1100b42a1b15009b1b
theorem hN_cX1_nearestOf : qr_n cX1_nearestOf.data.toList = nN_cX1_nearestOf := by decide +kernel
theorem hn_cX1_nearestOf : cX1_nearestOf.size = 25 := by decide +kernel
theorem dX1_nearestOf_0 : decode cX1_nearestOf 0 = .ok (.iload_n 1, 1) := qr_o27 hN_cX1_nearestOf hn_cX1_nearestOf rfl rfl
theorem dX1_nearestOf_1 : decode cX1_nearestOf 1 = .ok (.ifCond .lt 21, 3) := qr_o155 0 21 rfl hN_cX1_nearestOf hn_cX1_nearestOf rfl rfl rfl rfl
theorem dX1_nearestOf_4 : decode cX1_nearestOf 4 = .ok (.iload_n 1, 1) := qr_o27 hN_cX1_nearestOf hn_cX1_nearestOf rfl rfl
theorem dX1_nearestOf_5 : decode cX1_nearestOf 5 = .ok (.aload_n 0, 1) := qr_o42 hN_cX1_nearestOf hn_cX1_nearestOf rfl rfl
theorem dX1_nearestOf_6 : decode cX1_nearestOf 6 = .ok (.getfield 17, 3) := qr_o180 0 17 hN_cX1_nearestOf hn_cX1_nearestOf rfl rfl rfl rfl
theorem dX1_nearestOf_9 : decode cX1_nearestOf 9 = .ok (.arraylength, 1) := qr_o190 hN_cX1_nearestOf hn_cX1_nearestOf rfl rfl
theorem dX1_nearestOf_10 : decode cX1_nearestOf 10 = .ok (.if_icmp .ge 12, 3) := qr_o162 0 12 rfl hN_cX1_nearestOf hn_cX1_nearestOf rfl rfl rfl rfl
theorem dX1_nearestOf_13 : decode cX1_nearestOf 13 = .ok (.aload_n 0, 1) := qr_o42 hN_cX1_nearestOf hn_cX1_nearestOf rfl rfl
theorem dX1_nearestOf_14 : decode cX1_nearestOf 14 = .ok (.getfield 17, 3) := qr_o180 0 17 hN_cX1_nearestOf hn_cX1_nearestOf rfl rfl rfl rfl
theorem dX1_nearestOf_17 : decode cX1_nearestOf 17 = .ok (.iload_n 1, 1) := qr_o27 hN_cX1_nearestOf hn_cX1_nearestOf rfl rfl
theorem dX1_nearestOf_18 : decode cX1_nearestOf 18 = .ok (.iaload, 1) := qr_o46 hN_cX1_nearestOf hn_cX1_nearestOf rfl rfl
theorem dX1_nearestOf_19 : decode cX1_nearestOf 19 = .ok (.goto 5, 3) := qr_o167 0 5 rfl hN_cX1_nearestOf hn_cX1_nearestOf rfl rfl rfl rfl
theorem dX1_nearestOf_22 : decode cX1_nearestOf 22 = .ok (.bipush 99, 2) := qr_o16 99 rfl hN_cX1_nearestOf hn_cX1_nearestOf rfl rfl rfl
theorem dX1_nearestOf_24 : decode cX1_nearestOf 24 = .ok (.ireturn, 1) := qr_o172 hN_cX1_nearestOf hn_cX1_nearestOf rfl rfl
def nN_cX1_spreadNearest : Nat := 0xb1c2ffa7010184d5ffa70102844f1d1b1100b42a0a00a27200b61b2a1d3e60047200b66f00b61c1b2a2a2600a25700b41a00b42a1c3d033900a23200b41a00b42a1b3c03
theorem hN_cX1_spreadNearest : qr_n cX1_spreadNearest.data.toList = nN_cX1_spreadNearest := by decide +kernel
theorem hn_cX1_spreadNearest : cX1_spreadNearest.size = 68 := by decide +kernel
theorem dX1_spreadNearest_0 : decode cX1_spreadNearest 0 = .ok (.iconst 0, 1) := qr_o3 hN_cX1_spreadNearest hn_cX1_spreadNearest rfl rfl
theorem dX1_spreadNearest_1 : decode cX1_spreadNearest 1 = .ok (.istore_n 1, 1) := qr_o60 hN_cX1_spreadNearest hn_cX1_spreadNearest rfl rfl
theorem dX1_spreadNearest_2 : decode cX1_spreadNearest 2 = .ok (.iload_n 1, 1) := qr_o27 hN_cX1_spreadNearest hn_cX1_spreadNearest rfl rfl
theorem dX1_spreadNearest_3 : decode cX1_spreadNearest 3 = .ok (.aload_n 0, 1) := qr_o42 hN_cX1_spreadNearest hn_cX1_spreadNearest rfl rfl
theorem dX1_spreadNearest_4 : decode cX1_spreadNearest 4 = .ok (.getfield 26, 3) := qr_o180 0 26 hN_cX1_spreadNearest hn_cX1_spreadNearest rfl rfl rfl rfl
theorem dX1_spreadNearest_7 : decode cX1_spreadNearest 7 = .ok (.getfield 50, 3) := qr_o180 0 50 hN_cX1_spreadNearest hn_cX1_spreadNearest rfl rfl rfl rfl
theorem dX1_spreadNearest_10 : decode cX1_spreadNearest 10 = .ok (.if_icmp .ge 57, 3) := qr_o162 0 57 rfl hN_cX1_spreadNearest hn_cX1_spreadNearest rfl rfl rfl rfl
theorem dX1_spreadNearest_13 : decode cX1_spreadNearest 13 = .ok (.iconst 0, 1) := qr_o3 hN_cX1_spreadNearest hn_cX1_spreadNearest rfl rfl
theorem dX1_spreadNearest_14 : decode cX1_spreadNearest 14 = .ok (.istore_n 2, 1) := qr_o61 hN_cX1_spreadNearest hn_cX1_spreadNearest rfl rfl
theorem dX1_spreadNearest_15 : decode cX1_spreadNearest 15 = .ok (.iload_n 2, 1) := qr_o28 hN_cX1_spreadNearest hn_cX1_spreadNearest rfl rfl
theorem dX1_spreadNearest_16 : decode cX1_spreadNearest 16 = .ok (.aload_n 0, 1) := qr_o42 hN_cX1_spreadNearest hn_cX1_spreadNearest rfl rfl
theorem dX1_spreadNearest_17 : decode cX1_spreadNearest 17 = .ok (.getfield 26, 3) := qr_o180 0 26 hN_cX1_spreadNearest hn_cX1_spreadNearest rfl rfl rfl rfl
theorem dX1_spreadNearest_20 : decode cX1_spreadNearest 20 = .ok (.getfield 87, 3) := qr_o180 0 87 hN_cX1_spreadNearest hn_cX1_spreadNearest rfl rfl rfl rfl
theorem dX1_spreadNearest_23 : decode cX1_spreadNearest 23 = .ok (.if_icmp .ge 38, 3) := qr_o162 0 38 rfl hN_cX1_spreadNearest hn_cX1_spreadNearest rfl rfl rfl rfl
theorem dX1_spreadNearest_26 : decode cX1_spreadNearest 26 = .ok (.aload_n 0, 1) := qr_o42 hN_cX1_spreadNearest hn_cX1_spreadNearest rfl rfl
theorem dX1_spreadNearest_27 : decode cX1_spreadNearest 27 = .ok (.aload_n 0, 1) := qr_o42 hN_cX1_spreadNearest hn_cX1_spreadNearest rfl rfl
theorem dX1_spreadNearest_28 : decode cX1_spreadNearest 28 = .ok (.iload_n 1, 1) := qr_o27 hN_cX1_spreadNearest hn_cX1_spreadNearest rfl rfl
theorem dX1_spreadNearest_29 : decode cX1_spreadNearest 29 = .ok (.iload_n 2, 1) := qr_o28 hN_cX1_spreadNearest hn_cX1_spreadNearest rfl rfl
theorem dX1_spreadNearest_30 : decode cX1_spreadNearest 30 = .ok (.invokevirtual 111, 3) := qr_o182 0 111 hN_cX1_spreadNearest hn_cX1_spreadNearest rfl rfl rfl rfl
theorem dX1_spreadNearest_33 : decode cX1_spreadNearest 33 = .ok (.invokevirtual 114, 3) := qr_o182 0 114 hN_cX1_spreadNearest hn_cX1_spreadNearest rfl rfl rfl rfl
theorem dX1_spreadNearest_36 : decode cX1_spreadNearest 36 = .ok (.iconst 1, 1) := qr_o4 hN_cX1_spreadNearest hn_cX1_spreadNearest rfl rfl
theorem dX1_spreadNearest_37 : decode cX1_spreadNearest 37 = .ok (.iadd, 1) := qr_o96 hN_cX1_spreadNearest hn_cX1_spreadNearest rfl rfl
theorem dX1_spreadNearest_38 : decode cX1_spreadNearest 38 = .ok (.istore_n 3, 1) := qr_o62 hN_cX1_spreadNearest hn_cX1_spreadNearest rfl rfl
theorem dX1_spreadNearest_39 : decode cX1_spreadNearest 39 = .ok (.iload_n 3, 1) := qr_o29 hN_cX1_spreadNearest hn_cX1_spreadNearest rfl rfl
theorem dX1_spreadNearest_40 : decode cX1_spreadNearest 40 = .ok (.aload_n 0, 1) := qr_o42 hN_cX1_spreadNearest hn_cX1_spreadNearest rfl rfl
theorem dX1_spreadNearest_41 : decode cX1_spreadNearest 41 = .ok (.iload_n 1, 1) := qr_o27 hN_cX1_spreadNearest hn_cX1_spreadNearest rfl rfl
theorem dX1_spreadNearest_42 : decode cX1_spreadNearest 42 = .ok (.invokevirtual 114, 3) := qr_o182 0 114 hN_cX1_spreadNearest hn_cX1_spreadNearest rfl rfl rfl rfl
theorem dX1_spreadNearest_45 : decode cX1_spreadNearest 45 = .ok (.if_icmp .ge 10, 3) := qr_o162 0 10 rfl hN_cX1_spreadNearest hn_cX1_spreadNearest rfl rfl rfl rfl
theorem dX1_spreadNearest_48 : decode cX1_spreadNearest 48 = .ok (.aload_n 0, 1) := qr_o42 hN_cX1_spreadNearest hn_cX1_spreadNearest rfl rfl
theorem dX1_spreadNearest_49 : decode cX1_spreadNearest 49 = .ok (.getfield 17, 3) := qr_o180 0 17 hN_cX1_spreadNearest hn_cX1_spreadNearest rfl rfl rfl rfl
theorem dX1_spreadNearest_52 : decode cX1_spreadNearest 52 = .ok (.iload_n 1, 1) := qr_o27 hN_cX1_spreadNearest hn_cX1_spreadNearest rfl rfl
theorem dX1_spreadNearest_53 : decode cX1_spreadNearest 53 = .ok (.iload_n 3, 1) := qr_o29 hN_cX1_spreadNearest hn_cX1_spreadNearest rfl rfl
theorem dX1_spreadNearest_54 : decode cX1_spreadNearest 54 = .ok (.iastore, 1) := qr_o79 hN_cX1_spreadNearest hn_cX1_spreadNearest rfl rfl
theorem dX1_spreadNearest_55 : decode cX1_spreadNearest 55 = .ok (.iinc 2 1, 3) := qr_o132 2 1 rfl hN_cX1_spreadNearest hn_cX1_spreadNearest rfl rfl rfl rfl
theorem dX1_spreadNearest_58 : decode cX1_spreadNearest 58 = .ok (.goto (-43), 3) := qr_w167 255 213 43 rfl rfl hN_cX1_spreadNearest hn_cX1_spreadNearest rfl rfl rfl rfl
theorem dX1_spreadNearest_61 : decode cX1_spreadNearest 61 = .ok (.iinc 1 1, 3) := qr_o132 1 1 rfl hN_cX1_spreadNearest hn_cX1_spreadNearest rfl rfl rfl rfl
theorem dX1_spreadNearest_64 : decode cX1_spreadNearest 64 = .ok (.goto (-62), 3) := qr_w167 255 194 62 rfl rfl hN_cX1_spreadNearest hn_cX1_spreadNearest rfl rfl rfl rfl
theorem dX1_spreadNearest_67 : decode cX1_spreadNearest 67 = .ok (.return_, 1) := qr_o177 hN_cX1_spreadNearest hn_cX1_spreadNearest rfl rfl
def nN_cX1_follow : Nat := 0xac038fffa7010484ac040500994500b864041c60041b2a4f051560041b1400b42a0d00a20760041bac0405009a1c4f04151b1700b42a3100a70600997500b61b04152a3e00a0030400a70407009a1c030400a7040700a002051555009ffe10051505366f00b604151d2a6b00a25700b41a00b42a04150436033e2e1b1400b42aac030500a41c7200b62e1b1400b42a2a1100a2071b
theorem hN_cX1_follow : qr_n cX1_follow.data.toList = nN_cX1_follow := by decide +kernel
theorem hn_cX1_follow : cX1_follow.size = 149 := by decide +kernel
theorem dX1_follow_0 : decode cX1_follow 0 = .ok (.iload_n 1, 1) := qr_o27 hN_cX1_follow hn_cX1_follow rfl rfl
theorem dX1_follow_1 : decode cX1_follow 1 = .ok (.iconst 4, 1) := qr_o7 hN_cX1_follow hn_cX1_follow rfl rfl
theorem dX1_follow_2 : decode cX1_follow 2 = .ok (.if_icmp .ge 17, 3) := qr_o162 0 17 rfl hN_cX1_follow hn_cX1_follow rfl rfl rfl rfl
theorem dX1_follow_5 : decode cX1_follow 5 = .ok (.aload_n 0, 1) := qr_o42 hN_cX1_follow hn_cX1_follow rfl rfl
theorem dX1_follow_6 : decode cX1_follow 6 = .ok (.aload_n 0, 1) := qr_o42 hN_cX1_follow hn_cX1_follow rfl rfl
theorem dX1_follow_7 : decode cX1_follow 7 = .ok (.getfield 20, 3) := qr_o180 0 20 hN_cX1_follow hn_cX1_follow rfl rfl rfl rfl
theorem dX1_follow_10 : decode cX1_follow 10 = .ok (.iload_n 1, 1) := qr_o27 hN_cX1_follow hn_cX1_follow rfl rfl
theorem dX1_follow_11 : decode cX1_follow 11 = .ok (.iaload, 1) := qr_o46 hN_cX1_follow hn_cX1_follow rfl rfl
theorem dX1_follow_12 : decode cX1_follow 12 = .ok (.invokevirtual 114, 3) := qr_o182 0 114 hN_cX1_follow hn_cX1_follow rfl rfl rfl rfl
theorem dX1_follow_15 : decode cX1_follow 15 = .ok (.iload_n 2, 1) := qr_o28 hN_cX1_follow hn_cX1_follow rfl rfl
theorem dX1_follow_16 : decode cX1_follow 16 = .ok (.if_icmp .le 5, 3) := qr_o164 0 5 rfl hN_cX1_follow hn_cX1_follow rfl rfl rfl rfl
theorem dX1_follow_19 : decode cX1_follow 19 = .ok (.iconst 0, 1) := qr_o3 hN_cX1_follow hn_cX1_follow rfl rfl
theorem dX1_follow_20 : decode cX1_follow 20 = .ok (.ireturn, 1) := qr_o172 hN_cX1_follow hn_cX1_follow rfl rfl
theorem dX1_follow_21 : decode cX1_follow 21 = .ok (.aload_n 0, 1) := qr_o42 hN_cX1_follow hn_cX1_follow rfl rfl
theorem dX1_follow_22 : decode cX1_follow 22 = .ok (.getfield 20, 3) := qr_o180 0 20 hN_cX1_follow hn_cX1_follow rfl rfl rfl rfl
theorem dX1_follow_25 : decode cX1_follow 25 = .ok (.iload_n 1, 1) := qr_o27 hN_cX1_follow hn_cX1_follow rfl rfl
theorem dX1_follow_26 : decode cX1_follow 26 = .ok (.iaload, 1) := qr_o46 hN_cX1_follow hn_cX1_follow rfl rfl
theorem dX1_follow_27 : decode cX1_follow 27 = .ok (.istore_n 3, 1) := qr_o62 hN_cX1_follow hn_cX1_follow rfl rfl
theorem dX1_follow_28 : decode cX1_follow 28 = .ok (.iconst 0, 1) := qr_o3 hN_cX1_follow hn_cX1_follow rfl rfl
theorem dX1_follow_29 : decode cX1_follow 29 = .ok (.istore 4, 2) := qr_o54 4 hN_cX1_follow hn_cX1_follow rfl rfl rfl
theorem dX1_follow_31 : decode cX1_follow 31 = .ok (.iload 4, 2) := qr_o21 4 hN_cX1_follow hn_cX1_follow rfl rfl rfl
theorem dX1_follow_33 : decode cX1_follow 33 = .ok (.aload_n 0, 1) := qr_o42 hN_cX1_follow hn_cX1_follow rfl rfl
theorem dX1_follow_34 : decode cX1_follow 34 = .ok (.getfield 26, 3) := qr_o180 0 26 hN_cX1_follow hn_cX1_follow rfl rfl rfl rfl
theorem dX1_follow_37 : decode cX1_follow 37 = .ok (.getfield 87, 3) := qr_o180 0 87 hN_cX1_follow hn_cX1_follow rfl rfl rfl rfl
theorem dX1_follow_40 : decode cX1_follow 40 = .ok (.if_icmp .ge 107, 3) := qr_o162 0 107 rfl hN_cX1_follow hn_cX1_follow rfl rfl rfl rfl
theorem dX1_follow_43 : decode cX1_follow 43 = .ok (.aload_n 0, 1) := qr_o42 hN_cX1_follow hn_cX1_follow rfl rfl
theorem dX1_follow_44 : decode cX1_follow 44 = .ok (.iload_n 3, 1) := qr_o29 hN_cX1_follow hn_cX1_follow rfl rfl
theorem dX1_follow_45 : decode cX1_follow 45 = .ok (.iload 4, 2) := qr_o21 4 hN_cX1_follow hn_cX1_follow rfl rfl rfl
theorem dX1_follow_47 : decode cX1_follow 47 = .ok (.invokevirtual 111, 3) := qr_o182 0 111 hN_cX1_follow hn_cX1_follow rfl rfl rfl rfl
theorem dX1_follow_50 : decode cX1_follow 50 = .ok (.istore 5, 2) := qr_o54 5 hN_cX1_follow hn_cX1_follow rfl rfl rfl
theorem dX1_follow_52 : decode cX1_follow 52 = .ok (.iload 5, 2) := qr_o21 5 hN_cX1_follow hn_cX1_follow rfl rfl rfl
theorem dX1_follow_54 : decode cX1_follow 54 = .ok (.bipush (-2), 2) := qr_w16 254 2 rfl rfl hN_cX1_follow hn_cX1_follow rfl rfl rfl
theorem dX1_follow_56 : decode cX1_follow 56 = .ok (.if_icmp .eq 85, 3) := qr_o159 0 85 rfl hN_cX1_follow hn_cX1_follow rfl rfl rfl rfl
theorem dX1_follow_59 : decode cX1_follow 59 = .ok (.iload 5, 2) := qr_o21 5 hN_cX1_follow hn_cX1_follow rfl rfl rfl
theorem dX1_follow_61 : decode cX1_follow 61 = .ok (.iconst (-1), 1) := qr_o2 hN_cX1_follow hn_cX1_follow rfl rfl
theorem dX1_follow_62 : decode cX1_follow 62 = .ok (.if_icmp .ne 7, 3) := qr_o160 0 7 rfl hN_cX1_follow hn_cX1_follow rfl rfl rfl rfl
theorem dX1_follow_65 : decode cX1_follow 65 = .ok (.iconst 1, 1) := qr_o4 hN_cX1_follow hn_cX1_follow rfl rfl
theorem dX1_follow_66 : decode cX1_follow 66 = .ok (.goto 4, 3) := qr_o167 0 4 rfl hN_cX1_follow hn_cX1_follow rfl rfl rfl rfl
theorem dX1_follow_69 : decode cX1_follow 69 = .ok (.iconst 0, 1) := qr_o3 hN_cX1_follow hn_cX1_follow rfl rfl
theorem dX1_follow_70 : decode cX1_follow 70 = .ok (.iload_n 2, 1) := qr_o28 hN_cX1_follow hn_cX1_follow rfl rfl
theorem dX1_follow_71 : decode cX1_follow 71 = .ok (.ifCond .ne 7, 3) := qr_o154 0 7 rfl hN_cX1_follow hn_cX1_follow rfl rfl rfl rfl
theorem dX1_follow_74 : decode cX1_follow 74 = .ok (.iconst 1, 1) := qr_o4 hN_cX1_follow hn_cX1_follow rfl rfl
theorem dX1_follow_75 : decode cX1_follow 75 = .ok (.goto 4, 3) := qr_o167 0 4 rfl hN_cX1_follow hn_cX1_follow rfl rfl rfl rfl
theorem dX1_follow_78 : decode cX1_follow 78 = .ok (.iconst 0, 1) := qr_o3 hN_cX1_follow hn_cX1_follow rfl rfl
theorem dX1_follow_79 : decode cX1_follow 79 = .ok (.if_icmp .ne 62, 3) := qr_o160 0 62 rfl hN_cX1_follow hn_cX1_follow rfl rfl rfl rfl
theorem dX1_follow_82 : decode cX1_follow 82 = .ok (.aload_n 0, 1) := qr_o42 hN_cX1_follow hn_cX1_follow rfl rfl
theorem dX1_follow_83 : decode cX1_follow 83 = .ok (.iload 4, 2) := qr_o21 4 hN_cX1_follow hn_cX1_follow rfl rfl rfl
theorem dX1_follow_85 : decode cX1_follow 85 = .ok (.iload_n 1, 1) := qr_o27 hN_cX1_follow hn_cX1_follow rfl rfl
theorem dX1_follow_86 : decode cX1_follow 86 = .ok (.invokevirtual 117, 3) := qr_o182 0 117 hN_cX1_follow hn_cX1_follow rfl rfl rfl rfl
theorem dX1_follow_89 : decode cX1_follow 89 = .ok (.ifCond .eq 6, 3) := qr_o153 0 6 rfl hN_cX1_follow hn_cX1_follow rfl rfl rfl rfl
theorem dX1_follow_92 : decode cX1_follow 92 = .ok (.goto 49, 3) := qr_o167 0 49 rfl hN_cX1_follow hn_cX1_follow rfl rfl rfl rfl
theorem dX1_follow_95 : decode cX1_follow 95 = .ok (.aload_n 0, 1) := qr_o42 hN_cX1_follow hn_cX1_follow rfl rfl
theorem dX1_follow_96 : decode cX1_follow 96 = .ok (.getfield 23, 3) := qr_o180 0 23 hN_cX1_follow hn_cX1_follow rfl rfl rfl rfl
theorem dX1_follow_99 : decode cX1_follow 99 = .ok (.iload_n 1, 1) := qr_o27 hN_cX1_follow hn_cX1_follow rfl rfl
theorem dX1_follow_100 : decode cX1_follow 100 = .ok (.iload 4, 2) := qr_o21 4 hN_cX1_follow hn_cX1_follow rfl rfl rfl
theorem dX1_follow_102 : decode cX1_follow 102 = .ok (.iastore, 1) := qr_o79 hN_cX1_follow hn_cX1_follow rfl rfl
theorem dX1_follow_103 : decode cX1_follow 103 = .ok (.iload_n 2, 1) := qr_o28 hN_cX1_follow hn_cX1_follow rfl rfl
theorem dX1_follow_104 : decode cX1_follow 104 = .ok (.ifCond .ne 5, 3) := qr_o154 0 5 rfl hN_cX1_follow hn_cX1_follow rfl rfl rfl rfl
theorem dX1_follow_107 : decode cX1_follow 107 = .ok (.iconst 1, 1) := qr_o4 hN_cX1_follow hn_cX1_follow rfl rfl
theorem dX1_follow_108 : decode cX1_follow 108 = .ok (.ireturn, 1) := qr_o172 hN_cX1_follow hn_cX1_follow rfl rfl
theorem dX1_follow_109 : decode cX1_follow 109 = .ok (.iload_n 1, 1) := qr_o27 hN_cX1_follow hn_cX1_follow rfl rfl
theorem dX1_follow_110 : decode cX1_follow 110 = .ok (.iconst 1, 1) := qr_o4 hN_cX1_follow hn_cX1_follow rfl rfl
theorem dX1_follow_111 : decode cX1_follow 111 = .ok (.iadd, 1) := qr_o96 hN_cX1_follow hn_cX1_follow rfl rfl
theorem dX1_follow_112 : decode cX1_follow 112 = .ok (.iconst 4, 1) := qr_o7 hN_cX1_follow hn_cX1_follow rfl rfl
theorem dX1_follow_113 : decode cX1_follow 113 = .ok (.if_icmp .ge 13, 3) := qr_o162 0 13 rfl hN_cX1_follow hn_cX1_follow rfl rfl rfl rfl
theorem dX1_follow_116 : decode cX1_follow 116 = .ok (.aload_n 0, 1) := qr_o42 hN_cX1_follow hn_cX1_follow rfl rfl
theorem dX1_follow_117 : decode cX1_follow 117 = .ok (.getfield 20, 3) := qr_o180 0 20 hN_cX1_follow hn_cX1_follow rfl rfl rfl rfl
theorem dX1_follow_120 : decode cX1_follow 120 = .ok (.iload_n 1, 1) := qr_o27 hN_cX1_follow hn_cX1_follow rfl rfl
theorem dX1_follow_121 : decode cX1_follow 121 = .ok (.iconst 1, 1) := qr_o4 hN_cX1_follow hn_cX1_follow rfl rfl
theorem dX1_follow_122 : decode cX1_follow 122 = .ok (.iadd, 1) := qr_o96 hN_cX1_follow hn_cX1_follow rfl rfl
theorem dX1_follow_123 : decode cX1_follow 123 = .ok (.iload 5, 2) := qr_o21 5 hN_cX1_follow hn_cX1_follow rfl rfl rfl
theorem dX1_follow_125 : decode cX1_follow 125 = .ok (.iastore, 1) := qr_o79 hN_cX1_follow hn_cX1_follow rfl rfl
theorem dX1_follow_126 : decode cX1_follow 126 = .ok (.aload_n 0, 1) := qr_o42 hN_cX1_follow hn_cX1_follow rfl rfl
theorem dX1_follow_127 : decode cX1_follow 127 = .ok (.iload_n 1, 1) := qr_o27 hN_cX1_follow hn_cX1_follow rfl rfl
theorem dX1_follow_128 : decode cX1_follow 128 = .ok (.iconst 1, 1) := qr_o4 hN_cX1_follow hn_cX1_follow rfl rfl
theorem dX1_follow_129 : decode cX1_follow 129 = .ok (.iadd, 1) := qr_o96 hN_cX1_follow hn_cX1_follow rfl rfl
theorem dX1_follow_130 : decode cX1_follow 130 = .ok (.iload_n 2, 1) := qr_o28 hN_cX1_follow hn_cX1_follow rfl rfl
theorem dX1_follow_131 : decode cX1_follow 131 = .ok (.iconst 1, 1) := qr_o4 hN_cX1_follow hn_cX1_follow rfl rfl
theorem dX1_follow_132 : decode cX1_follow 132 = .ok (.isub, 1) := qr_o100 hN_cX1_follow hn_cX1_follow rfl rfl
theorem dX1_follow_133 : decode cX1_follow 133 = .ok (.invokestatic 69, 3) := qr_o184 0 69 hN_cX1_follow hn_cX1_follow rfl rfl rfl rfl
theorem dX1_follow_136 : decode cX1_follow 136 = .ok (.ifCond .eq 5, 3) := qr_o153 0 5 rfl hN_cX1_follow hn_cX1_follow rfl rfl rfl rfl
theorem dX1_follow_139 : decode cX1_follow 139 = .ok (.iconst 1, 1) := qr_o4 hN_cX1_follow hn_cX1_follow rfl rfl
theorem dX1_follow_140 : decode cX1_follow 140 = .ok (.ireturn, 1) := qr_o172 hN_cX1_follow hn_cX1_follow rfl rfl
theorem dX1_follow_141 : decode cX1_follow 141 = .ok (.iinc 4 1, 3) := qr_o132 4 1 rfl hN_cX1_follow hn_cX1_follow rfl rfl rfl rfl
theorem dX1_follow_144 : decode cX1_follow 144 = .ok (.goto (-113), 3) := qr_w167 255 143 113 rfl rfl hN_cX1_follow hn_cX1_follow rfl rfl rfl rfl
theorem dX1_follow_147 : decode cX1_follow 147 = .ok (.iconst 0, 1) := qr_o3 hN_cX1_follow hn_cX1_follow rfl rfl
theorem dX1_follow_148 : decode cX1_follow 148 = .ok (.ireturn, 1) := qr_o172 hN_cX1_follow hn_cX1_follow rfl rfl
def nN_cX1_isTakenAhead : Nat := 0xac03e7ffa7010384ac040500a01b2e1d1700b42a1500a2071d1a00a21c1d3e03
theorem hN_cX1_isTakenAhead : qr_n cX1_isTakenAhead.data.toList = nN_cX1_isTakenAhead := by decide +kernel
theorem hn_cX1_isTakenAhead : cX1_isTakenAhead.size = 32 := by decide +kernel
theorem dX1_isTakenAhead_0 : decode cX1_isTakenAhead 0 = .ok (.iconst 0, 1) := qr_o3 hN_cX1_isTakenAhead hn_cX1_isTakenAhead rfl rfl
theorem dX1_isTakenAhead_1 : decode cX1_isTakenAhead 1 = .ok (.istore_n 3, 1) := qr_o62 hN_cX1_isTakenAhead hn_cX1_isTakenAhead rfl rfl
theorem dX1_isTakenAhead_2 : decode cX1_isTakenAhead 2 = .ok (.iload_n 3, 1) := qr_o29 hN_cX1_isTakenAhead hn_cX1_isTakenAhead rfl rfl
theorem dX1_isTakenAhead_3 : decode cX1_isTakenAhead 3 = .ok (.iload_n 2, 1) := qr_o28 hN_cX1_isTakenAhead hn_cX1_isTakenAhead rfl rfl
theorem dX1_isTakenAhead_4 : decode cX1_isTakenAhead 4 = .ok (.if_icmp .ge 26, 3) := qr_o162 0 26 rfl hN_cX1_isTakenAhead hn_cX1_isTakenAhead rfl rfl rfl rfl
theorem dX1_isTakenAhead_7 : decode cX1_isTakenAhead 7 = .ok (.iload_n 3, 1) := qr_o29 hN_cX1_isTakenAhead hn_cX1_isTakenAhead rfl rfl
theorem dX1_isTakenAhead_8 : decode cX1_isTakenAhead 8 = .ok (.iconst 4, 1) := qr_o7 hN_cX1_isTakenAhead hn_cX1_isTakenAhead rfl rfl
theorem dX1_isTakenAhead_9 : decode cX1_isTakenAhead 9 = .ok (.if_icmp .ge 21, 3) := qr_o162 0 21 rfl hN_cX1_isTakenAhead hn_cX1_isTakenAhead rfl rfl rfl rfl
theorem dX1_isTakenAhead_12 : decode cX1_isTakenAhead 12 = .ok (.aload_n 0, 1) := qr_o42 hN_cX1_isTakenAhead hn_cX1_isTakenAhead rfl rfl
theorem dX1_isTakenAhead_13 : decode cX1_isTakenAhead 13 = .ok (.getfield 23, 3) := qr_o180 0 23 hN_cX1_isTakenAhead hn_cX1_isTakenAhead rfl rfl rfl rfl
theorem dX1_isTakenAhead_16 : decode cX1_isTakenAhead 16 = .ok (.iload_n 3, 1) := qr_o29 hN_cX1_isTakenAhead hn_cX1_isTakenAhead rfl rfl
theorem dX1_isTakenAhead_17 : decode cX1_isTakenAhead 17 = .ok (.iaload, 1) := qr_o46 hN_cX1_isTakenAhead hn_cX1_isTakenAhead rfl rfl
theorem dX1_isTakenAhead_18 : decode cX1_isTakenAhead 18 = .ok (.iload_n 1, 1) := qr_o27 hN_cX1_isTakenAhead hn_cX1_isTakenAhead rfl rfl
theorem dX1_isTakenAhead_19 : decode cX1_isTakenAhead 19 = .ok (.if_icmp .ne 5, 3) := qr_o160 0 5 rfl hN_cX1_isTakenAhead hn_cX1_isTakenAhead rfl rfl rfl rfl
theorem dX1_isTakenAhead_22 : decode cX1_isTakenAhead 22 = .ok (.iconst 1, 1) := qr_o4 hN_cX1_isTakenAhead hn_cX1_isTakenAhead rfl rfl
theorem dX1_isTakenAhead_23 : decode cX1_isTakenAhead 23 = .ok (.ireturn, 1) := qr_o172 hN_cX1_isTakenAhead hn_cX1_isTakenAhead rfl rfl
theorem dX1_isTakenAhead_24 : decode cX1_isTakenAhead 24 = .ok (.iinc 3 1, 3) := qr_o132 3 1 rfl hN_cX1_isTakenAhead hn_cX1_isTakenAhead rfl rfl rfl rfl
theorem dX1_isTakenAhead_27 : decode cX1_isTakenAhead 27 = .ok (.goto (-25), 3) := qr_w167 255 231 25 rfl rfl hN_cX1_isTakenAhead hn_cX1_isTakenAhead rfl rfl rfl rfl
theorem dX1_isTakenAhead_30 : decode cX1_isTakenAhead 30 = .ok (.iconst 0, 1) := qr_o3 hN_cX1_isTakenAhead hn_cX1_isTakenAhead rfl rfl
theorem dX1_isTakenAhead_31 : decode cX1_isTakenAhead 31 = .ok (.ireturn, 1) := qr_o172 hN_cX1_isTakenAhead hn_cX1_isTakenAhead rfl rfl
def nN_cX2_init : Nat := 0xb1d4ffa7010184e2ffa70102844f040400a7030700a01c1b601c6809101b1900b42a1e00a209101c3d032c00a209101b3c032900b504bc1e102a2500b52300bd1e102a1f00b51d00bd18102a1900b50abc51102a1500b51400b7591200bb2a0c00b50b00b7590900bb2a0300b72a
theorem hN_cX2_init : qr_n cX2_init.data.toList = nN_cX2_init := by decide +kernel
theorem hn_cX2_init : cX2_init.size = 110 := by decide +kernel
theorem dX2_init_0 : decode cX2_init 0 = .ok (.aload_n 0, 1) := qr_o42 hN_cX2_init hn_cX2_init rfl rfl
theorem dX2_init_1 : decode cX2_init 1 = .ok (.invokespecial 3, 3) := qr_o183 0 3 hN_cX2_init hn_cX2_init rfl rfl rfl rfl
theorem dX2_init_4 : decode cX2_init 4 = .ok (.aload_n 0, 1) := qr_o42 hN_cX2_init hn_cX2_init rfl rfl
theorem dX2_init_5 : decode cX2_init 5 = .ok (.new 9, 3) := qr_o187 0 9 hN_cX2_init hn_cX2_init rfl rfl rfl rfl
theorem dX2_init_8 : decode cX2_init 8 = .ok (.dup, 1) := qr_o89 hN_cX2_init hn_cX2_init rfl rfl
theorem dX2_init_9 : decode cX2_init 9 = .ok (.invokespecial 11, 3) := qr_o183 0 11 hN_cX2_init hn_cX2_init rfl rfl rfl rfl
theorem dX2_init_12 : decode cX2_init 12 = .ok (.putfield 12, 3) := qr_o181 0 12 hN_cX2_init hn_cX2_init rfl rfl rfl rfl
theorem dX2_init_15 : decode cX2_init 15 = .ok (.aload_n 0, 1) := qr_o42 hN_cX2_init hn_cX2_init rfl rfl
theorem dX2_init_16 : decode cX2_init 16 = .ok (.new 18, 3) := qr_o187 0 18 hN_cX2_init hn_cX2_init rfl rfl rfl rfl
theorem dX2_init_19 : decode cX2_init 19 = .ok (.dup, 1) := qr_o89 hN_cX2_init hn_cX2_init rfl rfl
theorem dX2_init_20 : decode cX2_init 20 = .ok (.invokespecial 20, 3) := qr_o183 0 20 hN_cX2_init hn_cX2_init rfl rfl rfl rfl
theorem dX2_init_23 : decode cX2_init 23 = .ok (.putfield 21, 3) := qr_o181 0 21 hN_cX2_init hn_cX2_init rfl rfl rfl rfl
theorem dX2_init_26 : decode cX2_init 26 = .ok (.aload_n 0, 1) := qr_o42 hN_cX2_init hn_cX2_init rfl rfl
theorem dX2_init_27 : decode cX2_init 27 = .ok (.bipush 81, 2) := qr_o16 81 rfl hN_cX2_init hn_cX2_init rfl rfl rfl
theorem dX2_init_29 : decode cX2_init 29 = .ok (.newarray .int, 2) := qr_na10 hN_cX2_init hn_cX2_init rfl rfl rfl
theorem dX2_init_31 : decode cX2_init 31 = .ok (.putfield 25, 3) := qr_o181 0 25 hN_cX2_init hn_cX2_init rfl rfl rfl rfl
theorem dX2_init_34 : decode cX2_init 34 = .ok (.aload_n 0, 1) := qr_o42 hN_cX2_init hn_cX2_init rfl rfl
theorem dX2_init_35 : decode cX2_init 35 = .ok (.bipush 24, 2) := qr_o16 24 rfl hN_cX2_init hn_cX2_init rfl rfl rfl
theorem dX2_init_37 : decode cX2_init 37 = .ok (.anewarray 29, 3) := qr_o189 0 29 hN_cX2_init hn_cX2_init rfl rfl rfl rfl
theorem dX2_init_40 : decode cX2_init 40 = .ok (.putfield 31, 3) := qr_o181 0 31 hN_cX2_init hn_cX2_init rfl rfl rfl rfl
theorem dX2_init_43 : decode cX2_init 43 = .ok (.aload_n 0, 1) := qr_o42 hN_cX2_init hn_cX2_init rfl rfl
theorem dX2_init_44 : decode cX2_init 44 = .ok (.bipush 30, 2) := qr_o16 30 rfl hN_cX2_init hn_cX2_init rfl rfl rfl
theorem dX2_init_46 : decode cX2_init 46 = .ok (.anewarray 35, 3) := qr_o189 0 35 hN_cX2_init hn_cX2_init rfl rfl rfl rfl
theorem dX2_init_49 : decode cX2_init 49 = .ok (.putfield 37, 3) := qr_o181 0 37 hN_cX2_init hn_cX2_init rfl rfl rfl rfl
theorem dX2_init_52 : decode cX2_init 52 = .ok (.aload_n 0, 1) := qr_o42 hN_cX2_init hn_cX2_init rfl rfl
theorem dX2_init_53 : decode cX2_init 53 = .ok (.bipush 30, 2) := qr_o16 30 rfl hN_cX2_init hn_cX2_init rfl rfl rfl
theorem dX2_init_55 : decode cX2_init 55 = .ok (.newarray .boolean, 2) := qr_na4 hN_cX2_init hn_cX2_init rfl rfl rfl
theorem dX2_init_57 : decode cX2_init 57 = .ok (.putfield 41, 3) := qr_o181 0 41 hN_cX2_init hn_cX2_init rfl rfl rfl rfl
theorem dX2_init_60 : decode cX2_init 60 = .ok (.iconst 0, 1) := qr_o3 hN_cX2_init hn_cX2_init rfl rfl
theorem dX2_init_61 : decode cX2_init 61 = .ok (.istore_n 1, 1) := qr_o60 hN_cX2_init hn_cX2_init rfl rfl
theorem dX2_init_62 : decode cX2_init 62 = .ok (.iload_n 1, 1) := qr_o27 hN_cX2_init hn_cX2_init rfl rfl
theorem dX2_init_63 : decode cX2_init 63 = .ok (.bipush 9, 2) := qr_o16 9 rfl hN_cX2_init hn_cX2_init rfl rfl rfl
theorem dX2_init_65 : decode cX2_init 65 = .ok (.if_icmp .ge 44, 3) := qr_o162 0 44 rfl hN_cX2_init hn_cX2_init rfl rfl rfl rfl
theorem dX2_init_68 : decode cX2_init 68 = .ok (.iconst 0, 1) := qr_o3 hN_cX2_init hn_cX2_init rfl rfl
theorem dX2_init_69 : decode cX2_init 69 = .ok (.istore_n 2, 1) := qr_o61 hN_cX2_init hn_cX2_init rfl rfl
theorem dX2_init_70 : decode cX2_init 70 = .ok (.iload_n 2, 1) := qr_o28 hN_cX2_init hn_cX2_init rfl rfl
theorem dX2_init_71 : decode cX2_init 71 = .ok (.bipush 9, 2) := qr_o16 9 rfl hN_cX2_init hn_cX2_init rfl rfl rfl
theorem dX2_init_73 : decode cX2_init 73 = .ok (.if_icmp .ge 30, 3) := qr_o162 0 30 rfl hN_cX2_init hn_cX2_init rfl rfl rfl rfl
theorem dX2_init_76 : decode cX2_init 76 = .ok (.aload_n 0, 1) := qr_o42 hN_cX2_init hn_cX2_init rfl rfl
theorem dX2_init_77 : decode cX2_init 77 = .ok (.getfield 25, 3) := qr_o180 0 25 hN_cX2_init hn_cX2_init rfl rfl rfl rfl
theorem dX2_init_80 : decode cX2_init 80 = .ok (.iload_n 1, 1) := qr_o27 hN_cX2_init hn_cX2_init rfl rfl
theorem dX2_init_81 : decode cX2_init 81 = .ok (.bipush 9, 2) := qr_o16 9 rfl hN_cX2_init hn_cX2_init rfl rfl rfl
theorem dX2_init_83 : decode cX2_init 83 = .ok (.imul, 1) := qr_o104 hN_cX2_init hn_cX2_init rfl rfl
theorem dX2_init_84 : decode cX2_init 84 = .ok (.iload_n 2, 1) := qr_o28 hN_cX2_init hn_cX2_init rfl rfl
theorem dX2_init_85 : decode cX2_init 85 = .ok (.iadd, 1) := qr_o96 hN_cX2_init hn_cX2_init rfl rfl
theorem dX2_init_86 : decode cX2_init 86 = .ok (.iload_n 1, 1) := qr_o27 hN_cX2_init hn_cX2_init rfl rfl
theorem dX2_init_87 : decode cX2_init 87 = .ok (.iload_n 2, 1) := qr_o28 hN_cX2_init hn_cX2_init rfl rfl
theorem dX2_init_88 : decode cX2_init 88 = .ok (.if_icmp .ne 7, 3) := qr_o160 0 7 rfl hN_cX2_init hn_cX2_init rfl rfl rfl rfl
theorem dX2_init_91 : decode cX2_init 91 = .ok (.iconst 0, 1) := qr_o3 hN_cX2_init hn_cX2_init rfl rfl
theorem dX2_init_92 : decode cX2_init 92 = .ok (.goto 4, 3) := qr_o167 0 4 rfl hN_cX2_init hn_cX2_init rfl rfl rfl rfl
theorem dX2_init_95 : decode cX2_init 95 = .ok (.iconst 1, 1) := qr_o4 hN_cX2_init hn_cX2_init rfl rfl
theorem dX2_init_96 : decode cX2_init 96 = .ok (.iastore, 1) := qr_o79 hN_cX2_init hn_cX2_init rfl rfl
theorem dX2_init_97 : decode cX2_init 97 = .ok (.iinc 2 1, 3) := qr_o132 2 1 rfl hN_cX2_init hn_cX2_init rfl rfl rfl rfl
theorem dX2_init_100 : decode cX2_init 100 = .ok (.goto (-30), 3) := qr_w167 255 226 30 rfl rfl hN_cX2_init hn_cX2_init rfl rfl rfl rfl
theorem dX2_init_103 : decode cX2_init 103 = .ok (.iinc 1 1, 3) := qr_o132 1 1 rfl hN_cX2_init hn_cX2_init rfl rfl rfl rfl
theorem dX2_init_106 : decode cX2_init 106 = .ok (.goto (-44), 3) := qr_w167 255 212 44 rfl rfl hN_cX2_init hn_cX2_init rfl rfl rfl rfl
theorem dX2_init_109 : decode cX2_init 109 = .ok (.return_, 1) := qr_o177 hN_cX2_init hn_cX2_init rfl rfl
def nN_cX2_pieceAt : Nat := 0xb0010400a7321b1f00b42a0c00a218101b1200a22d00b42a1b1a009b1b
theorem hN_cX2_pieceAt : qr_n cX2_pieceAt.data.toList = nN_cX2_pieceAt := by decide +kernel
theorem hn_cX2_pieceAt : cX2_pieceAt.size = 29 := by decide +kernel
theorem dX2_pieceAt_0 : decode cX2_pieceAt 0 = .ok (.iload_n 1, 1) := qr_o27 hN_cX2_pieceAt hn_cX2_pieceAt rfl rfl
theorem dX2_pieceAt_1 : decode cX2_pieceAt 1 = .ok (.ifCond .lt 26, 3) := qr_o155 0 26 rfl hN_cX2_pieceAt hn_cX2_pieceAt rfl rfl rfl rfl
theorem dX2_pieceAt_4 : decode cX2_pieceAt 4 = .ok (.iload_n 1, 1) := qr_o27 hN_cX2_pieceAt hn_cX2_pieceAt rfl rfl
theorem dX2_pieceAt_5 : decode cX2_pieceAt 5 = .ok (.aload_n 0, 1) := qr_o42 hN_cX2_pieceAt hn_cX2_pieceAt rfl rfl
theorem dX2_pieceAt_6 : decode cX2_pieceAt 6 = .ok (.getfield 45, 3) := qr_o180 0 45 hN_cX2_pieceAt hn_cX2_pieceAt rfl rfl rfl rfl
theorem dX2_pieceAt_9 : decode cX2_pieceAt 9 = .ok (.if_icmp .ge 18, 3) := qr_o162 0 18 rfl hN_cX2_pieceAt hn_cX2_pieceAt rfl rfl rfl rfl
theorem dX2_pieceAt_12 : decode cX2_pieceAt 12 = .ok (.iload_n 1, 1) := qr_o27 hN_cX2_pieceAt hn_cX2_pieceAt rfl rfl
theorem dX2_pieceAt_13 : decode cX2_pieceAt 13 = .ok (.bipush 24, 2) := qr_o16 24 rfl hN_cX2_pieceAt hn_cX2_pieceAt rfl rfl rfl
theorem dX2_pieceAt_15 : decode cX2_pieceAt 15 = .ok (.if_icmp .ge 12, 3) := qr_o162 0 12 rfl hN_cX2_pieceAt hn_cX2_pieceAt rfl rfl rfl rfl
theorem dX2_pieceAt_18 : decode cX2_pieceAt 18 = .ok (.aload_n 0, 1) := qr_o42 hN_cX2_pieceAt hn_cX2_pieceAt rfl rfl
theorem dX2_pieceAt_19 : decode cX2_pieceAt 19 = .ok (.getfield 31, 3) := qr_o180 0 31 hN_cX2_pieceAt hn_cX2_pieceAt rfl rfl rfl rfl
theorem dX2_pieceAt_22 : decode cX2_pieceAt 22 = .ok (.iload_n 1, 1) := qr_o27 hN_cX2_pieceAt hn_cX2_pieceAt rfl rfl
theorem dX2_pieceAt_23 : decode cX2_pieceAt 23 = .ok (.aaload, 1) := qr_o50 hN_cX2_pieceAt hn_cX2_pieceAt rfl rfl
theorem dX2_pieceAt_24 : decode cX2_pieceAt 24 = .ok (.goto 4, 3) := qr_o167 0 4 rfl hN_cX2_pieceAt hn_cX2_pieceAt rfl rfl rfl rfl
theorem dX2_pieceAt_27 : decode cX2_pieceAt 27 = .ok (.aconst_null, 1) := qr_o1 hN_cX2_pieceAt hn_cX2_pieceAt rfl rfl
theorem dX2_pieceAt_28 : decode cX2_pieceAt 28 = .ok (.areturn, 1) := qr_o176 hN_cX2_pieceAt hn_cX2_pieceAt rfl rfl
def nN_cX2_bookingAt : Nat := 0xb0010400a7321b2500b42a0c00a21e101b1200a23100b42a1b1a009b1b
theorem hN_cX2_bookingAt : qr_n cX2_bookingAt.data.toList = nN_cX2_bookingAt := by decide +kernel
theorem hn_cX2_bookingAt : cX2_bookingAt.size = 29 := by decide +kernel
theorem dX2_bookingAt_0 : decode cX2_bookingAt 0 = .ok (.iload_n 1, 1) := qr_o27 hN_cX2_bookingAt hn_cX2_bookingAt rfl rfl
theorem dX2_bookingAt_1 : decode cX2_bookingAt 1 = .ok (.ifCond .lt 26, 3) := qr_o155 0 26 rfl hN_cX2_bookingAt hn_cX2_bookingAt rfl rfl rfl rfl
theorem dX2_bookingAt_4 : decode cX2_bookingAt 4 = .ok (.iload_n 1, 1) := qr_o27 hN_cX2_bookingAt hn_cX2_bookingAt rfl rfl
theorem dX2_bookingAt_5 : decode cX2_bookingAt 5 = .ok (.aload_n 0, 1) := qr_o42 hN_cX2_bookingAt hn_cX2_bookingAt rfl rfl
theorem dX2_bookingAt_6 : decode cX2_bookingAt 6 = .ok (.getfield 49, 3) := qr_o180 0 49 hN_cX2_bookingAt hn_cX2_bookingAt rfl rfl rfl rfl
theorem dX2_bookingAt_9 : decode cX2_bookingAt 9 = .ok (.if_icmp .ge 18, 3) := qr_o162 0 18 rfl hN_cX2_bookingAt hn_cX2_bookingAt rfl rfl rfl rfl
theorem dX2_bookingAt_12 : decode cX2_bookingAt 12 = .ok (.iload_n 1, 1) := qr_o27 hN_cX2_bookingAt hn_cX2_bookingAt rfl rfl
theorem dX2_bookingAt_13 : decode cX2_bookingAt 13 = .ok (.bipush 30, 2) := qr_o16 30 rfl hN_cX2_bookingAt hn_cX2_bookingAt rfl rfl rfl
theorem dX2_bookingAt_15 : decode cX2_bookingAt 15 = .ok (.if_icmp .ge 12, 3) := qr_o162 0 12 rfl hN_cX2_bookingAt hn_cX2_bookingAt rfl rfl rfl rfl
theorem dX2_bookingAt_18 : decode cX2_bookingAt 18 = .ok (.aload_n 0, 1) := qr_o42 hN_cX2_bookingAt hn_cX2_bookingAt rfl rfl
theorem dX2_bookingAt_19 : decode cX2_bookingAt 19 = .ok (.getfield 37, 3) := qr_o180 0 37 hN_cX2_bookingAt hn_cX2_bookingAt rfl rfl rfl rfl
theorem dX2_bookingAt_22 : decode cX2_bookingAt 22 = .ok (.iload_n 1, 1) := qr_o27 hN_cX2_bookingAt hn_cX2_bookingAt rfl rfl
theorem dX2_bookingAt_23 : decode cX2_bookingAt 23 = .ok (.aaload, 1) := qr_o50 hN_cX2_bookingAt hn_cX2_bookingAt rfl rfl
theorem dX2_bookingAt_24 : decode cX2_bookingAt 24 = .ok (.goto 4, 3) := qr_o167 0 4 rfl hN_cX2_bookingAt hn_cX2_bookingAt rfl rfl rfl rfl
theorem dX2_bookingAt_27 : decode cX2_bookingAt 27 = .ok (.aconst_null, 1) := qr_o1 hN_cX2_bookingAt hn_cX2_bookingAt rfl rfl
theorem dX2_bookingAt_28 : decode cX2_bookingAt 28 = .ok (.areturn, 1) := qr_o176 hN_cX2_bookingAt hn_cX2_bookingAt rfl rfl
def nN_cX2_keep : Nat := 0xac3400b42b2d00b560042d00b4592a532b2d00b42a1f00b42a3400b52d00b42a2bacfd100600a118102d00b42a
theorem hN_cX2_keep : qr_n cX2_keep.data.toList = nN_cX2_keep := by decide +kernel
theorem hn_cX2_keep : cX2_keep.size = 45 := by decide +kernel
theorem dX2_keep_0 : decode cX2_keep 0 = .ok (.aload_n 0, 1) := qr_o42 hN_cX2_keep hn_cX2_keep rfl rfl
theorem dX2_keep_1 : decode cX2_keep 1 = .ok (.getfield 45, 3) := qr_o180 0 45 hN_cX2_keep hn_cX2_keep rfl rfl rfl rfl
theorem dX2_keep_4 : decode cX2_keep 4 = .ok (.bipush 24, 2) := qr_o16 24 rfl hN_cX2_keep hn_cX2_keep rfl rfl rfl
theorem dX2_keep_6 : decode cX2_keep 6 = .ok (.if_icmp .lt 6, 3) := qr_o161 0 6 rfl hN_cX2_keep hn_cX2_keep rfl rfl rfl rfl
theorem dX2_keep_9 : decode cX2_keep 9 = .ok (.bipush (-3), 2) := qr_w16 253 3 rfl rfl hN_cX2_keep hn_cX2_keep rfl rfl rfl
theorem dX2_keep_11 : decode cX2_keep 11 = .ok (.ireturn, 1) := qr_o172 hN_cX2_keep hn_cX2_keep rfl rfl
theorem dX2_keep_12 : decode cX2_keep 12 = .ok (.aload_n 1, 1) := qr_o43 hN_cX2_keep hn_cX2_keep rfl rfl
theorem dX2_keep_13 : decode cX2_keep 13 = .ok (.aload_n 0, 1) := qr_o42 hN_cX2_keep hn_cX2_keep rfl rfl
theorem dX2_keep_14 : decode cX2_keep 14 = .ok (.getfield 45, 3) := qr_o180 0 45 hN_cX2_keep hn_cX2_keep rfl rfl rfl rfl
theorem dX2_keep_17 : decode cX2_keep 17 = .ok (.putfield 52, 3) := qr_o181 0 52 hN_cX2_keep hn_cX2_keep rfl rfl rfl rfl
theorem dX2_keep_20 : decode cX2_keep 20 = .ok (.aload_n 0, 1) := qr_o42 hN_cX2_keep hn_cX2_keep rfl rfl
theorem dX2_keep_21 : decode cX2_keep 21 = .ok (.getfield 31, 3) := qr_o180 0 31 hN_cX2_keep hn_cX2_keep rfl rfl rfl rfl
theorem dX2_keep_24 : decode cX2_keep 24 = .ok (.aload_n 0, 1) := qr_o42 hN_cX2_keep hn_cX2_keep rfl rfl
theorem dX2_keep_25 : decode cX2_keep 25 = .ok (.getfield 45, 3) := qr_o180 0 45 hN_cX2_keep hn_cX2_keep rfl rfl rfl rfl
theorem dX2_keep_28 : decode cX2_keep 28 = .ok (.aload_n 1, 1) := qr_o43 hN_cX2_keep hn_cX2_keep rfl rfl
theorem dX2_keep_29 : decode cX2_keep 29 = .ok (.aastore, 1) := qr_o83 hN_cX2_keep hn_cX2_keep rfl rfl
theorem dX2_keep_30 : decode cX2_keep 30 = .ok (.aload_n 0, 1) := qr_o42 hN_cX2_keep hn_cX2_keep rfl rfl
theorem dX2_keep_31 : decode cX2_keep 31 = .ok (.dup, 1) := qr_o89 hN_cX2_keep hn_cX2_keep rfl rfl
theorem dX2_keep_32 : decode cX2_keep 32 = .ok (.getfield 45, 3) := qr_o180 0 45 hN_cX2_keep hn_cX2_keep rfl rfl rfl rfl
theorem dX2_keep_35 : decode cX2_keep 35 = .ok (.iconst 1, 1) := qr_o4 hN_cX2_keep hn_cX2_keep rfl rfl
theorem dX2_keep_36 : decode cX2_keep 36 = .ok (.iadd, 1) := qr_o96 hN_cX2_keep hn_cX2_keep rfl rfl
theorem dX2_keep_37 : decode cX2_keep 37 = .ok (.putfield 45, 3) := qr_o181 0 45 hN_cX2_keep hn_cX2_keep rfl rfl rfl rfl
theorem dX2_keep_40 : decode cX2_keep 40 = .ok (.aload_n 1, 1) := qr_o43 hN_cX2_keep hn_cX2_keep rfl rfl
theorem dX2_keep_41 : decode cX2_keep 41 = .ok (.getfield 52, 3) := qr_o180 0 52 hN_cX2_keep hn_cX2_keep rfl rfl rfl rfl
theorem dX2_keep_44 : decode cX2_keep 44 = .ok (.ireturn, 1) := qr_o172 hN_cX2_keep hn_cX2_keep rfl rfl
def nN_cX2_hasRoomForBookings : Nat := 0xac030400a7040700a3643100b42a1e101b
theorem hN_cX2_hasRoomForBookings : qr_n cX2_hasRoomForBookings.data.toList = nN_cX2_hasRoomForBookings := by decide +kernel
theorem hn_cX2_hasRoomForBookings : cX2_hasRoomForBookings.size = 17 := by decide +kernel
theorem dX2_hasRoomForBookings_0 : decode cX2_hasRoomForBookings 0 = .ok (.iload_n 1, 1) := qr_o27 hN_cX2_hasRoomForBookings hn_cX2_hasRoomForBookings rfl rfl
theorem dX2_hasRoomForBookings_1 : decode cX2_hasRoomForBookings 1 = .ok (.bipush 30, 2) := qr_o16 30 rfl hN_cX2_hasRoomForBookings hn_cX2_hasRoomForBookings rfl rfl rfl
theorem dX2_hasRoomForBookings_3 : decode cX2_hasRoomForBookings 3 = .ok (.aload_n 0, 1) := qr_o42 hN_cX2_hasRoomForBookings hn_cX2_hasRoomForBookings rfl rfl
theorem dX2_hasRoomForBookings_4 : decode cX2_hasRoomForBookings 4 = .ok (.getfield 49, 3) := qr_o180 0 49 hN_cX2_hasRoomForBookings hn_cX2_hasRoomForBookings rfl rfl rfl rfl
theorem dX2_hasRoomForBookings_7 : decode cX2_hasRoomForBookings 7 = .ok (.isub, 1) := qr_o100 hN_cX2_hasRoomForBookings hn_cX2_hasRoomForBookings rfl rfl
theorem dX2_hasRoomForBookings_8 : decode cX2_hasRoomForBookings 8 = .ok (.if_icmp .gt 7, 3) := qr_o163 0 7 rfl hN_cX2_hasRoomForBookings hn_cX2_hasRoomForBookings rfl rfl rfl rfl
theorem dX2_hasRoomForBookings_11 : decode cX2_hasRoomForBookings 11 = .ok (.iconst 1, 1) := qr_o4 hN_cX2_hasRoomForBookings hn_cX2_hasRoomForBookings rfl rfl
theorem dX2_hasRoomForBookings_12 : decode cX2_hasRoomForBookings 12 = .ok (.goto 4, 3) := qr_o167 0 4 rfl hN_cX2_hasRoomForBookings hn_cX2_hasRoomForBookings rfl rfl rfl rfl
theorem dX2_hasRoomForBookings_15 : decode cX2_hasRoomForBookings 15 = .ok (.iconst 0, 1) := qr_o3 hN_cX2_hasRoomForBookings hn_cX2_hasRoomForBookings rfl rfl
theorem dX2_hasRoomForBookings_16 : decode cX2_hasRoomForBookings 16 = .ok (.ireturn, 1) := qr_o172 hN_cX2_hasRoomForBookings hn_cX2_hasRoomForBookings rfl rfl
def nN_cX2_addBooking : Nat := 0xb13100b560043100b4592a533b00b70615051504151d1c1b3100b42a592300bb3100b42a2500b42a2a00993700b6042a
theorem hN_cX2_addBooking : qr_n cX2_addBooking.data.toList = nN_cX2_addBooking := by decide +kernel
theorem hn_cX2_addBooking : cX2_addBooking.size = 48 := by decide +kernel
theorem dX2_addBooking_0 : decode cX2_addBooking 0 = .ok (.aload_n 0, 1) := qr_o42 hN_cX2_addBooking hn_cX2_addBooking rfl rfl
theorem dX2_addBooking_1 : decode cX2_addBooking 1 = .ok (.iconst 1, 1) := qr_o4 hN_cX2_addBooking hn_cX2_addBooking rfl rfl
theorem dX2_addBooking_2 : decode cX2_addBooking 2 = .ok (.invokevirtual 55, 3) := qr_o182 0 55 hN_cX2_addBooking hn_cX2_addBooking rfl rfl rfl rfl
theorem dX2_addBooking_5 : decode cX2_addBooking 5 = .ok (.ifCond .eq 42, 3) := qr_o153 0 42 rfl hN_cX2_addBooking hn_cX2_addBooking rfl rfl rfl rfl
theorem dX2_addBooking_8 : decode cX2_addBooking 8 = .ok (.aload_n 0, 1) := qr_o42 hN_cX2_addBooking hn_cX2_addBooking rfl rfl
theorem dX2_addBooking_9 : decode cX2_addBooking 9 = .ok (.getfield 37, 3) := qr_o180 0 37 hN_cX2_addBooking hn_cX2_addBooking rfl rfl rfl rfl
theorem dX2_addBooking_12 : decode cX2_addBooking 12 = .ok (.aload_n 0, 1) := qr_o42 hN_cX2_addBooking hn_cX2_addBooking rfl rfl
theorem dX2_addBooking_13 : decode cX2_addBooking 13 = .ok (.getfield 49, 3) := qr_o180 0 49 hN_cX2_addBooking hn_cX2_addBooking rfl rfl rfl rfl
theorem dX2_addBooking_16 : decode cX2_addBooking 16 = .ok (.new 35, 3) := qr_o187 0 35 hN_cX2_addBooking hn_cX2_addBooking rfl rfl rfl rfl
theorem dX2_addBooking_19 : decode cX2_addBooking 19 = .ok (.dup, 1) := qr_o89 hN_cX2_addBooking hn_cX2_addBooking rfl rfl
theorem dX2_addBooking_20 : decode cX2_addBooking 20 = .ok (.aload_n 0, 1) := qr_o42 hN_cX2_addBooking hn_cX2_addBooking rfl rfl
theorem dX2_addBooking_21 : decode cX2_addBooking 21 = .ok (.getfield 49, 3) := qr_o180 0 49 hN_cX2_addBooking hn_cX2_addBooking rfl rfl rfl rfl
theorem dX2_addBooking_24 : decode cX2_addBooking 24 = .ok (.iload_n 1, 1) := qr_o27 hN_cX2_addBooking hn_cX2_addBooking rfl rfl
theorem dX2_addBooking_25 : decode cX2_addBooking 25 = .ok (.iload_n 2, 1) := qr_o28 hN_cX2_addBooking hn_cX2_addBooking rfl rfl
theorem dX2_addBooking_26 : decode cX2_addBooking 26 = .ok (.iload_n 3, 1) := qr_o29 hN_cX2_addBooking hn_cX2_addBooking rfl rfl
theorem dX2_addBooking_27 : decode cX2_addBooking 27 = .ok (.iload 4, 2) := qr_o21 4 hN_cX2_addBooking hn_cX2_addBooking rfl rfl rfl
theorem dX2_addBooking_29 : decode cX2_addBooking 29 = .ok (.iload 5, 2) := qr_o21 5 hN_cX2_addBooking hn_cX2_addBooking rfl rfl rfl
theorem dX2_addBooking_31 : decode cX2_addBooking 31 = .ok (.iload 6, 2) := qr_o21 6 hN_cX2_addBooking hn_cX2_addBooking rfl rfl rfl
theorem dX2_addBooking_33 : decode cX2_addBooking 33 = .ok (.invokespecial 59, 3) := qr_o183 0 59 hN_cX2_addBooking hn_cX2_addBooking rfl rfl rfl rfl
theorem dX2_addBooking_36 : decode cX2_addBooking 36 = .ok (.aastore, 1) := qr_o83 hN_cX2_addBooking hn_cX2_addBooking rfl rfl
theorem dX2_addBooking_37 : decode cX2_addBooking 37 = .ok (.aload_n 0, 1) := qr_o42 hN_cX2_addBooking hn_cX2_addBooking rfl rfl
theorem dX2_addBooking_38 : decode cX2_addBooking 38 = .ok (.dup, 1) := qr_o89 hN_cX2_addBooking hn_cX2_addBooking rfl rfl
theorem dX2_addBooking_39 : decode cX2_addBooking 39 = .ok (.getfield 49, 3) := qr_o180 0 49 hN_cX2_addBooking hn_cX2_addBooking rfl rfl rfl rfl
theorem dX2_addBooking_42 : decode cX2_addBooking 42 = .ok (.iconst 1, 1) := qr_o4 hN_cX2_addBooking hn_cX2_addBooking rfl rfl
theorem dX2_addBooking_43 : decode cX2_addBooking 43 = .ok (.iadd, 1) := qr_o96 hN_cX2_addBooking hn_cX2_addBooking rfl rfl
theorem dX2_addBooking_44 : decode cX2_addBooking 44 = .ok (.putfield 49, 3) := qr_o181 0 49 hN_cX2_addBooking hn_cX2_addBooking rfl rfl rfl rfl
theorem dX2_addBooking_47 : decode cX2_addBooking 47 = .ok (.return_, 1) := qr_o177 hN_cX2_addBooking hn_cX2_addBooking rfl rfl
def nN_cX2_postBetween : Nat := 0xac030400a72e1d1900b42a0c00a2be1900b42a1d15009b1d3e601c6809101b
theorem hN_cX2_postBetween : qr_n cX2_postBetween.data.toList = nN_cX2_postBetween := by decide +kernel
theorem hn_cX2_postBetween : cX2_postBetween.size = 31 := by decide +kernel
theorem dX2_postBetween_0 : decode cX2_postBetween 0 = .ok (.iload_n 1, 1) := qr_o27 hN_cX2_postBetween hn_cX2_postBetween rfl rfl
theorem dX2_postBetween_1 : decode cX2_postBetween 1 = .ok (.bipush 9, 2) := qr_o16 9 rfl hN_cX2_postBetween hn_cX2_postBetween rfl rfl rfl
theorem dX2_postBetween_3 : decode cX2_postBetween 3 = .ok (.imul, 1) := qr_o104 hN_cX2_postBetween hn_cX2_postBetween rfl rfl
theorem dX2_postBetween_4 : decode cX2_postBetween 4 = .ok (.iload_n 2, 1) := qr_o28 hN_cX2_postBetween hn_cX2_postBetween rfl rfl
theorem dX2_postBetween_5 : decode cX2_postBetween 5 = .ok (.iadd, 1) := qr_o96 hN_cX2_postBetween hn_cX2_postBetween rfl rfl
theorem dX2_postBetween_6 : decode cX2_postBetween 6 = .ok (.istore_n 3, 1) := qr_o62 hN_cX2_postBetween hn_cX2_postBetween rfl rfl
theorem dX2_postBetween_7 : decode cX2_postBetween 7 = .ok (.iload_n 3, 1) := qr_o29 hN_cX2_postBetween hn_cX2_postBetween rfl rfl
theorem dX2_postBetween_8 : decode cX2_postBetween 8 = .ok (.ifCond .lt 21, 3) := qr_o155 0 21 rfl hN_cX2_postBetween hn_cX2_postBetween rfl rfl rfl rfl
theorem dX2_postBetween_11 : decode cX2_postBetween 11 = .ok (.iload_n 3, 1) := qr_o29 hN_cX2_postBetween hn_cX2_postBetween rfl rfl
theorem dX2_postBetween_12 : decode cX2_postBetween 12 = .ok (.aload_n 0, 1) := qr_o42 hN_cX2_postBetween hn_cX2_postBetween rfl rfl
theorem dX2_postBetween_13 : decode cX2_postBetween 13 = .ok (.getfield 25, 3) := qr_o180 0 25 hN_cX2_postBetween hn_cX2_postBetween rfl rfl rfl rfl
theorem dX2_postBetween_16 : decode cX2_postBetween 16 = .ok (.arraylength, 1) := qr_o190 hN_cX2_postBetween hn_cX2_postBetween rfl rfl
theorem dX2_postBetween_17 : decode cX2_postBetween 17 = .ok (.if_icmp .ge 12, 3) := qr_o162 0 12 rfl hN_cX2_postBetween hn_cX2_postBetween rfl rfl rfl rfl
theorem dX2_postBetween_20 : decode cX2_postBetween 20 = .ok (.aload_n 0, 1) := qr_o42 hN_cX2_postBetween hn_cX2_postBetween rfl rfl
theorem dX2_postBetween_21 : decode cX2_postBetween 21 = .ok (.getfield 25, 3) := qr_o180 0 25 hN_cX2_postBetween hn_cX2_postBetween rfl rfl rfl rfl
theorem dX2_postBetween_24 : decode cX2_postBetween 24 = .ok (.iload_n 3, 1) := qr_o29 hN_cX2_postBetween hn_cX2_postBetween rfl rfl
theorem dX2_postBetween_25 : decode cX2_postBetween 25 = .ok (.iaload, 1) := qr_o46 hN_cX2_postBetween hn_cX2_postBetween rfl rfl
theorem dX2_postBetween_26 : decode cX2_postBetween 26 = .ok (.goto 4, 3) := qr_o167 0 4 rfl hN_cX2_postBetween hn_cX2_postBetween rfl rfl rfl rfl
theorem dX2_postBetween_29 : decode cX2_postBetween 29 = .ok (.iconst 0, 1) := qr_o3 hN_cX2_postBetween hn_cX2_postBetween rfl rfl
theorem dX2_postBetween_30 : decode cX2_postBetween 30 = .ok (.ireturn, 1) := qr_o172 hN_cX2_postBetween hn_cX2_postBetween rfl rfl
def nN_cX2_setPost : Nat := 0xb14f1d601b6809101c1900b42a4f1d601c6809101b1900b42a1b00993e00b81c2200993e00b81b
theorem hN_cX2_setPost : qr_n cX2_setPost.data.toList = nN_cX2_setPost := by decide +kernel
theorem hn_cX2_setPost : cX2_setPost.size = 39 := by decide +kernel
theorem dX2_setPost_0 : decode cX2_setPost 0 = .ok (.iload_n 1, 1) := qr_o27 hN_cX2_setPost hn_cX2_setPost rfl rfl
theorem dX2_setPost_1 : decode cX2_setPost 1 = .ok (.invokestatic 62, 3) := qr_o184 0 62 hN_cX2_setPost hn_cX2_setPost rfl rfl rfl rfl
theorem dX2_setPost_4 : decode cX2_setPost 4 = .ok (.ifCond .eq 34, 3) := qr_o153 0 34 rfl hN_cX2_setPost hn_cX2_setPost rfl rfl rfl rfl
theorem dX2_setPost_7 : decode cX2_setPost 7 = .ok (.iload_n 2, 1) := qr_o28 hN_cX2_setPost hn_cX2_setPost rfl rfl
theorem dX2_setPost_8 : decode cX2_setPost 8 = .ok (.invokestatic 62, 3) := qr_o184 0 62 hN_cX2_setPost hn_cX2_setPost rfl rfl rfl rfl
theorem dX2_setPost_11 : decode cX2_setPost 11 = .ok (.ifCond .eq 27, 3) := qr_o153 0 27 rfl hN_cX2_setPost hn_cX2_setPost rfl rfl rfl rfl
theorem dX2_setPost_14 : decode cX2_setPost 14 = .ok (.aload_n 0, 1) := qr_o42 hN_cX2_setPost hn_cX2_setPost rfl rfl
theorem dX2_setPost_15 : decode cX2_setPost 15 = .ok (.getfield 25, 3) := qr_o180 0 25 hN_cX2_setPost hn_cX2_setPost rfl rfl rfl rfl
theorem dX2_setPost_18 : decode cX2_setPost 18 = .ok (.iload_n 1, 1) := qr_o27 hN_cX2_setPost hn_cX2_setPost rfl rfl
theorem dX2_setPost_19 : decode cX2_setPost 19 = .ok (.bipush 9, 2) := qr_o16 9 rfl hN_cX2_setPost hn_cX2_setPost rfl rfl rfl
theorem dX2_setPost_21 : decode cX2_setPost 21 = .ok (.imul, 1) := qr_o104 hN_cX2_setPost hn_cX2_setPost rfl rfl
theorem dX2_setPost_22 : decode cX2_setPost 22 = .ok (.iload_n 2, 1) := qr_o28 hN_cX2_setPost hn_cX2_setPost rfl rfl
theorem dX2_setPost_23 : decode cX2_setPost 23 = .ok (.iadd, 1) := qr_o96 hN_cX2_setPost hn_cX2_setPost rfl rfl
theorem dX2_setPost_24 : decode cX2_setPost 24 = .ok (.iload_n 3, 1) := qr_o29 hN_cX2_setPost hn_cX2_setPost rfl rfl
theorem dX2_setPost_25 : decode cX2_setPost 25 = .ok (.iastore, 1) := qr_o79 hN_cX2_setPost hn_cX2_setPost rfl rfl
theorem dX2_setPost_26 : decode cX2_setPost 26 = .ok (.aload_n 0, 1) := qr_o42 hN_cX2_setPost hn_cX2_setPost rfl rfl
theorem dX2_setPost_27 : decode cX2_setPost 27 = .ok (.getfield 25, 3) := qr_o180 0 25 hN_cX2_setPost hn_cX2_setPost rfl rfl rfl rfl
theorem dX2_setPost_30 : decode cX2_setPost 30 = .ok (.iload_n 2, 1) := qr_o28 hN_cX2_setPost hn_cX2_setPost rfl rfl
theorem dX2_setPost_31 : decode cX2_setPost 31 = .ok (.bipush 9, 2) := qr_o16 9 rfl hN_cX2_setPost hn_cX2_setPost rfl rfl rfl
theorem dX2_setPost_33 : decode cX2_setPost 33 = .ok (.imul, 1) := qr_o104 hN_cX2_setPost hn_cX2_setPost rfl rfl
theorem dX2_setPost_34 : decode cX2_setPost 34 = .ok (.iload_n 1, 1) := qr_o27 hN_cX2_setPost hn_cX2_setPost rfl rfl
theorem dX2_setPost_35 : decode cX2_setPost 35 = .ok (.iadd, 1) := qr_o96 hN_cX2_setPost hn_cX2_setPost rfl rfl
theorem dX2_setPost_36 : decode cX2_setPost 36 = .ok (.iload_n 3, 1) := qr_o29 hN_cX2_setPost hn_cX2_setPost rfl rfl
theorem dX2_setPost_37 : decode cX2_setPost 37 = .ok (.iastore, 1) := qr_o79 hN_cX2_setPost hn_cX2_setPost rfl rfl
theorem dX2_setPost_38 : decode cX2_setPost 38 = .ok (.return_, 1) := qr_o177 hN_cX2_setPost hn_cX2_setPost rfl rfl
def nN_cX2_fitOf : Nat := 0xac030400a7040700a174041506150f00a304150515ac050500a3041506150c00a174041505150636641c605100b42b605400b64b00b42b1500b42a4800b42b0536641c605100b42b604e00b64b00b42b1500b42a4800b42b04364400b6070c00b42aac0305009a4100b61d2b
theorem hN_cX2_fitOf : qr_n cX2_fitOf.data.toList = nN_cX2_fitOf := by decide +kernel
theorem hn_cX2_fitOf : cX2_fitOf.size = 108 := by decide +kernel
theorem dX2_fitOf_0 : decode cX2_fitOf 0 = .ok (.aload_n 1, 1) := qr_o43 hN_cX2_fitOf hn_cX2_fitOf rfl rfl
theorem dX2_fitOf_1 : decode cX2_fitOf 1 = .ok (.iload_n 3, 1) := qr_o29 hN_cX2_fitOf hn_cX2_fitOf rfl rfl
theorem dX2_fitOf_2 : decode cX2_fitOf 2 = .ok (.invokevirtual 65, 3) := qr_o182 0 65 hN_cX2_fitOf hn_cX2_fitOf rfl rfl rfl rfl
theorem dX2_fitOf_5 : decode cX2_fitOf 5 = .ok (.ifCond .ne 5, 3) := qr_o154 0 5 rfl hN_cX2_fitOf hn_cX2_fitOf rfl rfl rfl rfl
theorem dX2_fitOf_8 : decode cX2_fitOf 8 = .ok (.iconst 0, 1) := qr_o3 hN_cX2_fitOf hn_cX2_fitOf rfl rfl
theorem dX2_fitOf_9 : decode cX2_fitOf 9 = .ok (.ireturn, 1) := qr_o172 hN_cX2_fitOf hn_cX2_fitOf rfl rfl
theorem dX2_fitOf_10 : decode cX2_fitOf 10 = .ok (.aload_n 0, 1) := qr_o42 hN_cX2_fitOf hn_cX2_fitOf rfl rfl
theorem dX2_fitOf_11 : decode cX2_fitOf 11 = .ok (.getfield 12, 3) := qr_o180 0 12 hN_cX2_fitOf hn_cX2_fitOf rfl rfl rfl rfl
theorem dX2_fitOf_14 : decode cX2_fitOf 14 = .ok (.iconst 4, 1) := qr_o7 hN_cX2_fitOf hn_cX2_fitOf rfl rfl
theorem dX2_fitOf_15 : decode cX2_fitOf 15 = .ok (.invokevirtual 68, 3) := qr_o182 0 68 hN_cX2_fitOf hn_cX2_fitOf rfl rfl rfl rfl
theorem dX2_fitOf_18 : decode cX2_fitOf 18 = .ok (.istore 4, 2) := qr_o54 4 hN_cX2_fitOf hn_cX2_fitOf rfl rfl rfl
theorem dX2_fitOf_20 : decode cX2_fitOf 20 = .ok (.aload_n 1, 1) := qr_o43 hN_cX2_fitOf hn_cX2_fitOf rfl rfl
theorem dX2_fitOf_21 : decode cX2_fitOf 21 = .ok (.getfield 72, 3) := qr_o180 0 72 hN_cX2_fitOf hn_cX2_fitOf rfl rfl rfl rfl
theorem dX2_fitOf_24 : decode cX2_fitOf 24 = .ok (.aload_n 0, 1) := qr_o42 hN_cX2_fitOf hn_cX2_fitOf rfl rfl
theorem dX2_fitOf_25 : decode cX2_fitOf 25 = .ok (.getfield 21, 3) := qr_o180 0 21 hN_cX2_fitOf hn_cX2_fitOf rfl rfl rfl rfl
theorem dX2_fitOf_28 : decode cX2_fitOf 28 = .ok (.aload_n 1, 1) := qr_o43 hN_cX2_fitOf hn_cX2_fitOf rfl rfl
theorem dX2_fitOf_29 : decode cX2_fitOf 29 = .ok (.getfield 75, 3) := qr_o180 0 75 hN_cX2_fitOf hn_cX2_fitOf rfl rfl rfl rfl
theorem dX2_fitOf_32 : decode cX2_fitOf 32 = .ok (.invokevirtual 78, 3) := qr_o182 0 78 hN_cX2_fitOf hn_cX2_fitOf rfl rfl rfl rfl
theorem dX2_fitOf_35 : decode cX2_fitOf 35 = .ok (.iadd, 1) := qr_o96 hN_cX2_fitOf hn_cX2_fitOf rfl rfl
theorem dX2_fitOf_36 : decode cX2_fitOf 36 = .ok (.aload_n 1, 1) := qr_o43 hN_cX2_fitOf hn_cX2_fitOf rfl rfl
theorem dX2_fitOf_37 : decode cX2_fitOf 37 = .ok (.getfield 81, 3) := qr_o180 0 81 hN_cX2_fitOf hn_cX2_fitOf rfl rfl rfl rfl
theorem dX2_fitOf_40 : decode cX2_fitOf 40 = .ok (.iadd, 1) := qr_o96 hN_cX2_fitOf hn_cX2_fitOf rfl rfl
theorem dX2_fitOf_41 : decode cX2_fitOf 41 = .ok (.iload_n 2, 1) := qr_o28 hN_cX2_fitOf hn_cX2_fitOf rfl rfl
theorem dX2_fitOf_42 : decode cX2_fitOf 42 = .ok (.isub, 1) := qr_o100 hN_cX2_fitOf hn_cX2_fitOf rfl rfl
theorem dX2_fitOf_43 : decode cX2_fitOf 43 = .ok (.istore 5, 2) := qr_o54 5 hN_cX2_fitOf hn_cX2_fitOf rfl rfl rfl
theorem dX2_fitOf_45 : decode cX2_fitOf 45 = .ok (.aload_n 1, 1) := qr_o43 hN_cX2_fitOf hn_cX2_fitOf rfl rfl
theorem dX2_fitOf_46 : decode cX2_fitOf 46 = .ok (.getfield 72, 3) := qr_o180 0 72 hN_cX2_fitOf hn_cX2_fitOf rfl rfl rfl rfl
theorem dX2_fitOf_49 : decode cX2_fitOf 49 = .ok (.aload_n 0, 1) := qr_o42 hN_cX2_fitOf hn_cX2_fitOf rfl rfl
theorem dX2_fitOf_50 : decode cX2_fitOf 50 = .ok (.getfield 21, 3) := qr_o180 0 21 hN_cX2_fitOf hn_cX2_fitOf rfl rfl rfl rfl
theorem dX2_fitOf_53 : decode cX2_fitOf 53 = .ok (.aload_n 1, 1) := qr_o43 hN_cX2_fitOf hn_cX2_fitOf rfl rfl
theorem dX2_fitOf_54 : decode cX2_fitOf 54 = .ok (.getfield 75, 3) := qr_o180 0 75 hN_cX2_fitOf hn_cX2_fitOf rfl rfl rfl rfl
theorem dX2_fitOf_57 : decode cX2_fitOf 57 = .ok (.invokevirtual 84, 3) := qr_o182 0 84 hN_cX2_fitOf hn_cX2_fitOf rfl rfl rfl rfl
theorem dX2_fitOf_60 : decode cX2_fitOf 60 = .ok (.iadd, 1) := qr_o96 hN_cX2_fitOf hn_cX2_fitOf rfl rfl
theorem dX2_fitOf_61 : decode cX2_fitOf 61 = .ok (.aload_n 1, 1) := qr_o43 hN_cX2_fitOf hn_cX2_fitOf rfl rfl
theorem dX2_fitOf_62 : decode cX2_fitOf 62 = .ok (.getfield 81, 3) := qr_o180 0 81 hN_cX2_fitOf hn_cX2_fitOf rfl rfl rfl rfl
theorem dX2_fitOf_65 : decode cX2_fitOf 65 = .ok (.iadd, 1) := qr_o96 hN_cX2_fitOf hn_cX2_fitOf rfl rfl
theorem dX2_fitOf_66 : decode cX2_fitOf 66 = .ok (.iload_n 2, 1) := qr_o28 hN_cX2_fitOf hn_cX2_fitOf rfl rfl
theorem dX2_fitOf_67 : decode cX2_fitOf 67 = .ok (.isub, 1) := qr_o100 hN_cX2_fitOf hn_cX2_fitOf rfl rfl
theorem dX2_fitOf_68 : decode cX2_fitOf 68 = .ok (.istore 6, 2) := qr_o54 6 hN_cX2_fitOf hn_cX2_fitOf rfl rfl rfl
theorem dX2_fitOf_70 : decode cX2_fitOf 70 = .ok (.iload 5, 2) := qr_o21 5 hN_cX2_fitOf hn_cX2_fitOf rfl rfl rfl
theorem dX2_fitOf_72 : decode cX2_fitOf 72 = .ok (.iload 4, 2) := qr_o21 4 hN_cX2_fitOf hn_cX2_fitOf rfl rfl rfl
theorem dX2_fitOf_74 : decode cX2_fitOf 74 = .ok (.ineg, 1) := qr_o116 hN_cX2_fitOf hn_cX2_fitOf rfl rfl
theorem dX2_fitOf_75 : decode cX2_fitOf 75 = .ok (.if_icmp .lt 12, 3) := qr_o161 0 12 rfl hN_cX2_fitOf hn_cX2_fitOf rfl rfl rfl rfl
theorem dX2_fitOf_78 : decode cX2_fitOf 78 = .ok (.iload 6, 2) := qr_o21 6 hN_cX2_fitOf hn_cX2_fitOf rfl rfl rfl
theorem dX2_fitOf_80 : decode cX2_fitOf 80 = .ok (.iload 4, 2) := qr_o21 4 hN_cX2_fitOf hn_cX2_fitOf rfl rfl rfl
theorem dX2_fitOf_82 : decode cX2_fitOf 82 = .ok (.if_icmp .gt 5, 3) := qr_o163 0 5 rfl hN_cX2_fitOf hn_cX2_fitOf rfl rfl rfl rfl
theorem dX2_fitOf_85 : decode cX2_fitOf 85 = .ok (.iconst 2, 1) := qr_o5 hN_cX2_fitOf hn_cX2_fitOf rfl rfl
theorem dX2_fitOf_86 : decode cX2_fitOf 86 = .ok (.ireturn, 1) := qr_o172 hN_cX2_fitOf hn_cX2_fitOf rfl rfl
theorem dX2_fitOf_87 : decode cX2_fitOf 87 = .ok (.iload 5, 2) := qr_o21 5 hN_cX2_fitOf hn_cX2_fitOf rfl rfl rfl
theorem dX2_fitOf_89 : decode cX2_fitOf 89 = .ok (.iload 4, 2) := qr_o21 4 hN_cX2_fitOf hn_cX2_fitOf rfl rfl rfl
theorem dX2_fitOf_91 : decode cX2_fitOf 91 = .ok (.if_icmp .gt 15, 3) := qr_o163 0 15 rfl hN_cX2_fitOf hn_cX2_fitOf rfl rfl rfl rfl
theorem dX2_fitOf_94 : decode cX2_fitOf 94 = .ok (.iload 6, 2) := qr_o21 6 hN_cX2_fitOf hn_cX2_fitOf rfl rfl rfl
theorem dX2_fitOf_96 : decode cX2_fitOf 96 = .ok (.iload 4, 2) := qr_o21 4 hN_cX2_fitOf hn_cX2_fitOf rfl rfl rfl
theorem dX2_fitOf_98 : decode cX2_fitOf 98 = .ok (.ineg, 1) := qr_o116 hN_cX2_fitOf hn_cX2_fitOf rfl rfl
theorem dX2_fitOf_99 : decode cX2_fitOf 99 = .ok (.if_icmp .lt 7, 3) := qr_o161 0 7 rfl hN_cX2_fitOf hn_cX2_fitOf rfl rfl rfl rfl
theorem dX2_fitOf_102 : decode cX2_fitOf 102 = .ok (.iconst 1, 1) := qr_o4 hN_cX2_fitOf hn_cX2_fitOf rfl rfl
theorem dX2_fitOf_103 : decode cX2_fitOf 103 = .ok (.goto 4, 3) := qr_o167 0 4 rfl hN_cX2_fitOf hn_cX2_fitOf rfl rfl rfl rfl
theorem dX2_fitOf_106 : decode cX2_fitOf 106 = .ok (.iconst 0, 1) := qr_o3 hN_cX2_fitOf hn_cX2_fitOf rfl rfl
theorem dX2_fitOf_107 : decode cX2_fitOf 107 = .ok (.ireturn, 1) := qr_o172 hN_cX2_fitOf hn_cX2_fitOf rfl rfl
def nN_cX2_surelyFits : Nat := 0xac030400a7040700a0055d00b65a00b42c5700b42c2b2a
theorem hN_cX2_surelyFits : qr_n cX2_surelyFits.data.toList = nN_cX2_surelyFits := by decide +kernel
theorem hn_cX2_surelyFits : cX2_surelyFits.size = 23 := by decide +kernel
theorem dX2_surelyFits_0 : decode cX2_surelyFits 0 = .ok (.aload_n 0, 1) := qr_o42 hN_cX2_surelyFits hn_cX2_surelyFits rfl rfl
theorem dX2_surelyFits_1 : decode cX2_surelyFits 1 = .ok (.aload_n 1, 1) := qr_o43 hN_cX2_surelyFits hn_cX2_surelyFits rfl rfl
theorem dX2_surelyFits_2 : decode cX2_surelyFits 2 = .ok (.aload_n 2, 1) := qr_o44 hN_cX2_surelyFits hn_cX2_surelyFits rfl rfl
theorem dX2_surelyFits_3 : decode cX2_surelyFits 3 = .ok (.getfield 87, 3) := qr_o180 0 87 hN_cX2_surelyFits hn_cX2_surelyFits rfl rfl rfl rfl
theorem dX2_surelyFits_6 : decode cX2_surelyFits 6 = .ok (.aload_n 2, 1) := qr_o44 hN_cX2_surelyFits hn_cX2_surelyFits rfl rfl
theorem dX2_surelyFits_7 : decode cX2_surelyFits 7 = .ok (.getfield 90, 3) := qr_o180 0 90 hN_cX2_surelyFits hn_cX2_surelyFits rfl rfl rfl rfl
theorem dX2_surelyFits_10 : decode cX2_surelyFits 10 = .ok (.invokevirtual 93, 3) := qr_o182 0 93 hN_cX2_surelyFits hn_cX2_surelyFits rfl rfl rfl rfl
theorem dX2_surelyFits_13 : decode cX2_surelyFits 13 = .ok (.iconst 2, 1) := qr_o5 hN_cX2_surelyFits hn_cX2_surelyFits rfl rfl
theorem dX2_surelyFits_14 : decode cX2_surelyFits 14 = .ok (.if_icmp .ne 7, 3) := qr_o160 0 7 rfl hN_cX2_surelyFits hn_cX2_surelyFits rfl rfl rfl rfl
theorem dX2_surelyFits_17 : decode cX2_surelyFits 17 = .ok (.iconst 1, 1) := qr_o4 hN_cX2_surelyFits hn_cX2_surelyFits rfl rfl
theorem dX2_surelyFits_18 : decode cX2_surelyFits 18 = .ok (.goto 4, 3) := qr_o167 0 4 rfl hN_cX2_surelyFits hn_cX2_surelyFits rfl rfl rfl rfl
theorem dX2_surelyFits_21 : decode cX2_surelyFits 21 = .ok (.iconst 0, 1) := qr_o3 hN_cX2_surelyFits hn_cX2_surelyFits rfl rfl
theorem dX2_surelyFits_22 : decode cX2_surelyFits 22 = .ok (.ireturn, 1) := qr_o172 hN_cX2_surelyFits hn_cX2_surelyFits rfl rfl
def nN_cX2_offBy : Nat := 0xac6100b8645700b42c605100b42b604e00b64b00b42b1500b42a4800b42b
theorem hN_cX2_offBy : qr_n cX2_offBy.data.toList = nN_cX2_offBy := by decide +kernel
theorem hn_cX2_offBy : cX2_offBy.size = 30 := by decide +kernel
theorem dX2_offBy_0 : decode cX2_offBy 0 = .ok (.aload_n 1, 1) := qr_o43 hN_cX2_offBy hn_cX2_offBy rfl rfl
theorem dX2_offBy_1 : decode cX2_offBy 1 = .ok (.getfield 72, 3) := qr_o180 0 72 hN_cX2_offBy hn_cX2_offBy rfl rfl rfl rfl
theorem dX2_offBy_4 : decode cX2_offBy 4 = .ok (.aload_n 0, 1) := qr_o42 hN_cX2_offBy hn_cX2_offBy rfl rfl
theorem dX2_offBy_5 : decode cX2_offBy 5 = .ok (.getfield 21, 3) := qr_o180 0 21 hN_cX2_offBy hn_cX2_offBy rfl rfl rfl rfl
theorem dX2_offBy_8 : decode cX2_offBy 8 = .ok (.aload_n 1, 1) := qr_o43 hN_cX2_offBy hn_cX2_offBy rfl rfl
theorem dX2_offBy_9 : decode cX2_offBy 9 = .ok (.getfield 75, 3) := qr_o180 0 75 hN_cX2_offBy hn_cX2_offBy rfl rfl rfl rfl
theorem dX2_offBy_12 : decode cX2_offBy 12 = .ok (.invokevirtual 78, 3) := qr_o182 0 78 hN_cX2_offBy hn_cX2_offBy rfl rfl rfl rfl
theorem dX2_offBy_15 : decode cX2_offBy 15 = .ok (.iadd, 1) := qr_o96 hN_cX2_offBy hn_cX2_offBy rfl rfl
theorem dX2_offBy_16 : decode cX2_offBy 16 = .ok (.aload_n 1, 1) := qr_o43 hN_cX2_offBy hn_cX2_offBy rfl rfl
theorem dX2_offBy_17 : decode cX2_offBy 17 = .ok (.getfield 81, 3) := qr_o180 0 81 hN_cX2_offBy hn_cX2_offBy rfl rfl rfl rfl
theorem dX2_offBy_20 : decode cX2_offBy 20 = .ok (.iadd, 1) := qr_o96 hN_cX2_offBy hn_cX2_offBy rfl rfl
theorem dX2_offBy_21 : decode cX2_offBy 21 = .ok (.aload_n 2, 1) := qr_o44 hN_cX2_offBy hn_cX2_offBy rfl rfl
theorem dX2_offBy_22 : decode cX2_offBy 22 = .ok (.getfield 87, 3) := qr_o180 0 87 hN_cX2_offBy hn_cX2_offBy rfl rfl rfl rfl
theorem dX2_offBy_25 : decode cX2_offBy 25 = .ok (.isub, 1) := qr_o100 hN_cX2_offBy hn_cX2_offBy rfl rfl
theorem dX2_offBy_26 : decode cX2_offBy 26 = .ok (.invokestatic 97, 3) := qr_o184 0 97 hN_cX2_offBy hn_cX2_offBy rfl rfl rfl rfl
theorem dX2_offBy_29 : decode cX2_offBy 29 = .ok (.ireturn, 1) := qr_o172 hN_cX2_offBy hn_cX2_offBy rfl rfl
def nN_cX2_firstAway : Nat := 0xac646d00b66c00b42c6900b42b2a644400b6030c00b42a6600b42c
theorem hN_cX2_firstAway : qr_n cX2_firstAway.data.toList = nN_cX2_firstAway := by decide +kernel
theorem hn_cX2_firstAway : cX2_firstAway.size = 27 := by decide +kernel
theorem dX2_firstAway_0 : decode cX2_firstAway 0 = .ok (.aload_n 2, 1) := qr_o44 hN_cX2_firstAway hn_cX2_firstAway rfl rfl
theorem dX2_firstAway_1 : decode cX2_firstAway 1 = .ok (.getfield 102, 3) := qr_o180 0 102 hN_cX2_firstAway hn_cX2_firstAway rfl rfl rfl rfl
theorem dX2_firstAway_4 : decode cX2_firstAway 4 = .ok (.aload_n 0, 1) := qr_o42 hN_cX2_firstAway hn_cX2_firstAway rfl rfl
theorem dX2_firstAway_5 : decode cX2_firstAway 5 = .ok (.getfield 12, 3) := qr_o180 0 12 hN_cX2_firstAway hn_cX2_firstAway rfl rfl rfl rfl
theorem dX2_firstAway_8 : decode cX2_firstAway 8 = .ok (.iconst 0, 1) := qr_o3 hN_cX2_firstAway hn_cX2_firstAway rfl rfl
theorem dX2_firstAway_9 : decode cX2_firstAway 9 = .ok (.invokevirtual 68, 3) := qr_o182 0 68 hN_cX2_firstAway hn_cX2_firstAway rfl rfl rfl rfl
theorem dX2_firstAway_12 : decode cX2_firstAway 12 = .ok (.isub, 1) := qr_o100 hN_cX2_firstAway hn_cX2_firstAway rfl rfl
theorem dX2_firstAway_13 : decode cX2_firstAway 13 = .ok (.aload_n 0, 1) := qr_o42 hN_cX2_firstAway hn_cX2_firstAway rfl rfl
theorem dX2_firstAway_14 : decode cX2_firstAway 14 = .ok (.aload_n 1, 1) := qr_o43 hN_cX2_firstAway hn_cX2_firstAway rfl rfl
theorem dX2_firstAway_15 : decode cX2_firstAway 15 = .ok (.getfield 105, 3) := qr_o180 0 105 hN_cX2_firstAway hn_cX2_firstAway rfl rfl rfl rfl
theorem dX2_firstAway_18 : decode cX2_firstAway 18 = .ok (.aload_n 2, 1) := qr_o44 hN_cX2_firstAway hn_cX2_firstAway rfl rfl
theorem dX2_firstAway_19 : decode cX2_firstAway 19 = .ok (.getfield 108, 3) := qr_o180 0 108 hN_cX2_firstAway hn_cX2_firstAway rfl rfl rfl rfl
theorem dX2_firstAway_22 : decode cX2_firstAway 22 = .ok (.invokevirtual 109, 3) := qr_o182 0 109 hN_cX2_firstAway hn_cX2_firstAway rfl rfl rfl rfl
theorem dX2_firstAway_25 : decode cX2_firstAway 25 = .ok (.isub, 1) := qr_o100 hN_cX2_firstAway hn_cX2_firstAway rfl rfl
theorem dX2_firstAway_26 : decode cX2_firstAway 26 = .ok (.ireturn, 1) := qr_o172 hN_cX2_firstAway hn_cX2_firstAway rfl rfl
def nN_cX2_lastAway : Nat := 0xac604400b6040c00b42a606d00b66c00b42c6900b42b2a6600b42c
theorem hN_cX2_lastAway : qr_n cX2_lastAway.data.toList = nN_cX2_lastAway := by decide +kernel
theorem hn_cX2_lastAway : cX2_lastAway.size = 27 := by decide +kernel
theorem dX2_lastAway_0 : decode cX2_lastAway 0 = .ok (.aload_n 2, 1) := qr_o44 hN_cX2_lastAway hn_cX2_lastAway rfl rfl
theorem dX2_lastAway_1 : decode cX2_lastAway 1 = .ok (.getfield 102, 3) := qr_o180 0 102 hN_cX2_lastAway hn_cX2_lastAway rfl rfl rfl rfl
theorem dX2_lastAway_4 : decode cX2_lastAway 4 = .ok (.aload_n 0, 1) := qr_o42 hN_cX2_lastAway hn_cX2_lastAway rfl rfl
theorem dX2_lastAway_5 : decode cX2_lastAway 5 = .ok (.aload_n 1, 1) := qr_o43 hN_cX2_lastAway hn_cX2_lastAway rfl rfl
theorem dX2_lastAway_6 : decode cX2_lastAway 6 = .ok (.getfield 105, 3) := qr_o180 0 105 hN_cX2_lastAway hn_cX2_lastAway rfl rfl rfl rfl
theorem dX2_lastAway_9 : decode cX2_lastAway 9 = .ok (.aload_n 2, 1) := qr_o44 hN_cX2_lastAway hn_cX2_lastAway rfl rfl
theorem dX2_lastAway_10 : decode cX2_lastAway 10 = .ok (.getfield 108, 3) := qr_o180 0 108 hN_cX2_lastAway hn_cX2_lastAway rfl rfl rfl rfl
theorem dX2_lastAway_13 : decode cX2_lastAway 13 = .ok (.invokevirtual 109, 3) := qr_o182 0 109 hN_cX2_lastAway hn_cX2_lastAway rfl rfl rfl rfl
theorem dX2_lastAway_16 : decode cX2_lastAway 16 = .ok (.iadd, 1) := qr_o96 hN_cX2_lastAway hn_cX2_lastAway rfl rfl
theorem dX2_lastAway_17 : decode cX2_lastAway 17 = .ok (.aload_n 0, 1) := qr_o42 hN_cX2_lastAway hn_cX2_lastAway rfl rfl
theorem dX2_lastAway_18 : decode cX2_lastAway 18 = .ok (.getfield 12, 3) := qr_o180 0 12 hN_cX2_lastAway hn_cX2_lastAway rfl rfl rfl rfl
theorem dX2_lastAway_21 : decode cX2_lastAway 21 = .ok (.iconst 1, 1) := qr_o4 hN_cX2_lastAway hn_cX2_lastAway rfl rfl
theorem dX2_lastAway_22 : decode cX2_lastAway 22 = .ok (.invokevirtual 68, 3) := qr_o182 0 68 hN_cX2_lastAway hn_cX2_lastAway rfl rfl rfl rfl
theorem dX2_lastAway_25 : decode cX2_lastAway 25 = .ok (.iadd, 1) := qr_o96 hN_cX2_lastAway hn_cX2_lastAway rfl rfl
theorem dX2_lastAway_26 : decode cX2_lastAway 26 = .ok (.ireturn, 1) := qr_o172 hN_cX2_lastAway hn_cX2_lastAway rfl rfl
def nN_cX2_shareDays : Nat := 0xac030400a7040700a305156100b8646600b42d6600b42c0536604400b6040c00b42a604400b6030c00b42a04150436606d00b66c00b42d6900b42b2a6d00b66c00b42c6900b42b2a
theorem hN_cX2_shareDays : qr_n cX2_shareDays.data.toList = nN_cX2_shareDays := by decide +kernel
theorem hn_cX2_shareDays : cX2_shareDays.size = 72 := by decide +kernel
theorem dX2_shareDays_0 : decode cX2_shareDays 0 = .ok (.aload_n 0, 1) := qr_o42 hN_cX2_shareDays hn_cX2_shareDays rfl rfl
theorem dX2_shareDays_1 : decode cX2_shareDays 1 = .ok (.aload_n 1, 1) := qr_o43 hN_cX2_shareDays hn_cX2_shareDays rfl rfl
theorem dX2_shareDays_2 : decode cX2_shareDays 2 = .ok (.getfield 105, 3) := qr_o180 0 105 hN_cX2_shareDays hn_cX2_shareDays rfl rfl rfl rfl
theorem dX2_shareDays_5 : decode cX2_shareDays 5 = .ok (.aload_n 2, 1) := qr_o44 hN_cX2_shareDays hn_cX2_shareDays rfl rfl
theorem dX2_shareDays_6 : decode cX2_shareDays 6 = .ok (.getfield 108, 3) := qr_o180 0 108 hN_cX2_shareDays hn_cX2_shareDays rfl rfl rfl rfl
theorem dX2_shareDays_9 : decode cX2_shareDays 9 = .ok (.invokevirtual 109, 3) := qr_o182 0 109 hN_cX2_shareDays hn_cX2_shareDays rfl rfl rfl rfl
theorem dX2_shareDays_12 : decode cX2_shareDays 12 = .ok (.aload_n 0, 1) := qr_o42 hN_cX2_shareDays hn_cX2_shareDays rfl rfl
theorem dX2_shareDays_13 : decode cX2_shareDays 13 = .ok (.aload_n 1, 1) := qr_o43 hN_cX2_shareDays hn_cX2_shareDays rfl rfl
theorem dX2_shareDays_14 : decode cX2_shareDays 14 = .ok (.getfield 105, 3) := qr_o180 0 105 hN_cX2_shareDays hn_cX2_shareDays rfl rfl rfl rfl
theorem dX2_shareDays_17 : decode cX2_shareDays 17 = .ok (.aload_n 3, 1) := qr_o45 hN_cX2_shareDays hn_cX2_shareDays rfl rfl
theorem dX2_shareDays_18 : decode cX2_shareDays 18 = .ok (.getfield 108, 3) := qr_o180 0 108 hN_cX2_shareDays hn_cX2_shareDays rfl rfl rfl rfl
theorem dX2_shareDays_21 : decode cX2_shareDays 21 = .ok (.invokevirtual 109, 3) := qr_o182 0 109 hN_cX2_shareDays hn_cX2_shareDays rfl rfl rfl rfl
theorem dX2_shareDays_24 : decode cX2_shareDays 24 = .ok (.iadd, 1) := qr_o96 hN_cX2_shareDays hn_cX2_shareDays rfl rfl
theorem dX2_shareDays_25 : decode cX2_shareDays 25 = .ok (.istore 4, 2) := qr_o54 4 hN_cX2_shareDays hn_cX2_shareDays rfl rfl rfl
theorem dX2_shareDays_27 : decode cX2_shareDays 27 = .ok (.iload 4, 2) := qr_o21 4 hN_cX2_shareDays hn_cX2_shareDays rfl rfl rfl
theorem dX2_shareDays_29 : decode cX2_shareDays 29 = .ok (.aload_n 0, 1) := qr_o42 hN_cX2_shareDays hn_cX2_shareDays rfl rfl
theorem dX2_shareDays_30 : decode cX2_shareDays 30 = .ok (.getfield 12, 3) := qr_o180 0 12 hN_cX2_shareDays hn_cX2_shareDays rfl rfl rfl rfl
theorem dX2_shareDays_33 : decode cX2_shareDays 33 = .ok (.iconst 0, 1) := qr_o3 hN_cX2_shareDays hn_cX2_shareDays rfl rfl
theorem dX2_shareDays_34 : decode cX2_shareDays 34 = .ok (.invokevirtual 68, 3) := qr_o182 0 68 hN_cX2_shareDays hn_cX2_shareDays rfl rfl rfl rfl
theorem dX2_shareDays_37 : decode cX2_shareDays 37 = .ok (.iadd, 1) := qr_o96 hN_cX2_shareDays hn_cX2_shareDays rfl rfl
theorem dX2_shareDays_38 : decode cX2_shareDays 38 = .ok (.aload_n 0, 1) := qr_o42 hN_cX2_shareDays hn_cX2_shareDays rfl rfl
theorem dX2_shareDays_39 : decode cX2_shareDays 39 = .ok (.getfield 12, 3) := qr_o180 0 12 hN_cX2_shareDays hn_cX2_shareDays rfl rfl rfl rfl
theorem dX2_shareDays_42 : decode cX2_shareDays 42 = .ok (.iconst 1, 1) := qr_o4 hN_cX2_shareDays hn_cX2_shareDays rfl rfl
theorem dX2_shareDays_43 : decode cX2_shareDays 43 = .ok (.invokevirtual 68, 3) := qr_o182 0 68 hN_cX2_shareDays hn_cX2_shareDays rfl rfl rfl rfl
theorem dX2_shareDays_46 : decode cX2_shareDays 46 = .ok (.iadd, 1) := qr_o96 hN_cX2_shareDays hn_cX2_shareDays rfl rfl
theorem dX2_shareDays_47 : decode cX2_shareDays 47 = .ok (.istore 5, 2) := qr_o54 5 hN_cX2_shareDays hn_cX2_shareDays rfl rfl rfl
theorem dX2_shareDays_49 : decode cX2_shareDays 49 = .ok (.aload_n 2, 1) := qr_o44 hN_cX2_shareDays hn_cX2_shareDays rfl rfl
theorem dX2_shareDays_50 : decode cX2_shareDays 50 = .ok (.getfield 102, 3) := qr_o180 0 102 hN_cX2_shareDays hn_cX2_shareDays rfl rfl rfl rfl
theorem dX2_shareDays_53 : decode cX2_shareDays 53 = .ok (.aload_n 3, 1) := qr_o45 hN_cX2_shareDays hn_cX2_shareDays rfl rfl
theorem dX2_shareDays_54 : decode cX2_shareDays 54 = .ok (.getfield 102, 3) := qr_o180 0 102 hN_cX2_shareDays hn_cX2_shareDays rfl rfl rfl rfl
theorem dX2_shareDays_57 : decode cX2_shareDays 57 = .ok (.isub, 1) := qr_o100 hN_cX2_shareDays hn_cX2_shareDays rfl rfl
theorem dX2_shareDays_58 : decode cX2_shareDays 58 = .ok (.invokestatic 97, 3) := qr_o184 0 97 hN_cX2_shareDays hn_cX2_shareDays rfl rfl rfl rfl
theorem dX2_shareDays_61 : decode cX2_shareDays 61 = .ok (.iload 5, 2) := qr_o21 5 hN_cX2_shareDays hn_cX2_shareDays rfl rfl rfl
theorem dX2_shareDays_63 : decode cX2_shareDays 63 = .ok (.if_icmp .gt 7, 3) := qr_o163 0 7 rfl hN_cX2_shareDays hn_cX2_shareDays rfl rfl rfl rfl
theorem dX2_shareDays_66 : decode cX2_shareDays 66 = .ok (.iconst 1, 1) := qr_o4 hN_cX2_shareDays hn_cX2_shareDays rfl rfl
theorem dX2_shareDays_67 : decode cX2_shareDays 67 = .ok (.goto 4, 3) := qr_o167 0 4 rfl hN_cX2_shareDays hn_cX2_shareDays rfl rfl rfl rfl
theorem dX2_shareDays_70 : decode cX2_shareDays 70 = .ok (.iconst 0, 1) := qr_o3 hN_cX2_shareDays hn_cX2_shareDays rfl rfl
theorem dX2_shareDays_71 : decode cX2_shareDays 71 = .ok (.ireturn, 1) := qr_o172 hN_cX2_shareDays hn_cX2_shareDays rfl rfl
def nN_cX2_holderInTheWay : Nat := 0xac1dbfffa70104843e0415acfe1006009f021d0e00a706009a7900b605192c2b2a1c00a62b7500b405192500a52c05192b00c60519053a7100b604152a3e00a23100b42a04150436033e02
theorem hN_cX2_holderInTheWay : qr_n cX2_holderInTheWay.data.toList = nN_cX2_holderInTheWay := by decide +kernel
theorem hn_cX2_holderInTheWay : cX2_holderInTheWay.size = 75 := by decide +kernel
theorem dX2_holderInTheWay_0 : decode cX2_holderInTheWay 0 = .ok (.iconst (-1), 1) := qr_o2 hN_cX2_holderInTheWay hn_cX2_holderInTheWay rfl rfl
theorem dX2_holderInTheWay_1 : decode cX2_holderInTheWay 1 = .ok (.istore_n 3, 1) := qr_o62 hN_cX2_holderInTheWay hn_cX2_holderInTheWay rfl rfl
theorem dX2_holderInTheWay_2 : decode cX2_holderInTheWay 2 = .ok (.iconst 0, 1) := qr_o3 hN_cX2_holderInTheWay hn_cX2_holderInTheWay rfl rfl
theorem dX2_holderInTheWay_3 : decode cX2_holderInTheWay 3 = .ok (.istore 4, 2) := qr_o54 4 hN_cX2_holderInTheWay hn_cX2_holderInTheWay rfl rfl rfl
theorem dX2_holderInTheWay_5 : decode cX2_holderInTheWay 5 = .ok (.iload 4, 2) := qr_o21 4 hN_cX2_holderInTheWay hn_cX2_holderInTheWay rfl rfl rfl
theorem dX2_holderInTheWay_7 : decode cX2_holderInTheWay 7 = .ok (.aload_n 0, 1) := qr_o42 hN_cX2_holderInTheWay hn_cX2_holderInTheWay rfl rfl
theorem dX2_holderInTheWay_8 : decode cX2_holderInTheWay 8 = .ok (.getfield 49, 3) := qr_o180 0 49 hN_cX2_holderInTheWay hn_cX2_holderInTheWay rfl rfl rfl rfl
theorem dX2_holderInTheWay_11 : decode cX2_holderInTheWay 11 = .ok (.if_icmp .ge 62, 3) := qr_o162 0 62 rfl hN_cX2_holderInTheWay hn_cX2_holderInTheWay rfl rfl rfl rfl
theorem dX2_holderInTheWay_14 : decode cX2_holderInTheWay 14 = .ok (.aload_n 0, 1) := qr_o42 hN_cX2_holderInTheWay hn_cX2_holderInTheWay rfl rfl
theorem dX2_holderInTheWay_15 : decode cX2_holderInTheWay 15 = .ok (.iload 4, 2) := qr_o21 4 hN_cX2_holderInTheWay hn_cX2_holderInTheWay rfl rfl rfl
theorem dX2_holderInTheWay_17 : decode cX2_holderInTheWay 17 = .ok (.invokevirtual 113, 3) := qr_o182 0 113 hN_cX2_holderInTheWay hn_cX2_holderInTheWay rfl rfl rfl rfl
theorem dX2_holderInTheWay_20 : decode cX2_holderInTheWay 20 = .ok (.astore 5, 2) := qr_o58 5 hN_cX2_holderInTheWay hn_cX2_holderInTheWay rfl rfl rfl
theorem dX2_holderInTheWay_22 : decode cX2_holderInTheWay 22 = .ok (.aload 5, 2) := qr_o25 5 hN_cX2_holderInTheWay hn_cX2_holderInTheWay rfl rfl rfl
theorem dX2_holderInTheWay_24 : decode cX2_holderInTheWay 24 = .ok (.ifnull 43, 3) := qr_o198 0 43 rfl hN_cX2_holderInTheWay hn_cX2_holderInTheWay rfl rfl rfl rfl
theorem dX2_holderInTheWay_27 : decode cX2_holderInTheWay 27 = .ok (.aload 5, 2) := qr_o25 5 hN_cX2_holderInTheWay hn_cX2_holderInTheWay rfl rfl rfl
theorem dX2_holderInTheWay_29 : decode cX2_holderInTheWay 29 = .ok (.aload_n 2, 1) := qr_o44 hN_cX2_holderInTheWay hn_cX2_holderInTheWay rfl rfl
theorem dX2_holderInTheWay_30 : decode cX2_holderInTheWay 30 = .ok (.if_acmp .eq 37, 3) := qr_o165 0 37 rfl hN_cX2_holderInTheWay hn_cX2_holderInTheWay rfl rfl rfl rfl
theorem dX2_holderInTheWay_33 : decode cX2_holderInTheWay 33 = .ok (.aload 5, 2) := qr_o25 5 hN_cX2_holderInTheWay hn_cX2_holderInTheWay rfl rfl rfl
theorem dX2_holderInTheWay_35 : decode cX2_holderInTheWay 35 = .ok (.getfield 117, 3) := qr_o180 0 117 hN_cX2_holderInTheWay hn_cX2_holderInTheWay rfl rfl rfl rfl
theorem dX2_holderInTheWay_38 : decode cX2_holderInTheWay 38 = .ok (.aload_n 1, 1) := qr_o43 hN_cX2_holderInTheWay hn_cX2_holderInTheWay rfl rfl
theorem dX2_holderInTheWay_39 : decode cX2_holderInTheWay 39 = .ok (.if_acmp .ne 28, 3) := qr_o166 0 28 rfl hN_cX2_holderInTheWay hn_cX2_holderInTheWay rfl rfl rfl rfl
theorem dX2_holderInTheWay_42 : decode cX2_holderInTheWay 42 = .ok (.aload_n 0, 1) := qr_o42 hN_cX2_holderInTheWay hn_cX2_holderInTheWay rfl rfl
theorem dX2_holderInTheWay_43 : decode cX2_holderInTheWay 43 = .ok (.aload_n 1, 1) := qr_o43 hN_cX2_holderInTheWay hn_cX2_holderInTheWay rfl rfl
theorem dX2_holderInTheWay_44 : decode cX2_holderInTheWay 44 = .ok (.aload_n 2, 1) := qr_o44 hN_cX2_holderInTheWay hn_cX2_holderInTheWay rfl rfl
theorem dX2_holderInTheWay_45 : decode cX2_holderInTheWay 45 = .ok (.aload 5, 2) := qr_o25 5 hN_cX2_holderInTheWay hn_cX2_holderInTheWay rfl rfl rfl
theorem dX2_holderInTheWay_47 : decode cX2_holderInTheWay 47 = .ok (.invokevirtual 121, 3) := qr_o182 0 121 hN_cX2_holderInTheWay hn_cX2_holderInTheWay rfl rfl rfl rfl
theorem dX2_holderInTheWay_50 : decode cX2_holderInTheWay 50 = .ok (.ifCond .ne 6, 3) := qr_o154 0 6 rfl hN_cX2_holderInTheWay hn_cX2_holderInTheWay rfl rfl rfl rfl
theorem dX2_holderInTheWay_53 : decode cX2_holderInTheWay 53 = .ok (.goto 14, 3) := qr_o167 0 14 rfl hN_cX2_holderInTheWay hn_cX2_holderInTheWay rfl rfl rfl rfl
theorem dX2_holderInTheWay_56 : decode cX2_holderInTheWay 56 = .ok (.iload_n 3, 1) := qr_o29 hN_cX2_holderInTheWay hn_cX2_holderInTheWay rfl rfl
theorem dX2_holderInTheWay_57 : decode cX2_holderInTheWay 57 = .ok (.iconst (-1), 1) := qr_o2 hN_cX2_holderInTheWay hn_cX2_holderInTheWay rfl rfl
theorem dX2_holderInTheWay_58 : decode cX2_holderInTheWay 58 = .ok (.if_icmp .eq 6, 3) := qr_o159 0 6 rfl hN_cX2_holderInTheWay hn_cX2_holderInTheWay rfl rfl rfl rfl
theorem dX2_holderInTheWay_61 : decode cX2_holderInTheWay 61 = .ok (.bipush (-2), 2) := qr_w16 254 2 rfl rfl hN_cX2_holderInTheWay hn_cX2_holderInTheWay rfl rfl rfl
theorem dX2_holderInTheWay_63 : decode cX2_holderInTheWay 63 = .ok (.ireturn, 1) := qr_o172 hN_cX2_holderInTheWay hn_cX2_holderInTheWay rfl rfl
theorem dX2_holderInTheWay_64 : decode cX2_holderInTheWay 64 = .ok (.iload 4, 2) := qr_o21 4 hN_cX2_holderInTheWay hn_cX2_holderInTheWay rfl rfl rfl
theorem dX2_holderInTheWay_66 : decode cX2_holderInTheWay 66 = .ok (.istore_n 3, 1) := qr_o62 hN_cX2_holderInTheWay hn_cX2_holderInTheWay rfl rfl
theorem dX2_holderInTheWay_67 : decode cX2_holderInTheWay 67 = .ok (.iinc 4 1, 3) := qr_o132 4 1 rfl hN_cX2_holderInTheWay hn_cX2_holderInTheWay rfl rfl rfl rfl
theorem dX2_holderInTheWay_70 : decode cX2_holderInTheWay 70 = .ok (.goto (-65), 3) := qr_w167 255 191 65 rfl rfl hN_cX2_holderInTheWay hn_cX2_holderInTheWay rfl rfl rfl rfl
theorem dX2_holderInTheWay_73 : decode cX2_holderInTheWay 73 = .ok (.iload_n 3, 1) := qr_o29 hN_cX2_holderInTheWay hn_cX2_holderInTheWay rfl rfl
theorem dX2_holderInTheWay_74 : decode cX2_holderInTheWay 74 = .ok (.ireturn, 1) := qr_o172 hN_cX2_holderInTheWay hn_cX2_holderInTheWay rfl rfl
def nN_cX2_isFree : Nat := 0xac030400a7040700a0028000b62c2b2a1100997d00b66600b42c2b
theorem hN_cX2_isFree : qr_n cX2_isFree.data.toList = nN_cX2_isFree := by decide +kernel
theorem hn_cX2_isFree : cX2_isFree.size = 27 := by decide +kernel
theorem dX2_isFree_0 : decode cX2_isFree 0 = .ok (.aload_n 1, 1) := qr_o43 hN_cX2_isFree hn_cX2_isFree rfl rfl
theorem dX2_isFree_1 : decode cX2_isFree 1 = .ok (.aload_n 2, 1) := qr_o44 hN_cX2_isFree hn_cX2_isFree rfl rfl
theorem dX2_isFree_2 : decode cX2_isFree 2 = .ok (.getfield 102, 3) := qr_o180 0 102 hN_cX2_isFree hn_cX2_isFree rfl rfl rfl rfl
theorem dX2_isFree_5 : decode cX2_isFree 5 = .ok (.invokevirtual 125, 3) := qr_o182 0 125 hN_cX2_isFree hn_cX2_isFree rfl rfl rfl rfl
theorem dX2_isFree_8 : decode cX2_isFree 8 = .ok (.ifCond .eq 17, 3) := qr_o153 0 17 rfl hN_cX2_isFree hn_cX2_isFree rfl rfl rfl rfl
theorem dX2_isFree_11 : decode cX2_isFree 11 = .ok (.aload_n 0, 1) := qr_o42 hN_cX2_isFree hn_cX2_isFree rfl rfl
theorem dX2_isFree_12 : decode cX2_isFree 12 = .ok (.aload_n 1, 1) := qr_o43 hN_cX2_isFree hn_cX2_isFree rfl rfl
theorem dX2_isFree_13 : decode cX2_isFree 13 = .ok (.aload_n 2, 1) := qr_o44 hN_cX2_isFree hn_cX2_isFree rfl rfl
theorem dX2_isFree_14 : decode cX2_isFree 14 = .ok (.invokevirtual 128, 3) := qr_o182 0 128 hN_cX2_isFree hn_cX2_isFree rfl rfl rfl rfl
theorem dX2_isFree_17 : decode cX2_isFree 17 = .ok (.iconst (-1), 1) := qr_o2 hN_cX2_isFree hn_cX2_isFree rfl rfl
theorem dX2_isFree_18 : decode cX2_isFree 18 = .ok (.if_icmp .ne 7, 3) := qr_o160 0 7 rfl hN_cX2_isFree hn_cX2_isFree rfl rfl rfl rfl
theorem dX2_isFree_21 : decode cX2_isFree 21 = .ok (.iconst 1, 1) := qr_o4 hN_cX2_isFree hn_cX2_isFree rfl rfl
theorem dX2_isFree_22 : decode cX2_isFree 22 = .ok (.goto 4, 3) := qr_o167 0 4 rfl hN_cX2_isFree hn_cX2_isFree rfl rfl rfl rfl
theorem dX2_isFree_25 : decode cX2_isFree 25 = .ok (.iconst 0, 1) := qr_o3 hN_cX2_isFree hn_cX2_isFree rfl rfl
theorem dX2_isFree_26 : decode cX2_isFree 26 = .ok (.ireturn, 1) := qr_o172 hN_cX2_isFree hn_cX2_isFree rfl rfl
def nN_cX2_bestFor : Nat := 0xb02db0ffa70104844e05190600999200b62b2d05192a0e00c62d1500998f00b62b05192a1f00998b00b62b05192a2900a706009f1c8800b405190f009f021c3a00c60519053a8400b604152a4d00a22d00b42a04150436034e01
theorem hN_cX2_bestFor : qr_n cX2_bestFor.data.toList = nN_cX2_bestFor := by decide +kernel
theorem hn_cX2_bestFor : cX2_bestFor.size = 90 := by decide +kernel
theorem dX2_bestFor_0 : decode cX2_bestFor 0 = .ok (.aconst_null, 1) := qr_o1 hN_cX2_bestFor hn_cX2_bestFor rfl rfl
theorem dX2_bestFor_1 : decode cX2_bestFor 1 = .ok (.astore_n 3, 1) := qr_o78 hN_cX2_bestFor hn_cX2_bestFor rfl rfl
theorem dX2_bestFor_2 : decode cX2_bestFor 2 = .ok (.iconst 0, 1) := qr_o3 hN_cX2_bestFor hn_cX2_bestFor rfl rfl
theorem dX2_bestFor_3 : decode cX2_bestFor 3 = .ok (.istore 4, 2) := qr_o54 4 hN_cX2_bestFor hn_cX2_bestFor rfl rfl rfl
theorem dX2_bestFor_5 : decode cX2_bestFor 5 = .ok (.iload 4, 2) := qr_o21 4 hN_cX2_bestFor hn_cX2_bestFor rfl rfl rfl
theorem dX2_bestFor_7 : decode cX2_bestFor 7 = .ok (.aload_n 0, 1) := qr_o42 hN_cX2_bestFor hn_cX2_bestFor rfl rfl
theorem dX2_bestFor_8 : decode cX2_bestFor 8 = .ok (.getfield 45, 3) := qr_o180 0 45 hN_cX2_bestFor hn_cX2_bestFor rfl rfl rfl rfl
theorem dX2_bestFor_11 : decode cX2_bestFor 11 = .ok (.if_icmp .ge 77, 3) := qr_o162 0 77 rfl hN_cX2_bestFor hn_cX2_bestFor rfl rfl rfl rfl
theorem dX2_bestFor_14 : decode cX2_bestFor 14 = .ok (.aload_n 0, 1) := qr_o42 hN_cX2_bestFor hn_cX2_bestFor rfl rfl
theorem dX2_bestFor_15 : decode cX2_bestFor 15 = .ok (.iload 4, 2) := qr_o21 4 hN_cX2_bestFor hn_cX2_bestFor rfl rfl rfl
theorem dX2_bestFor_17 : decode cX2_bestFor 17 = .ok (.invokevirtual 132, 3) := qr_o182 0 132 hN_cX2_bestFor hn_cX2_bestFor rfl rfl rfl rfl
theorem dX2_bestFor_20 : decode cX2_bestFor 20 = .ok (.astore 5, 2) := qr_o58 5 hN_cX2_bestFor hn_cX2_bestFor rfl rfl rfl
theorem dX2_bestFor_22 : decode cX2_bestFor 22 = .ok (.aload 5, 2) := qr_o25 5 hN_cX2_bestFor hn_cX2_bestFor rfl rfl rfl
theorem dX2_bestFor_24 : decode cX2_bestFor 24 = .ok (.ifnull 58, 3) := qr_o198 0 58 rfl hN_cX2_bestFor hn_cX2_bestFor rfl rfl rfl rfl
theorem dX2_bestFor_27 : decode cX2_bestFor 27 = .ok (.iload_n 2, 1) := qr_o28 hN_cX2_bestFor hn_cX2_bestFor rfl rfl
theorem dX2_bestFor_28 : decode cX2_bestFor 28 = .ok (.iconst (-1), 1) := qr_o2 hN_cX2_bestFor hn_cX2_bestFor rfl rfl
theorem dX2_bestFor_29 : decode cX2_bestFor 29 = .ok (.if_icmp .eq 15, 3) := qr_o159 0 15 rfl hN_cX2_bestFor hn_cX2_bestFor rfl rfl rfl rfl
theorem dX2_bestFor_32 : decode cX2_bestFor 32 = .ok (.aload 5, 2) := qr_o25 5 hN_cX2_bestFor hn_cX2_bestFor rfl rfl rfl
theorem dX2_bestFor_34 : decode cX2_bestFor 34 = .ok (.getfield 136, 3) := qr_o180 0 136 hN_cX2_bestFor hn_cX2_bestFor rfl rfl rfl rfl
theorem dX2_bestFor_37 : decode cX2_bestFor 37 = .ok (.iload_n 2, 1) := qr_o28 hN_cX2_bestFor hn_cX2_bestFor rfl rfl
theorem dX2_bestFor_38 : decode cX2_bestFor 38 = .ok (.if_icmp .eq 6, 3) := qr_o159 0 6 rfl hN_cX2_bestFor hn_cX2_bestFor rfl rfl rfl rfl
theorem dX2_bestFor_41 : decode cX2_bestFor 41 = .ok (.goto 41, 3) := qr_o167 0 41 rfl hN_cX2_bestFor hn_cX2_bestFor rfl rfl rfl rfl
theorem dX2_bestFor_44 : decode cX2_bestFor 44 = .ok (.aload_n 0, 1) := qr_o42 hN_cX2_bestFor hn_cX2_bestFor rfl rfl
theorem dX2_bestFor_45 : decode cX2_bestFor 45 = .ok (.aload 5, 2) := qr_o25 5 hN_cX2_bestFor hn_cX2_bestFor rfl rfl rfl
theorem dX2_bestFor_47 : decode cX2_bestFor 47 = .ok (.aload_n 1, 1) := qr_o43 hN_cX2_bestFor hn_cX2_bestFor rfl rfl
theorem dX2_bestFor_48 : decode cX2_bestFor 48 = .ok (.invokevirtual 139, 3) := qr_o182 0 139 hN_cX2_bestFor hn_cX2_bestFor rfl rfl rfl rfl
theorem dX2_bestFor_51 : decode cX2_bestFor 51 = .ok (.ifCond .eq 31, 3) := qr_o153 0 31 rfl hN_cX2_bestFor hn_cX2_bestFor rfl rfl rfl rfl
theorem dX2_bestFor_54 : decode cX2_bestFor 54 = .ok (.aload_n 0, 1) := qr_o42 hN_cX2_bestFor hn_cX2_bestFor rfl rfl
theorem dX2_bestFor_55 : decode cX2_bestFor 55 = .ok (.aload 5, 2) := qr_o25 5 hN_cX2_bestFor hn_cX2_bestFor rfl rfl rfl
theorem dX2_bestFor_57 : decode cX2_bestFor 57 = .ok (.aload_n 1, 1) := qr_o43 hN_cX2_bestFor hn_cX2_bestFor rfl rfl
theorem dX2_bestFor_58 : decode cX2_bestFor 58 = .ok (.invokevirtual 143, 3) := qr_o182 0 143 hN_cX2_bestFor hn_cX2_bestFor rfl rfl rfl rfl
theorem dX2_bestFor_61 : decode cX2_bestFor 61 = .ok (.ifCond .eq 21, 3) := qr_o153 0 21 rfl hN_cX2_bestFor hn_cX2_bestFor rfl rfl rfl rfl
theorem dX2_bestFor_64 : decode cX2_bestFor 64 = .ok (.aload_n 3, 1) := qr_o45 hN_cX2_bestFor hn_cX2_bestFor rfl rfl
theorem dX2_bestFor_65 : decode cX2_bestFor 65 = .ok (.ifnull 14, 3) := qr_o198 0 14 rfl hN_cX2_bestFor hn_cX2_bestFor rfl rfl rfl rfl
theorem dX2_bestFor_68 : decode cX2_bestFor 68 = .ok (.aload_n 0, 1) := qr_o42 hN_cX2_bestFor hn_cX2_bestFor rfl rfl
theorem dX2_bestFor_69 : decode cX2_bestFor 69 = .ok (.aload 5, 2) := qr_o25 5 hN_cX2_bestFor hn_cX2_bestFor rfl rfl rfl
theorem dX2_bestFor_71 : decode cX2_bestFor 71 = .ok (.aload_n 3, 1) := qr_o45 hN_cX2_bestFor hn_cX2_bestFor rfl rfl
theorem dX2_bestFor_72 : decode cX2_bestFor 72 = .ok (.aload_n 1, 1) := qr_o43 hN_cX2_bestFor hn_cX2_bestFor rfl rfl
theorem dX2_bestFor_73 : decode cX2_bestFor 73 = .ok (.invokevirtual 146, 3) := qr_o182 0 146 hN_cX2_bestFor hn_cX2_bestFor rfl rfl rfl rfl
theorem dX2_bestFor_76 : decode cX2_bestFor 76 = .ok (.ifCond .eq 6, 3) := qr_o153 0 6 rfl hN_cX2_bestFor hn_cX2_bestFor rfl rfl rfl rfl
theorem dX2_bestFor_79 : decode cX2_bestFor 79 = .ok (.aload 5, 2) := qr_o25 5 hN_cX2_bestFor hn_cX2_bestFor rfl rfl rfl
theorem dX2_bestFor_81 : decode cX2_bestFor 81 = .ok (.astore_n 3, 1) := qr_o78 hN_cX2_bestFor hn_cX2_bestFor rfl rfl
theorem dX2_bestFor_82 : decode cX2_bestFor 82 = .ok (.iinc 4 1, 3) := qr_o132 4 1 rfl hN_cX2_bestFor hn_cX2_bestFor rfl rfl rfl rfl
theorem dX2_bestFor_85 : decode cX2_bestFor 85 = .ok (.goto (-80), 3) := qr_w167 255 176 80 rfl rfl hN_cX2_bestFor hn_cX2_bestFor rfl rfl rfl rfl
theorem dX2_bestFor_88 : decode cX2_bestFor 88 = .ok (.aload_n 3, 1) := qr_o45 hN_cX2_bestFor hn_cX2_bestFor rfl rfl
theorem dX2_bestFor_89 : decode cX2_bestFor 89 = .ok (.areturn, 1) := qr_o176 hN_cX2_bestFor hn_cX2_bestFor rfl rfl
def nN_cX2_isBetter : Nat := 0xac030400a7040700a26d00b66c00b42d6900b42c2a6d00b66c00b42d6900b42b2aac030400a7040700a20515041510009f0515041505369600b62d2c2a04369600b62d2b2a
theorem hN_cX2_isBetter : qr_n cX2_isBetter.data.toList = nN_cX2_isBetter := by decide +kernel
theorem hn_cX2_isBetter : cX2_isBetter.size = 69 := by decide +kernel
theorem dX2_isBetter_0 : decode cX2_isBetter 0 = .ok (.aload_n 0, 1) := qr_o42 hN_cX2_isBetter hn_cX2_isBetter rfl rfl
theorem dX2_isBetter_1 : decode cX2_isBetter 1 = .ok (.aload_n 1, 1) := qr_o43 hN_cX2_isBetter hn_cX2_isBetter rfl rfl
theorem dX2_isBetter_2 : decode cX2_isBetter 2 = .ok (.aload_n 3, 1) := qr_o45 hN_cX2_isBetter hn_cX2_isBetter rfl rfl
theorem dX2_isBetter_3 : decode cX2_isBetter 3 = .ok (.invokevirtual 150, 3) := qr_o182 0 150 hN_cX2_isBetter hn_cX2_isBetter rfl rfl rfl rfl
theorem dX2_isBetter_6 : decode cX2_isBetter 6 = .ok (.istore 4, 2) := qr_o54 4 hN_cX2_isBetter hn_cX2_isBetter rfl rfl rfl
theorem dX2_isBetter_8 : decode cX2_isBetter 8 = .ok (.aload_n 0, 1) := qr_o42 hN_cX2_isBetter hn_cX2_isBetter rfl rfl
theorem dX2_isBetter_9 : decode cX2_isBetter 9 = .ok (.aload_n 2, 1) := qr_o44 hN_cX2_isBetter hn_cX2_isBetter rfl rfl
theorem dX2_isBetter_10 : decode cX2_isBetter 10 = .ok (.aload_n 3, 1) := qr_o45 hN_cX2_isBetter hn_cX2_isBetter rfl rfl
theorem dX2_isBetter_11 : decode cX2_isBetter 11 = .ok (.invokevirtual 150, 3) := qr_o182 0 150 hN_cX2_isBetter hn_cX2_isBetter rfl rfl rfl rfl
theorem dX2_isBetter_14 : decode cX2_isBetter 14 = .ok (.istore 5, 2) := qr_o54 5 hN_cX2_isBetter hn_cX2_isBetter rfl rfl rfl
theorem dX2_isBetter_16 : decode cX2_isBetter 16 = .ok (.iload 4, 2) := qr_o21 4 hN_cX2_isBetter hn_cX2_isBetter rfl rfl rfl
theorem dX2_isBetter_18 : decode cX2_isBetter 18 = .ok (.iload 5, 2) := qr_o21 5 hN_cX2_isBetter hn_cX2_isBetter rfl rfl rfl
theorem dX2_isBetter_20 : decode cX2_isBetter 20 = .ok (.if_icmp .eq 16, 3) := qr_o159 0 16 rfl hN_cX2_isBetter hn_cX2_isBetter rfl rfl rfl rfl
theorem dX2_isBetter_23 : decode cX2_isBetter 23 = .ok (.iload 4, 2) := qr_o21 4 hN_cX2_isBetter hn_cX2_isBetter rfl rfl rfl
theorem dX2_isBetter_25 : decode cX2_isBetter 25 = .ok (.iload 5, 2) := qr_o21 5 hN_cX2_isBetter hn_cX2_isBetter rfl rfl rfl
theorem dX2_isBetter_27 : decode cX2_isBetter 27 = .ok (.if_icmp .ge 7, 3) := qr_o162 0 7 rfl hN_cX2_isBetter hn_cX2_isBetter rfl rfl rfl rfl
theorem dX2_isBetter_30 : decode cX2_isBetter 30 = .ok (.iconst 1, 1) := qr_o4 hN_cX2_isBetter hn_cX2_isBetter rfl rfl
theorem dX2_isBetter_31 : decode cX2_isBetter 31 = .ok (.goto 4, 3) := qr_o167 0 4 rfl hN_cX2_isBetter hn_cX2_isBetter rfl rfl rfl rfl
theorem dX2_isBetter_34 : decode cX2_isBetter 34 = .ok (.iconst 0, 1) := qr_o3 hN_cX2_isBetter hn_cX2_isBetter rfl rfl
theorem dX2_isBetter_35 : decode cX2_isBetter 35 = .ok (.ireturn, 1) := qr_o172 hN_cX2_isBetter hn_cX2_isBetter rfl rfl
theorem dX2_isBetter_36 : decode cX2_isBetter 36 = .ok (.aload_n 0, 1) := qr_o42 hN_cX2_isBetter hn_cX2_isBetter rfl rfl
theorem dX2_isBetter_37 : decode cX2_isBetter 37 = .ok (.aload_n 1, 1) := qr_o43 hN_cX2_isBetter hn_cX2_isBetter rfl rfl
theorem dX2_isBetter_38 : decode cX2_isBetter 38 = .ok (.getfield 105, 3) := qr_o180 0 105 hN_cX2_isBetter hn_cX2_isBetter rfl rfl rfl rfl
theorem dX2_isBetter_41 : decode cX2_isBetter 41 = .ok (.aload_n 3, 1) := qr_o45 hN_cX2_isBetter hn_cX2_isBetter rfl rfl
theorem dX2_isBetter_42 : decode cX2_isBetter 42 = .ok (.getfield 108, 3) := qr_o180 0 108 hN_cX2_isBetter hn_cX2_isBetter rfl rfl rfl rfl
theorem dX2_isBetter_45 : decode cX2_isBetter 45 = .ok (.invokevirtual 109, 3) := qr_o182 0 109 hN_cX2_isBetter hn_cX2_isBetter rfl rfl rfl rfl
theorem dX2_isBetter_48 : decode cX2_isBetter 48 = .ok (.aload_n 0, 1) := qr_o42 hN_cX2_isBetter hn_cX2_isBetter rfl rfl
theorem dX2_isBetter_49 : decode cX2_isBetter 49 = .ok (.aload_n 2, 1) := qr_o44 hN_cX2_isBetter hn_cX2_isBetter rfl rfl
theorem dX2_isBetter_50 : decode cX2_isBetter 50 = .ok (.getfield 105, 3) := qr_o180 0 105 hN_cX2_isBetter hn_cX2_isBetter rfl rfl rfl rfl
theorem dX2_isBetter_53 : decode cX2_isBetter 53 = .ok (.aload_n 3, 1) := qr_o45 hN_cX2_isBetter hn_cX2_isBetter rfl rfl
theorem dX2_isBetter_54 : decode cX2_isBetter 54 = .ok (.getfield 108, 3) := qr_o180 0 108 hN_cX2_isBetter hn_cX2_isBetter rfl rfl rfl rfl
theorem dX2_isBetter_57 : decode cX2_isBetter 57 = .ok (.invokevirtual 109, 3) := qr_o182 0 109 hN_cX2_isBetter hn_cX2_isBetter rfl rfl rfl rfl
theorem dX2_isBetter_60 : decode cX2_isBetter 60 = .ok (.if_icmp .ge 7, 3) := qr_o162 0 7 rfl hN_cX2_isBetter hn_cX2_isBetter rfl rfl rfl rfl
theorem dX2_isBetter_63 : decode cX2_isBetter 63 = .ok (.iconst 1, 1) := qr_o4 hN_cX2_isBetter hn_cX2_isBetter rfl rfl
theorem dX2_isBetter_64 : decode cX2_isBetter 64 = .ok (.goto 4, 3) := qr_o167 0 4 rfl hN_cX2_isBetter hn_cX2_isBetter rfl rfl rfl rfl
theorem dX2_isBetter_67 : decode cX2_isBetter 67 = .ok (.iconst 0, 1) := qr_o3 hN_cX2_isBetter hn_cX2_isBetter rfl rfl
theorem dX2_isBetter_68 : decode cX2_isBetter 68 = .ok (.ireturn, 1) := qr_o172 hN_cX2_isBetter hn_cX2_isBetter rfl rfl
def nN_cX2_takeFromNights : Nat := 0xac1dc4ffa70104840103847500b50105190c009a9900b605191400a11c6600b405191d00a62b7500b405192600c60519053a7100b604152a3900a23100b42a04150436033e03
theorem hN_cX2_takeFromNights : qr_n cX2_takeFromNights.data.toList = nN_cX2_takeFromNights := by decide +kernel
theorem hn_cX2_takeFromNights : cX2_takeFromNights.size = 70 := by decide +kernel
theorem dX2_takeFromNights_0 : decode cX2_takeFromNights 0 = .ok (.iconst 0, 1) := qr_o3 hN_cX2_takeFromNights hn_cX2_takeFromNights rfl rfl
theorem dX2_takeFromNights_1 : decode cX2_takeFromNights 1 = .ok (.istore_n 3, 1) := qr_o62 hN_cX2_takeFromNights hn_cX2_takeFromNights rfl rfl
theorem dX2_takeFromNights_2 : decode cX2_takeFromNights 2 = .ok (.iconst 0, 1) := qr_o3 hN_cX2_takeFromNights hn_cX2_takeFromNights rfl rfl
theorem dX2_takeFromNights_3 : decode cX2_takeFromNights 3 = .ok (.istore 4, 2) := qr_o54 4 hN_cX2_takeFromNights hn_cX2_takeFromNights rfl rfl rfl
theorem dX2_takeFromNights_5 : decode cX2_takeFromNights 5 = .ok (.iload 4, 2) := qr_o21 4 hN_cX2_takeFromNights hn_cX2_takeFromNights rfl rfl rfl
theorem dX2_takeFromNights_7 : decode cX2_takeFromNights 7 = .ok (.aload_n 0, 1) := qr_o42 hN_cX2_takeFromNights hn_cX2_takeFromNights rfl rfl
theorem dX2_takeFromNights_8 : decode cX2_takeFromNights 8 = .ok (.getfield 49, 3) := qr_o180 0 49 hN_cX2_takeFromNights hn_cX2_takeFromNights rfl rfl rfl rfl
theorem dX2_takeFromNights_11 : decode cX2_takeFromNights 11 = .ok (.if_icmp .ge 57, 3) := qr_o162 0 57 rfl hN_cX2_takeFromNights hn_cX2_takeFromNights rfl rfl rfl rfl
theorem dX2_takeFromNights_14 : decode cX2_takeFromNights 14 = .ok (.aload_n 0, 1) := qr_o42 hN_cX2_takeFromNights hn_cX2_takeFromNights rfl rfl
theorem dX2_takeFromNights_15 : decode cX2_takeFromNights 15 = .ok (.iload 4, 2) := qr_o21 4 hN_cX2_takeFromNights hn_cX2_takeFromNights rfl rfl rfl
theorem dX2_takeFromNights_17 : decode cX2_takeFromNights 17 = .ok (.invokevirtual 113, 3) := qr_o182 0 113 hN_cX2_takeFromNights hn_cX2_takeFromNights rfl rfl rfl rfl
theorem dX2_takeFromNights_20 : decode cX2_takeFromNights 20 = .ok (.astore 5, 2) := qr_o58 5 hN_cX2_takeFromNights hn_cX2_takeFromNights rfl rfl rfl
theorem dX2_takeFromNights_22 : decode cX2_takeFromNights 22 = .ok (.aload 5, 2) := qr_o25 5 hN_cX2_takeFromNights hn_cX2_takeFromNights rfl rfl rfl
theorem dX2_takeFromNights_24 : decode cX2_takeFromNights 24 = .ok (.ifnull 38, 3) := qr_o198 0 38 rfl hN_cX2_takeFromNights hn_cX2_takeFromNights rfl rfl rfl rfl
theorem dX2_takeFromNights_27 : decode cX2_takeFromNights 27 = .ok (.aload 5, 2) := qr_o25 5 hN_cX2_takeFromNights hn_cX2_takeFromNights rfl rfl rfl
theorem dX2_takeFromNights_29 : decode cX2_takeFromNights 29 = .ok (.getfield 117, 3) := qr_o180 0 117 hN_cX2_takeFromNights hn_cX2_takeFromNights rfl rfl rfl rfl
theorem dX2_takeFromNights_32 : decode cX2_takeFromNights 32 = .ok (.aload_n 1, 1) := qr_o43 hN_cX2_takeFromNights hn_cX2_takeFromNights rfl rfl
theorem dX2_takeFromNights_33 : decode cX2_takeFromNights 33 = .ok (.if_acmp .ne 29, 3) := qr_o166 0 29 rfl hN_cX2_takeFromNights hn_cX2_takeFromNights rfl rfl rfl rfl
theorem dX2_takeFromNights_36 : decode cX2_takeFromNights 36 = .ok (.aload 5, 2) := qr_o25 5 hN_cX2_takeFromNights hn_cX2_takeFromNights rfl rfl rfl
theorem dX2_takeFromNights_38 : decode cX2_takeFromNights 38 = .ok (.getfield 102, 3) := qr_o180 0 102 hN_cX2_takeFromNights hn_cX2_takeFromNights rfl rfl rfl rfl
theorem dX2_takeFromNights_41 : decode cX2_takeFromNights 41 = .ok (.iload_n 2, 1) := qr_o28 hN_cX2_takeFromNights hn_cX2_takeFromNights rfl rfl
theorem dX2_takeFromNights_42 : decode cX2_takeFromNights 42 = .ok (.if_icmp .lt 20, 3) := qr_o161 0 20 rfl hN_cX2_takeFromNights hn_cX2_takeFromNights rfl rfl rfl rfl
theorem dX2_takeFromNights_45 : decode cX2_takeFromNights 45 = .ok (.aload 5, 2) := qr_o25 5 hN_cX2_takeFromNights hn_cX2_takeFromNights rfl rfl rfl
theorem dX2_takeFromNights_47 : decode cX2_takeFromNights 47 = .ok (.invokevirtual 153, 3) := qr_o182 0 153 hN_cX2_takeFromNights hn_cX2_takeFromNights rfl rfl rfl rfl
theorem dX2_takeFromNights_50 : decode cX2_takeFromNights 50 = .ok (.ifCond .ne 12, 3) := qr_o154 0 12 rfl hN_cX2_takeFromNights hn_cX2_takeFromNights rfl rfl rfl rfl
theorem dX2_takeFromNights_53 : decode cX2_takeFromNights 53 = .ok (.aload 5, 2) := qr_o25 5 hN_cX2_takeFromNights hn_cX2_takeFromNights rfl rfl rfl
theorem dX2_takeFromNights_55 : decode cX2_takeFromNights 55 = .ok (.aconst_null, 1) := qr_o1 hN_cX2_takeFromNights hn_cX2_takeFromNights rfl rfl
theorem dX2_takeFromNights_56 : decode cX2_takeFromNights 56 = .ok (.putfield 117, 3) := qr_o181 0 117 hN_cX2_takeFromNights hn_cX2_takeFromNights rfl rfl rfl rfl
theorem dX2_takeFromNights_59 : decode cX2_takeFromNights 59 = .ok (.iinc 3 1, 3) := qr_o132 3 1 rfl hN_cX2_takeFromNights hn_cX2_takeFromNights rfl rfl rfl rfl
theorem dX2_takeFromNights_62 : decode cX2_takeFromNights 62 = .ok (.iinc 4 1, 3) := qr_o132 4 1 rfl hN_cX2_takeFromNights hn_cX2_takeFromNights rfl rfl rfl rfl
theorem dX2_takeFromNights_65 : decode cX2_takeFromNights 65 = .ok (.goto (-60), 3) := qr_w167 255 196 60 rfl rfl hN_cX2_takeFromNights hn_cX2_takeFromNights rfl rfl rfl rfl
theorem dX2_takeFromNights_68 : decode cX2_takeFromNights 68 = .ok (.iload_n 3, 1) := qr_o29 hN_cX2_takeFromNights hn_cX2_takeFromNights rfl rfl
theorem dX2_takeFromNights_69 : decode cX2_takeFromNights 69 = .ok (.ireturn, 1) := qr_o172 hN_cX2_takeFromNights hn_cX2_takeFromNights rfl rfl
def nN_cX2_isMember : Nat := 0xac030400a70407009aa000b62b0e00a01c9d00b42b1600c62b
theorem hN_cX2_isMember : qr_n cX2_isMember.data.toList = nN_cX2_isMember := by decide +kernel
theorem hn_cX2_isMember : cX2_isMember.size = 25 := by decide +kernel
theorem dX2_isMember_0 : decode cX2_isMember 0 = .ok (.aload_n 1, 1) := qr_o43 hN_cX2_isMember hn_cX2_isMember rfl rfl
theorem dX2_isMember_1 : decode cX2_isMember 1 = .ok (.ifnull 22, 3) := qr_o198 0 22 rfl hN_cX2_isMember hn_cX2_isMember rfl rfl rfl rfl
theorem dX2_isMember_4 : decode cX2_isMember 4 = .ok (.aload_n 1, 1) := qr_o43 hN_cX2_isMember hn_cX2_isMember rfl rfl
theorem dX2_isMember_5 : decode cX2_isMember 5 = .ok (.getfield 157, 3) := qr_o180 0 157 hN_cX2_isMember hn_cX2_isMember rfl rfl rfl rfl
theorem dX2_isMember_8 : decode cX2_isMember 8 = .ok (.iload_n 2, 1) := qr_o28 hN_cX2_isMember hn_cX2_isMember rfl rfl
theorem dX2_isMember_9 : decode cX2_isMember 9 = .ok (.if_icmp .ne 14, 3) := qr_o160 0 14 rfl hN_cX2_isMember hn_cX2_isMember rfl rfl rfl rfl
theorem dX2_isMember_12 : decode cX2_isMember 12 = .ok (.aload_n 1, 1) := qr_o43 hN_cX2_isMember hn_cX2_isMember rfl rfl
theorem dX2_isMember_13 : decode cX2_isMember 13 = .ok (.invokevirtual 160, 3) := qr_o182 0 160 hN_cX2_isMember hn_cX2_isMember rfl rfl rfl rfl
theorem dX2_isMember_16 : decode cX2_isMember 16 = .ok (.ifCond .ne 7, 3) := qr_o154 0 7 rfl hN_cX2_isMember hn_cX2_isMember rfl rfl rfl rfl
theorem dX2_isMember_19 : decode cX2_isMember 19 = .ok (.iconst 1, 1) := qr_o4 hN_cX2_isMember hn_cX2_isMember rfl rfl
theorem dX2_isMember_20 : decode cX2_isMember 20 = .ok (.goto 4, 3) := qr_o167 0 4 rfl hN_cX2_isMember hn_cX2_isMember rfl rfl rfl rfl
theorem dX2_isMember_23 : decode cX2_isMember 23 = .ok (.iconst 0, 1) := qr_o3 hN_cX2_isMember hn_cX2_isMember rfl rfl
theorem dX2_isMember_24 : decode cX2_isMember 24 = .ok (.ireturn, 1) := qr_o172 hN_cX2_isMember hn_cX2_isMember rfl rfl
def nN_cX2_membersOf : Nat := 0xac1ce5ffa7010384010284060099a300b61b7100b61d2a2a1900a23100b42a1d3e033d03
theorem hN_cX2_membersOf : qr_n cX2_membersOf.data.toList = nN_cX2_membersOf := by decide +kernel
theorem hn_cX2_membersOf : cX2_membersOf.size = 36 := by decide +kernel
theorem dX2_membersOf_0 : decode cX2_membersOf 0 = .ok (.iconst 0, 1) := qr_o3 hN_cX2_membersOf hn_cX2_membersOf rfl rfl
theorem dX2_membersOf_1 : decode cX2_membersOf 1 = .ok (.istore_n 2, 1) := qr_o61 hN_cX2_membersOf hn_cX2_membersOf rfl rfl
theorem dX2_membersOf_2 : decode cX2_membersOf 2 = .ok (.iconst 0, 1) := qr_o3 hN_cX2_membersOf hn_cX2_membersOf rfl rfl
theorem dX2_membersOf_3 : decode cX2_membersOf 3 = .ok (.istore_n 3, 1) := qr_o62 hN_cX2_membersOf hn_cX2_membersOf rfl rfl
theorem dX2_membersOf_4 : decode cX2_membersOf 4 = .ok (.iload_n 3, 1) := qr_o29 hN_cX2_membersOf hn_cX2_membersOf rfl rfl
theorem dX2_membersOf_5 : decode cX2_membersOf 5 = .ok (.aload_n 0, 1) := qr_o42 hN_cX2_membersOf hn_cX2_membersOf rfl rfl
theorem dX2_membersOf_6 : decode cX2_membersOf 6 = .ok (.getfield 49, 3) := qr_o180 0 49 hN_cX2_membersOf hn_cX2_membersOf rfl rfl rfl rfl
theorem dX2_membersOf_9 : decode cX2_membersOf 9 = .ok (.if_icmp .ge 25, 3) := qr_o162 0 25 rfl hN_cX2_membersOf hn_cX2_membersOf rfl rfl rfl rfl
theorem dX2_membersOf_12 : decode cX2_membersOf 12 = .ok (.aload_n 0, 1) := qr_o42 hN_cX2_membersOf hn_cX2_membersOf rfl rfl
theorem dX2_membersOf_13 : decode cX2_membersOf 13 = .ok (.aload_n 0, 1) := qr_o42 hN_cX2_membersOf hn_cX2_membersOf rfl rfl
theorem dX2_membersOf_14 : decode cX2_membersOf 14 = .ok (.iload_n 3, 1) := qr_o29 hN_cX2_membersOf hn_cX2_membersOf rfl rfl
theorem dX2_membersOf_15 : decode cX2_membersOf 15 = .ok (.invokevirtual 113, 3) := qr_o182 0 113 hN_cX2_membersOf hn_cX2_membersOf rfl rfl rfl rfl
theorem dX2_membersOf_18 : decode cX2_membersOf 18 = .ok (.iload_n 1, 1) := qr_o27 hN_cX2_membersOf hn_cX2_membersOf rfl rfl
theorem dX2_membersOf_19 : decode cX2_membersOf 19 = .ok (.invokevirtual 163, 3) := qr_o182 0 163 hN_cX2_membersOf hn_cX2_membersOf rfl rfl rfl rfl
theorem dX2_membersOf_22 : decode cX2_membersOf 22 = .ok (.ifCond .eq 6, 3) := qr_o153 0 6 rfl hN_cX2_membersOf hn_cX2_membersOf rfl rfl rfl rfl
theorem dX2_membersOf_25 : decode cX2_membersOf 25 = .ok (.iinc 2 1, 3) := qr_o132 2 1 rfl hN_cX2_membersOf hn_cX2_membersOf rfl rfl rfl rfl
theorem dX2_membersOf_28 : decode cX2_membersOf 28 = .ok (.iinc 3 1, 3) := qr_o132 3 1 rfl hN_cX2_membersOf hn_cX2_membersOf rfl rfl rfl rfl
theorem dX2_membersOf_31 : decode cX2_membersOf 31 = .ok (.goto (-27), 3) := qr_w167 255 229 27 rfl rfl hN_cX2_membersOf hn_cX2_membersOf rfl rfl rfl rfl
theorem dX2_membersOf_34 : decode cX2_membersOf 34 = .ok (.iload_n 2, 1) := qr_o28 hN_cX2_membersOf hn_cX2_membersOf rfl rfl
theorem dX2_membersOf_35 : decode cX2_membersOf 35 = .ok (.ireturn, 1) := qr_o172 hN_cX2_membersOf hn_cX2_membersOf rfl rfl
def nN_cX2_matchedIn : Nat := 0xac1dab00b62aacffa70104840103840600a01c8800b47500b405191200c67500b40519540404152900b42a7500b5a700b61c05192a05191700c77500b405193600a706009aa300b61b05192a053a7100b604152a5100a23100b42a04150436033e03
theorem hN_cX2_matchedIn : qr_n cX2_matchedIn.data.toList = nN_cX2_matchedIn := by decide +kernel
theorem hn_cX2_matchedIn : cX2_matchedIn.size = 98 := by decide +kernel
theorem dX2_matchedIn_0 : decode cX2_matchedIn 0 = .ok (.iconst 0, 1) := qr_o3 hN_cX2_matchedIn hn_cX2_matchedIn rfl rfl
theorem dX2_matchedIn_1 : decode cX2_matchedIn 1 = .ok (.istore_n 3, 1) := qr_o62 hN_cX2_matchedIn hn_cX2_matchedIn rfl rfl
theorem dX2_matchedIn_2 : decode cX2_matchedIn 2 = .ok (.iconst 0, 1) := qr_o3 hN_cX2_matchedIn hn_cX2_matchedIn rfl rfl
theorem dX2_matchedIn_3 : decode cX2_matchedIn 3 = .ok (.istore 4, 2) := qr_o54 4 hN_cX2_matchedIn hn_cX2_matchedIn rfl rfl rfl
theorem dX2_matchedIn_5 : decode cX2_matchedIn 5 = .ok (.iload 4, 2) := qr_o21 4 hN_cX2_matchedIn hn_cX2_matchedIn rfl rfl rfl
theorem dX2_matchedIn_7 : decode cX2_matchedIn 7 = .ok (.aload_n 0, 1) := qr_o42 hN_cX2_matchedIn hn_cX2_matchedIn rfl rfl
theorem dX2_matchedIn_8 : decode cX2_matchedIn 8 = .ok (.getfield 49, 3) := qr_o180 0 49 hN_cX2_matchedIn hn_cX2_matchedIn rfl rfl rfl rfl
theorem dX2_matchedIn_11 : decode cX2_matchedIn 11 = .ok (.if_icmp .ge 81, 3) := qr_o162 0 81 rfl hN_cX2_matchedIn hn_cX2_matchedIn rfl rfl rfl rfl
theorem dX2_matchedIn_14 : decode cX2_matchedIn 14 = .ok (.aload_n 0, 1) := qr_o42 hN_cX2_matchedIn hn_cX2_matchedIn rfl rfl
theorem dX2_matchedIn_15 : decode cX2_matchedIn 15 = .ok (.iload 4, 2) := qr_o21 4 hN_cX2_matchedIn hn_cX2_matchedIn rfl rfl rfl
theorem dX2_matchedIn_17 : decode cX2_matchedIn 17 = .ok (.invokevirtual 113, 3) := qr_o182 0 113 hN_cX2_matchedIn hn_cX2_matchedIn rfl rfl rfl rfl
theorem dX2_matchedIn_20 : decode cX2_matchedIn 20 = .ok (.astore 5, 2) := qr_o58 5 hN_cX2_matchedIn hn_cX2_matchedIn rfl rfl rfl
theorem dX2_matchedIn_22 : decode cX2_matchedIn 22 = .ok (.aload_n 0, 1) := qr_o42 hN_cX2_matchedIn hn_cX2_matchedIn rfl rfl
theorem dX2_matchedIn_23 : decode cX2_matchedIn 23 = .ok (.aload 5, 2) := qr_o25 5 hN_cX2_matchedIn hn_cX2_matchedIn rfl rfl rfl
theorem dX2_matchedIn_25 : decode cX2_matchedIn 25 = .ok (.iload_n 1, 1) := qr_o27 hN_cX2_matchedIn hn_cX2_matchedIn rfl rfl
theorem dX2_matchedIn_26 : decode cX2_matchedIn 26 = .ok (.invokevirtual 163, 3) := qr_o182 0 163 hN_cX2_matchedIn hn_cX2_matchedIn rfl rfl rfl rfl
theorem dX2_matchedIn_29 : decode cX2_matchedIn 29 = .ok (.ifCond .ne 6, 3) := qr_o154 0 6 rfl hN_cX2_matchedIn hn_cX2_matchedIn rfl rfl rfl rfl
theorem dX2_matchedIn_32 : decode cX2_matchedIn 32 = .ok (.goto 54, 3) := qr_o167 0 54 rfl hN_cX2_matchedIn hn_cX2_matchedIn rfl rfl rfl rfl
theorem dX2_matchedIn_35 : decode cX2_matchedIn 35 = .ok (.aload 5, 2) := qr_o25 5 hN_cX2_matchedIn hn_cX2_matchedIn rfl rfl rfl
theorem dX2_matchedIn_37 : decode cX2_matchedIn 37 = .ok (.getfield 117, 3) := qr_o180 0 117 hN_cX2_matchedIn hn_cX2_matchedIn rfl rfl rfl rfl
theorem dX2_matchedIn_40 : decode cX2_matchedIn 40 = .ok (.ifnonnull 23, 3) := qr_o199 0 23 rfl hN_cX2_matchedIn hn_cX2_matchedIn rfl rfl rfl rfl
theorem dX2_matchedIn_43 : decode cX2_matchedIn 43 = .ok (.aload 5, 2) := qr_o25 5 hN_cX2_matchedIn hn_cX2_matchedIn rfl rfl rfl
theorem dX2_matchedIn_45 : decode cX2_matchedIn 45 = .ok (.aload_n 0, 1) := qr_o42 hN_cX2_matchedIn hn_cX2_matchedIn rfl rfl
theorem dX2_matchedIn_46 : decode cX2_matchedIn 46 = .ok (.aload 5, 2) := qr_o25 5 hN_cX2_matchedIn hn_cX2_matchedIn rfl rfl rfl
theorem dX2_matchedIn_48 : decode cX2_matchedIn 48 = .ok (.iload_n 2, 1) := qr_o28 hN_cX2_matchedIn hn_cX2_matchedIn rfl rfl
theorem dX2_matchedIn_49 : decode cX2_matchedIn 49 = .ok (.invokevirtual 167, 3) := qr_o182 0 167 hN_cX2_matchedIn hn_cX2_matchedIn rfl rfl rfl rfl
theorem dX2_matchedIn_52 : decode cX2_matchedIn 52 = .ok (.putfield 117, 3) := qr_o181 0 117 hN_cX2_matchedIn hn_cX2_matchedIn rfl rfl rfl rfl
theorem dX2_matchedIn_55 : decode cX2_matchedIn 55 = .ok (.aload_n 0, 1) := qr_o42 hN_cX2_matchedIn hn_cX2_matchedIn rfl rfl
theorem dX2_matchedIn_56 : decode cX2_matchedIn 56 = .ok (.getfield 41, 3) := qr_o180 0 41 hN_cX2_matchedIn hn_cX2_matchedIn rfl rfl rfl rfl
theorem dX2_matchedIn_59 : decode cX2_matchedIn 59 = .ok (.iload 4, 2) := qr_o21 4 hN_cX2_matchedIn hn_cX2_matchedIn rfl rfl rfl
theorem dX2_matchedIn_61 : decode cX2_matchedIn 61 = .ok (.iconst 1, 1) := qr_o4 hN_cX2_matchedIn hn_cX2_matchedIn rfl rfl
theorem dX2_matchedIn_62 : decode cX2_matchedIn 62 = .ok (.bastore, 1) := qr_o84 hN_cX2_matchedIn hn_cX2_matchedIn rfl rfl
theorem dX2_matchedIn_63 : decode cX2_matchedIn 63 = .ok (.aload 5, 2) := qr_o25 5 hN_cX2_matchedIn hn_cX2_matchedIn rfl rfl rfl
theorem dX2_matchedIn_65 : decode cX2_matchedIn 65 = .ok (.getfield 117, 3) := qr_o180 0 117 hN_cX2_matchedIn hn_cX2_matchedIn rfl rfl rfl rfl
theorem dX2_matchedIn_68 : decode cX2_matchedIn 68 = .ok (.ifnull 18, 3) := qr_o198 0 18 rfl hN_cX2_matchedIn hn_cX2_matchedIn rfl rfl rfl rfl
theorem dX2_matchedIn_71 : decode cX2_matchedIn 71 = .ok (.aload 5, 2) := qr_o25 5 hN_cX2_matchedIn hn_cX2_matchedIn rfl rfl rfl
theorem dX2_matchedIn_73 : decode cX2_matchedIn 73 = .ok (.getfield 117, 3) := qr_o180 0 117 hN_cX2_matchedIn hn_cX2_matchedIn rfl rfl rfl rfl
theorem dX2_matchedIn_76 : decode cX2_matchedIn 76 = .ok (.getfield 136, 3) := qr_o180 0 136 hN_cX2_matchedIn hn_cX2_matchedIn rfl rfl rfl rfl
theorem dX2_matchedIn_79 : decode cX2_matchedIn 79 = .ok (.iload_n 2, 1) := qr_o28 hN_cX2_matchedIn hn_cX2_matchedIn rfl rfl
theorem dX2_matchedIn_80 : decode cX2_matchedIn 80 = .ok (.if_icmp .ne 6, 3) := qr_o160 0 6 rfl hN_cX2_matchedIn hn_cX2_matchedIn rfl rfl rfl rfl
theorem dX2_matchedIn_83 : decode cX2_matchedIn 83 = .ok (.iinc 3 1, 3) := qr_o132 3 1 rfl hN_cX2_matchedIn hn_cX2_matchedIn rfl rfl rfl rfl
theorem dX2_matchedIn_86 : decode cX2_matchedIn 86 = .ok (.iinc 4 1, 3) := qr_o132 4 1 rfl hN_cX2_matchedIn hn_cX2_matchedIn rfl rfl rfl rfl
theorem dX2_matchedIn_89 : decode cX2_matchedIn 89 = .ok (.goto (-84), 3) := qr_w167 255 172 84 rfl rfl hN_cX2_matchedIn hn_cX2_matchedIn rfl rfl rfl rfl
theorem dX2_matchedIn_92 : decode cX2_matchedIn 92 = .ok (.aload_n 0, 1) := qr_o42 hN_cX2_matchedIn hn_cX2_matchedIn rfl rfl
theorem dX2_matchedIn_93 : decode cX2_matchedIn 93 = .ok (.invokevirtual 171, 3) := qr_o182 0 171 hN_cX2_matchedIn hn_cX2_matchedIn rfl rfl rfl rfl
theorem dX2_matchedIn_96 : decode cX2_matchedIn 96 = .ok (.iload_n 3, 1) := qr_o29 hN_cX2_matchedIn hn_cX2_matchedIn rfl rfl
theorem dX2_matchedIn_97 : decode cX2_matchedIn 97 = .ok (.ireturn, 1) := qr_o172 hN_cX2_matchedIn hn_cX2_matchedIn rfl rfl
def nN_cX2_takeTrialsBack : Nat := 0xb1d6ffa701018454031b2900b42a7500b5012c0f0099331b2900b42a1800c62c4d7100b61b2a2800a23100b42a1b3c03
theorem hN_cX2_takeTrialsBack : qr_n cX2_takeTrialsBack.data.toList = nN_cX2_takeTrialsBack := by decide +kernel
theorem hn_cX2_takeTrialsBack : cX2_takeTrialsBack.size = 48 := by decide +kernel
theorem dX2_takeTrialsBack_0 : decode cX2_takeTrialsBack 0 = .ok (.iconst 0, 1) := qr_o3 hN_cX2_takeTrialsBack hn_cX2_takeTrialsBack rfl rfl
theorem dX2_takeTrialsBack_1 : decode cX2_takeTrialsBack 1 = .ok (.istore_n 1, 1) := qr_o60 hN_cX2_takeTrialsBack hn_cX2_takeTrialsBack rfl rfl
theorem dX2_takeTrialsBack_2 : decode cX2_takeTrialsBack 2 = .ok (.iload_n 1, 1) := qr_o27 hN_cX2_takeTrialsBack hn_cX2_takeTrialsBack rfl rfl
theorem dX2_takeTrialsBack_3 : decode cX2_takeTrialsBack 3 = .ok (.aload_n 0, 1) := qr_o42 hN_cX2_takeTrialsBack hn_cX2_takeTrialsBack rfl rfl
theorem dX2_takeTrialsBack_4 : decode cX2_takeTrialsBack 4 = .ok (.getfield 49, 3) := qr_o180 0 49 hN_cX2_takeTrialsBack hn_cX2_takeTrialsBack rfl rfl rfl rfl
theorem dX2_takeTrialsBack_7 : decode cX2_takeTrialsBack 7 = .ok (.if_icmp .ge 40, 3) := qr_o162 0 40 rfl hN_cX2_takeTrialsBack hn_cX2_takeTrialsBack rfl rfl rfl rfl
theorem dX2_takeTrialsBack_10 : decode cX2_takeTrialsBack 10 = .ok (.aload_n 0, 1) := qr_o42 hN_cX2_takeTrialsBack hn_cX2_takeTrialsBack rfl rfl
theorem dX2_takeTrialsBack_11 : decode cX2_takeTrialsBack 11 = .ok (.iload_n 1, 1) := qr_o27 hN_cX2_takeTrialsBack hn_cX2_takeTrialsBack rfl rfl
theorem dX2_takeTrialsBack_12 : decode cX2_takeTrialsBack 12 = .ok (.invokevirtual 113, 3) := qr_o182 0 113 hN_cX2_takeTrialsBack hn_cX2_takeTrialsBack rfl rfl rfl rfl
theorem dX2_takeTrialsBack_15 : decode cX2_takeTrialsBack 15 = .ok (.astore_n 2, 1) := qr_o77 hN_cX2_takeTrialsBack hn_cX2_takeTrialsBack rfl rfl
theorem dX2_takeTrialsBack_16 : decode cX2_takeTrialsBack 16 = .ok (.aload_n 2, 1) := qr_o44 hN_cX2_takeTrialsBack hn_cX2_takeTrialsBack rfl rfl
theorem dX2_takeTrialsBack_17 : decode cX2_takeTrialsBack 17 = .ok (.ifnull 24, 3) := qr_o198 0 24 rfl hN_cX2_takeTrialsBack hn_cX2_takeTrialsBack rfl rfl rfl rfl
theorem dX2_takeTrialsBack_20 : decode cX2_takeTrialsBack 20 = .ok (.aload_n 0, 1) := qr_o42 hN_cX2_takeTrialsBack hn_cX2_takeTrialsBack rfl rfl
theorem dX2_takeTrialsBack_21 : decode cX2_takeTrialsBack 21 = .ok (.getfield 41, 3) := qr_o180 0 41 hN_cX2_takeTrialsBack hn_cX2_takeTrialsBack rfl rfl rfl rfl
theorem dX2_takeTrialsBack_24 : decode cX2_takeTrialsBack 24 = .ok (.iload_n 1, 1) := qr_o27 hN_cX2_takeTrialsBack hn_cX2_takeTrialsBack rfl rfl
theorem dX2_takeTrialsBack_25 : decode cX2_takeTrialsBack 25 = .ok (.baload, 1) := qr_o51 hN_cX2_takeTrialsBack hn_cX2_takeTrialsBack rfl rfl
theorem dX2_takeTrialsBack_26 : decode cX2_takeTrialsBack 26 = .ok (.ifCond .eq 15, 3) := qr_o153 0 15 rfl hN_cX2_takeTrialsBack hn_cX2_takeTrialsBack rfl rfl rfl rfl
theorem dX2_takeTrialsBack_29 : decode cX2_takeTrialsBack 29 = .ok (.aload_n 2, 1) := qr_o44 hN_cX2_takeTrialsBack hn_cX2_takeTrialsBack rfl rfl
theorem dX2_takeTrialsBack_30 : decode cX2_takeTrialsBack 30 = .ok (.aconst_null, 1) := qr_o1 hN_cX2_takeTrialsBack hn_cX2_takeTrialsBack rfl rfl
theorem dX2_takeTrialsBack_31 : decode cX2_takeTrialsBack 31 = .ok (.putfield 117, 3) := qr_o181 0 117 hN_cX2_takeTrialsBack hn_cX2_takeTrialsBack rfl rfl rfl rfl
theorem dX2_takeTrialsBack_34 : decode cX2_takeTrialsBack 34 = .ok (.aload_n 0, 1) := qr_o42 hN_cX2_takeTrialsBack hn_cX2_takeTrialsBack rfl rfl
theorem dX2_takeTrialsBack_35 : decode cX2_takeTrialsBack 35 = .ok (.getfield 41, 3) := qr_o180 0 41 hN_cX2_takeTrialsBack hn_cX2_takeTrialsBack rfl rfl rfl rfl
theorem dX2_takeTrialsBack_38 : decode cX2_takeTrialsBack 38 = .ok (.iload_n 1, 1) := qr_o27 hN_cX2_takeTrialsBack hn_cX2_takeTrialsBack rfl rfl
theorem dX2_takeTrialsBack_39 : decode cX2_takeTrialsBack 39 = .ok (.iconst 0, 1) := qr_o3 hN_cX2_takeTrialsBack hn_cX2_takeTrialsBack rfl rfl
theorem dX2_takeTrialsBack_40 : decode cX2_takeTrialsBack 40 = .ok (.bastore, 1) := qr_o84 hN_cX2_takeTrialsBack hn_cX2_takeTrialsBack rfl rfl
theorem dX2_takeTrialsBack_41 : decode cX2_takeTrialsBack 41 = .ok (.iinc 1 1, 3) := qr_o132 1 1 rfl hN_cX2_takeTrialsBack hn_cX2_takeTrialsBack rfl rfl rfl rfl
theorem dX2_takeTrialsBack_44 : decode cX2_takeTrialsBack 44 = .ok (.goto (-42), 3) := qr_w167 255 214 42 rfl rfl hN_cX2_takeTrialsBack hn_cX2_takeTrialsBack rfl rfl rfl rfl
theorem dX2_takeTrialsBack_47 : decode cX2_takeTrialsBack 47 = .ok (.return_, 1) := qr_o177 hN_cX2_takeTrialsBack hn_cX2_takeTrialsBack rfl rfl
def nN_cX2_depositOn : Nat := 0xac6c6410684400b6060c00b42aae00b42b
theorem hN_cX2_depositOn : qr_n cX2_depositOn.data.toList = nN_cX2_depositOn := by decide +kernel
theorem hn_cX2_depositOn : cX2_depositOn.size = 17 := by decide +kernel
theorem dX2_depositOn_0 : decode cX2_depositOn 0 = .ok (.aload_n 1, 1) := qr_o43 hN_cX2_depositOn hn_cX2_depositOn rfl rfl
theorem dX2_depositOn_1 : decode cX2_depositOn 1 = .ok (.getfield 174, 3) := qr_o180 0 174 hN_cX2_depositOn hn_cX2_depositOn rfl rfl rfl rfl
theorem dX2_depositOn_4 : decode cX2_depositOn 4 = .ok (.aload_n 0, 1) := qr_o42 hN_cX2_depositOn hn_cX2_depositOn rfl rfl
theorem dX2_depositOn_5 : decode cX2_depositOn 5 = .ok (.getfield 12, 3) := qr_o180 0 12 hN_cX2_depositOn hn_cX2_depositOn rfl rfl rfl rfl
theorem dX2_depositOn_8 : decode cX2_depositOn 8 = .ok (.iconst 3, 1) := qr_o6 hN_cX2_depositOn hn_cX2_depositOn rfl rfl
theorem dX2_depositOn_9 : decode cX2_depositOn 9 = .ok (.invokevirtual 68, 3) := qr_o182 0 68 hN_cX2_depositOn hn_cX2_depositOn rfl rfl rfl rfl
theorem dX2_depositOn_12 : decode cX2_depositOn 12 = .ok (.imul, 1) := qr_o104 hN_cX2_depositOn hn_cX2_depositOn rfl rfl
theorem dX2_depositOn_13 : decode cX2_depositOn 13 = .ok (.bipush 100, 2) := qr_o16 100 rfl hN_cX2_depositOn hn_cX2_depositOn rfl rfl rfl
theorem dX2_depositOn_15 : decode cX2_depositOn 15 = .ok (.idiv, 1) := qr_o108 hN_cX2_depositOn hn_cX2_depositOn rfl rfl
theorem dX2_depositOn_16 : decode cX2_depositOn 16 = .ok (.ireturn, 1) := qr_o172 hN_cX2_depositOn hn_cX2_depositOn rfl rfl
def nN_cX2_daysLate : Nat := 0xacb700b8641cb400b42b033d644400b6040c00b42ab100b62b7500b42b2aac030500c77500b42b
theorem hN_cX2_daysLate : qr_n cX2_daysLate.data.toList = nN_cX2_daysLate := by decide +kernel
theorem hn_cX2_daysLate : cX2_daysLate.size = 39 := by decide +kernel
theorem dX2_daysLate_0 : decode cX2_daysLate 0 = .ok (.aload_n 1, 1) := qr_o43 hN_cX2_daysLate hn_cX2_daysLate rfl rfl
theorem dX2_daysLate_1 : decode cX2_daysLate 1 = .ok (.getfield 117, 3) := qr_o180 0 117 hN_cX2_daysLate hn_cX2_daysLate rfl rfl rfl rfl
theorem dX2_daysLate_4 : decode cX2_daysLate 4 = .ok (.ifnonnull 5, 3) := qr_o199 0 5 rfl hN_cX2_daysLate hn_cX2_daysLate rfl rfl rfl rfl
theorem dX2_daysLate_7 : decode cX2_daysLate 7 = .ok (.iconst 0, 1) := qr_o3 hN_cX2_daysLate hn_cX2_daysLate rfl rfl
theorem dX2_daysLate_8 : decode cX2_daysLate 8 = .ok (.ireturn, 1) := qr_o172 hN_cX2_daysLate hn_cX2_daysLate rfl rfl
theorem dX2_daysLate_9 : decode cX2_daysLate 9 = .ok (.aload_n 0, 1) := qr_o42 hN_cX2_daysLate hn_cX2_daysLate rfl rfl
theorem dX2_daysLate_10 : decode cX2_daysLate 10 = .ok (.aload_n 1, 1) := qr_o43 hN_cX2_daysLate hn_cX2_daysLate rfl rfl
theorem dX2_daysLate_11 : decode cX2_daysLate 11 = .ok (.getfield 117, 3) := qr_o180 0 117 hN_cX2_daysLate hn_cX2_daysLate rfl rfl rfl rfl
theorem dX2_daysLate_14 : decode cX2_daysLate 14 = .ok (.aload_n 1, 1) := qr_o43 hN_cX2_daysLate hn_cX2_daysLate rfl rfl
theorem dX2_daysLate_15 : decode cX2_daysLate 15 = .ok (.invokevirtual 177, 3) := qr_o182 0 177 hN_cX2_daysLate hn_cX2_daysLate rfl rfl rfl rfl
theorem dX2_daysLate_18 : decode cX2_daysLate 18 = .ok (.aload_n 0, 1) := qr_o42 hN_cX2_daysLate hn_cX2_daysLate rfl rfl
theorem dX2_daysLate_19 : decode cX2_daysLate 19 = .ok (.getfield 12, 3) := qr_o180 0 12 hN_cX2_daysLate hn_cX2_daysLate rfl rfl rfl rfl
theorem dX2_daysLate_22 : decode cX2_daysLate 22 = .ok (.iconst 1, 1) := qr_o4 hN_cX2_daysLate hn_cX2_daysLate rfl rfl
theorem dX2_daysLate_23 : decode cX2_daysLate 23 = .ok (.invokevirtual 68, 3) := qr_o182 0 68 hN_cX2_daysLate hn_cX2_daysLate rfl rfl rfl rfl
theorem dX2_daysLate_26 : decode cX2_daysLate 26 = .ok (.isub, 1) := qr_o100 hN_cX2_daysLate hn_cX2_daysLate rfl rfl
theorem dX2_daysLate_27 : decode cX2_daysLate 27 = .ok (.istore_n 2, 1) := qr_o61 hN_cX2_daysLate hn_cX2_daysLate rfl rfl
theorem dX2_daysLate_28 : decode cX2_daysLate 28 = .ok (.iconst 0, 1) := qr_o3 hN_cX2_daysLate hn_cX2_daysLate rfl rfl
theorem dX2_daysLate_29 : decode cX2_daysLate 29 = .ok (.aload_n 1, 1) := qr_o43 hN_cX2_daysLate hn_cX2_daysLate rfl rfl
theorem dX2_daysLate_30 : decode cX2_daysLate 30 = .ok (.getfield 180, 3) := qr_o180 0 180 hN_cX2_daysLate hn_cX2_daysLate rfl rfl rfl rfl
theorem dX2_daysLate_33 : decode cX2_daysLate 33 = .ok (.iload_n 2, 1) := qr_o28 hN_cX2_daysLate hn_cX2_daysLate rfl rfl
theorem dX2_daysLate_34 : decode cX2_daysLate 34 = .ok (.isub, 1) := qr_o100 hN_cX2_daysLate hn_cX2_daysLate rfl rfl
theorem dX2_daysLate_35 : decode cX2_daysLate 35 = .ok (.invokestatic 183, 3) := qr_o184 0 183 hN_cX2_daysLate hn_cX2_daysLate rfl rfl rfl rfl
theorem dX2_daysLate_38 : decode cX2_daysLate 38 = .ok (.ireturn, 1) := qr_o172 hN_cX2_daysLate hn_cX2_daysLate rfl rfl
def nN_cX2_harmOf : Nat := 0xac60684400b606100c00b42ac000b87a08101c684400b6080c00b42ac000b87eff00111c3d7e8202bd00b42bba00b42bacfc100600a002ba00b42b
theorem hN_cX2_harmOf : qr_n cX2_harmOf.data.toList = nN_cX2_harmOf := by decide +kernel
theorem hn_cX2_harmOf : cX2_harmOf.size = 59 := by decide +kernel
theorem dX2_harmOf_0 : decode cX2_harmOf 0 = .ok (.aload_n 1, 1) := qr_o43 hN_cX2_harmOf hn_cX2_harmOf rfl rfl
theorem dX2_harmOf_1 : decode cX2_harmOf 1 = .ok (.getfield 186, 3) := qr_o180 0 186 hN_cX2_harmOf hn_cX2_harmOf rfl rfl rfl rfl
theorem dX2_harmOf_4 : decode cX2_harmOf 4 = .ok (.iconst (-1), 1) := qr_o2 hN_cX2_harmOf hn_cX2_harmOf rfl rfl
theorem dX2_harmOf_5 : decode cX2_harmOf 5 = .ok (.if_icmp .ne 6, 3) := qr_o160 0 6 rfl hN_cX2_harmOf hn_cX2_harmOf rfl rfl rfl rfl
theorem dX2_harmOf_8 : decode cX2_harmOf 8 = .ok (.bipush (-4), 2) := qr_w16 252 4 rfl rfl hN_cX2_harmOf hn_cX2_harmOf rfl rfl rfl
theorem dX2_harmOf_10 : decode cX2_harmOf 10 = .ok (.ireturn, 1) := qr_o172 hN_cX2_harmOf hn_cX2_harmOf rfl rfl
theorem dX2_harmOf_11 : decode cX2_harmOf 11 = .ok (.aload_n 1, 1) := qr_o43 hN_cX2_harmOf hn_cX2_harmOf rfl rfl
theorem dX2_harmOf_12 : decode cX2_harmOf 12 = .ok (.getfield 186, 3) := qr_o180 0 186 hN_cX2_harmOf hn_cX2_harmOf rfl rfl rfl rfl
theorem dX2_harmOf_15 : decode cX2_harmOf 15 = .ok (.aload_n 1, 1) := qr_o43 hN_cX2_harmOf hn_cX2_harmOf rfl rfl
theorem dX2_harmOf_16 : decode cX2_harmOf 16 = .ok (.getfield 189, 3) := qr_o180 0 189 hN_cX2_harmOf hn_cX2_harmOf rfl rfl rfl rfl
theorem dX2_harmOf_19 : decode cX2_harmOf 19 = .ok (.iconst (-1), 1) := qr_o2 hN_cX2_harmOf hn_cX2_harmOf rfl rfl
theorem dX2_harmOf_20 : decode cX2_harmOf 20 = .ok (.ixor, 1) := qr_o130 hN_cX2_harmOf hn_cX2_harmOf rfl rfl
theorem dX2_harmOf_21 : decode cX2_harmOf 21 = .ok (.iand, 1) := qr_o126 hN_cX2_harmOf hn_cX2_harmOf rfl rfl
theorem dX2_harmOf_22 : decode cX2_harmOf 22 = .ok (.istore_n 2, 1) := qr_o61 hN_cX2_harmOf hn_cX2_harmOf rfl rfl
theorem dX2_harmOf_23 : decode cX2_harmOf 23 = .ok (.iload_n 2, 1) := qr_o28 hN_cX2_harmOf hn_cX2_harmOf rfl rfl
theorem dX2_harmOf_24 : decode cX2_harmOf 24 = .ok (.sipush 255, 3) := qr_o17 0 255 rfl hN_cX2_harmOf hn_cX2_harmOf rfl rfl rfl rfl
theorem dX2_harmOf_27 : decode cX2_harmOf 27 = .ok (.iand, 1) := qr_o126 hN_cX2_harmOf hn_cX2_harmOf rfl rfl
theorem dX2_harmOf_28 : decode cX2_harmOf 28 = .ok (.invokestatic 192, 3) := qr_o184 0 192 hN_cX2_harmOf hn_cX2_harmOf rfl rfl rfl rfl
theorem dX2_harmOf_31 : decode cX2_harmOf 31 = .ok (.aload_n 0, 1) := qr_o42 hN_cX2_harmOf hn_cX2_harmOf rfl rfl
theorem dX2_harmOf_32 : decode cX2_harmOf 32 = .ok (.getfield 12, 3) := qr_o180 0 12 hN_cX2_harmOf hn_cX2_harmOf rfl rfl rfl rfl
theorem dX2_harmOf_35 : decode cX2_harmOf 35 = .ok (.iconst 5, 1) := qr_o8 hN_cX2_harmOf hn_cX2_harmOf rfl rfl
theorem dX2_harmOf_36 : decode cX2_harmOf 36 = .ok (.invokevirtual 68, 3) := qr_o182 0 68 hN_cX2_harmOf hn_cX2_harmOf rfl rfl rfl rfl
theorem dX2_harmOf_39 : decode cX2_harmOf 39 = .ok (.imul, 1) := qr_o104 hN_cX2_harmOf hn_cX2_harmOf rfl rfl
theorem dX2_harmOf_40 : decode cX2_harmOf 40 = .ok (.iload_n 2, 1) := qr_o28 hN_cX2_harmOf hn_cX2_harmOf rfl rfl
theorem dX2_harmOf_41 : decode cX2_harmOf 41 = .ok (.bipush 8, 2) := qr_o16 8 rfl hN_cX2_harmOf hn_cX2_harmOf rfl rfl rfl
theorem dX2_harmOf_43 : decode cX2_harmOf 43 = .ok (.ishr, 1) := qr_o122 hN_cX2_harmOf hn_cX2_harmOf rfl rfl
theorem dX2_harmOf_44 : decode cX2_harmOf 44 = .ok (.invokestatic 192, 3) := qr_o184 0 192 hN_cX2_harmOf hn_cX2_harmOf rfl rfl rfl rfl
theorem dX2_harmOf_47 : decode cX2_harmOf 47 = .ok (.aload_n 0, 1) := qr_o42 hN_cX2_harmOf hn_cX2_harmOf rfl rfl
theorem dX2_harmOf_48 : decode cX2_harmOf 48 = .ok (.getfield 12, 3) := qr_o180 0 12 hN_cX2_harmOf hn_cX2_harmOf rfl rfl rfl rfl
theorem dX2_harmOf_51 : decode cX2_harmOf 51 = .ok (.bipush 6, 2) := qr_o16 6 rfl hN_cX2_harmOf hn_cX2_harmOf rfl rfl rfl
theorem dX2_harmOf_53 : decode cX2_harmOf 53 = .ok (.invokevirtual 68, 3) := qr_o182 0 68 hN_cX2_harmOf hn_cX2_harmOf rfl rfl rfl rfl
theorem dX2_harmOf_56 : decode cX2_harmOf 56 = .ok (.imul, 1) := qr_o104 hN_cX2_harmOf hn_cX2_harmOf rfl rfl
theorem dX2_harmOf_57 : decode cX2_harmOf 57 = .ok (.iadd, 1) := qr_o96 hN_cX2_harmOf hn_cX2_harmOf rfl rfl
theorem dX2_harmOf_58 : decode cX2_harmOf 58 = .ok (.ireturn, 1) := qr_o172 hN_cX2_harmOf hn_cX2_harmOf rfl rfl
def nN_cX2_owedFor : Nat := 0xac601c0400a7030700a0fc101c68c900b62b2a4400b6050c00b42a3dc500b62b2a
theorem hN_cX2_owedFor : qr_n cX2_owedFor.data.toList = nN_cX2_owedFor := by decide +kernel
theorem hn_cX2_owedFor : cX2_owedFor.size = 33 := by decide +kernel
theorem dX2_owedFor_0 : decode cX2_owedFor 0 = .ok (.aload_n 0, 1) := qr_o42 hN_cX2_owedFor hn_cX2_owedFor rfl rfl
theorem dX2_owedFor_1 : decode cX2_owedFor 1 = .ok (.aload_n 1, 1) := qr_o43 hN_cX2_owedFor hn_cX2_owedFor rfl rfl
theorem dX2_owedFor_2 : decode cX2_owedFor 2 = .ok (.invokevirtual 197, 3) := qr_o182 0 197 hN_cX2_owedFor hn_cX2_owedFor rfl rfl rfl rfl
theorem dX2_owedFor_5 : decode cX2_owedFor 5 = .ok (.istore_n 2, 1) := qr_o61 hN_cX2_owedFor hn_cX2_owedFor rfl rfl
theorem dX2_owedFor_6 : decode cX2_owedFor 6 = .ok (.aload_n 0, 1) := qr_o42 hN_cX2_owedFor hn_cX2_owedFor rfl rfl
theorem dX2_owedFor_7 : decode cX2_owedFor 7 = .ok (.getfield 12, 3) := qr_o180 0 12 hN_cX2_owedFor hn_cX2_owedFor rfl rfl rfl rfl
theorem dX2_owedFor_10 : decode cX2_owedFor 10 = .ok (.iconst 2, 1) := qr_o5 hN_cX2_owedFor hn_cX2_owedFor rfl rfl
theorem dX2_owedFor_11 : decode cX2_owedFor 11 = .ok (.invokevirtual 68, 3) := qr_o182 0 68 hN_cX2_owedFor hn_cX2_owedFor rfl rfl rfl rfl
theorem dX2_owedFor_14 : decode cX2_owedFor 14 = .ok (.aload_n 0, 1) := qr_o42 hN_cX2_owedFor hn_cX2_owedFor rfl rfl
theorem dX2_owedFor_15 : decode cX2_owedFor 15 = .ok (.aload_n 1, 1) := qr_o43 hN_cX2_owedFor hn_cX2_owedFor rfl rfl
theorem dX2_owedFor_16 : decode cX2_owedFor 16 = .ok (.invokevirtual 201, 3) := qr_o182 0 201 hN_cX2_owedFor hn_cX2_owedFor rfl rfl rfl rfl
theorem dX2_owedFor_19 : decode cX2_owedFor 19 = .ok (.imul, 1) := qr_o104 hN_cX2_owedFor hn_cX2_owedFor rfl rfl
theorem dX2_owedFor_20 : decode cX2_owedFor 20 = .ok (.iload_n 2, 1) := qr_o28 hN_cX2_owedFor hn_cX2_owedFor rfl rfl
theorem dX2_owedFor_21 : decode cX2_owedFor 21 = .ok (.bipush (-4), 2) := qr_w16 252 4 rfl rfl hN_cX2_owedFor hn_cX2_owedFor rfl rfl rfl
theorem dX2_owedFor_23 : decode cX2_owedFor 23 = .ok (.if_icmp .ne 7, 3) := qr_o160 0 7 rfl hN_cX2_owedFor hn_cX2_owedFor rfl rfl rfl rfl
theorem dX2_owedFor_26 : decode cX2_owedFor 26 = .ok (.iconst 0, 1) := qr_o3 hN_cX2_owedFor hn_cX2_owedFor rfl rfl
theorem dX2_owedFor_27 : decode cX2_owedFor 27 = .ok (.goto 4, 3) := qr_o167 0 4 rfl hN_cX2_owedFor hn_cX2_owedFor rfl rfl rfl rfl
theorem dX2_owedFor_30 : decode cX2_owedFor 30 = .ok (.iload_n 2, 1) := qr_o28 hN_cX2_owedFor hn_cX2_owedFor rfl rfl
theorem dX2_owedFor_31 : decode cX2_owedFor 31 = .ok (.iadd, 1) := qr_o96 hN_cX2_owedFor hn_cX2_owedFor rfl rfl
theorem dX2_owedFor_32 : decode cX2_owedFor 32 = .ok (.ireturn, 1) := qr_o172 hN_cX2_owedFor hn_cX2_owedFor rfl rfl
def nN_cX2_knownOn : Nat := 0xac0415ceffa7010584010484060099cf00b81d1c6600b40619130099cc00b61b06191c00c60619063a7100b605152a2f00a23100b42a0515053603043603
theorem hN_cX2_knownOn : qr_n cX2_knownOn.data.toList = nN_cX2_knownOn := by decide +kernel
theorem hn_cX2_knownOn : cX2_knownOn.size = 62 := by decide +kernel
theorem dX2_knownOn_0 : decode cX2_knownOn 0 = .ok (.iconst 0, 1) := qr_o3 hN_cX2_knownOn hn_cX2_knownOn rfl rfl
theorem dX2_knownOn_1 : decode cX2_knownOn 1 = .ok (.istore 4, 2) := qr_o54 4 hN_cX2_knownOn hn_cX2_knownOn rfl rfl rfl
theorem dX2_knownOn_3 : decode cX2_knownOn 3 = .ok (.iconst 0, 1) := qr_o3 hN_cX2_knownOn hn_cX2_knownOn rfl rfl
theorem dX2_knownOn_4 : decode cX2_knownOn 4 = .ok (.istore 5, 2) := qr_o54 5 hN_cX2_knownOn hn_cX2_knownOn rfl rfl rfl
theorem dX2_knownOn_6 : decode cX2_knownOn 6 = .ok (.iload 5, 2) := qr_o21 5 hN_cX2_knownOn hn_cX2_knownOn rfl rfl rfl
theorem dX2_knownOn_8 : decode cX2_knownOn 8 = .ok (.aload_n 0, 1) := qr_o42 hN_cX2_knownOn hn_cX2_knownOn rfl rfl
theorem dX2_knownOn_9 : decode cX2_knownOn 9 = .ok (.getfield 49, 3) := qr_o180 0 49 hN_cX2_knownOn hn_cX2_knownOn rfl rfl rfl rfl
theorem dX2_knownOn_12 : decode cX2_knownOn 12 = .ok (.if_icmp .ge 47, 3) := qr_o162 0 47 rfl hN_cX2_knownOn hn_cX2_knownOn rfl rfl rfl rfl
theorem dX2_knownOn_15 : decode cX2_knownOn 15 = .ok (.aload_n 0, 1) := qr_o42 hN_cX2_knownOn hn_cX2_knownOn rfl rfl
theorem dX2_knownOn_16 : decode cX2_knownOn 16 = .ok (.iload 5, 2) := qr_o21 5 hN_cX2_knownOn hn_cX2_knownOn rfl rfl rfl
theorem dX2_knownOn_18 : decode cX2_knownOn 18 = .ok (.invokevirtual 113, 3) := qr_o182 0 113 hN_cX2_knownOn hn_cX2_knownOn rfl rfl rfl rfl
theorem dX2_knownOn_21 : decode cX2_knownOn 21 = .ok (.astore 6, 2) := qr_o58 6 hN_cX2_knownOn hn_cX2_knownOn rfl rfl rfl
theorem dX2_knownOn_23 : decode cX2_knownOn 23 = .ok (.aload 6, 2) := qr_o25 6 hN_cX2_knownOn hn_cX2_knownOn rfl rfl rfl
theorem dX2_knownOn_25 : decode cX2_knownOn 25 = .ok (.ifnull 28, 3) := qr_o198 0 28 rfl hN_cX2_knownOn hn_cX2_knownOn rfl rfl rfl rfl
theorem dX2_knownOn_28 : decode cX2_knownOn 28 = .ok (.aload 6, 2) := qr_o25 6 hN_cX2_knownOn hn_cX2_knownOn rfl rfl rfl
theorem dX2_knownOn_30 : decode cX2_knownOn 30 = .ok (.iload_n 1, 1) := qr_o27 hN_cX2_knownOn hn_cX2_knownOn rfl rfl
theorem dX2_knownOn_31 : decode cX2_knownOn 31 = .ok (.invokevirtual 204, 3) := qr_o182 0 204 hN_cX2_knownOn hn_cX2_knownOn rfl rfl rfl rfl
theorem dX2_knownOn_34 : decode cX2_knownOn 34 = .ok (.ifCond .eq 19, 3) := qr_o153 0 19 rfl hN_cX2_knownOn hn_cX2_knownOn rfl rfl rfl rfl
theorem dX2_knownOn_37 : decode cX2_knownOn 37 = .ok (.aload 6, 2) := qr_o25 6 hN_cX2_knownOn hn_cX2_knownOn rfl rfl rfl
theorem dX2_knownOn_39 : decode cX2_knownOn 39 = .ok (.getfield 102, 3) := qr_o180 0 102 hN_cX2_knownOn hn_cX2_knownOn rfl rfl rfl rfl
theorem dX2_knownOn_42 : decode cX2_knownOn 42 = .ok (.iload_n 2, 1) := qr_o28 hN_cX2_knownOn hn_cX2_knownOn rfl rfl
theorem dX2_knownOn_43 : decode cX2_knownOn 43 = .ok (.iload_n 3, 1) := qr_o29 hN_cX2_knownOn hn_cX2_knownOn rfl rfl
theorem dX2_knownOn_44 : decode cX2_knownOn 44 = .ok (.invokestatic 207, 3) := qr_o184 0 207 hN_cX2_knownOn hn_cX2_knownOn rfl rfl rfl rfl
theorem dX2_knownOn_47 : decode cX2_knownOn 47 = .ok (.ifCond .eq 6, 3) := qr_o153 0 6 rfl hN_cX2_knownOn hn_cX2_knownOn rfl rfl rfl rfl
theorem dX2_knownOn_50 : decode cX2_knownOn 50 = .ok (.iinc 4 1, 3) := qr_o132 4 1 rfl hN_cX2_knownOn hn_cX2_knownOn rfl rfl rfl rfl
theorem dX2_knownOn_53 : decode cX2_knownOn 53 = .ok (.iinc 5 1, 3) := qr_o132 5 1 rfl hN_cX2_knownOn hn_cX2_knownOn rfl rfl rfl rfl
theorem dX2_knownOn_56 : decode cX2_knownOn 56 = .ok (.goto (-50), 3) := qr_w167 255 206 50 rfl rfl hN_cX2_knownOn hn_cX2_knownOn rfl rfl rfl rfl
theorem dX2_knownOn_59 : decode cX2_knownOn 59 = .ok (.iload 4, 2) := qr_o21 4 hN_cX2_knownOn hn_cX2_knownOn rfl rfl rfl
theorem dX2_knownOn_61 : decode cX2_knownOn 61 = .ok (.ireturn, 1) := qr_o172 hN_cX2_knownOn hn_cX2_knownOn rfl rfl
def nN_cX2_tallyPieces : Nat := 0xac1ce0ffa70103843d60d300b61b04191c0c00c60419043a8400b61d2a1e00a22d00b42a1d3e033d03
theorem hN_cX2_tallyPieces : qr_n cX2_tallyPieces.data.toList = nN_cX2_tallyPieces := by decide +kernel
theorem hn_cX2_tallyPieces : cX2_tallyPieces.size = 41 := by decide +kernel
theorem dX2_tallyPieces_0 : decode cX2_tallyPieces 0 = .ok (.iconst 0, 1) := qr_o3 hN_cX2_tallyPieces hn_cX2_tallyPieces rfl rfl
theorem dX2_tallyPieces_1 : decode cX2_tallyPieces 1 = .ok (.istore_n 2, 1) := qr_o61 hN_cX2_tallyPieces hn_cX2_tallyPieces rfl rfl
theorem dX2_tallyPieces_2 : decode cX2_tallyPieces 2 = .ok (.iconst 0, 1) := qr_o3 hN_cX2_tallyPieces hn_cX2_tallyPieces rfl rfl
theorem dX2_tallyPieces_3 : decode cX2_tallyPieces 3 = .ok (.istore_n 3, 1) := qr_o62 hN_cX2_tallyPieces hn_cX2_tallyPieces rfl rfl
theorem dX2_tallyPieces_4 : decode cX2_tallyPieces 4 = .ok (.iload_n 3, 1) := qr_o29 hN_cX2_tallyPieces hn_cX2_tallyPieces rfl rfl
theorem dX2_tallyPieces_5 : decode cX2_tallyPieces 5 = .ok (.aload_n 0, 1) := qr_o42 hN_cX2_tallyPieces hn_cX2_tallyPieces rfl rfl
theorem dX2_tallyPieces_6 : decode cX2_tallyPieces 6 = .ok (.getfield 45, 3) := qr_o180 0 45 hN_cX2_tallyPieces hn_cX2_tallyPieces rfl rfl rfl rfl
theorem dX2_tallyPieces_9 : decode cX2_tallyPieces 9 = .ok (.if_icmp .ge 30, 3) := qr_o162 0 30 rfl hN_cX2_tallyPieces hn_cX2_tallyPieces rfl rfl rfl rfl
theorem dX2_tallyPieces_12 : decode cX2_tallyPieces 12 = .ok (.aload_n 0, 1) := qr_o42 hN_cX2_tallyPieces hn_cX2_tallyPieces rfl rfl
theorem dX2_tallyPieces_13 : decode cX2_tallyPieces 13 = .ok (.iload_n 3, 1) := qr_o29 hN_cX2_tallyPieces hn_cX2_tallyPieces rfl rfl
theorem dX2_tallyPieces_14 : decode cX2_tallyPieces 14 = .ok (.invokevirtual 132, 3) := qr_o182 0 132 hN_cX2_tallyPieces hn_cX2_tallyPieces rfl rfl rfl rfl
theorem dX2_tallyPieces_17 : decode cX2_tallyPieces 17 = .ok (.astore 4, 2) := qr_o58 4 hN_cX2_tallyPieces hn_cX2_tallyPieces rfl rfl rfl
theorem dX2_tallyPieces_19 : decode cX2_tallyPieces 19 = .ok (.aload 4, 2) := qr_o25 4 hN_cX2_tallyPieces hn_cX2_tallyPieces rfl rfl rfl
theorem dX2_tallyPieces_21 : decode cX2_tallyPieces 21 = .ok (.ifnull 12, 3) := qr_o198 0 12 rfl hN_cX2_tallyPieces hn_cX2_tallyPieces rfl rfl rfl rfl
theorem dX2_tallyPieces_24 : decode cX2_tallyPieces 24 = .ok (.iload_n 2, 1) := qr_o28 hN_cX2_tallyPieces hn_cX2_tallyPieces rfl rfl
theorem dX2_tallyPieces_25 : decode cX2_tallyPieces 25 = .ok (.aload 4, 2) := qr_o25 4 hN_cX2_tallyPieces hn_cX2_tallyPieces rfl rfl rfl
theorem dX2_tallyPieces_27 : decode cX2_tallyPieces 27 = .ok (.iload_n 1, 1) := qr_o27 hN_cX2_tallyPieces hn_cX2_tallyPieces rfl rfl
theorem dX2_tallyPieces_28 : decode cX2_tallyPieces 28 = .ok (.invokevirtual 211, 3) := qr_o182 0 211 hN_cX2_tallyPieces hn_cX2_tallyPieces rfl rfl rfl rfl
theorem dX2_tallyPieces_31 : decode cX2_tallyPieces 31 = .ok (.iadd, 1) := qr_o96 hN_cX2_tallyPieces hn_cX2_tallyPieces rfl rfl
theorem dX2_tallyPieces_32 : decode cX2_tallyPieces 32 = .ok (.istore_n 2, 1) := qr_o61 hN_cX2_tallyPieces hn_cX2_tallyPieces rfl rfl
theorem dX2_tallyPieces_33 : decode cX2_tallyPieces 33 = .ok (.iinc 3 1, 3) := qr_o132 3 1 rfl hN_cX2_tallyPieces hn_cX2_tallyPieces rfl rfl rfl rfl
theorem dX2_tallyPieces_36 : decode cX2_tallyPieces 36 = .ok (.goto (-32), 3) := qr_w167 255 224 32 rfl rfl hN_cX2_tallyPieces hn_cX2_tallyPieces rfl rfl rfl rfl
theorem dX2_tallyPieces_39 : decode cX2_tallyPieces 39 = .ok (.iload_n 2, 1) := qr_o28 hN_cX2_tallyPieces hn_cX2_tallyPieces rfl rfl
theorem dX2_tallyPieces_40 : decode cX2_tallyPieces 40 = .ok (.ireturn, 1) := qr_o172 hN_cX2_tallyPieces hn_cX2_tallyPieces rfl rfl
def nN_cX2_tallyBookings : Nat := 0xac1ce0ffa70103843d60d600b61b04191c0c00c60419043a7100b61d2a1e00a23100b42a1d3e033d03
theorem hN_cX2_tallyBookings : qr_n cX2_tallyBookings.data.toList = nN_cX2_tallyBookings := by decide +kernel
theorem hn_cX2_tallyBookings : cX2_tallyBookings.size = 41 := by decide +kernel
theorem dX2_tallyBookings_0 : decode cX2_tallyBookings 0 = .ok (.iconst 0, 1) := qr_o3 hN_cX2_tallyBookings hn_cX2_tallyBookings rfl rfl
theorem dX2_tallyBookings_1 : decode cX2_tallyBookings 1 = .ok (.istore_n 2, 1) := qr_o61 hN_cX2_tallyBookings hn_cX2_tallyBookings rfl rfl
theorem dX2_tallyBookings_2 : decode cX2_tallyBookings 2 = .ok (.iconst 0, 1) := qr_o3 hN_cX2_tallyBookings hn_cX2_tallyBookings rfl rfl
theorem dX2_tallyBookings_3 : decode cX2_tallyBookings 3 = .ok (.istore_n 3, 1) := qr_o62 hN_cX2_tallyBookings hn_cX2_tallyBookings rfl rfl
theorem dX2_tallyBookings_4 : decode cX2_tallyBookings 4 = .ok (.iload_n 3, 1) := qr_o29 hN_cX2_tallyBookings hn_cX2_tallyBookings rfl rfl
theorem dX2_tallyBookings_5 : decode cX2_tallyBookings 5 = .ok (.aload_n 0, 1) := qr_o42 hN_cX2_tallyBookings hn_cX2_tallyBookings rfl rfl
theorem dX2_tallyBookings_6 : decode cX2_tallyBookings 6 = .ok (.getfield 49, 3) := qr_o180 0 49 hN_cX2_tallyBookings hn_cX2_tallyBookings rfl rfl rfl rfl
theorem dX2_tallyBookings_9 : decode cX2_tallyBookings 9 = .ok (.if_icmp .ge 30, 3) := qr_o162 0 30 rfl hN_cX2_tallyBookings hn_cX2_tallyBookings rfl rfl rfl rfl
theorem dX2_tallyBookings_12 : decode cX2_tallyBookings 12 = .ok (.aload_n 0, 1) := qr_o42 hN_cX2_tallyBookings hn_cX2_tallyBookings rfl rfl
theorem dX2_tallyBookings_13 : decode cX2_tallyBookings 13 = .ok (.iload_n 3, 1) := qr_o29 hN_cX2_tallyBookings hn_cX2_tallyBookings rfl rfl
theorem dX2_tallyBookings_14 : decode cX2_tallyBookings 14 = .ok (.invokevirtual 113, 3) := qr_o182 0 113 hN_cX2_tallyBookings hn_cX2_tallyBookings rfl rfl rfl rfl
theorem dX2_tallyBookings_17 : decode cX2_tallyBookings 17 = .ok (.astore 4, 2) := qr_o58 4 hN_cX2_tallyBookings hn_cX2_tallyBookings rfl rfl rfl
theorem dX2_tallyBookings_19 : decode cX2_tallyBookings 19 = .ok (.aload 4, 2) := qr_o25 4 hN_cX2_tallyBookings hn_cX2_tallyBookings rfl rfl rfl
theorem dX2_tallyBookings_21 : decode cX2_tallyBookings 21 = .ok (.ifnull 12, 3) := qr_o198 0 12 rfl hN_cX2_tallyBookings hn_cX2_tallyBookings rfl rfl rfl rfl
theorem dX2_tallyBookings_24 : decode cX2_tallyBookings 24 = .ok (.iload_n 2, 1) := qr_o28 hN_cX2_tallyBookings hn_cX2_tallyBookings rfl rfl
theorem dX2_tallyBookings_25 : decode cX2_tallyBookings 25 = .ok (.aload 4, 2) := qr_o25 4 hN_cX2_tallyBookings hn_cX2_tallyBookings rfl rfl rfl
theorem dX2_tallyBookings_27 : decode cX2_tallyBookings 27 = .ok (.iload_n 1, 1) := qr_o27 hN_cX2_tallyBookings hn_cX2_tallyBookings rfl rfl
theorem dX2_tallyBookings_28 : decode cX2_tallyBookings 28 = .ok (.invokevirtual 214, 3) := qr_o182 0 214 hN_cX2_tallyBookings hn_cX2_tallyBookings rfl rfl rfl rfl
theorem dX2_tallyBookings_31 : decode cX2_tallyBookings 31 = .ok (.iadd, 1) := qr_o96 hN_cX2_tallyBookings hn_cX2_tallyBookings rfl rfl
theorem dX2_tallyBookings_32 : decode cX2_tallyBookings 32 = .ok (.istore_n 2, 1) := qr_o61 hN_cX2_tallyBookings hn_cX2_tallyBookings rfl rfl
theorem dX2_tallyBookings_33 : decode cX2_tallyBookings 33 = .ok (.iinc 3 1, 3) := qr_o132 3 1 rfl hN_cX2_tallyBookings hn_cX2_tallyBookings rfl rfl rfl rfl
theorem dX2_tallyBookings_36 : decode cX2_tallyBookings 36 = .ok (.goto (-32), 3) := qr_w167 255 224 32 rfl rfl hN_cX2_tallyBookings hn_cX2_tallyBookings rfl rfl rfl rfl
theorem dX2_tallyBookings_39 : decode cX2_tallyBookings 39 = .ok (.iload_n 2, 1) := qr_o28 hN_cX2_tallyBookings hn_cX2_tallyBookings rfl rfl
theorem dX2_tallyBookings_40 : decode cX2_tallyBookings 40 = .ok (.ireturn, 1) := qr_o172 hN_cX2_tallyBookings hn_cX2_tallyBookings rfl rfl
def nN_cX3_init : Nat := 0xb11300b62abeffa7010184ccffa70102844f1d0400a7030700a01c1b601c6806101b0900b42a3e6009100500a70307009a1c09100500a70307009a1b3400a206101c3d034200a206101b3c031000b50abc06102a0d00b50abc06102a0900b50abc24102a0100b72a
theorem hN_cX3_init : qr_n cX3_init.data.toList = nN_cX3_init := by decide +kernel
theorem hn_cX3_init : cX3_init.size = 104 := by decide +kernel
theorem dX3_init_0 : decode cX3_init 0 = .ok (.aload_n 0, 1) := qr_o42 hN_cX3_init hn_cX3_init rfl rfl
theorem dX3_init_1 : decode cX3_init 1 = .ok (.invokespecial 1, 3) := qr_o183 0 1 hN_cX3_init hn_cX3_init rfl rfl rfl rfl
theorem dX3_init_4 : decode cX3_init 4 = .ok (.aload_n 0, 1) := qr_o42 hN_cX3_init hn_cX3_init rfl rfl
theorem dX3_init_5 : decode cX3_init 5 = .ok (.bipush 36, 2) := qr_o16 36 rfl hN_cX3_init hn_cX3_init rfl rfl rfl
theorem dX3_init_7 : decode cX3_init 7 = .ok (.newarray .int, 2) := qr_na10 hN_cX3_init hn_cX3_init rfl rfl rfl
theorem dX3_init_9 : decode cX3_init 9 = .ok (.putfield 9, 3) := qr_o181 0 9 hN_cX3_init hn_cX3_init rfl rfl rfl rfl
theorem dX3_init_12 : decode cX3_init 12 = .ok (.aload_n 0, 1) := qr_o42 hN_cX3_init hn_cX3_init rfl rfl
theorem dX3_init_13 : decode cX3_init 13 = .ok (.bipush 6, 2) := qr_o16 6 rfl hN_cX3_init hn_cX3_init rfl rfl rfl
theorem dX3_init_15 : decode cX3_init 15 = .ok (.newarray .int, 2) := qr_na10 hN_cX3_init hn_cX3_init rfl rfl rfl
theorem dX3_init_17 : decode cX3_init 17 = .ok (.putfield 13, 3) := qr_o181 0 13 hN_cX3_init hn_cX3_init rfl rfl rfl rfl
theorem dX3_init_20 : decode cX3_init 20 = .ok (.aload_n 0, 1) := qr_o42 hN_cX3_init hn_cX3_init rfl rfl
theorem dX3_init_21 : decode cX3_init 21 = .ok (.bipush 6, 2) := qr_o16 6 rfl hN_cX3_init hn_cX3_init rfl rfl rfl
theorem dX3_init_23 : decode cX3_init 23 = .ok (.newarray .int, 2) := qr_na10 hN_cX3_init hn_cX3_init rfl rfl rfl
theorem dX3_init_25 : decode cX3_init 25 = .ok (.putfield 16, 3) := qr_o181 0 16 hN_cX3_init hn_cX3_init rfl rfl rfl rfl
theorem dX3_init_28 : decode cX3_init 28 = .ok (.iconst 0, 1) := qr_o3 hN_cX3_init hn_cX3_init rfl rfl
theorem dX3_init_29 : decode cX3_init 29 = .ok (.istore_n 1, 1) := qr_o60 hN_cX3_init hn_cX3_init rfl rfl
theorem dX3_init_30 : decode cX3_init 30 = .ok (.iload_n 1, 1) := qr_o27 hN_cX3_init hn_cX3_init rfl rfl
theorem dX3_init_31 : decode cX3_init 31 = .ok (.bipush 6, 2) := qr_o16 6 rfl hN_cX3_init hn_cX3_init rfl rfl rfl
theorem dX3_init_33 : decode cX3_init 33 = .ok (.if_icmp .ge 66, 3) := qr_o162 0 66 rfl hN_cX3_init hn_cX3_init rfl rfl rfl rfl
theorem dX3_init_36 : decode cX3_init 36 = .ok (.iconst 0, 1) := qr_o3 hN_cX3_init hn_cX3_init rfl rfl
theorem dX3_init_37 : decode cX3_init 37 = .ok (.istore_n 2, 1) := qr_o61 hN_cX3_init hn_cX3_init rfl rfl
theorem dX3_init_38 : decode cX3_init 38 = .ok (.iload_n 2, 1) := qr_o28 hN_cX3_init hn_cX3_init rfl rfl
theorem dX3_init_39 : decode cX3_init 39 = .ok (.bipush 6, 2) := qr_o16 6 rfl hN_cX3_init hn_cX3_init rfl rfl rfl
theorem dX3_init_41 : decode cX3_init 41 = .ok (.if_icmp .ge 52, 3) := qr_o162 0 52 rfl hN_cX3_init hn_cX3_init rfl rfl rfl rfl
theorem dX3_init_44 : decode cX3_init 44 = .ok (.iload_n 1, 1) := qr_o27 hN_cX3_init hn_cX3_init rfl rfl
theorem dX3_init_45 : decode cX3_init 45 = .ok (.ifCond .ne 7, 3) := qr_o154 0 7 rfl hN_cX3_init hn_cX3_init rfl rfl rfl rfl
theorem dX3_init_48 : decode cX3_init 48 = .ok (.iconst 0, 1) := qr_o3 hN_cX3_init hn_cX3_init rfl rfl
theorem dX3_init_49 : decode cX3_init 49 = .ok (.goto 5, 3) := qr_o167 0 5 rfl hN_cX3_init hn_cX3_init rfl rfl rfl rfl
theorem dX3_init_52 : decode cX3_init 52 = .ok (.bipush 9, 2) := qr_o16 9 rfl hN_cX3_init hn_cX3_init rfl rfl rfl
theorem dX3_init_54 : decode cX3_init 54 = .ok (.iload_n 2, 1) := qr_o28 hN_cX3_init hn_cX3_init rfl rfl
theorem dX3_init_55 : decode cX3_init 55 = .ok (.ifCond .ne 7, 3) := qr_o154 0 7 rfl hN_cX3_init hn_cX3_init rfl rfl rfl rfl
theorem dX3_init_58 : decode cX3_init 58 = .ok (.iconst 0, 1) := qr_o3 hN_cX3_init hn_cX3_init rfl rfl
theorem dX3_init_59 : decode cX3_init 59 = .ok (.goto 5, 3) := qr_o167 0 5 rfl hN_cX3_init hn_cX3_init rfl rfl rfl rfl
theorem dX3_init_62 : decode cX3_init 62 = .ok (.bipush 9, 2) := qr_o16 9 rfl hN_cX3_init hn_cX3_init rfl rfl rfl
theorem dX3_init_64 : decode cX3_init 64 = .ok (.iadd, 1) := qr_o96 hN_cX3_init hn_cX3_init rfl rfl
theorem dX3_init_65 : decode cX3_init 65 = .ok (.istore_n 3, 1) := qr_o62 hN_cX3_init hn_cX3_init rfl rfl
theorem dX3_init_66 : decode cX3_init 66 = .ok (.aload_n 0, 1) := qr_o42 hN_cX3_init hn_cX3_init rfl rfl
theorem dX3_init_67 : decode cX3_init 67 = .ok (.getfield 9, 3) := qr_o180 0 9 hN_cX3_init hn_cX3_init rfl rfl rfl rfl
theorem dX3_init_70 : decode cX3_init 70 = .ok (.iload_n 1, 1) := qr_o27 hN_cX3_init hn_cX3_init rfl rfl
theorem dX3_init_71 : decode cX3_init 71 = .ok (.bipush 6, 2) := qr_o16 6 rfl hN_cX3_init hn_cX3_init rfl rfl rfl
theorem dX3_init_73 : decode cX3_init 73 = .ok (.imul, 1) := qr_o104 hN_cX3_init hn_cX3_init rfl rfl
theorem dX3_init_74 : decode cX3_init 74 = .ok (.iload_n 2, 1) := qr_o28 hN_cX3_init hn_cX3_init rfl rfl
theorem dX3_init_75 : decode cX3_init 75 = .ok (.iadd, 1) := qr_o96 hN_cX3_init hn_cX3_init rfl rfl
theorem dX3_init_76 : decode cX3_init 76 = .ok (.iload_n 1, 1) := qr_o27 hN_cX3_init hn_cX3_init rfl rfl
theorem dX3_init_77 : decode cX3_init 77 = .ok (.iload_n 2, 1) := qr_o28 hN_cX3_init hn_cX3_init rfl rfl
theorem dX3_init_78 : decode cX3_init 78 = .ok (.if_icmp .ne 7, 3) := qr_o160 0 7 rfl hN_cX3_init hn_cX3_init rfl rfl rfl rfl
theorem dX3_init_81 : decode cX3_init 81 = .ok (.iconst 0, 1) := qr_o3 hN_cX3_init hn_cX3_init rfl rfl
theorem dX3_init_82 : decode cX3_init 82 = .ok (.goto 4, 3) := qr_o167 0 4 rfl hN_cX3_init hn_cX3_init rfl rfl rfl rfl
theorem dX3_init_85 : decode cX3_init 85 = .ok (.iload_n 3, 1) := qr_o29 hN_cX3_init hn_cX3_init rfl rfl
theorem dX3_init_86 : decode cX3_init 86 = .ok (.iastore, 1) := qr_o79 hN_cX3_init hn_cX3_init rfl rfl
theorem dX3_init_87 : decode cX3_init 87 = .ok (.iinc 2 1, 3) := qr_o132 2 1 rfl hN_cX3_init hn_cX3_init rfl rfl rfl rfl
theorem dX3_init_90 : decode cX3_init 90 = .ok (.goto (-52), 3) := qr_w167 255 204 52 rfl rfl hN_cX3_init hn_cX3_init rfl rfl rfl rfl
theorem dX3_init_93 : decode cX3_init 93 = .ok (.iinc 1 1, 3) := qr_o132 1 1 rfl hN_cX3_init hn_cX3_init rfl rfl rfl rfl
theorem dX3_init_96 : decode cX3_init 96 = .ok (.goto (-66), 3) := qr_w167 255 190 66 rfl rfl hN_cX3_init hn_cX3_init rfl rfl rfl rfl
theorem dX3_init_99 : decode cX3_init 99 = .ok (.aload_n 0, 1) := qr_o42 hN_cX3_init hn_cX3_init rfl rfl
theorem dX3_init_100 : decode cX3_init 100 = .ok (.invokevirtual 19, 3) := qr_o182 0 19 hN_cX3_init hn_cX3_init rfl rfl rfl rfl
theorem dX3_init_103 : decode cX3_init 103 = .ok (.return_, 1) := qr_o177 hN_cX3_init hn_cX3_init rfl rfl
def nN_cX3_learn : Nat := 0xb11300b62a2200b62a1e00b6641c600415041b1d2a1e00b6640415601c041d1b2ab10400991a00b42a1600b560041600b4592a
theorem hN_cX3_learn : qr_n cX3_learn.data.toList = nN_cX3_learn := by decide +kernel
theorem hn_cX3_learn : cX3_learn.size = 51 := by decide +kernel
theorem dX3_learn_0 : decode cX3_learn 0 = .ok (.aload_n 0, 1) := qr_o42 hN_cX3_learn hn_cX3_learn rfl rfl
theorem dX3_learn_1 : decode cX3_learn 1 = .ok (.dup, 1) := qr_o89 hN_cX3_learn hn_cX3_learn rfl rfl
theorem dX3_learn_2 : decode cX3_learn 2 = .ok (.getfield 22, 3) := qr_o180 0 22 hN_cX3_learn hn_cX3_learn rfl rfl rfl rfl
theorem dX3_learn_5 : decode cX3_learn 5 = .ok (.iconst 1, 1) := qr_o4 hN_cX3_learn hn_cX3_learn rfl rfl
theorem dX3_learn_6 : decode cX3_learn 6 = .ok (.iadd, 1) := qr_o96 hN_cX3_learn hn_cX3_learn rfl rfl
theorem dX3_learn_7 : decode cX3_learn 7 = .ok (.putfield 22, 3) := qr_o181 0 22 hN_cX3_learn hn_cX3_learn rfl rfl rfl rfl
theorem dX3_learn_10 : decode cX3_learn 10 = .ok (.aload_n 0, 1) := qr_o42 hN_cX3_learn hn_cX3_learn rfl rfl
theorem dX3_learn_11 : decode cX3_learn 11 = .ok (.getfield 26, 3) := qr_o180 0 26 hN_cX3_learn hn_cX3_learn rfl rfl rfl rfl
theorem dX3_learn_14 : decode cX3_learn 14 = .ok (.ifCond .eq 4, 3) := qr_o153 0 4 rfl hN_cX3_learn hn_cX3_learn rfl rfl rfl rfl
theorem dX3_learn_17 : decode cX3_learn 17 = .ok (.return_, 1) := qr_o177 hN_cX3_learn hn_cX3_learn rfl rfl
theorem dX3_learn_18 : decode cX3_learn 18 = .ok (.aload_n 0, 1) := qr_o42 hN_cX3_learn hn_cX3_learn rfl rfl
theorem dX3_learn_19 : decode cX3_learn 19 = .ok (.iload_n 1, 1) := qr_o27 hN_cX3_learn hn_cX3_learn rfl rfl
theorem dX3_learn_20 : decode cX3_learn 20 = .ok (.iload_n 3, 1) := qr_o29 hN_cX3_learn hn_cX3_learn rfl rfl
theorem dX3_learn_21 : decode cX3_learn 21 = .ok (.iconst 1, 1) := qr_o4 hN_cX3_learn hn_cX3_learn rfl rfl
theorem dX3_learn_22 : decode cX3_learn 22 = .ok (.iload_n 2, 1) := qr_o28 hN_cX3_learn hn_cX3_learn rfl rfl
theorem dX3_learn_23 : decode cX3_learn 23 = .ok (.iadd, 1) := qr_o96 hN_cX3_learn hn_cX3_learn rfl rfl
theorem dX3_learn_24 : decode cX3_learn 24 = .ok (.iload 4, 2) := qr_o21 4 hN_cX3_learn hn_cX3_learn rfl rfl rfl
theorem dX3_learn_26 : decode cX3_learn 26 = .ok (.isub, 1) := qr_o100 hN_cX3_learn hn_cX3_learn rfl rfl
theorem dX3_learn_27 : decode cX3_learn 27 = .ok (.invokevirtual 30, 3) := qr_o182 0 30 hN_cX3_learn hn_cX3_learn rfl rfl rfl rfl
theorem dX3_learn_30 : decode cX3_learn 30 = .ok (.aload_n 0, 1) := qr_o42 hN_cX3_learn hn_cX3_learn rfl rfl
theorem dX3_learn_31 : decode cX3_learn 31 = .ok (.iload_n 3, 1) := qr_o29 hN_cX3_learn hn_cX3_learn rfl rfl
theorem dX3_learn_32 : decode cX3_learn 32 = .ok (.iload_n 1, 1) := qr_o27 hN_cX3_learn hn_cX3_learn rfl rfl
theorem dX3_learn_33 : decode cX3_learn 33 = .ok (.iconst 1, 1) := qr_o4 hN_cX3_learn hn_cX3_learn rfl rfl
theorem dX3_learn_34 : decode cX3_learn 34 = .ok (.iload 4, 2) := qr_o21 4 hN_cX3_learn hn_cX3_learn rfl rfl rfl
theorem dX3_learn_36 : decode cX3_learn 36 = .ok (.iadd, 1) := qr_o96 hN_cX3_learn hn_cX3_learn rfl rfl
theorem dX3_learn_37 : decode cX3_learn 37 = .ok (.iload_n 2, 1) := qr_o28 hN_cX3_learn hn_cX3_learn rfl rfl
theorem dX3_learn_38 : decode cX3_learn 38 = .ok (.isub, 1) := qr_o100 hN_cX3_learn hn_cX3_learn rfl rfl
theorem dX3_learn_39 : decode cX3_learn 39 = .ok (.invokevirtual 30, 3) := qr_o182 0 30 hN_cX3_learn hn_cX3_learn rfl rfl rfl rfl
theorem dX3_learn_42 : decode cX3_learn 42 = .ok (.aload_n 0, 1) := qr_o42 hN_cX3_learn hn_cX3_learn rfl rfl
theorem dX3_learn_43 : decode cX3_learn 43 = .ok (.invokevirtual 34, 3) := qr_o182 0 34 hN_cX3_learn hn_cX3_learn rfl rfl rfl rfl
theorem dX3_learn_46 : decode cX3_learn 46 = .ok (.aload_n 0, 1) := qr_o42 hN_cX3_learn hn_cX3_learn rfl rfl
theorem dX3_learn_47 : decode cX3_learn 47 = .ok (.invokevirtual 19, 3) := qr_o182 0 19 hN_cX3_learn hn_cX3_learn rfl rfl rfl rfl
theorem dX3_learn_50 : decode cX3_learn 50 = .ok (.return_, 1) := qr_o177 hN_cX3_learn hn_cX3_learn rfl rfl
def nN_cX3_low : Nat := 0xac030400a72e1b0d00b42a0c00a206101b12009b1b
theorem hN_cX3_low : qr_n cX3_low.data.toList = nN_cX3_low := by decide +kernel
theorem hn_cX3_low : cX3_low.size = 21 := by decide +kernel
theorem dX3_low_0 : decode cX3_low 0 = .ok (.iload_n 1, 1) := qr_o27 hN_cX3_low hn_cX3_low rfl rfl
theorem dX3_low_1 : decode cX3_low 1 = .ok (.ifCond .lt 18, 3) := qr_o155 0 18 rfl hN_cX3_low hn_cX3_low rfl rfl rfl rfl
theorem dX3_low_4 : decode cX3_low 4 = .ok (.iload_n 1, 1) := qr_o27 hN_cX3_low hn_cX3_low rfl rfl
theorem dX3_low_5 : decode cX3_low 5 = .ok (.bipush 6, 2) := qr_o16 6 rfl hN_cX3_low hn_cX3_low rfl rfl rfl
theorem dX3_low_7 : decode cX3_low 7 = .ok (.if_icmp .ge 12, 3) := qr_o162 0 12 rfl hN_cX3_low hn_cX3_low rfl rfl rfl rfl
theorem dX3_low_10 : decode cX3_low 10 = .ok (.aload_n 0, 1) := qr_o42 hN_cX3_low hn_cX3_low rfl rfl
theorem dX3_low_11 : decode cX3_low 11 = .ok (.getfield 13, 3) := qr_o180 0 13 hN_cX3_low hn_cX3_low rfl rfl rfl rfl
theorem dX3_low_14 : decode cX3_low 14 = .ok (.iload_n 1, 1) := qr_o27 hN_cX3_low hn_cX3_low rfl rfl
theorem dX3_low_15 : decode cX3_low 15 = .ok (.iaload, 1) := qr_o46 hN_cX3_low hn_cX3_low rfl rfl
theorem dX3_low_16 : decode cX3_low 16 = .ok (.goto 4, 3) := qr_o167 0 4 rfl hN_cX3_low hn_cX3_low rfl rfl rfl rfl
theorem dX3_low_19 : decode cX3_low 19 = .ok (.iconst 0, 1) := qr_o3 hN_cX3_low hn_cX3_low rfl rfl
theorem dX3_low_20 : decode cX3_low 20 = .ok (.ireturn, 1) := qr_o172 hN_cX3_low hn_cX3_low rfl rfl
def nN_cX3_high : Nat := 0xac030400a72e1b1000b42a0c00a206101b12009b1b
theorem hN_cX3_high : qr_n cX3_high.data.toList = nN_cX3_high := by decide +kernel
theorem hn_cX3_high : cX3_high.size = 21 := by decide +kernel
theorem dX3_high_0 : decode cX3_high 0 = .ok (.iload_n 1, 1) := qr_o27 hN_cX3_high hn_cX3_high rfl rfl
theorem dX3_high_1 : decode cX3_high 1 = .ok (.ifCond .lt 18, 3) := qr_o155 0 18 rfl hN_cX3_high hn_cX3_high rfl rfl rfl rfl
theorem dX3_high_4 : decode cX3_high 4 = .ok (.iload_n 1, 1) := qr_o27 hN_cX3_high hn_cX3_high rfl rfl
theorem dX3_high_5 : decode cX3_high 5 = .ok (.bipush 6, 2) := qr_o16 6 rfl hN_cX3_high hn_cX3_high rfl rfl rfl
theorem dX3_high_7 : decode cX3_high 7 = .ok (.if_icmp .ge 12, 3) := qr_o162 0 12 rfl hN_cX3_high hn_cX3_high rfl rfl rfl rfl
theorem dX3_high_10 : decode cX3_high 10 = .ok (.aload_n 0, 1) := qr_o42 hN_cX3_high hn_cX3_high rfl rfl
theorem dX3_high_11 : decode cX3_high 11 = .ok (.getfield 16, 3) := qr_o180 0 16 hN_cX3_high hn_cX3_high rfl rfl rfl rfl
theorem dX3_high_14 : decode cX3_high 14 = .ok (.iload_n 1, 1) := qr_o27 hN_cX3_high hn_cX3_high rfl rfl
theorem dX3_high_15 : decode cX3_high 15 = .ok (.iaload, 1) := qr_o46 hN_cX3_high hn_cX3_high rfl rfl
theorem dX3_high_16 : decode cX3_high 16 = .ok (.goto 4, 3) := qr_o167 0 4 rfl hN_cX3_high hn_cX3_high rfl rfl rfl rfl
theorem dX3_high_19 : decode cX3_high 19 = .ok (.iconst 0, 1) := qr_o3 hN_cX3_high hn_cX3_high rfl rfl
theorem dX3_high_20 : decode cX3_high 20 = .ok (.ireturn, 1) := qr_o172 hN_cX3_high hn_cX3_high rfl rfl
def nN_cX3_spanOf : Nat := 0xac030400a72e1d0900b42a0c00a2be0900b42a1d15009b1d3e601c6806101b
theorem hN_cX3_spanOf : qr_n cX3_spanOf.data.toList = nN_cX3_spanOf := by decide +kernel
theorem hn_cX3_spanOf : cX3_spanOf.size = 31 := by decide +kernel
theorem dX3_spanOf_0 : decode cX3_spanOf 0 = .ok (.iload_n 1, 1) := qr_o27 hN_cX3_spanOf hn_cX3_spanOf rfl rfl
theorem dX3_spanOf_1 : decode cX3_spanOf 1 = .ok (.bipush 6, 2) := qr_o16 6 rfl hN_cX3_spanOf hn_cX3_spanOf rfl rfl rfl
theorem dX3_spanOf_3 : decode cX3_spanOf 3 = .ok (.imul, 1) := qr_o104 hN_cX3_spanOf hn_cX3_spanOf rfl rfl
theorem dX3_spanOf_4 : decode cX3_spanOf 4 = .ok (.iload_n 2, 1) := qr_o28 hN_cX3_spanOf hn_cX3_spanOf rfl rfl
theorem dX3_spanOf_5 : decode cX3_spanOf 5 = .ok (.iadd, 1) := qr_o96 hN_cX3_spanOf hn_cX3_spanOf rfl rfl
theorem dX3_spanOf_6 : decode cX3_spanOf 6 = .ok (.istore_n 3, 1) := qr_o62 hN_cX3_spanOf hn_cX3_spanOf rfl rfl
theorem dX3_spanOf_7 : decode cX3_spanOf 7 = .ok (.iload_n 3, 1) := qr_o29 hN_cX3_spanOf hn_cX3_spanOf rfl rfl
theorem dX3_spanOf_8 : decode cX3_spanOf 8 = .ok (.ifCond .lt 21, 3) := qr_o155 0 21 rfl hN_cX3_spanOf hn_cX3_spanOf rfl rfl rfl rfl
theorem dX3_spanOf_11 : decode cX3_spanOf 11 = .ok (.iload_n 3, 1) := qr_o29 hN_cX3_spanOf hn_cX3_spanOf rfl rfl
theorem dX3_spanOf_12 : decode cX3_spanOf 12 = .ok (.aload_n 0, 1) := qr_o42 hN_cX3_spanOf hn_cX3_spanOf rfl rfl
theorem dX3_spanOf_13 : decode cX3_spanOf 13 = .ok (.getfield 9, 3) := qr_o180 0 9 hN_cX3_spanOf hn_cX3_spanOf rfl rfl rfl rfl
theorem dX3_spanOf_16 : decode cX3_spanOf 16 = .ok (.arraylength, 1) := qr_o190 hN_cX3_spanOf hn_cX3_spanOf rfl rfl
theorem dX3_spanOf_17 : decode cX3_spanOf 17 = .ok (.if_icmp .ge 12, 3) := qr_o162 0 12 rfl hN_cX3_spanOf hn_cX3_spanOf rfl rfl rfl rfl
theorem dX3_spanOf_20 : decode cX3_spanOf 20 = .ok (.aload_n 0, 1) := qr_o42 hN_cX3_spanOf hn_cX3_spanOf rfl rfl
theorem dX3_spanOf_21 : decode cX3_spanOf 21 = .ok (.getfield 9, 3) := qr_o180 0 9 hN_cX3_spanOf hn_cX3_spanOf rfl rfl rfl rfl
theorem dX3_spanOf_24 : decode cX3_spanOf 24 = .ok (.iload_n 3, 1) := qr_o29 hN_cX3_spanOf hn_cX3_spanOf rfl rfl
theorem dX3_spanOf_25 : decode cX3_spanOf 25 = .ok (.iaload, 1) := qr_o46 hN_cX3_spanOf hn_cX3_spanOf rfl rfl
theorem dX3_spanOf_26 : decode cX3_spanOf 26 = .ok (.goto 4, 3) := qr_o167 0 4 rfl hN_cX3_spanOf hn_cX3_spanOf rfl rfl rfl rfl
theorem dX3_spanOf_29 : decode cX3_spanOf 29 = .ok (.iconst 0, 1) := qr_o3 hN_cX3_spanOf hn_cX3_spanOf rfl rfl
theorem dX3_spanOf_30 : decode cX3_spanOf 30 = .ok (.ireturn, 1) := qr_o172 hN_cX3_spanOf hn_cX3_spanOf rfl rfl
def nN_cX3_tighten : Nat := 0xb14f1d04150900b42a0b00a22e04150900b42a1d1600a2be0900b42a041520009b04150436601c6806101b
theorem hN_cX3_tighten : qr_n cX3_tighten.data.toList = nN_cX3_tighten := by decide +kernel
theorem hn_cX3_tighten : cX3_tighten.size = 43 := by decide +kernel
theorem dX3_tighten_0 : decode cX3_tighten 0 = .ok (.iload_n 1, 1) := qr_o27 hN_cX3_tighten hn_cX3_tighten rfl rfl
theorem dX3_tighten_1 : decode cX3_tighten 1 = .ok (.bipush 6, 2) := qr_o16 6 rfl hN_cX3_tighten hn_cX3_tighten rfl rfl rfl
theorem dX3_tighten_3 : decode cX3_tighten 3 = .ok (.imul, 1) := qr_o104 hN_cX3_tighten hn_cX3_tighten rfl rfl
theorem dX3_tighten_4 : decode cX3_tighten 4 = .ok (.iload_n 2, 1) := qr_o28 hN_cX3_tighten hn_cX3_tighten rfl rfl
theorem dX3_tighten_5 : decode cX3_tighten 5 = .ok (.iadd, 1) := qr_o96 hN_cX3_tighten hn_cX3_tighten rfl rfl
theorem dX3_tighten_6 : decode cX3_tighten 6 = .ok (.istore 4, 2) := qr_o54 4 hN_cX3_tighten hn_cX3_tighten rfl rfl rfl
theorem dX3_tighten_8 : decode cX3_tighten 8 = .ok (.iload 4, 2) := qr_o21 4 hN_cX3_tighten hn_cX3_tighten rfl rfl rfl
theorem dX3_tighten_10 : decode cX3_tighten 10 = .ok (.ifCond .lt 32, 3) := qr_o155 0 32 rfl hN_cX3_tighten hn_cX3_tighten rfl rfl rfl rfl
theorem dX3_tighten_13 : decode cX3_tighten 13 = .ok (.iload 4, 2) := qr_o21 4 hN_cX3_tighten hn_cX3_tighten rfl rfl rfl
theorem dX3_tighten_15 : decode cX3_tighten 15 = .ok (.aload_n 0, 1) := qr_o42 hN_cX3_tighten hn_cX3_tighten rfl rfl
theorem dX3_tighten_16 : decode cX3_tighten 16 = .ok (.getfield 9, 3) := qr_o180 0 9 hN_cX3_tighten hn_cX3_tighten rfl rfl rfl rfl
theorem dX3_tighten_19 : decode cX3_tighten 19 = .ok (.arraylength, 1) := qr_o190 hN_cX3_tighten hn_cX3_tighten rfl rfl
theorem dX3_tighten_20 : decode cX3_tighten 20 = .ok (.if_icmp .ge 22, 3) := qr_o162 0 22 rfl hN_cX3_tighten hn_cX3_tighten rfl rfl rfl rfl
theorem dX3_tighten_23 : decode cX3_tighten 23 = .ok (.iload_n 3, 1) := qr_o29 hN_cX3_tighten hn_cX3_tighten rfl rfl
theorem dX3_tighten_24 : decode cX3_tighten 24 = .ok (.aload_n 0, 1) := qr_o42 hN_cX3_tighten hn_cX3_tighten rfl rfl
theorem dX3_tighten_25 : decode cX3_tighten 25 = .ok (.getfield 9, 3) := qr_o180 0 9 hN_cX3_tighten hn_cX3_tighten rfl rfl rfl rfl
theorem dX3_tighten_28 : decode cX3_tighten 28 = .ok (.iload 4, 2) := qr_o21 4 hN_cX3_tighten hn_cX3_tighten rfl rfl rfl
theorem dX3_tighten_30 : decode cX3_tighten 30 = .ok (.iaload, 1) := qr_o46 hN_cX3_tighten hn_cX3_tighten rfl rfl
theorem dX3_tighten_31 : decode cX3_tighten 31 = .ok (.if_icmp .ge 11, 3) := qr_o162 0 11 rfl hN_cX3_tighten hn_cX3_tighten rfl rfl rfl rfl
theorem dX3_tighten_34 : decode cX3_tighten 34 = .ok (.aload_n 0, 1) := qr_o42 hN_cX3_tighten hn_cX3_tighten rfl rfl
theorem dX3_tighten_35 : decode cX3_tighten 35 = .ok (.getfield 9, 3) := qr_o180 0 9 hN_cX3_tighten hn_cX3_tighten rfl rfl rfl rfl
theorem dX3_tighten_38 : decode cX3_tighten 38 = .ok (.iload 4, 2) := qr_o21 4 hN_cX3_tighten hn_cX3_tighten rfl rfl rfl
theorem dX3_tighten_40 : decode cX3_tighten 40 = .ok (.iload_n 3, 1) := qr_o29 hN_cX3_tighten hn_cX3_tighten rfl rfl
theorem dX3_tighten_41 : decode cX3_tighten 41 = .ok (.iastore, 1) := qr_o79 hN_cX3_tighten hn_cX3_tighten rfl rfl
theorem dX3_tighten_42 : decode cX3_tighten 42 = .ok (.return_, 1) := qr_o177 hN_cX3_tighten hn_cX3_tighten rfl rfl
def nN_cX3_close : Nat := 0xb1e9ffa70101841a00b5042a08009c2500b61b1b2a1700a206101b3c03c8ffa7010184d6ffa7010284e4ffa70103841e00b6602500b61d1b2a2500b61b1c2a1d1c2a1c00a206101d3e032a00a206101c3d033800a206101b3c03
theorem hN_cX3_close : qr_n cX3_close.data.toList = nN_cX3_close := by decide +kernel
theorem hn_cX3_close : cX3_close.size = 90 := by decide +kernel
theorem dX3_close_0 : decode cX3_close 0 = .ok (.iconst 0, 1) := qr_o3 hN_cX3_close hn_cX3_close rfl rfl
theorem dX3_close_1 : decode cX3_close 1 = .ok (.istore_n 1, 1) := qr_o60 hN_cX3_close hn_cX3_close rfl rfl
theorem dX3_close_2 : decode cX3_close 2 = .ok (.iload_n 1, 1) := qr_o27 hN_cX3_close hn_cX3_close rfl rfl
theorem dX3_close_3 : decode cX3_close 3 = .ok (.bipush 6, 2) := qr_o16 6 rfl hN_cX3_close hn_cX3_close rfl rfl rfl
theorem dX3_close_5 : decode cX3_close 5 = .ok (.if_icmp .ge 56, 3) := qr_o162 0 56 rfl hN_cX3_close hn_cX3_close rfl rfl rfl rfl
theorem dX3_close_8 : decode cX3_close 8 = .ok (.iconst 0, 1) := qr_o3 hN_cX3_close hn_cX3_close rfl rfl
theorem dX3_close_9 : decode cX3_close 9 = .ok (.istore_n 2, 1) := qr_o61 hN_cX3_close hn_cX3_close rfl rfl
theorem dX3_close_10 : decode cX3_close 10 = .ok (.iload_n 2, 1) := qr_o28 hN_cX3_close hn_cX3_close rfl rfl
theorem dX3_close_11 : decode cX3_close 11 = .ok (.bipush 6, 2) := qr_o16 6 rfl hN_cX3_close hn_cX3_close rfl rfl rfl
theorem dX3_close_13 : decode cX3_close 13 = .ok (.if_icmp .ge 42, 3) := qr_o162 0 42 rfl hN_cX3_close hn_cX3_close rfl rfl rfl rfl
theorem dX3_close_16 : decode cX3_close 16 = .ok (.iconst 0, 1) := qr_o3 hN_cX3_close hn_cX3_close rfl rfl
theorem dX3_close_17 : decode cX3_close 17 = .ok (.istore_n 3, 1) := qr_o62 hN_cX3_close hn_cX3_close rfl rfl
theorem dX3_close_18 : decode cX3_close 18 = .ok (.iload_n 3, 1) := qr_o29 hN_cX3_close hn_cX3_close rfl rfl
theorem dX3_close_19 : decode cX3_close 19 = .ok (.bipush 6, 2) := qr_o16 6 rfl hN_cX3_close hn_cX3_close rfl rfl rfl
theorem dX3_close_21 : decode cX3_close 21 = .ok (.if_icmp .ge 28, 3) := qr_o162 0 28 rfl hN_cX3_close hn_cX3_close rfl rfl rfl rfl
theorem dX3_close_24 : decode cX3_close 24 = .ok (.aload_n 0, 1) := qr_o42 hN_cX3_close hn_cX3_close rfl rfl
theorem dX3_close_25 : decode cX3_close 25 = .ok (.iload_n 2, 1) := qr_o28 hN_cX3_close hn_cX3_close rfl rfl
theorem dX3_close_26 : decode cX3_close 26 = .ok (.iload_n 3, 1) := qr_o29 hN_cX3_close hn_cX3_close rfl rfl
theorem dX3_close_27 : decode cX3_close 27 = .ok (.aload_n 0, 1) := qr_o42 hN_cX3_close hn_cX3_close rfl rfl
theorem dX3_close_28 : decode cX3_close 28 = .ok (.iload_n 2, 1) := qr_o28 hN_cX3_close hn_cX3_close rfl rfl
theorem dX3_close_29 : decode cX3_close 29 = .ok (.iload_n 1, 1) := qr_o27 hN_cX3_close hn_cX3_close rfl rfl
theorem dX3_close_30 : decode cX3_close 30 = .ok (.invokevirtual 37, 3) := qr_o182 0 37 hN_cX3_close hn_cX3_close rfl rfl rfl rfl
theorem dX3_close_33 : decode cX3_close 33 = .ok (.aload_n 0, 1) := qr_o42 hN_cX3_close hn_cX3_close rfl rfl
theorem dX3_close_34 : decode cX3_close 34 = .ok (.iload_n 1, 1) := qr_o27 hN_cX3_close hn_cX3_close rfl rfl
theorem dX3_close_35 : decode cX3_close 35 = .ok (.iload_n 3, 1) := qr_o29 hN_cX3_close hn_cX3_close rfl rfl
theorem dX3_close_36 : decode cX3_close 36 = .ok (.invokevirtual 37, 3) := qr_o182 0 37 hN_cX3_close hn_cX3_close rfl rfl rfl rfl
theorem dX3_close_39 : decode cX3_close 39 = .ok (.iadd, 1) := qr_o96 hN_cX3_close hn_cX3_close rfl rfl
theorem dX3_close_40 : decode cX3_close 40 = .ok (.invokevirtual 30, 3) := qr_o182 0 30 hN_cX3_close hn_cX3_close rfl rfl rfl rfl
theorem dX3_close_43 : decode cX3_close 43 = .ok (.iinc 3 1, 3) := qr_o132 3 1 rfl hN_cX3_close hn_cX3_close rfl rfl rfl rfl
theorem dX3_close_46 : decode cX3_close 46 = .ok (.goto (-28), 3) := qr_w167 255 228 28 rfl rfl hN_cX3_close hn_cX3_close rfl rfl rfl rfl
theorem dX3_close_49 : decode cX3_close 49 = .ok (.iinc 2 1, 3) := qr_o132 2 1 rfl hN_cX3_close hn_cX3_close rfl rfl rfl rfl
theorem dX3_close_52 : decode cX3_close 52 = .ok (.goto (-42), 3) := qr_w167 255 214 42 rfl rfl hN_cX3_close hn_cX3_close rfl rfl rfl rfl
theorem dX3_close_55 : decode cX3_close 55 = .ok (.iinc 1 1, 3) := qr_o132 1 1 rfl hN_cX3_close hn_cX3_close rfl rfl rfl rfl
theorem dX3_close_58 : decode cX3_close 58 = .ok (.goto (-56), 3) := qr_w167 255 200 56 rfl rfl hN_cX3_close hn_cX3_close rfl rfl rfl rfl
theorem dX3_close_61 : decode cX3_close 61 = .ok (.iconst 0, 1) := qr_o3 hN_cX3_close hn_cX3_close rfl rfl
theorem dX3_close_62 : decode cX3_close 62 = .ok (.istore_n 1, 1) := qr_o60 hN_cX3_close hn_cX3_close rfl rfl
theorem dX3_close_63 : decode cX3_close 63 = .ok (.iload_n 1, 1) := qr_o27 hN_cX3_close hn_cX3_close rfl rfl
theorem dX3_close_64 : decode cX3_close 64 = .ok (.bipush 6, 2) := qr_o16 6 rfl hN_cX3_close hn_cX3_close rfl rfl rfl
theorem dX3_close_66 : decode cX3_close 66 = .ok (.if_icmp .ge 23, 3) := qr_o162 0 23 rfl hN_cX3_close hn_cX3_close rfl rfl rfl rfl
theorem dX3_close_69 : decode cX3_close 69 = .ok (.aload_n 0, 1) := qr_o42 hN_cX3_close hn_cX3_close rfl rfl
theorem dX3_close_70 : decode cX3_close 70 = .ok (.iload_n 1, 1) := qr_o27 hN_cX3_close hn_cX3_close rfl rfl
theorem dX3_close_71 : decode cX3_close 71 = .ok (.iload_n 1, 1) := qr_o27 hN_cX3_close hn_cX3_close rfl rfl
theorem dX3_close_72 : decode cX3_close 72 = .ok (.invokevirtual 37, 3) := qr_o182 0 37 hN_cX3_close hn_cX3_close rfl rfl rfl rfl
theorem dX3_close_75 : decode cX3_close 75 = .ok (.ifCond .ge 8, 3) := qr_o156 0 8 rfl hN_cX3_close hn_cX3_close rfl rfl rfl rfl
theorem dX3_close_78 : decode cX3_close 78 = .ok (.aload_n 0, 1) := qr_o42 hN_cX3_close hn_cX3_close rfl rfl
theorem dX3_close_79 : decode cX3_close 79 = .ok (.iconst 1, 1) := qr_o4 hN_cX3_close hn_cX3_close rfl rfl
theorem dX3_close_80 : decode cX3_close 80 = .ok (.putfield 26, 3) := qr_o181 0 26 hN_cX3_close hn_cX3_close rfl rfl rfl rfl
theorem dX3_close_83 : decode cX3_close 83 = .ok (.iinc 1 1, 3) := qr_o132 1 1 rfl hN_cX3_close hn_cX3_close rfl rfl rfl rfl
theorem dX3_close_86 : decode cX3_close 86 = .ok (.goto (-23), 3) := qr_w167 255 233 23 rfl rfl hN_cX3_close hn_cX3_close rfl rfl rfl rfl
theorem dX3_close_89 : decode cX3_close 89 = .ok (.return_, 1) := qr_o177 hN_cX3_close hn_cX3_close rfl rfl
def nN_cX3_readEnds : Nat := 0xb1c6ffa70101844f2500b61b032a0900a709100800991a00b42a1b1000b42a4f742500b6031b2a0a00a7f7100800991a00b42a1b0d00b42a3a00a206101b3c04
theorem hN_cX3_readEnds : qr_n cX3_readEnds.data.toList = nN_cX3_readEnds := by decide +kernel
theorem hn_cX3_readEnds : cX3_readEnds.size = 64 := by decide +kernel
theorem dX3_readEnds_0 : decode cX3_readEnds 0 = .ok (.iconst 1, 1) := qr_o4 hN_cX3_readEnds hn_cX3_readEnds rfl rfl
theorem dX3_readEnds_1 : decode cX3_readEnds 1 = .ok (.istore_n 1, 1) := qr_o60 hN_cX3_readEnds hn_cX3_readEnds rfl rfl
theorem dX3_readEnds_2 : decode cX3_readEnds 2 = .ok (.iload_n 1, 1) := qr_o27 hN_cX3_readEnds hn_cX3_readEnds rfl rfl
theorem dX3_readEnds_3 : decode cX3_readEnds 3 = .ok (.bipush 6, 2) := qr_o16 6 rfl hN_cX3_readEnds hn_cX3_readEnds rfl rfl rfl
theorem dX3_readEnds_5 : decode cX3_readEnds 5 = .ok (.if_icmp .ge 58, 3) := qr_o162 0 58 rfl hN_cX3_readEnds hn_cX3_readEnds rfl rfl rfl rfl
theorem dX3_readEnds_8 : decode cX3_readEnds 8 = .ok (.aload_n 0, 1) := qr_o42 hN_cX3_readEnds hn_cX3_readEnds rfl rfl
theorem dX3_readEnds_9 : decode cX3_readEnds 9 = .ok (.getfield 13, 3) := qr_o180 0 13 hN_cX3_readEnds hn_cX3_readEnds rfl rfl rfl rfl
theorem dX3_readEnds_12 : decode cX3_readEnds 12 = .ok (.iload_n 1, 1) := qr_o27 hN_cX3_readEnds hn_cX3_readEnds rfl rfl
theorem dX3_readEnds_13 : decode cX3_readEnds 13 = .ok (.aload_n 0, 1) := qr_o42 hN_cX3_readEnds hn_cX3_readEnds rfl rfl
theorem dX3_readEnds_14 : decode cX3_readEnds 14 = .ok (.getfield 26, 3) := qr_o180 0 26 hN_cX3_readEnds hn_cX3_readEnds rfl rfl rfl rfl
theorem dX3_readEnds_17 : decode cX3_readEnds 17 = .ok (.ifCond .eq 8, 3) := qr_o153 0 8 rfl hN_cX3_readEnds hn_cX3_readEnds rfl rfl rfl rfl
theorem dX3_readEnds_20 : decode cX3_readEnds 20 = .ok (.bipush (-9), 2) := qr_w16 247 9 rfl rfl hN_cX3_readEnds hn_cX3_readEnds rfl rfl rfl
theorem dX3_readEnds_22 : decode cX3_readEnds 22 = .ok (.goto 10, 3) := qr_o167 0 10 rfl hN_cX3_readEnds hn_cX3_readEnds rfl rfl rfl rfl
theorem dX3_readEnds_25 : decode cX3_readEnds 25 = .ok (.aload_n 0, 1) := qr_o42 hN_cX3_readEnds hn_cX3_readEnds rfl rfl
theorem dX3_readEnds_26 : decode cX3_readEnds 26 = .ok (.iload_n 1, 1) := qr_o27 hN_cX3_readEnds hn_cX3_readEnds rfl rfl
theorem dX3_readEnds_27 : decode cX3_readEnds 27 = .ok (.iconst 0, 1) := qr_o3 hN_cX3_readEnds hn_cX3_readEnds rfl rfl
theorem dX3_readEnds_28 : decode cX3_readEnds 28 = .ok (.invokevirtual 37, 3) := qr_o182 0 37 hN_cX3_readEnds hn_cX3_readEnds rfl rfl rfl rfl
theorem dX3_readEnds_31 : decode cX3_readEnds 31 = .ok (.ineg, 1) := qr_o116 hN_cX3_readEnds hn_cX3_readEnds rfl rfl
theorem dX3_readEnds_32 : decode cX3_readEnds 32 = .ok (.iastore, 1) := qr_o79 hN_cX3_readEnds hn_cX3_readEnds rfl rfl
theorem dX3_readEnds_33 : decode cX3_readEnds 33 = .ok (.aload_n 0, 1) := qr_o42 hN_cX3_readEnds hn_cX3_readEnds rfl rfl
theorem dX3_readEnds_34 : decode cX3_readEnds 34 = .ok (.getfield 16, 3) := qr_o180 0 16 hN_cX3_readEnds hn_cX3_readEnds rfl rfl rfl rfl
theorem dX3_readEnds_37 : decode cX3_readEnds 37 = .ok (.iload_n 1, 1) := qr_o27 hN_cX3_readEnds hn_cX3_readEnds rfl rfl
theorem dX3_readEnds_38 : decode cX3_readEnds 38 = .ok (.aload_n 0, 1) := qr_o42 hN_cX3_readEnds hn_cX3_readEnds rfl rfl
theorem dX3_readEnds_39 : decode cX3_readEnds 39 = .ok (.getfield 26, 3) := qr_o180 0 26 hN_cX3_readEnds hn_cX3_readEnds rfl rfl rfl rfl
theorem dX3_readEnds_42 : decode cX3_readEnds 42 = .ok (.ifCond .eq 8, 3) := qr_o153 0 8 rfl hN_cX3_readEnds hn_cX3_readEnds rfl rfl rfl rfl
theorem dX3_readEnds_45 : decode cX3_readEnds 45 = .ok (.bipush 9, 2) := qr_o16 9 rfl hN_cX3_readEnds hn_cX3_readEnds rfl rfl rfl
theorem dX3_readEnds_47 : decode cX3_readEnds 47 = .ok (.goto 9, 3) := qr_o167 0 9 rfl hN_cX3_readEnds hn_cX3_readEnds rfl rfl rfl rfl
theorem dX3_readEnds_50 : decode cX3_readEnds 50 = .ok (.aload_n 0, 1) := qr_o42 hN_cX3_readEnds hn_cX3_readEnds rfl rfl
theorem dX3_readEnds_51 : decode cX3_readEnds 51 = .ok (.iconst 0, 1) := qr_o3 hN_cX3_readEnds hn_cX3_readEnds rfl rfl
theorem dX3_readEnds_52 : decode cX3_readEnds 52 = .ok (.iload_n 1, 1) := qr_o27 hN_cX3_readEnds hn_cX3_readEnds rfl rfl
theorem dX3_readEnds_53 : decode cX3_readEnds 53 = .ok (.invokevirtual 37, 3) := qr_o182 0 37 hN_cX3_readEnds hn_cX3_readEnds rfl rfl rfl rfl
theorem dX3_readEnds_56 : decode cX3_readEnds 56 = .ok (.iastore, 1) := qr_o79 hN_cX3_readEnds hn_cX3_readEnds rfl rfl
theorem dX3_readEnds_57 : decode cX3_readEnds 57 = .ok (.iinc 1 1, 3) := qr_o132 1 1 rfl hN_cX3_readEnds hn_cX3_readEnds rfl rfl rfl rfl
theorem dX3_readEnds_60 : decode cX3_readEnds 60 = .ok (.goto (-58), 3) := qr_w167 255 198 58 rfl rfl hN_cX3_readEnds hn_cX3_readEnds rfl rfl rfl rfl
theorem dX3_readEnds_63 : decode cX3_readEnds 63 = .ok (.return_, 1) := qr_o177 hN_cX3_readEnds hn_cX3_readEnds rfl rfl
def nN_cX4_init : Nat := 0xb12100b507152a1e00b506152a1b00b505152a1800b504152a1500b51d2a1200b51c2a0f00b51b2a0900b5fc102a0300b72a
theorem hN_cX4_init : qr_n cX4_init.data.toList = nN_cX4_init := by decide +kernel
theorem hn_cX4_init : cX4_init.size = 50 := by decide +kernel
theorem dX4_init_0 : decode cX4_init 0 = .ok (.aload_n 0, 1) := qr_o42 hN_cX4_init hn_cX4_init rfl rfl
theorem dX4_init_1 : decode cX4_init 1 = .ok (.invokespecial 3, 3) := qr_o183 0 3 hN_cX4_init hn_cX4_init rfl rfl rfl rfl
theorem dX4_init_4 : decode cX4_init 4 = .ok (.aload_n 0, 1) := qr_o42 hN_cX4_init hn_cX4_init rfl rfl
theorem dX4_init_5 : decode cX4_init 5 = .ok (.bipush (-4), 2) := qr_w16 252 4 rfl rfl hN_cX4_init hn_cX4_init rfl rfl rfl
theorem dX4_init_7 : decode cX4_init 7 = .ok (.putfield 9, 3) := qr_o181 0 9 hN_cX4_init hn_cX4_init rfl rfl rfl rfl
theorem dX4_init_10 : decode cX4_init 10 = .ok (.aload_n 0, 1) := qr_o42 hN_cX4_init hn_cX4_init rfl rfl
theorem dX4_init_11 : decode cX4_init 11 = .ok (.iload_n 1, 1) := qr_o27 hN_cX4_init hn_cX4_init rfl rfl
theorem dX4_init_12 : decode cX4_init 12 = .ok (.putfield 15, 3) := qr_o181 0 15 hN_cX4_init hn_cX4_init rfl rfl rfl rfl
theorem dX4_init_15 : decode cX4_init 15 = .ok (.aload_n 0, 1) := qr_o42 hN_cX4_init hn_cX4_init rfl rfl
theorem dX4_init_16 : decode cX4_init 16 = .ok (.iload_n 2, 1) := qr_o28 hN_cX4_init hn_cX4_init rfl rfl
theorem dX4_init_17 : decode cX4_init 17 = .ok (.putfield 18, 3) := qr_o181 0 18 hN_cX4_init hn_cX4_init rfl rfl rfl rfl
theorem dX4_init_20 : decode cX4_init 20 = .ok (.aload_n 0, 1) := qr_o42 hN_cX4_init hn_cX4_init rfl rfl
theorem dX4_init_21 : decode cX4_init 21 = .ok (.iload_n 3, 1) := qr_o29 hN_cX4_init hn_cX4_init rfl rfl
theorem dX4_init_22 : decode cX4_init 22 = .ok (.putfield 21, 3) := qr_o181 0 21 hN_cX4_init hn_cX4_init rfl rfl rfl rfl
theorem dX4_init_25 : decode cX4_init 25 = .ok (.aload_n 0, 1) := qr_o42 hN_cX4_init hn_cX4_init rfl rfl
theorem dX4_init_26 : decode cX4_init 26 = .ok (.iload 4, 2) := qr_o21 4 hN_cX4_init hn_cX4_init rfl rfl rfl
theorem dX4_init_28 : decode cX4_init 28 = .ok (.putfield 24, 3) := qr_o181 0 24 hN_cX4_init hn_cX4_init rfl rfl rfl rfl
theorem dX4_init_31 : decode cX4_init 31 = .ok (.aload_n 0, 1) := qr_o42 hN_cX4_init hn_cX4_init rfl rfl
theorem dX4_init_32 : decode cX4_init 32 = .ok (.iload 5, 2) := qr_o21 5 hN_cX4_init hn_cX4_init rfl rfl rfl
theorem dX4_init_34 : decode cX4_init 34 = .ok (.putfield 27, 3) := qr_o181 0 27 hN_cX4_init hn_cX4_init rfl rfl rfl rfl
theorem dX4_init_37 : decode cX4_init 37 = .ok (.aload_n 0, 1) := qr_o42 hN_cX4_init hn_cX4_init rfl rfl
theorem dX4_init_38 : decode cX4_init 38 = .ok (.iload 6, 2) := qr_o21 6 hN_cX4_init hn_cX4_init rfl rfl rfl
theorem dX4_init_40 : decode cX4_init 40 = .ok (.putfield 30, 3) := qr_o181 0 30 hN_cX4_init hn_cX4_init rfl rfl rfl rfl
theorem dX4_init_43 : decode cX4_init 43 = .ok (.aload_n 0, 1) := qr_o42 hN_cX4_init hn_cX4_init rfl rfl
theorem dX4_init_44 : decode cX4_init 44 = .ok (.iload 7, 2) := qr_o21 7 hN_cX4_init hn_cX4_init rfl rfl rfl
theorem dX4_init_46 : decode cX4_init 46 = .ok (.putfield 33, 3) := qr_o181 0 33 hN_cX4_init hn_cX4_init rfl rfl rfl rfl
