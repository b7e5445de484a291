theorem dX4_init_49 : decode cX4_init 49 = .ok (.return_, 1) := qr_o177 hN_cX4_init hn_cX4_init rfl rfl
def nN_cX4_isWanted : Nat := 0xac030400a7040700a0040f00b42a0f009a1b0f009f1b0f00b42a
theorem hN_cX4_isWanted : qr_n cX4_isWanted.data.toList = nN_cX4_isWanted := by decide +kernel
theorem hn_cX4_isWanted : cX4_isWanted.size = 26 := by decide +kernel
theorem dX4_isWanted_0 : decode cX4_isWanted 0 = .ok (.aload_n 0, 1) := qr_o42 hN_cX4_isWanted hn_cX4_isWanted rfl rfl
theorem dX4_isWanted_1 : decode cX4_isWanted 1 = .ok (.getfield 15, 3) := qr_o180 0 15 hN_cX4_isWanted hn_cX4_isWanted rfl rfl rfl rfl
theorem dX4_isWanted_4 : decode cX4_isWanted 4 = .ok (.iload_n 1, 1) := qr_o27 hN_cX4_isWanted hn_cX4_isWanted rfl rfl
theorem dX4_isWanted_5 : decode cX4_isWanted 5 = .ok (.if_icmp .eq 15, 3) := qr_o159 0 15 rfl hN_cX4_isWanted hn_cX4_isWanted rfl rfl rfl rfl
theorem dX4_isWanted_8 : decode cX4_isWanted 8 = .ok (.iload_n 1, 1) := qr_o27 hN_cX4_isWanted hn_cX4_isWanted rfl rfl
theorem dX4_isWanted_9 : decode cX4_isWanted 9 = .ok (.ifCond .ne 15, 3) := qr_o154 0 15 rfl hN_cX4_isWanted hn_cX4_isWanted rfl rfl rfl rfl
theorem dX4_isWanted_12 : decode cX4_isWanted 12 = .ok (.aload_n 0, 1) := qr_o42 hN_cX4_isWanted hn_cX4_isWanted rfl rfl
theorem dX4_isWanted_13 : decode cX4_isWanted 13 = .ok (.getfield 15, 3) := qr_o180 0 15 hN_cX4_isWanted hn_cX4_isWanted rfl rfl rfl rfl
theorem dX4_isWanted_16 : decode cX4_isWanted 16 = .ok (.iconst 1, 1) := qr_o4 hN_cX4_isWanted hn_cX4_isWanted rfl rfl
theorem dX4_isWanted_17 : decode cX4_isWanted 17 = .ok (.if_icmp .ne 7, 3) := qr_o160 0 7 rfl hN_cX4_isWanted hn_cX4_isWanted rfl rfl rfl rfl
theorem dX4_isWanted_20 : decode cX4_isWanted 20 = .ok (.iconst 1, 1) := qr_o4 hN_cX4_isWanted hn_cX4_isWanted rfl rfl
theorem dX4_isWanted_21 : decode cX4_isWanted 21 = .ok (.goto 4, 3) := qr_o167 0 4 rfl hN_cX4_isWanted hn_cX4_isWanted rfl rfl rfl rfl
theorem dX4_isWanted_24 : decode cX4_isWanted 24 = .ok (.iconst 0, 1) := qr_o3 hN_cX4_isWanted hn_cX4_isWanted rfl rfl
theorem dX4_isWanted_25 : decode cX4_isWanted 25 = .ok (.ireturn, 1) := qr_o172 hN_cX4_isWanted hn_cX4_isWanted rfl rfl
def nN_cX4_isRetired : Nat := 0xac030400a7040700a12100b42a2800b42a0e009a2400b42a
theorem hN_cX4_isRetired : qr_n cX4_isRetired.data.toList = nN_cX4_isRetired := by decide +kernel
theorem hn_cX4_isRetired : cX4_isRetired.size = 24 := by decide +kernel
theorem dX4_isRetired_0 : decode cX4_isRetired 0 = .ok (.aload_n 0, 1) := qr_o42 hN_cX4_isRetired hn_cX4_isRetired rfl rfl
theorem dX4_isRetired_1 : decode cX4_isRetired 1 = .ok (.getfield 36, 3) := qr_o180 0 36 hN_cX4_isRetired hn_cX4_isRetired rfl rfl rfl rfl
theorem dX4_isRetired_4 : decode cX4_isRetired 4 = .ok (.ifCond .ne 14, 3) := qr_o154 0 14 rfl hN_cX4_isRetired hn_cX4_isRetired rfl rfl rfl rfl
theorem dX4_isRetired_7 : decode cX4_isRetired 7 = .ok (.aload_n 0, 1) := qr_o42 hN_cX4_isRetired hn_cX4_isRetired rfl rfl
theorem dX4_isRetired_8 : decode cX4_isRetired 8 = .ok (.getfield 40, 3) := qr_o180 0 40 hN_cX4_isRetired hn_cX4_isRetired rfl rfl rfl rfl
theorem dX4_isRetired_11 : decode cX4_isRetired 11 = .ok (.aload_n 0, 1) := qr_o42 hN_cX4_isRetired hn_cX4_isRetired rfl rfl
theorem dX4_isRetired_12 : decode cX4_isRetired 12 = .ok (.getfield 33, 3) := qr_o180 0 33 hN_cX4_isRetired hn_cX4_isRetired rfl rfl rfl rfl
theorem dX4_isRetired_15 : decode cX4_isRetired 15 = .ok (.if_icmp .lt 7, 3) := qr_o161 0 7 rfl hN_cX4_isRetired hn_cX4_isRetired rfl rfl rfl rfl
theorem dX4_isRetired_18 : decode cX4_isRetired 18 = .ok (.iconst 1, 1) := qr_o4 hN_cX4_isRetired hn_cX4_isRetired rfl rfl
theorem dX4_isRetired_19 : decode cX4_isRetired 19 = .ok (.goto 4, 3) := qr_o167 0 4 rfl hN_cX4_isRetired hn_cX4_isRetired rfl rfl rfl rfl
theorem dX4_isRetired_22 : decode cX4_isRetired 22 = .ok (.iconst 0, 1) := qr_o3 hN_cX4_isRetired hn_cX4_isRetired rfl rfl
theorem dX4_isRetired_23 : decode cX4_isRetired 23 = .ok (.ireturn, 1) := qr_o172 hN_cX4_isRetired hn_cX4_isRetired rfl rfl
def nN_cX4_isTorn : Nat := 0xac030400a70407009ffc100900b42a
theorem hN_cX4_isTorn : qr_n cX4_isTorn.data.toList = nN_cX4_isTorn := by decide +kernel
theorem hn_cX4_isTorn : cX4_isTorn.size = 15 := by decide +kernel
theorem dX4_isTorn_0 : decode cX4_isTorn 0 = .ok (.aload_n 0, 1) := qr_o42 hN_cX4_isTorn hn_cX4_isTorn rfl rfl
theorem dX4_isTorn_1 : decode cX4_isTorn 1 = .ok (.getfield 9, 3) := qr_o180 0 9 hN_cX4_isTorn hn_cX4_isTorn rfl rfl rfl rfl
theorem dX4_isTorn_4 : decode cX4_isTorn 4 = .ok (.bipush (-4), 2) := qr_w16 252 4 rfl rfl hN_cX4_isTorn hn_cX4_isTorn rfl rfl rfl
theorem dX4_isTorn_6 : decode cX4_isTorn 6 = .ok (.if_icmp .eq 7, 3) := qr_o159 0 7 rfl hN_cX4_isTorn hn_cX4_isTorn rfl rfl rfl rfl
theorem dX4_isTorn_9 : decode cX4_isTorn 9 = .ok (.iconst 1, 1) := qr_o4 hN_cX4_isTorn hn_cX4_isTorn rfl rfl
theorem dX4_isTorn_10 : decode cX4_isTorn 10 = .ok (.goto 4, 3) := qr_o167 0 4 rfl hN_cX4_isTorn hn_cX4_isTorn rfl rfl rfl rfl
theorem dX4_isTorn_13 : decode cX4_isTorn 13 = .ok (.iconst 0, 1) := qr_o3 hN_cX4_isTorn hn_cX4_isTorn rfl rfl
theorem dX4_isTorn_14 : decode cX4_isTorn 14 = .ok (.ireturn, 1) := qr_o172 hN_cX4_isTorn hn_cX4_isTorn rfl rfl
def nN_cX4_isTornBy : Nat := 0xac030400a7040700a31b0900b42a0f00992b00b62a
theorem hN_cX4_isTornBy : qr_n cX4_isTornBy.data.toList = nN_cX4_isTornBy := by decide +kernel
theorem hn_cX4_isTornBy : cX4_isTornBy.size = 21 := by decide +kernel
theorem dX4_isTornBy_0 : decode cX4_isTornBy 0 = .ok (.aload_n 0, 1) := qr_o42 hN_cX4_isTornBy hn_cX4_isTornBy rfl rfl
theorem dX4_isTornBy_1 : decode cX4_isTornBy 1 = .ok (.invokevirtual 43, 3) := qr_o182 0 43 hN_cX4_isTornBy hn_cX4_isTornBy rfl rfl rfl rfl
theorem dX4_isTornBy_4 : decode cX4_isTornBy 4 = .ok (.ifCond .eq 15, 3) := qr_o153 0 15 rfl hN_cX4_isTornBy hn_cX4_isTornBy rfl rfl rfl rfl
theorem dX4_isTornBy_7 : decode cX4_isTornBy 7 = .ok (.aload_n 0, 1) := qr_o42 hN_cX4_isTornBy hn_cX4_isTornBy rfl rfl
theorem dX4_isTornBy_8 : decode cX4_isTornBy 8 = .ok (.getfield 9, 3) := qr_o180 0 9 hN_cX4_isTornBy hn_cX4_isTornBy rfl rfl rfl rfl
theorem dX4_isTornBy_11 : decode cX4_isTornBy 11 = .ok (.iload_n 1, 1) := qr_o27 hN_cX4_isTornBy hn_cX4_isTornBy rfl rfl
theorem dX4_isTornBy_12 : decode cX4_isTornBy 12 = .ok (.if_icmp .gt 7, 3) := qr_o163 0 7 rfl hN_cX4_isTornBy hn_cX4_isTornBy rfl rfl rfl rfl
theorem dX4_isTornBy_15 : decode cX4_isTornBy 15 = .ok (.iconst 1, 1) := qr_o4 hN_cX4_isTornBy hn_cX4_isTornBy rfl rfl
theorem dX4_isTornBy_16 : decode cX4_isTornBy 16 = .ok (.goto 4, 3) := qr_o167 0 4 rfl hN_cX4_isTornBy hn_cX4_isTornBy rfl rfl rfl rfl
theorem dX4_isTornBy_19 : decode cX4_isTornBy 19 = .ok (.iconst 0, 1) := qr_o3 hN_cX4_isTornBy hn_cX4_isTornBy rfl rfl
theorem dX4_isTornBy_20 : decode cX4_isTornBy 20 = .ok (.ireturn, 1) := qr_o172 hN_cX4_isTornBy hn_cX4_isTornBy rfl rfl
def nN_cX4_canBeWornOn : Nat := 0xac030400a70407009a3200b61b2a0f009a2f00b62a
theorem hN_cX4_canBeWornOn : qr_n cX4_canBeWornOn.data.toList = nN_cX4_canBeWornOn := by decide +kernel
theorem hn_cX4_canBeWornOn : cX4_canBeWornOn.size = 21 := by decide +kernel
theorem dX4_canBeWornOn_0 : decode cX4_canBeWornOn 0 = .ok (.aload_n 0, 1) := qr_o42 hN_cX4_canBeWornOn hn_cX4_canBeWornOn rfl rfl
theorem dX4_canBeWornOn_1 : decode cX4_canBeWornOn 1 = .ok (.invokevirtual 47, 3) := qr_o182 0 47 hN_cX4_canBeWornOn hn_cX4_canBeWornOn rfl rfl rfl rfl
theorem dX4_canBeWornOn_4 : decode cX4_canBeWornOn 4 = .ok (.ifCond .ne 15, 3) := qr_o154 0 15 rfl hN_cX4_canBeWornOn hn_cX4_canBeWornOn rfl rfl rfl rfl
theorem dX4_canBeWornOn_7 : decode cX4_canBeWornOn 7 = .ok (.aload_n 0, 1) := qr_o42 hN_cX4_canBeWornOn hn_cX4_canBeWornOn rfl rfl
theorem dX4_canBeWornOn_8 : decode cX4_canBeWornOn 8 = .ok (.iload_n 1, 1) := qr_o27 hN_cX4_canBeWornOn hn_cX4_canBeWornOn rfl rfl
theorem dX4_canBeWornOn_9 : decode cX4_canBeWornOn 9 = .ok (.invokevirtual 50, 3) := qr_o182 0 50 hN_cX4_canBeWornOn hn_cX4_canBeWornOn rfl rfl rfl rfl
theorem dX4_canBeWornOn_12 : decode cX4_canBeWornOn 12 = .ok (.ifCond .ne 7, 3) := qr_o154 0 7 rfl hN_cX4_canBeWornOn hn_cX4_canBeWornOn rfl rfl rfl rfl
theorem dX4_canBeWornOn_15 : decode cX4_canBeWornOn 15 = .ok (.iconst 1, 1) := qr_o4 hN_cX4_canBeWornOn hn_cX4_canBeWornOn rfl rfl
theorem dX4_canBeWornOn_16 : decode cX4_canBeWornOn 16 = .ok (.goto 4, 3) := qr_o167 0 4 rfl hN_cX4_canBeWornOn hn_cX4_canBeWornOn rfl rfl rfl rfl
theorem dX4_canBeWornOn_19 : decode cX4_canBeWornOn 19 = .ok (.iconst 0, 1) := qr_o3 hN_cX4_canBeWornOn hn_cX4_canBeWornOn rfl rfl
theorem dX4_canBeWornOn_20 : decode cX4_canBeWornOn 20 = .ok (.ireturn, 1) := qr_o172 hN_cX4_canBeWornOn hn_cX4_canBeWornOn rfl rfl
def nN_cX4_worth : Nat := 0xac6c2100b42a683600b8642800b42a2100b42a031e00b42a1a00a7030700a2042100b42a
theorem hN_cX4_worth : qr_n cX4_worth.data.toList = nN_cX4_worth := by decide +kernel
theorem hn_cX4_worth : cX4_worth.size = 36 := by decide +kernel
theorem dX4_worth_0 : decode cX4_worth 0 = .ok (.aload_n 0, 1) := qr_o42 hN_cX4_worth hn_cX4_worth rfl rfl
theorem dX4_worth_1 : decode cX4_worth 1 = .ok (.getfield 33, 3) := qr_o180 0 33 hN_cX4_worth hn_cX4_worth rfl rfl rfl rfl
theorem dX4_worth_4 : decode cX4_worth 4 = .ok (.iconst 1, 1) := qr_o4 hN_cX4_worth hn_cX4_worth rfl rfl
theorem dX4_worth_5 : decode cX4_worth 5 = .ok (.if_icmp .ge 7, 3) := qr_o162 0 7 rfl hN_cX4_worth hn_cX4_worth rfl rfl rfl rfl
theorem dX4_worth_8 : decode cX4_worth 8 = .ok (.iconst 0, 1) := qr_o3 hN_cX4_worth hn_cX4_worth rfl rfl
theorem dX4_worth_9 : decode cX4_worth 9 = .ok (.goto 26, 3) := qr_o167 0 26 rfl hN_cX4_worth hn_cX4_worth rfl rfl rfl rfl
theorem dX4_worth_12 : decode cX4_worth 12 = .ok (.aload_n 0, 1) := qr_o42 hN_cX4_worth hn_cX4_worth rfl rfl
theorem dX4_worth_13 : decode cX4_worth 13 = .ok (.getfield 30, 3) := qr_o180 0 30 hN_cX4_worth hn_cX4_worth rfl rfl rfl rfl
theorem dX4_worth_16 : decode cX4_worth 16 = .ok (.iconst 0, 1) := qr_o3 hN_cX4_worth hn_cX4_worth rfl rfl
theorem dX4_worth_17 : decode cX4_worth 17 = .ok (.aload_n 0, 1) := qr_o42 hN_cX4_worth hn_cX4_worth rfl rfl
theorem dX4_worth_18 : decode cX4_worth 18 = .ok (.getfield 33, 3) := qr_o180 0 33 hN_cX4_worth hn_cX4_worth rfl rfl rfl rfl
theorem dX4_worth_21 : decode cX4_worth 21 = .ok (.aload_n 0, 1) := qr_o42 hN_cX4_worth hn_cX4_worth rfl rfl
theorem dX4_worth_22 : decode cX4_worth 22 = .ok (.getfield 40, 3) := qr_o180 0 40 hN_cX4_worth hn_cX4_worth rfl rfl rfl rfl
theorem dX4_worth_25 : decode cX4_worth 25 = .ok (.isub, 1) := qr_o100 hN_cX4_worth hn_cX4_worth rfl rfl
theorem dX4_worth_26 : decode cX4_worth 26 = .ok (.invokestatic 54, 3) := qr_o184 0 54 hN_cX4_worth hn_cX4_worth rfl rfl rfl rfl
theorem dX4_worth_29 : decode cX4_worth 29 = .ok (.imul, 1) := qr_o104 hN_cX4_worth hn_cX4_worth rfl rfl
theorem dX4_worth_30 : decode cX4_worth 30 = .ok (.aload_n 0, 1) := qr_o42 hN_cX4_worth hn_cX4_worth rfl rfl
theorem dX4_worth_31 : decode cX4_worth 31 = .ok (.getfield 33, 3) := qr_o180 0 33 hN_cX4_worth hn_cX4_worth rfl rfl rfl rfl
theorem dX4_worth_34 : decode cX4_worth 34 = .ok (.idiv, 1) := qr_o108 hN_cX4_worth hn_cX4_worth rfl rfl
theorem dX4_worth_35 : decode cX4_worth 35 = .ok (.ireturn, 1) := qr_o172 hN_cX4_worth hn_cX4_worth rfl rfl
def nN_cX4_tally : Nat := 0xac03ac2800b42aac030400a7040700992b00b62aac030400a7040700992f00b62a3d000000070000003000000002000000230000000100000003000000420000000000ab1b
theorem hN_cX4_tally : qr_n cX4_tally.data.toList = nN_cX4_tally := by decide +kernel
theorem hn_cX4_tally : cX4_tally.size = 69 := by decide +kernel
theorem dX4_tally_0 : decode cX4_tally 0 = .ok (.iload_n 1, 1) := qr_o27 hN_cX4_tally hn_cX4_tally rfl rfl
theorem dX4_tally_1 : decode cX4_tally 1 = .ok (.lookupswitch 66 #[(1, 35), (2, 48), (7, 61)], 35) := by decide +kernel
theorem dX4_tally_36 : decode cX4_tally 36 = .ok (.aload_n 0, 1) := qr_o42 hN_cX4_tally hn_cX4_tally rfl rfl
theorem dX4_tally_37 : decode cX4_tally 37 = .ok (.invokevirtual 47, 3) := qr_o182 0 47 hN_cX4_tally hn_cX4_tally rfl rfl rfl rfl
theorem dX4_tally_40 : decode cX4_tally 40 = .ok (.ifCond .eq 7, 3) := qr_o153 0 7 rfl hN_cX4_tally hn_cX4_tally rfl rfl rfl rfl
theorem dX4_tally_43 : decode cX4_tally 43 = .ok (.iconst 1, 1) := qr_o4 hN_cX4_tally hn_cX4_tally rfl rfl
theorem dX4_tally_44 : decode cX4_tally 44 = .ok (.goto 4, 3) := qr_o167 0 4 rfl hN_cX4_tally hn_cX4_tally rfl rfl rfl rfl
theorem dX4_tally_47 : decode cX4_tally 47 = .ok (.iconst 0, 1) := qr_o3 hN_cX4_tally hn_cX4_tally rfl rfl
theorem dX4_tally_48 : decode cX4_tally 48 = .ok (.ireturn, 1) := qr_o172 hN_cX4_tally hn_cX4_tally rfl rfl
theorem dX4_tally_49 : decode cX4_tally 49 = .ok (.aload_n 0, 1) := qr_o42 hN_cX4_tally hn_cX4_tally rfl rfl
theorem dX4_tally_50 : decode cX4_tally 50 = .ok (.invokevirtual 43, 3) := qr_o182 0 43 hN_cX4_tally hn_cX4_tally rfl rfl rfl rfl
theorem dX4_tally_53 : decode cX4_tally 53 = .ok (.ifCond .eq 7, 3) := qr_o153 0 7 rfl hN_cX4_tally hn_cX4_tally rfl rfl rfl rfl
theorem dX4_tally_56 : decode cX4_tally 56 = .ok (.iconst 1, 1) := qr_o4 hN_cX4_tally hn_cX4_tally rfl rfl
theorem dX4_tally_57 : decode cX4_tally 57 = .ok (.goto 4, 3) := qr_o167 0 4 rfl hN_cX4_tally hn_cX4_tally rfl rfl rfl rfl
theorem dX4_tally_60 : decode cX4_tally 60 = .ok (.iconst 0, 1) := qr_o3 hN_cX4_tally hn_cX4_tally rfl rfl
theorem dX4_tally_61 : decode cX4_tally 61 = .ok (.ireturn, 1) := qr_o172 hN_cX4_tally hn_cX4_tally rfl rfl
theorem dX4_tally_62 : decode cX4_tally 62 = .ok (.aload_n 0, 1) := qr_o42 hN_cX4_tally hn_cX4_tally rfl rfl
theorem dX4_tally_63 : decode cX4_tally 63 = .ok (.getfield 40, 3) := qr_o180 0 40 hN_cX4_tally hn_cX4_tally rfl rfl rfl rfl
theorem dX4_tally_66 : decode cX4_tally 66 = .ok (.ireturn, 1) := qr_o172 hN_cX4_tally hn_cX4_tally rfl rfl
theorem dX4_tally_67 : decode cX4_tally 67 = .ok (.iconst 0, 1) := qr_o3 hN_cX4_tally hn_cX4_tally rfl rfl
theorem dX4_tally_68 : decode cX4_tally 68 = .ok (.ireturn, 1) := qr_o172 hN_cX4_tally hn_cX4_tally rfl rfl
def nN_cX4_detail : Nat := 0xac02ac0900b42aac030400a7040700992f00b62aac3c00b62aac2800b42aac1e00b42aac1b00b42aac1800b42aac1500b42aac1200b42aac0f00b42a6c0000005f0000005a00000055000000500000004b00000046000000410000003c000000370000000900000000000000710000000000aa1b
theorem hN_cX4_detail : qr_n cX4_detail.data.toList = nN_cX4_detail := by decide +kernel
theorem hn_cX4_detail : cX4_detail.size = 116 := by decide +kernel
theorem dX4_detail_0 : decode cX4_detail 0 = .ok (.iload_n 1, 1) := qr_o27 hN_cX4_detail hn_cX4_detail rfl rfl
theorem dX4_detail_1 : decode cX4_detail 1 = .ok (.tableswitch 113 0 9 #[55, 60, 65, 70, 75, 80, 85, 90, 95, 108], 55) := by decide +kernel
theorem dX4_detail_56 : decode cX4_detail 56 = .ok (.aload_n 0, 1) := qr_o42 hN_cX4_detail hn_cX4_detail rfl rfl
theorem dX4_detail_57 : decode cX4_detail 57 = .ok (.getfield 15, 3) := qr_o180 0 15 hN_cX4_detail hn_cX4_detail rfl rfl rfl rfl
theorem dX4_detail_60 : decode cX4_detail 60 = .ok (.ireturn, 1) := qr_o172 hN_cX4_detail hn_cX4_detail rfl rfl
theorem dX4_detail_61 : decode cX4_detail 61 = .ok (.aload_n 0, 1) := qr_o42 hN_cX4_detail hn_cX4_detail rfl rfl
theorem dX4_detail_62 : decode cX4_detail 62 = .ok (.getfield 18, 3) := qr_o180 0 18 hN_cX4_detail hn_cX4_detail rfl rfl rfl rfl
theorem dX4_detail_65 : decode cX4_detail 65 = .ok (.ireturn, 1) := qr_o172 hN_cX4_detail hn_cX4_detail rfl rfl
theorem dX4_detail_66 : decode cX4_detail 66 = .ok (.aload_n 0, 1) := qr_o42 hN_cX4_detail hn_cX4_detail rfl rfl
theorem dX4_detail_67 : decode cX4_detail 67 = .ok (.getfield 21, 3) := qr_o180 0 21 hN_cX4_detail hn_cX4_detail rfl rfl rfl rfl
theorem dX4_detail_70 : decode cX4_detail 70 = .ok (.ireturn, 1) := qr_o172 hN_cX4_detail hn_cX4_detail rfl rfl
theorem dX4_detail_71 : decode cX4_detail 71 = .ok (.aload_n 0, 1) := qr_o42 hN_cX4_detail hn_cX4_detail rfl rfl
theorem dX4_detail_72 : decode cX4_detail 72 = .ok (.getfield 24, 3) := qr_o180 0 24 hN_cX4_detail hn_cX4_detail rfl rfl rfl rfl
theorem dX4_detail_75 : decode cX4_detail 75 = .ok (.ireturn, 1) := qr_o172 hN_cX4_detail hn_cX4_detail rfl rfl
theorem dX4_detail_76 : decode cX4_detail 76 = .ok (.aload_n 0, 1) := qr_o42 hN_cX4_detail hn_cX4_detail rfl rfl
theorem dX4_detail_77 : decode cX4_detail 77 = .ok (.getfield 27, 3) := qr_o180 0 27 hN_cX4_detail hn_cX4_detail rfl rfl rfl rfl
theorem dX4_detail_80 : decode cX4_detail 80 = .ok (.ireturn, 1) := qr_o172 hN_cX4_detail hn_cX4_detail rfl rfl
theorem dX4_detail_81 : decode cX4_detail 81 = .ok (.aload_n 0, 1) := qr_o42 hN_cX4_detail hn_cX4_detail rfl rfl
theorem dX4_detail_82 : decode cX4_detail 82 = .ok (.getfield 30, 3) := qr_o180 0 30 hN_cX4_detail hn_cX4_detail rfl rfl rfl rfl
theorem dX4_detail_85 : decode cX4_detail 85 = .ok (.ireturn, 1) := qr_o172 hN_cX4_detail hn_cX4_detail rfl rfl
theorem dX4_detail_86 : decode cX4_detail 86 = .ok (.aload_n 0, 1) := qr_o42 hN_cX4_detail hn_cX4_detail rfl rfl
theorem dX4_detail_87 : decode cX4_detail 87 = .ok (.getfield 40, 3) := qr_o180 0 40 hN_cX4_detail hn_cX4_detail rfl rfl rfl rfl
theorem dX4_detail_90 : decode cX4_detail 90 = .ok (.ireturn, 1) := qr_o172 hN_cX4_detail hn_cX4_detail rfl rfl
theorem dX4_detail_91 : decode cX4_detail 91 = .ok (.aload_n 0, 1) := qr_o42 hN_cX4_detail hn_cX4_detail rfl rfl
theorem dX4_detail_92 : decode cX4_detail 92 = .ok (.invokevirtual 60, 3) := qr_o182 0 60 hN_cX4_detail hn_cX4_detail rfl rfl rfl rfl
theorem dX4_detail_95 : decode cX4_detail 95 = .ok (.ireturn, 1) := qr_o172 hN_cX4_detail hn_cX4_detail rfl rfl
theorem dX4_detail_96 : decode cX4_detail 96 = .ok (.aload_n 0, 1) := qr_o42 hN_cX4_detail hn_cX4_detail rfl rfl
theorem dX4_detail_97 : decode cX4_detail 97 = .ok (.invokevirtual 47, 3) := qr_o182 0 47 hN_cX4_detail hn_cX4_detail rfl rfl rfl rfl
theorem dX4_detail_100 : decode cX4_detail 100 = .ok (.ifCond .eq 7, 3) := qr_o153 0 7 rfl hN_cX4_detail hn_cX4_detail rfl rfl rfl rfl
theorem dX4_detail_103 : decode cX4_detail 103 = .ok (.iconst 1, 1) := qr_o4 hN_cX4_detail hn_cX4_detail rfl rfl
theorem dX4_detail_104 : decode cX4_detail 104 = .ok (.goto 4, 3) := qr_o167 0 4 rfl hN_cX4_detail hn_cX4_detail rfl rfl rfl rfl
theorem dX4_detail_107 : decode cX4_detail 107 = .ok (.iconst 0, 1) := qr_o3 hN_cX4_detail hn_cX4_detail rfl rfl
theorem dX4_detail_108 : decode cX4_detail 108 = .ok (.ireturn, 1) := qr_o172 hN_cX4_detail hn_cX4_detail rfl rfl
theorem dX4_detail_109 : decode cX4_detail 109 = .ok (.aload_n 0, 1) := qr_o42 hN_cX4_detail hn_cX4_detail rfl rfl
theorem dX4_detail_110 : decode cX4_detail 110 = .ok (.getfield 9, 3) := qr_o180 0 9 hN_cX4_detail hn_cX4_detail rfl rfl rfl rfl
theorem dX4_detail_113 : decode cX4_detail 113 = .ok (.ireturn, 1) := qr_o172 hN_cX4_detail hn_cX4_detail rfl rfl
theorem dX4_detail_114 : decode cX4_detail 114 = .ok (.iconst (-1), 1) := qr_o2 hN_cX4_detail hn_cX4_detail rfl rfl
theorem dX4_detail_115 : decode cX4_detail 115 = .ok (.ireturn, 1) := qr_o172 hN_cX4_detail hn_cX4_detail rfl rfl
def nN_cX5_init : Nat := 0xb10b00b50abc24102a0300b72a
theorem hN_cX5_init : qr_n cX5_init.data.toList = nN_cX5_init := by decide +kernel
theorem hn_cX5_init : cX5_init.size = 13 := by decide +kernel
theorem dX5_init_0 : decode cX5_init 0 = .ok (.aload_n 0, 1) := qr_o42 hN_cX5_init hn_cX5_init rfl rfl
theorem dX5_init_1 : decode cX5_init 1 = .ok (.invokespecial 3, 3) := qr_o183 0 3 hN_cX5_init hn_cX5_init rfl rfl rfl rfl
theorem dX5_init_4 : decode cX5_init 4 = .ok (.aload_n 0, 1) := qr_o42 hN_cX5_init hn_cX5_init rfl rfl
theorem dX5_init_5 : decode cX5_init 5 = .ok (.bipush 36, 2) := qr_o16 36 rfl hN_cX5_init hn_cX5_init rfl rfl rfl
theorem dX5_init_7 : decode cX5_init 7 = .ok (.newarray .int, 2) := qr_na10 hN_cX5_init hn_cX5_init rfl rfl rfl
theorem dX5_init_9 : decode cX5_init 9 = .ok (.putfield 11, 3) := qr_o181 0 11 hN_cX5_init hn_cX5_init rfl rfl rfl rfl
theorem dX5_init_12 : decode cX5_init 12 = .ok (.return_, 1) := qr_o177 hN_cX5_init hn_cX5_init rfl rfl
def nN_cX5_begin : Nat := 0xb11700b51c2a1300b51b2a0f00b5042af0ffa70103844f031d0b00b42a1000a224101d3e03
theorem hN_cX5_begin : qr_n cX5_begin.data.toList = nN_cX5_begin := by decide +kernel
theorem hn_cX5_begin : cX5_begin.size = 37 := by decide +kernel
theorem dX5_begin_0 : decode cX5_begin 0 = .ok (.iconst 0, 1) := qr_o3 hN_cX5_begin hn_cX5_begin rfl rfl
theorem dX5_begin_1 : decode cX5_begin 1 = .ok (.istore_n 3, 1) := qr_o62 hN_cX5_begin hn_cX5_begin rfl rfl
theorem dX5_begin_2 : decode cX5_begin 2 = .ok (.iload_n 3, 1) := qr_o29 hN_cX5_begin hn_cX5_begin rfl rfl
theorem dX5_begin_3 : decode cX5_begin 3 = .ok (.bipush 36, 2) := qr_o16 36 rfl hN_cX5_begin hn_cX5_begin rfl rfl rfl
theorem dX5_begin_5 : decode cX5_begin 5 = .ok (.if_icmp .ge 16, 3) := qr_o162 0 16 rfl hN_cX5_begin hn_cX5_begin rfl rfl rfl rfl
theorem dX5_begin_8 : decode cX5_begin 8 = .ok (.aload_n 0, 1) := qr_o42 hN_cX5_begin hn_cX5_begin rfl rfl
theorem dX5_begin_9 : decode cX5_begin 9 = .ok (.getfield 11, 3) := qr_o180 0 11 hN_cX5_begin hn_cX5_begin rfl rfl rfl rfl
theorem dX5_begin_12 : decode cX5_begin 12 = .ok (.iload_n 3, 1) := qr_o29 hN_cX5_begin hn_cX5_begin rfl rfl
theorem dX5_begin_13 : decode cX5_begin 13 = .ok (.iconst 0, 1) := qr_o3 hN_cX5_begin hn_cX5_begin rfl rfl
theorem dX5_begin_14 : decode cX5_begin 14 = .ok (.iastore, 1) := qr_o79 hN_cX5_begin hn_cX5_begin rfl rfl
theorem dX5_begin_15 : decode cX5_begin 15 = .ok (.iinc 3 1, 3) := qr_o132 3 1 rfl hN_cX5_begin hn_cX5_begin rfl rfl rfl rfl
theorem dX5_begin_18 : decode cX5_begin 18 = .ok (.goto (-16), 3) := qr_w167 255 240 16 rfl rfl hN_cX5_begin hn_cX5_begin rfl rfl rfl rfl
theorem dX5_begin_21 : decode cX5_begin 21 = .ok (.aload_n 0, 1) := qr_o42 hN_cX5_begin hn_cX5_begin rfl rfl
theorem dX5_begin_22 : decode cX5_begin 22 = .ok (.iconst 1, 1) := qr_o4 hN_cX5_begin hn_cX5_begin rfl rfl
theorem dX5_begin_23 : decode cX5_begin 23 = .ok (.putfield 15, 3) := qr_o181 0 15 hN_cX5_begin hn_cX5_begin rfl rfl rfl rfl
theorem dX5_begin_26 : decode cX5_begin 26 = .ok (.aload_n 0, 1) := qr_o42 hN_cX5_begin hn_cX5_begin rfl rfl
theorem dX5_begin_27 : decode cX5_begin 27 = .ok (.iload_n 1, 1) := qr_o27 hN_cX5_begin hn_cX5_begin rfl rfl
theorem dX5_begin_28 : decode cX5_begin 28 = .ok (.putfield 19, 3) := qr_o181 0 19 hN_cX5_begin hn_cX5_begin rfl rfl rfl rfl
theorem dX5_begin_31 : decode cX5_begin 31 = .ok (.aload_n 0, 1) := qr_o42 hN_cX5_begin hn_cX5_begin rfl rfl
theorem dX5_begin_32 : decode cX5_begin 32 = .ok (.iload_n 2, 1) := qr_o28 hN_cX5_begin hn_cX5_begin rfl rfl
theorem dX5_begin_33 : decode cX5_begin 33 = .ok (.putfield 23, 3) := qr_o181 0 23 hN_cX5_begin hn_cX5_begin rfl rfl rfl rfl
theorem dX5_begin_36 : decode cX5_begin 36 = .ok (.return_, 1) := qr_o177 hN_cX5_begin hn_cX5_begin rfl rfl
def nN_cX5_refusalAs : Nat := 0xacf4100500a7030700a01b1300b42aacf51006009a0f00b42a
theorem hN_cX5_refusalAs : qr_n cX5_refusalAs.data.toList = nN_cX5_refusalAs := by decide +kernel
theorem hn_cX5_refusalAs : cX5_refusalAs.size = 25 := by decide +kernel
theorem dX5_refusalAs_0 : decode cX5_refusalAs 0 = .ok (.aload_n 0, 1) := qr_o42 hN_cX5_refusalAs hn_cX5_refusalAs rfl rfl
theorem dX5_refusalAs_1 : decode cX5_refusalAs 1 = .ok (.getfield 15, 3) := qr_o180 0 15 hN_cX5_refusalAs hn_cX5_refusalAs rfl rfl rfl rfl
theorem dX5_refusalAs_4 : decode cX5_refusalAs 4 = .ok (.ifCond .ne 6, 3) := qr_o154 0 6 rfl hN_cX5_refusalAs hn_cX5_refusalAs rfl rfl rfl rfl
theorem dX5_refusalAs_7 : decode cX5_refusalAs 7 = .ok (.bipush (-11), 2) := qr_w16 245 11 rfl rfl hN_cX5_refusalAs hn_cX5_refusalAs rfl rfl rfl
theorem dX5_refusalAs_9 : decode cX5_refusalAs 9 = .ok (.ireturn, 1) := qr_o172 hN_cX5_refusalAs hn_cX5_refusalAs rfl rfl
theorem dX5_refusalAs_10 : decode cX5_refusalAs 10 = .ok (.aload_n 0, 1) := qr_o42 hN_cX5_refusalAs hn_cX5_refusalAs rfl rfl
theorem dX5_refusalAs_11 : decode cX5_refusalAs 11 = .ok (.getfield 19, 3) := qr_o180 0 19 hN_cX5_refusalAs hn_cX5_refusalAs rfl rfl rfl rfl
theorem dX5_refusalAs_14 : decode cX5_refusalAs 14 = .ok (.iload_n 1, 1) := qr_o27 hN_cX5_refusalAs hn_cX5_refusalAs rfl rfl
theorem dX5_refusalAs_15 : decode cX5_refusalAs 15 = .ok (.if_icmp .ne 7, 3) := qr_o160 0 7 rfl hN_cX5_refusalAs hn_cX5_refusalAs rfl rfl rfl rfl
theorem dX5_refusalAs_18 : decode cX5_refusalAs 18 = .ok (.iconst 0, 1) := qr_o3 hN_cX5_refusalAs hn_cX5_refusalAs rfl rfl
theorem dX5_refusalAs_19 : decode cX5_refusalAs 19 = .ok (.goto 5, 3) := qr_o167 0 5 rfl hN_cX5_refusalAs hn_cX5_refusalAs rfl rfl rfl rfl
theorem dX5_refusalAs_22 : decode cX5_refusalAs 22 = .ok (.bipush (-12), 2) := qr_w16 244 12 rfl rfl hN_cX5_refusalAs hn_cX5_refusalAs rfl rfl rfl
theorem dX5_refusalAs_24 : decode cX5_refusalAs 24 = .ok (.ireturn, 1) := qr_o172 hN_cX5_refusalAs hn_cX5_refusalAs rfl rfl
def nN_cX5_hasItems : Nat := 0xac030400a7040700a3641c1700b42a1b11009b1b
theorem hN_cX5_hasItems : qr_n cX5_hasItems.data.toList = nN_cX5_hasItems := by decide +kernel
theorem hn_cX5_hasItems : cX5_hasItems.size = 20 := by decide +kernel
theorem dX5_hasItems_0 : decode cX5_hasItems 0 = .ok (.iload_n 1, 1) := qr_o27 hN_cX5_hasItems hn_cX5_hasItems rfl rfl
theorem dX5_hasItems_1 : decode cX5_hasItems 1 = .ok (.ifCond .lt 17, 3) := qr_o155 0 17 rfl hN_cX5_hasItems hn_cX5_hasItems rfl rfl rfl rfl
theorem dX5_hasItems_4 : decode cX5_hasItems 4 = .ok (.iload_n 1, 1) := qr_o27 hN_cX5_hasItems hn_cX5_hasItems rfl rfl
theorem dX5_hasItems_5 : decode cX5_hasItems 5 = .ok (.aload_n 0, 1) := qr_o42 hN_cX5_hasItems hn_cX5_hasItems rfl rfl
theorem dX5_hasItems_6 : decode cX5_hasItems 6 = .ok (.getfield 23, 3) := qr_o180 0 23 hN_cX5_hasItems hn_cX5_hasItems rfl rfl rfl rfl
theorem dX5_hasItems_9 : decode cX5_hasItems 9 = .ok (.iload_n 2, 1) := qr_o28 hN_cX5_hasItems hn_cX5_hasItems rfl rfl
theorem dX5_hasItems_10 : decode cX5_hasItems 10 = .ok (.isub, 1) := qr_o100 hN_cX5_hasItems hn_cX5_hasItems rfl rfl
theorem dX5_hasItems_11 : decode cX5_hasItems 11 = .ok (.if_icmp .gt 7, 3) := qr_o163 0 7 rfl hN_cX5_hasItems hn_cX5_hasItems rfl rfl rfl rfl
theorem dX5_hasItems_14 : decode cX5_hasItems 14 = .ok (.iconst 1, 1) := qr_o4 hN_cX5_hasItems hn_cX5_hasItems rfl rfl
theorem dX5_hasItems_15 : decode cX5_hasItems 15 = .ok (.goto 4, 3) := qr_o167 0 4 rfl hN_cX5_hasItems hn_cX5_hasItems rfl rfl rfl rfl
theorem dX5_hasItems_18 : decode cX5_hasItems 18 = .ok (.iconst 0, 1) := qr_o3 hN_cX5_hasItems hn_cX5_hasItems rfl rfl
theorem dX5_hasItems_19 : decode cX5_hasItems 19 = .ok (.ireturn, 1) := qr_o172 hN_cX5_hasItems hn_cX5_hasItems rfl rfl
def nN_cX5_get : Nat := 0xac030400a72e1b0b00b42a0c00a224101b12009b1b
theorem hN_cX5_get : qr_n cX5_get.data.toList = nN_cX5_get := by decide +kernel
theorem hn_cX5_get : cX5_get.size = 21 := by decide +kernel
theorem dX5_get_0 : decode cX5_get 0 = .ok (.iload_n 1, 1) := qr_o27 hN_cX5_get hn_cX5_get rfl rfl
theorem dX5_get_1 : decode cX5_get 1 = .ok (.ifCond .lt 18, 3) := qr_o155 0 18 rfl hN_cX5_get hn_cX5_get rfl rfl rfl rfl
theorem dX5_get_4 : decode cX5_get 4 = .ok (.iload_n 1, 1) := qr_o27 hN_cX5_get hn_cX5_get rfl rfl
theorem dX5_get_5 : decode cX5_get 5 = .ok (.bipush 36, 2) := qr_o16 36 rfl hN_cX5_get hn_cX5_get rfl rfl rfl
theorem dX5_get_7 : decode cX5_get 7 = .ok (.if_icmp .ge 12, 3) := qr_o162 0 12 rfl hN_cX5_get hn_cX5_get rfl rfl rfl rfl
theorem dX5_get_10 : decode cX5_get 10 = .ok (.aload_n 0, 1) := qr_o42 hN_cX5_get hn_cX5_get rfl rfl
theorem dX5_get_11 : decode cX5_get 11 = .ok (.getfield 11, 3) := qr_o180 0 11 hN_cX5_get hn_cX5_get rfl rfl rfl rfl
theorem dX5_get_14 : decode cX5_get 14 = .ok (.iload_n 1, 1) := qr_o27 hN_cX5_get hn_cX5_get rfl rfl
theorem dX5_get_15 : decode cX5_get 15 = .ok (.iaload, 1) := qr_o46 hN_cX5_get hn_cX5_get rfl rfl
theorem dX5_get_16 : decode cX5_get 16 = .ok (.goto 4, 3) := qr_o167 0 4 rfl hN_cX5_get hn_cX5_get rfl rfl rfl rfl
theorem dX5_get_19 : decode cX5_get 19 = .ok (.iconst 0, 1) := qr_o3 hN_cX5_get hn_cX5_get rfl rfl
theorem dX5_get_20 : decode cX5_get 20 = .ok (.ireturn, 1) := qr_o172 hN_cX5_get hn_cX5_get rfl rfl
def nN_cX5_put : Nat := 0xb14f1c0400a7931c0800a0041300b42a1100a7911c08009a1300b42a1b0b00b42a2300a224101b29009b1b
theorem hN_cX5_put : qr_n cX5_put.data.toList = nN_cX5_put := by decide +kernel
theorem hn_cX5_put : cX5_put.size = 43 := by decide +kernel
theorem dX5_put_0 : decode cX5_put 0 = .ok (.iload_n 1, 1) := qr_o27 hN_cX5_put hn_cX5_put rfl rfl
theorem dX5_put_1 : decode cX5_put 1 = .ok (.ifCond .lt 41, 3) := qr_o155 0 41 rfl hN_cX5_put hn_cX5_put rfl rfl rfl rfl
theorem dX5_put_4 : decode cX5_put 4 = .ok (.iload_n 1, 1) := qr_o27 hN_cX5_put hn_cX5_put rfl rfl
theorem dX5_put_5 : decode cX5_put 5 = .ok (.bipush 36, 2) := qr_o16 36 rfl hN_cX5_put hn_cX5_put rfl rfl rfl
theorem dX5_put_7 : decode cX5_put 7 = .ok (.if_icmp .ge 35, 3) := qr_o162 0 35 rfl hN_cX5_put hn_cX5_put rfl rfl rfl rfl
theorem dX5_put_10 : decode cX5_put 10 = .ok (.aload_n 0, 1) := qr_o42 hN_cX5_put hn_cX5_put rfl rfl
theorem dX5_put_11 : decode cX5_put 11 = .ok (.getfield 11, 3) := qr_o180 0 11 hN_cX5_put hn_cX5_put rfl rfl rfl rfl
theorem dX5_put_14 : decode cX5_put 14 = .ok (.iload_n 1, 1) := qr_o27 hN_cX5_put hn_cX5_put rfl rfl
theorem dX5_put_15 : decode cX5_put 15 = .ok (.aload_n 0, 1) := qr_o42 hN_cX5_put hn_cX5_put rfl rfl
theorem dX5_put_16 : decode cX5_put 16 = .ok (.getfield 19, 3) := qr_o180 0 19 hN_cX5_put hn_cX5_put rfl rfl rfl rfl
theorem dX5_put_19 : decode cX5_put 19 = .ok (.ifCond .ne 8, 3) := qr_o154 0 8 rfl hN_cX5_put hn_cX5_put rfl rfl rfl rfl
theorem dX5_put_22 : decode cX5_put 22 = .ok (.iload_n 2, 1) := qr_o28 hN_cX5_put hn_cX5_put rfl rfl
theorem dX5_put_23 : decode cX5_put 23 = .ok (.i2b, 1) := qr_o145 hN_cX5_put hn_cX5_put rfl rfl
theorem dX5_put_24 : decode cX5_put 24 = .ok (.goto 17, 3) := qr_o167 0 17 rfl hN_cX5_put hn_cX5_put rfl rfl rfl rfl
theorem dX5_put_27 : decode cX5_put 27 = .ok (.aload_n 0, 1) := qr_o42 hN_cX5_put hn_cX5_put rfl rfl
theorem dX5_put_28 : decode cX5_put 28 = .ok (.getfield 19, 3) := qr_o180 0 19 hN_cX5_put hn_cX5_put rfl rfl rfl rfl
theorem dX5_put_31 : decode cX5_put 31 = .ok (.iconst 1, 1) := qr_o4 hN_cX5_put hn_cX5_put rfl rfl
theorem dX5_put_32 : decode cX5_put 32 = .ok (.if_icmp .ne 8, 3) := qr_o160 0 8 rfl hN_cX5_put hn_cX5_put rfl rfl rfl rfl
theorem dX5_put_35 : decode cX5_put 35 = .ok (.iload_n 2, 1) := qr_o28 hN_cX5_put hn_cX5_put rfl rfl
theorem dX5_put_36 : decode cX5_put 36 = .ok (.i2s, 1) := qr_o147 hN_cX5_put hn_cX5_put rfl rfl
theorem dX5_put_37 : decode cX5_put 37 = .ok (.goto 4, 3) := qr_o167 0 4 rfl hN_cX5_put hn_cX5_put rfl rfl rfl rfl
theorem dX5_put_40 : decode cX5_put 40 = .ok (.iload_n 2, 1) := qr_o28 hN_cX5_put hn_cX5_put rfl rfl
theorem dX5_put_41 : decode cX5_put 41 = .ok (.iastore, 1) := qr_o79 hN_cX5_put hn_cX5_put rfl rfl
theorem dX5_put_42 : decode cX5_put 42 = .ok (.return_, 1) := qr_o177 hN_cX5_put hn_cX5_put rfl rfl
def nN_cX6_init : Nat := 0xb10900b508bc3c102a0100b72a
theorem hN_cX6_init : qr_n cX6_init.data.toList = nN_cX6_init := by decide +kernel
theorem hn_cX6_init : cX6_init.size = 13 := by decide +kernel
theorem dX6_init_0 : decode cX6_init 0 = .ok (.aload_n 0, 1) := qr_o42 hN_cX6_init hn_cX6_init rfl rfl
theorem dX6_init_1 : decode cX6_init 1 = .ok (.invokespecial 1, 3) := qr_o183 0 1 hN_cX6_init hn_cX6_init rfl rfl rfl rfl
theorem dX6_init_4 : decode cX6_init 4 = .ok (.aload_n 0, 1) := qr_o42 hN_cX6_init hn_cX6_init rfl rfl
theorem dX6_init_5 : decode cX6_init 5 = .ok (.bipush 60, 2) := qr_o16 60 rfl hN_cX6_init hn_cX6_init rfl rfl rfl
theorem dX6_init_7 : decode cX6_init 7 = .ok (.newarray .byte, 2) := qr_na8 hN_cX6_init hn_cX6_init rfl rfl rfl
theorem dX6_init_9 : decode cX6_init 9 = .ok (.putfield 9, 3) := qr_o181 0 9 hN_cX6_init hn_cX6_init rfl rfl rfl rfl
theorem dX6_init_12 : decode cX6_init 12 = .ok (.return_, 1) := qr_o177 hN_cX6_init hn_cX6_init rfl rfl
def nN_cX6_hasRoomFor : Nat := 0xac030400a7040700a3640d00b42a3c101b
theorem hN_cX6_hasRoomFor : qr_n cX6_hasRoomFor.data.toList = nN_cX6_hasRoomFor := by decide +kernel
theorem hn_cX6_hasRoomFor : cX6_hasRoomFor.size = 17 := by decide +kernel
theorem dX6_hasRoomFor_0 : decode cX6_hasRoomFor 0 = .ok (.iload_n 1, 1) := qr_o27 hN_cX6_hasRoomFor hn_cX6_hasRoomFor rfl rfl
theorem dX6_hasRoomFor_1 : decode cX6_hasRoomFor 1 = .ok (.bipush 60, 2) := qr_o16 60 rfl hN_cX6_hasRoomFor hn_cX6_hasRoomFor rfl rfl rfl
theorem dX6_hasRoomFor_3 : decode cX6_hasRoomFor 3 = .ok (.aload_n 0, 1) := qr_o42 hN_cX6_hasRoomFor hn_cX6_hasRoomFor rfl rfl
theorem dX6_hasRoomFor_4 : decode cX6_hasRoomFor 4 = .ok (.getfield 13, 3) := qr_o180 0 13 hN_cX6_hasRoomFor hn_cX6_hasRoomFor rfl rfl rfl rfl
theorem dX6_hasRoomFor_7 : decode cX6_hasRoomFor 7 = .ok (.isub, 1) := qr_o100 hN_cX6_hasRoomFor hn_cX6_hasRoomFor rfl rfl
theorem dX6_hasRoomFor_8 : decode cX6_hasRoomFor 8 = .ok (.if_icmp .gt 7, 3) := qr_o163 0 7 rfl hN_cX6_hasRoomFor hn_cX6_hasRoomFor rfl rfl rfl rfl
theorem dX6_hasRoomFor_11 : decode cX6_hasRoomFor 11 = .ok (.iconst 1, 1) := qr_o4 hN_cX6_hasRoomFor hn_cX6_hasRoomFor rfl rfl
theorem dX6_hasRoomFor_12 : decode cX6_hasRoomFor 12 = .ok (.goto 4, 3) := qr_o167 0 4 rfl hN_cX6_hasRoomFor hn_cX6_hasRoomFor rfl rfl rfl rfl
theorem dX6_hasRoomFor_15 : decode cX6_hasRoomFor 15 = .ok (.iconst 0, 1) := qr_o3 hN_cX6_hasRoomFor hn_cX6_hasRoomFor rfl rfl
theorem dX6_hasRoomFor_16 : decode cX6_hasRoomFor 16 = .ok (.ireturn, 1) := qr_o172 hN_cX6_hasRoomFor hn_cX6_hasRoomFor rfl rfl
def nN_cX6_append : Nat := 0xb10d00b560040d00b4592a54911b0d00b42a0900b42a1800a23c100d00b42a
theorem hN_cX6_append : qr_n cX6_append.data.toList = nN_cX6_append := by decide +kernel
theorem hn_cX6_append : cX6_append.size = 31 := by decide +kernel
theorem dX6_append_0 : decode cX6_append 0 = .ok (.aload_n 0, 1) := qr_o42 hN_cX6_append hn_cX6_append rfl rfl
theorem dX6_append_1 : decode cX6_append 1 = .ok (.getfield 13, 3) := qr_o180 0 13 hN_cX6_append hn_cX6_append rfl rfl rfl rfl
theorem dX6_append_4 : decode cX6_append 4 = .ok (.bipush 60, 2) := qr_o16 60 rfl hN_cX6_append hn_cX6_append rfl rfl rfl
theorem dX6_append_6 : decode cX6_append 6 = .ok (.if_icmp .ge 24, 3) := qr_o162 0 24 rfl hN_cX6_append hn_cX6_append rfl rfl rfl rfl
theorem dX6_append_9 : decode cX6_append 9 = .ok (.aload_n 0, 1) := qr_o42 hN_cX6_append hn_cX6_append rfl rfl
theorem dX6_append_10 : decode cX6_append 10 = .ok (.getfield 9, 3) := qr_o180 0 9 hN_cX6_append hn_cX6_append rfl rfl rfl rfl
theorem dX6_append_13 : decode cX6_append 13 = .ok (.aload_n 0, 1) := qr_o42 hN_cX6_append hn_cX6_append rfl rfl
theorem dX6_append_14 : decode cX6_append 14 = .ok (.getfield 13, 3) := qr_o180 0 13 hN_cX6_append hn_cX6_append rfl rfl rfl rfl
theorem dX6_append_17 : decode cX6_append 17 = .ok (.iload_n 1, 1) := qr_o27 hN_cX6_append hn_cX6_append rfl rfl
theorem dX6_append_18 : decode cX6_append 18 = .ok (.i2b, 1) := qr_o145 hN_cX6_append hn_cX6_append rfl rfl
theorem dX6_append_19 : decode cX6_append 19 = .ok (.bastore, 1) := qr_o84 hN_cX6_append hn_cX6_append rfl rfl
theorem dX6_append_20 : decode cX6_append 20 = .ok (.aload_n 0, 1) := qr_o42 hN_cX6_append hn_cX6_append rfl rfl
theorem dX6_append_21 : decode cX6_append 21 = .ok (.dup, 1) := qr_o89 hN_cX6_append hn_cX6_append rfl rfl
theorem dX6_append_22 : decode cX6_append 22 = .ok (.getfield 13, 3) := qr_o180 0 13 hN_cX6_append hn_cX6_append rfl rfl rfl rfl
theorem dX6_append_25 : decode cX6_append 25 = .ok (.iconst 1, 1) := qr_o4 hN_cX6_append hn_cX6_append rfl rfl
theorem dX6_append_26 : decode cX6_append 26 = .ok (.iadd, 1) := qr_o96 hN_cX6_append hn_cX6_append rfl rfl
theorem dX6_append_27 : decode cX6_append 27 = .ok (.putfield 13, 3) := qr_o181 0 13 hN_cX6_append hn_cX6_append rfl rfl rfl rfl
theorem dX6_append_30 : decode cX6_append 30 = .ok (.return_, 1) := qr_o177 hN_cX6_append hn_cX6_append rfl rfl
def nN_cX6_clear : Nat := 0xb10d00b5032a
theorem hN_cX6_clear : qr_n cX6_clear.data.toList = nN_cX6_clear := by decide +kernel
theorem hn_cX6_clear : cX6_clear.size = 6 := by decide +kernel
theorem dX6_clear_0 : decode cX6_clear 0 = .ok (.aload_n 0, 1) := qr_o42 hN_cX6_clear hn_cX6_clear rfl rfl
theorem dX6_clear_1 : decode cX6_clear 1 = .ok (.iconst 0, 1) := qr_o3 hN_cX6_clear hn_cX6_clear rfl rfl
theorem dX6_clear_2 : decode cX6_clear 2 = .ok (.putfield 13, 3) := qr_o181 0 13 hN_cX6_clear hn_cX6_clear rfl rfl rfl rfl
theorem dX6_clear_5 : decode cX6_clear 5 = .ok (.return_, 1) := qr_o177 hN_cX6_clear hn_cX6_clear rfl rfl
def nN_cX6_signAt : Nat := 0xac020400a7331b0900b42a0c00a20d00b42a1b14009b1b
theorem hN_cX6_signAt : qr_n cX6_signAt.data.toList = nN_cX6_signAt := by decide +kernel
theorem hn_cX6_signAt : cX6_signAt.size = 23 := by decide +kernel
theorem dX6_signAt_0 : decode cX6_signAt 0 = .ok (.iload_n 1, 1) := qr_o27 hN_cX6_signAt hn_cX6_signAt rfl rfl
theorem dX6_signAt_1 : decode cX6_signAt 1 = .ok (.ifCond .lt 20, 3) := qr_o155 0 20 rfl hN_cX6_signAt hn_cX6_signAt rfl rfl rfl rfl
theorem dX6_signAt_4 : decode cX6_signAt 4 = .ok (.iload_n 1, 1) := qr_o27 hN_cX6_signAt hn_cX6_signAt rfl rfl
theorem dX6_signAt_5 : decode cX6_signAt 5 = .ok (.aload_n 0, 1) := qr_o42 hN_cX6_signAt hn_cX6_signAt rfl rfl
theorem dX6_signAt_6 : decode cX6_signAt 6 = .ok (.getfield 13, 3) := qr_o180 0 13 hN_cX6_signAt hn_cX6_signAt rfl rfl rfl rfl
theorem dX6_signAt_9 : decode cX6_signAt 9 = .ok (.if_icmp .ge 12, 3) := qr_o162 0 12 rfl hN_cX6_signAt hn_cX6_signAt rfl rfl rfl rfl
theorem dX6_signAt_12 : decode cX6_signAt 12 = .ok (.aload_n 0, 1) := qr_o42 hN_cX6_signAt hn_cX6_signAt rfl rfl
theorem dX6_signAt_13 : decode cX6_signAt 13 = .ok (.getfield 9, 3) := qr_o180 0 9 hN_cX6_signAt hn_cX6_signAt rfl rfl rfl rfl
theorem dX6_signAt_16 : decode cX6_signAt 16 = .ok (.iload_n 1, 1) := qr_o27 hN_cX6_signAt hn_cX6_signAt rfl rfl
theorem dX6_signAt_17 : decode cX6_signAt 17 = .ok (.baload, 1) := qr_o51 hN_cX6_signAt hn_cX6_signAt rfl rfl
theorem dX6_signAt_18 : decode cX6_signAt 18 = .ok (.goto 4, 3) := qr_o167 0 4 rfl hN_cX6_signAt hn_cX6_signAt rfl rfl rfl rfl
theorem dX6_signAt_21 : decode cX6_signAt 21 = .ok (.iconst (-1), 1) := qr_o2 hN_cX6_signAt hn_cX6_signAt rfl rfl
theorem dX6_signAt_22 : decode cX6_signAt 22 = .ok (.ireturn, 1) := qr_o172 hN_cX6_signAt hn_cX6_signAt rfl rfl
def nN_cX6_isDigitAt : Nat := 0xac030400a7040700a339101c0d00a130101c3d1100b61b2a
theorem hN_cX6_isDigitAt : qr_n cX6_isDigitAt.data.toList = nN_cX6_isDigitAt := by decide +kernel
theorem hn_cX6_isDigitAt : cX6_isDigitAt.size = 24 := by decide +kernel
theorem dX6_isDigitAt_0 : decode cX6_isDigitAt 0 = .ok (.aload_n 0, 1) := qr_o42 hN_cX6_isDigitAt hn_cX6_isDigitAt rfl rfl
theorem dX6_isDigitAt_1 : decode cX6_isDigitAt 1 = .ok (.iload_n 1, 1) := qr_o27 hN_cX6_isDigitAt hn_cX6_isDigitAt rfl rfl
theorem dX6_isDigitAt_2 : decode cX6_isDigitAt 2 = .ok (.invokevirtual 17, 3) := qr_o182 0 17 hN_cX6_isDigitAt hn_cX6_isDigitAt rfl rfl rfl rfl
theorem dX6_isDigitAt_5 : decode cX6_isDigitAt 5 = .ok (.istore_n 2, 1) := qr_o61 hN_cX6_isDigitAt hn_cX6_isDigitAt rfl rfl
theorem dX6_isDigitAt_6 : decode cX6_isDigitAt 6 = .ok (.iload_n 2, 1) := qr_o28 hN_cX6_isDigitAt hn_cX6_isDigitAt rfl rfl
theorem dX6_isDigitAt_7 : decode cX6_isDigitAt 7 = .ok (.bipush 48, 2) := qr_o16 48 rfl hN_cX6_isDigitAt hn_cX6_isDigitAt rfl rfl rfl
theorem dX6_isDigitAt_9 : decode cX6_isDigitAt 9 = .ok (.if_icmp .lt 13, 3) := qr_o161 0 13 rfl hN_cX6_isDigitAt hn_cX6_isDigitAt rfl rfl rfl rfl
theorem dX6_isDigitAt_12 : decode cX6_isDigitAt 12 = .ok (.iload_n 2, 1) := qr_o28 hN_cX6_isDigitAt hn_cX6_isDigitAt rfl rfl
theorem dX6_isDigitAt_13 : decode cX6_isDigitAt 13 = .ok (.bipush 57, 2) := qr_o16 57 rfl hN_cX6_isDigitAt hn_cX6_isDigitAt rfl rfl rfl
theorem dX6_isDigitAt_15 : decode cX6_isDigitAt 15 = .ok (.if_icmp .gt 7, 3) := qr_o163 0 7 rfl hN_cX6_isDigitAt hn_cX6_isDigitAt rfl rfl rfl rfl
theorem dX6_isDigitAt_18 : decode cX6_isDigitAt 18 = .ok (.iconst 1, 1) := qr_o4 hN_cX6_isDigitAt hn_cX6_isDigitAt rfl rfl
theorem dX6_isDigitAt_19 : decode cX6_isDigitAt 19 = .ok (.goto 4, 3) := qr_o167 0 4 rfl hN_cX6_isDigitAt hn_cX6_isDigitAt rfl rfl rfl rfl
theorem dX6_isDigitAt_22 : decode cX6_isDigitAt 22 = .ok (.iconst 0, 1) := qr_o3 hN_cX6_isDigitAt hn_cX6_isDigitAt rfl rfl
theorem dX6_isDigitAt_23 : decode cX6_isDigitAt 23 = .ok (.ireturn, 1) := qr_o172 hN_cX6_isDigitAt hn_cX6_isDigitAt rfl rfl
def nN_cX6_behindBlanks : Nat := 0xac1cebffa70102840900a020101100b61c2a1300a20d00b42a1c3d1b
theorem hN_cX6_behindBlanks : qr_n cX6_behindBlanks.data.toList = nN_cX6_behindBlanks := by decide +kernel
theorem hn_cX6_behindBlanks : cX6_behindBlanks.size = 28 := by decide +kernel
theorem dX6_behindBlanks_0 : decode cX6_behindBlanks 0 = .ok (.iload_n 1, 1) := qr_o27 hN_cX6_behindBlanks hn_cX6_behindBlanks rfl rfl
theorem dX6_behindBlanks_1 : decode cX6_behindBlanks 1 = .ok (.istore_n 2, 1) := qr_o61 hN_cX6_behindBlanks hn_cX6_behindBlanks rfl rfl
theorem dX6_behindBlanks_2 : decode cX6_behindBlanks 2 = .ok (.iload_n 2, 1) := qr_o28 hN_cX6_behindBlanks hn_cX6_behindBlanks rfl rfl
theorem dX6_behindBlanks_3 : decode cX6_behindBlanks 3 = .ok (.aload_n 0, 1) := qr_o42 hN_cX6_behindBlanks hn_cX6_behindBlanks rfl rfl
theorem dX6_behindBlanks_4 : decode cX6_behindBlanks 4 = .ok (.getfield 13, 3) := qr_o180 0 13 hN_cX6_behindBlanks hn_cX6_behindBlanks rfl rfl rfl rfl
theorem dX6_behindBlanks_7 : decode cX6_behindBlanks 7 = .ok (.if_icmp .ge 19, 3) := qr_o162 0 19 rfl hN_cX6_behindBlanks hn_cX6_behindBlanks rfl rfl rfl rfl
theorem dX6_behindBlanks_10 : decode cX6_behindBlanks 10 = .ok (.aload_n 0, 1) := qr_o42 hN_cX6_behindBlanks hn_cX6_behindBlanks rfl rfl
theorem dX6_behindBlanks_11 : decode cX6_behindBlanks 11 = .ok (.iload_n 2, 1) := qr_o28 hN_cX6_behindBlanks hn_cX6_behindBlanks rfl rfl
theorem dX6_behindBlanks_12 : decode cX6_behindBlanks 12 = .ok (.invokevirtual 17, 3) := qr_o182 0 17 hN_cX6_behindBlanks hn_cX6_behindBlanks rfl rfl rfl rfl
theorem dX6_behindBlanks_15 : decode cX6_behindBlanks 15 = .ok (.bipush 32, 2) := qr_o16 32 rfl hN_cX6_behindBlanks hn_cX6_behindBlanks rfl rfl rfl
theorem dX6_behindBlanks_17 : decode cX6_behindBlanks 17 = .ok (.if_icmp .ne 9, 3) := qr_o160 0 9 rfl hN_cX6_behindBlanks hn_cX6_behindBlanks rfl rfl rfl rfl
theorem dX6_behindBlanks_20 : decode cX6_behindBlanks 20 = .ok (.iinc 2 1, 3) := qr_o132 2 1 rfl hN_cX6_behindBlanks hn_cX6_behindBlanks rfl rfl rfl rfl
theorem dX6_behindBlanks_23 : decode cX6_behindBlanks 23 = .ok (.goto (-21), 3) := qr_w167 255 235 21 rfl rfl hN_cX6_behindBlanks hn_cX6_behindBlanks rfl rfl rfl rfl
theorem dX6_behindBlanks_26 : decode cX6_behindBlanks 26 = .ok (.iload_n 2, 1) := qr_o28 hN_cX6_behindBlanks hn_cX6_behindBlanks rfl rfl
theorem dX6_behindBlanks_27 : decode cX6_behindBlanks 27 = .ok (.ireturn, 1) := qr_o172 hN_cX6_behindBlanks hn_cX6_behindBlanks rfl rfl
def nN_cX6_behindDigits : Nat := 0xac1cedffa70102840900991500b61c2a1100a20d00b42a1c3d1b
theorem hN_cX6_behindDigits : qr_n cX6_behindDigits.data.toList = nN_cX6_behindDigits := by decide +kernel
theorem hn_cX6_behindDigits : cX6_behindDigits.size = 26 := by decide +kernel
theorem dX6_behindDigits_0 : decode cX6_behindDigits 0 = .ok (.iload_n 1, 1) := qr_o27 hN_cX6_behindDigits hn_cX6_behindDigits rfl rfl
theorem dX6_behindDigits_1 : decode cX6_behindDigits 1 = .ok (.istore_n 2, 1) := qr_o61 hN_cX6_behindDigits hn_cX6_behindDigits rfl rfl
theorem dX6_behindDigits_2 : decode cX6_behindDigits 2 = .ok (.iload_n 2, 1) := qr_o28 hN_cX6_behindDigits hn_cX6_behindDigits rfl rfl
theorem dX6_behindDigits_3 : decode cX6_behindDigits 3 = .ok (.aload_n 0, 1) := qr_o42 hN_cX6_behindDigits hn_cX6_behindDigits rfl rfl
theorem dX6_behindDigits_4 : decode cX6_behindDigits 4 = .ok (.getfield 13, 3) := qr_o180 0 13 hN_cX6_behindDigits hn_cX6_behindDigits rfl rfl rfl rfl
theorem dX6_behindDigits_7 : decode cX6_behindDigits 7 = .ok (.if_icmp .ge 17, 3) := qr_o162 0 17 rfl hN_cX6_behindDigits hn_cX6_behindDigits rfl rfl rfl rfl
theorem dX6_behindDigits_10 : decode cX6_behindDigits 10 = .ok (.aload_n 0, 1) := qr_o42 hN_cX6_behindDigits hn_cX6_behindDigits rfl rfl
theorem dX6_behindDigits_11 : decode cX6_behindDigits 11 = .ok (.iload_n 2, 1) := qr_o28 hN_cX6_behindDigits hn_cX6_behindDigits rfl rfl
theorem dX6_behindDigits_12 : decode cX6_behindDigits 12 = .ok (.invokevirtual 21, 3) := qr_o182 0 21 hN_cX6_behindDigits hn_cX6_behindDigits rfl rfl rfl rfl
theorem dX6_behindDigits_15 : decode cX6_behindDigits 15 = .ok (.ifCond .eq 9, 3) := qr_o153 0 9 rfl hN_cX6_behindDigits hn_cX6_behindDigits rfl rfl rfl rfl
theorem dX6_behindDigits_18 : decode cX6_behindDigits 18 = .ok (.iinc 2 1, 3) := qr_o132 2 1 rfl hN_cX6_behindDigits hn_cX6_behindDigits rfl rfl rfl rfl
theorem dX6_behindDigits_21 : decode cX6_behindDigits 21 = .ok (.goto (-19), 3) := qr_w167 255 237 19 rfl rfl hN_cX6_behindDigits hn_cX6_behindDigits rfl rfl rfl rfl
theorem dX6_behindDigits_24 : decode cX6_behindDigits 24 = .ok (.iload_n 2, 1) := qr_o28 hN_cX6_behindDigits hn_cX6_behindDigits rfl rfl
theorem dX6_behindDigits_25 : decode cX6_behindDigits 25 = .ok (.ireturn, 1) := qr_o172 hN_cX6_behindDigits hn_cX6_behindDigits rfl rfl
def nN_cX6_numberIn : Nat := 0xac0415e0ffa701058404361900b8643010601100b605152a680a10041560041d2000a21c051505361b043603
theorem hN_cX6_numberIn : qr_n cX6_numberIn.data.toList = nN_cX6_numberIn := by decide +kernel
theorem hn_cX6_numberIn : cX6_numberIn.size = 44 := by decide +kernel
theorem dX6_numberIn_0 : decode cX6_numberIn 0 = .ok (.iconst 0, 1) := qr_o3 hN_cX6_numberIn hn_cX6_numberIn rfl rfl
theorem dX6_numberIn_1 : decode cX6_numberIn 1 = .ok (.istore 4, 2) := qr_o54 4 hN_cX6_numberIn hn_cX6_numberIn rfl rfl rfl
theorem dX6_numberIn_3 : decode cX6_numberIn 3 = .ok (.iload_n 1, 1) := qr_o27 hN_cX6_numberIn hn_cX6_numberIn rfl rfl
theorem dX6_numberIn_4 : decode cX6_numberIn 4 = .ok (.istore 5, 2) := qr_o54 5 hN_cX6_numberIn hn_cX6_numberIn rfl rfl rfl
theorem dX6_numberIn_6 : decode cX6_numberIn 6 = .ok (.iload 5, 2) := qr_o21 5 hN_cX6_numberIn hn_cX6_numberIn rfl rfl rfl
theorem dX6_numberIn_8 : decode cX6_numberIn 8 = .ok (.iload_n 2, 1) := qr_o28 hN_cX6_numberIn hn_cX6_numberIn rfl rfl
theorem dX6_numberIn_9 : decode cX6_numberIn 9 = .ok (.if_icmp .ge 32, 3) := qr_o162 0 32 rfl hN_cX6_numberIn hn_cX6_numberIn rfl rfl rfl rfl
theorem dX6_numberIn_12 : decode cX6_numberIn 12 = .ok (.iload_n 3, 1) := qr_o29 hN_cX6_numberIn hn_cX6_numberIn rfl rfl
theorem dX6_numberIn_13 : decode cX6_numberIn 13 = .ok (.iconst 1, 1) := qr_o4 hN_cX6_numberIn hn_cX6_numberIn rfl rfl
theorem dX6_numberIn_14 : decode cX6_numberIn 14 = .ok (.iadd, 1) := qr_o96 hN_cX6_numberIn hn_cX6_numberIn rfl rfl
theorem dX6_numberIn_15 : decode cX6_numberIn 15 = .ok (.iload 4, 2) := qr_o21 4 hN_cX6_numberIn hn_cX6_numberIn rfl rfl rfl
theorem dX6_numberIn_17 : decode cX6_numberIn 17 = .ok (.bipush 10, 2) := qr_o16 10 rfl hN_cX6_numberIn hn_cX6_numberIn rfl rfl rfl
theorem dX6_numberIn_19 : decode cX6_numberIn 19 = .ok (.imul, 1) := qr_o104 hN_cX6_numberIn hn_cX6_numberIn rfl rfl
theorem dX6_numberIn_20 : decode cX6_numberIn 20 = .ok (.aload_n 0, 1) := qr_o42 hN_cX6_numberIn hn_cX6_numberIn rfl rfl
theorem dX6_numberIn_21 : decode cX6_numberIn 21 = .ok (.iload 5, 2) := qr_o21 5 hN_cX6_numberIn hn_cX6_numberIn rfl rfl rfl
theorem dX6_numberIn_23 : decode cX6_numberIn 23 = .ok (.invokevirtual 17, 3) := qr_o182 0 17 hN_cX6_numberIn hn_cX6_numberIn rfl rfl rfl rfl
theorem dX6_numberIn_26 : decode cX6_numberIn 26 = .ok (.iadd, 1) := qr_o96 hN_cX6_numberIn hn_cX6_numberIn rfl rfl
theorem dX6_numberIn_27 : decode cX6_numberIn 27 = .ok (.bipush 48, 2) := qr_o16 48 rfl hN_cX6_numberIn hn_cX6_numberIn rfl rfl rfl
theorem dX6_numberIn_29 : decode cX6_numberIn 29 = .ok (.isub, 1) := qr_o100 hN_cX6_numberIn hn_cX6_numberIn rfl rfl
theorem dX6_numberIn_30 : decode cX6_numberIn 30 = .ok (.invokestatic 25, 3) := qr_o184 0 25 hN_cX6_numberIn hn_cX6_numberIn rfl rfl rfl rfl
theorem dX6_numberIn_33 : decode cX6_numberIn 33 = .ok (.istore 4, 2) := qr_o54 4 hN_cX6_numberIn hn_cX6_numberIn rfl rfl rfl
theorem dX6_numberIn_35 : decode cX6_numberIn 35 = .ok (.iinc 5 1, 3) := qr_o132 5 1 rfl hN_cX6_numberIn hn_cX6_numberIn rfl rfl rfl rfl
theorem dX6_numberIn_38 : decode cX6_numberIn 38 = .ok (.goto (-32), 3) := qr_w167 255 224 32 rfl rfl hN_cX6_numberIn hn_cX6_numberIn rfl rfl rfl rfl
theorem dX6_numberIn_41 : decode cX6_numberIn 41 = .ok (.iload 4, 2) := qr_o21 4 hN_cX6_numberIn hn_cX6_numberIn rfl rfl rfl
theorem dX6_numberIn_43 : decode cX6_numberIn 43 = .ok (.ireturn, 1) := qr_o172 hN_cX6_numberIn hn_cX6_numberIn rfl rfl
def nN_cX7_init : Nat := 0xb10d00b50abc08102a0700b54f060710594f8403110610594fc8001108594f0407594f1e1006594f321005594f0504594f0403590abc08102a0100b72a
theorem hN_cX7_init : qr_n cX7_init.data.toList = nN_cX7_init := by decide +kernel
theorem hn_cX7_init : cX7_init.size = 61 := by decide +kernel
theorem dX7_init_0 : decode cX7_init 0 = .ok (.aload_n 0, 1) := qr_o42 hN_cX7_init hn_cX7_init rfl rfl
theorem dX7_init_1 : decode cX7_init 1 = .ok (.invokespecial 1, 3) := qr_o183 0 1 hN_cX7_init hn_cX7_init rfl rfl rfl rfl
theorem dX7_init_4 : decode cX7_init 4 = .ok (.aload_n 0, 1) := qr_o42 hN_cX7_init hn_cX7_init rfl rfl
theorem dX7_init_5 : decode cX7_init 5 = .ok (.bipush 8, 2) := qr_o16 8 rfl hN_cX7_init hn_cX7_init rfl rfl rfl
theorem dX7_init_7 : decode cX7_init 7 = .ok (.newarray .int, 2) := qr_na10 hN_cX7_init hn_cX7_init rfl rfl rfl
theorem dX7_init_9 : decode cX7_init 9 = .ok (.dup, 1) := qr_o89 hN_cX7_init hn_cX7_init rfl rfl
theorem dX7_init_10 : decode cX7_init 10 = .ok (.iconst 0, 1) := qr_o3 hN_cX7_init hn_cX7_init rfl rfl
theorem dX7_init_11 : decode cX7_init 11 = .ok (.iconst 1, 1) := qr_o4 hN_cX7_init hn_cX7_init rfl rfl
theorem dX7_init_12 : decode cX7_init 12 = .ok (.iastore, 1) := qr_o79 hN_cX7_init hn_cX7_init rfl rfl
theorem dX7_init_13 : decode cX7_init 13 = .ok (.dup, 1) := qr_o89 hN_cX7_init hn_cX7_init rfl rfl
theorem dX7_init_14 : decode cX7_init 14 = .ok (.iconst 1, 1) := qr_o4 hN_cX7_init hn_cX7_init rfl rfl
theorem dX7_init_15 : decode cX7_init 15 = .ok (.iconst 2, 1) := qr_o5 hN_cX7_init hn_cX7_init rfl rfl
theorem dX7_init_16 : decode cX7_init 16 = .ok (.iastore, 1) := qr_o79 hN_cX7_init hn_cX7_init rfl rfl
theorem dX7_init_17 : decode cX7_init 17 = .ok (.dup, 1) := qr_o89 hN_cX7_init hn_cX7_init rfl rfl
theorem dX7_init_18 : decode cX7_init 18 = .ok (.iconst 2, 1) := qr_o5 hN_cX7_init hn_cX7_init rfl rfl
theorem dX7_init_19 : decode cX7_init 19 = .ok (.bipush 50, 2) := qr_o16 50 rfl hN_cX7_init hn_cX7_init rfl rfl rfl
theorem dX7_init_21 : decode cX7_init 21 = .ok (.iastore, 1) := qr_o79 hN_cX7_init hn_cX7_init rfl rfl
theorem dX7_init_22 : decode cX7_init 22 = .ok (.dup, 1) := qr_o89 hN_cX7_init hn_cX7_init rfl rfl
theorem dX7_init_23 : decode cX7_init 23 = .ok (.iconst 3, 1) := qr_o6 hN_cX7_init hn_cX7_init rfl rfl
theorem dX7_init_24 : decode cX7_init 24 = .ok (.bipush 30, 2) := qr_o16 30 rfl hN_cX7_init hn_cX7_init rfl rfl rfl
theorem dX7_init_26 : decode cX7_init 26 = .ok (.iastore, 1) := qr_o79 hN_cX7_init hn_cX7_init rfl rfl
theorem dX7_init_27 : decode cX7_init 27 = .ok (.dup, 1) := qr_o89 hN_cX7_init hn_cX7_init rfl rfl
theorem dX7_init_28 : decode cX7_init 28 = .ok (.iconst 4, 1) := qr_o7 hN_cX7_init hn_cX7_init rfl rfl
theorem dX7_init_29 : decode cX7_init 29 = .ok (.iconst 1, 1) := qr_o4 hN_cX7_init hn_cX7_init rfl rfl
theorem dX7_init_30 : decode cX7_init 30 = .ok (.iastore, 1) := qr_o79 hN_cX7_init hn_cX7_init rfl rfl
theorem dX7_init_31 : decode cX7_init 31 = .ok (.dup, 1) := qr_o89 hN_cX7_init hn_cX7_init rfl rfl
theorem dX7_init_32 : decode cX7_init 32 = .ok (.iconst 5, 1) := qr_o8 hN_cX7_init hn_cX7_init rfl rfl
theorem dX7_init_33 : decode cX7_init 33 = .ok (.sipush 200, 3) := qr_o17 0 200 rfl hN_cX7_init hn_cX7_init rfl rfl rfl rfl
theorem dX7_init_36 : decode cX7_init 36 = .ok (.iastore, 1) := qr_o79 hN_cX7_init hn_cX7_init rfl rfl
theorem dX7_init_37 : decode cX7_init 37 = .ok (.dup, 1) := qr_o89 hN_cX7_init hn_cX7_init rfl rfl
theorem dX7_init_38 : decode cX7_init 38 = .ok (.bipush 6, 2) := qr_o16 6 rfl hN_cX7_init hn_cX7_init rfl rfl rfl
theorem dX7_init_40 : decode cX7_init 40 = .ok (.sipush 900, 3) := qr_o17 3 132 rfl hN_cX7_init hn_cX7_init rfl rfl rfl rfl
theorem dX7_init_43 : decode cX7_init 43 = .ok (.iastore, 1) := qr_o79 hN_cX7_init hn_cX7_init rfl rfl
theorem dX7_init_44 : decode cX7_init 44 = .ok (.dup, 1) := qr_o89 hN_cX7_init hn_cX7_init rfl rfl
theorem dX7_init_45 : decode cX7_init 45 = .ok (.bipush 7, 2) := qr_o16 7 rfl hN_cX7_init hn_cX7_init rfl rfl rfl
theorem dX7_init_47 : decode cX7_init 47 = .ok (.iconst 3, 1) := qr_o6 hN_cX7_init hn_cX7_init rfl rfl
theorem dX7_init_48 : decode cX7_init 48 = .ok (.iastore, 1) := qr_o79 hN_cX7_init hn_cX7_init rfl rfl
theorem dX7_init_49 : decode cX7_init 49 = .ok (.putfield 7, 3) := qr_o181 0 7 hN_cX7_init hn_cX7_init rfl rfl rfl rfl
theorem dX7_init_52 : decode cX7_init 52 = .ok (.aload_n 0, 1) := qr_o42 hN_cX7_init hn_cX7_init rfl rfl
theorem dX7_init_53 : decode cX7_init 53 = .ok (.bipush 8, 2) := qr_o16 8 rfl hN_cX7_init hn_cX7_init rfl rfl rfl
theorem dX7_init_55 : decode cX7_init 55 = .ok (.newarray .int, 2) := qr_na10 hN_cX7_init hn_cX7_init rfl rfl rfl
theorem dX7_init_57 : decode cX7_init 57 = .ok (.putfield 13, 3) := qr_o181 0 13 hN_cX7_init hn_cX7_init rfl rfl rfl rfl
theorem dX7_init_60 : decode cX7_init 60 = .ok (.return_, 1) := qr_o177 hN_cX7_init hn_cX7_init rfl rfl
def nN_cX7_placeOf : Nat := 0xac02ecffa7010184ac1b0500a01a341b1000b21400a208101b3c03
theorem hN_cX7_placeOf : qr_n cX7_placeOf.data.toList = nN_cX7_placeOf := by decide +kernel
theorem hn_cX7_placeOf : cX7_placeOf.size = 27 := by decide +kernel
theorem dX7_placeOf_0 : decode cX7_placeOf 0 = .ok (.iconst 0, 1) := qr_o3 hN_cX7_placeOf hn_cX7_placeOf rfl rfl
theorem dX7_placeOf_1 : decode cX7_placeOf 1 = .ok (.istore_n 1, 1) := qr_o60 hN_cX7_placeOf hn_cX7_placeOf rfl rfl
theorem dX7_placeOf_2 : decode cX7_placeOf 2 = .ok (.iload_n 1, 1) := qr_o27 hN_cX7_placeOf hn_cX7_placeOf rfl rfl
theorem dX7_placeOf_3 : decode cX7_placeOf 3 = .ok (.bipush 8, 2) := qr_o16 8 rfl hN_cX7_placeOf hn_cX7_placeOf rfl rfl rfl
theorem dX7_placeOf_5 : decode cX7_placeOf 5 = .ok (.if_icmp .ge 20, 3) := qr_o162 0 20 rfl hN_cX7_placeOf hn_cX7_placeOf rfl rfl rfl rfl
theorem dX7_placeOf_8 : decode cX7_placeOf 8 = .ok (.getstatic 16, 3) := qr_o178 0 16 hN_cX7_placeOf hn_cX7_placeOf rfl rfl rfl rfl
theorem dX7_placeOf_11 : decode cX7_placeOf 11 = .ok (.iload_n 1, 1) := qr_o27 hN_cX7_placeOf hn_cX7_placeOf rfl rfl
theorem dX7_placeOf_12 : decode cX7_placeOf 12 = .ok (.caload, 1) := qr_o52 hN_cX7_placeOf hn_cX7_placeOf rfl rfl
theorem dX7_placeOf_13 : decode cX7_placeOf 13 = .ok (.iload_n 0, 1) := qr_o26 hN_cX7_placeOf hn_cX7_placeOf rfl rfl
theorem dX7_placeOf_14 : decode cX7_placeOf 14 = .ok (.if_icmp .ne 5, 3) := qr_o160 0 5 rfl hN_cX7_placeOf hn_cX7_placeOf rfl rfl rfl rfl
theorem dX7_placeOf_17 : decode cX7_placeOf 17 = .ok (.iload_n 1, 1) := qr_o27 hN_cX7_placeOf hn_cX7_placeOf rfl rfl
theorem dX7_placeOf_18 : decode cX7_placeOf 18 = .ok (.ireturn, 1) := qr_o172 hN_cX7_placeOf hn_cX7_placeOf rfl rfl
theorem dX7_placeOf_19 : decode cX7_placeOf 19 = .ok (.iinc 1 1, 3) := qr_o132 1 1 rfl hN_cX7_placeOf hn_cX7_placeOf rfl rfl rfl rfl
theorem dX7_placeOf_22 : decode cX7_placeOf 22 = .ok (.goto (-20), 3) := qr_w167 255 236 20 rfl rfl hN_cX7_placeOf hn_cX7_placeOf rfl rfl rfl rfl
theorem dX7_placeOf_25 : decode cX7_placeOf 25 = .ok (.iconst (-1), 1) := qr_o2 hN_cX7_placeOf hn_cX7_placeOf rfl rfl
theorem dX7_placeOf_26 : decode cX7_placeOf 26 = .ok (.ireturn, 1) := qr_o172 hN_cX7_placeOf hn_cX7_placeOf rfl rfl
def nN_cX7_at : Nat := 0xac030400a72e1b0700b42a0c00a208101b12009b1b
theorem hN_cX7_at : qr_n cX7_at.data.toList = nN_cX7_at := by decide +kernel
theorem hn_cX7_at : cX7_at.size = 21 := by decide +kernel
theorem dX7_at_0 : decode cX7_at 0 = .ok (.iload_n 1, 1) := qr_o27 hN_cX7_at hn_cX7_at rfl rfl
theorem dX7_at_1 : decode cX7_at 1 = .ok (.ifCond .lt 18, 3) := qr_o155 0 18 rfl hN_cX7_at hn_cX7_at rfl rfl rfl rfl
theorem dX7_at_4 : decode cX7_at 4 = .ok (.iload_n 1, 1) := qr_o27 hN_cX7_at hn_cX7_at rfl rfl
theorem dX7_at_5 : decode cX7_at 5 = .ok (.bipush 8, 2) := qr_o16 8 rfl hN_cX7_at hn_cX7_at rfl rfl rfl
theorem dX7_at_7 : decode cX7_at 7 = .ok (.if_icmp .ge 12, 3) := qr_o162 0 12 rfl hN_cX7_at hn_cX7_at rfl rfl rfl rfl
theorem dX7_at_10 : decode cX7_at 10 = .ok (.aload_n 0, 1) := qr_o42 hN_cX7_at hn_cX7_at rfl rfl
theorem dX7_at_11 : decode cX7_at 11 = .ok (.getfield 7, 3) := qr_o180 0 7 hN_cX7_at hn_cX7_at rfl rfl rfl rfl
theorem dX7_at_14 : decode cX7_at 14 = .ok (.iload_n 1, 1) := qr_o27 hN_cX7_at hn_cX7_at rfl rfl
theorem dX7_at_15 : decode cX7_at 15 = .ok (.iaload, 1) := qr_o46 hN_cX7_at hn_cX7_at rfl rfl
theorem dX7_at_16 : decode cX7_at 16 = .ok (.goto 4, 3) := qr_o167 0 4 rfl hN_cX7_at hn_cX7_at rfl rfl rfl rfl
theorem dX7_at_19 : decode cX7_at 19 = .ok (.iconst 0, 1) := qr_o3 hN_cX7_at hn_cX7_at rfl rfl
theorem dX7_at_20 : decode cX7_at 20 = .ok (.ireturn, 1) := qr_o172 hN_cX7_at hn_cX7_at rfl rfl
def nN_cX7_read : Nat := 0xac641cec10c4ffa7010384ac641cec1008009f3b102200b61c2bac1d1400b80700b42a0d00b42a1000a11c00b42b1cac1c05009c1c3d1800b660041c2b2a3c00a308101d3e043d021400b80d00b42a0700b42a
theorem hN_cX7_read : qr_n cX7_read.data.toList = nN_cX7_read := by decide +kernel
theorem hn_cX7_read : cX7_read.size = 83 := by decide +kernel
theorem dX7_read_0 : decode cX7_read 0 = .ok (.aload_n 0, 1) := qr_o42 hN_cX7_read hn_cX7_read rfl rfl
theorem dX7_read_1 : decode cX7_read 1 = .ok (.getfield 7, 3) := qr_o180 0 7 hN_cX7_read hn_cX7_read rfl rfl rfl rfl
theorem dX7_read_4 : decode cX7_read 4 = .ok (.aload_n 0, 1) := qr_o42 hN_cX7_read hn_cX7_read rfl rfl
theorem dX7_read_5 : decode cX7_read 5 = .ok (.getfield 13, 3) := qr_o180 0 13 hN_cX7_read hn_cX7_read rfl rfl rfl rfl
theorem dX7_read_8 : decode cX7_read 8 = .ok (.invokestatic 20, 3) := qr_o184 0 20 hN_cX7_read hn_cX7_read rfl rfl rfl rfl
theorem dX7_read_11 : decode cX7_read 11 = .ok (.iconst (-1), 1) := qr_o2 hN_cX7_read hn_cX7_read rfl rfl
theorem dX7_read_12 : decode cX7_read 12 = .ok (.istore_n 2, 1) := qr_o61 hN_cX7_read hn_cX7_read rfl rfl
theorem dX7_read_13 : decode cX7_read 13 = .ok (.iconst 1, 1) := qr_o4 hN_cX7_read hn_cX7_read rfl rfl
theorem dX7_read_14 : decode cX7_read 14 = .ok (.istore_n 3, 1) := qr_o62 hN_cX7_read hn_cX7_read rfl rfl
theorem dX7_read_15 : decode cX7_read 15 = .ok (.iload_n 3, 1) := qr_o29 hN_cX7_read hn_cX7_read rfl rfl
theorem dX7_read_16 : decode cX7_read 16 = .ok (.bipush 8, 2) := qr_o16 8 rfl hN_cX7_read hn_cX7_read rfl rfl rfl
theorem dX7_read_18 : decode cX7_read 18 = .ok (.if_icmp .gt 60, 3) := qr_o163 0 60 rfl hN_cX7_read hn_cX7_read rfl rfl rfl rfl
theorem dX7_read_21 : decode cX7_read 21 = .ok (.aload_n 0, 1) := qr_o42 hN_cX7_read hn_cX7_read rfl rfl
theorem dX7_read_22 : decode cX7_read 22 = .ok (.aload_n 1, 1) := qr_o43 hN_cX7_read hn_cX7_read rfl rfl
theorem dX7_read_23 : decode cX7_read 23 = .ok (.iload_n 2, 1) := qr_o28 hN_cX7_read hn_cX7_read rfl rfl
theorem dX7_read_24 : decode cX7_read 24 = .ok (.iconst 1, 1) := qr_o4 hN_cX7_read hn_cX7_read rfl rfl
theorem dX7_read_25 : decode cX7_read 25 = .ok (.iadd, 1) := qr_o96 hN_cX7_read hn_cX7_read rfl rfl
theorem dX7_read_26 : decode cX7_read 26 = .ok (.invokevirtual 24, 3) := qr_o182 0 24 hN_cX7_read hn_cX7_read rfl rfl rfl rfl
theorem dX7_read_29 : decode cX7_read 29 = .ok (.istore_n 2, 1) := qr_o61 hN_cX7_read hn_cX7_read rfl rfl
theorem dX7_read_30 : decode cX7_read 30 = .ok (.iload_n 2, 1) := qr_o28 hN_cX7_read hn_cX7_read rfl rfl
theorem dX7_read_31 : decode cX7_read 31 = .ok (.ifCond .ge 5, 3) := qr_o156 0 5 rfl hN_cX7_read hn_cX7_read rfl rfl rfl rfl
theorem dX7_read_34 : decode cX7_read 34 = .ok (.iload_n 2, 1) := qr_o28 hN_cX7_read hn_cX7_read rfl rfl
theorem dX7_read_35 : decode cX7_read 35 = .ok (.ireturn, 1) := qr_o172 hN_cX7_read hn_cX7_read rfl rfl
theorem dX7_read_36 : decode cX7_read 36 = .ok (.iload_n 2, 1) := qr_o28 hN_cX7_read hn_cX7_read rfl rfl
theorem dX7_read_37 : decode cX7_read 37 = .ok (.aload_n 1, 1) := qr_o43 hN_cX7_read hn_cX7_read rfl rfl
theorem dX7_read_38 : decode cX7_read 38 = .ok (.getfield 28, 3) := qr_o180 0 28 hN_cX7_read hn_cX7_read rfl rfl rfl rfl
theorem dX7_read_41 : decode cX7_read 41 = .ok (.if_icmp .lt 16, 3) := qr_o161 0 16 rfl hN_cX7_read hn_cX7_read rfl rfl rfl rfl
theorem dX7_read_44 : decode cX7_read 44 = .ok (.aload_n 0, 1) := qr_o42 hN_cX7_read hn_cX7_read rfl rfl
theorem dX7_read_45 : decode cX7_read 45 = .ok (.getfield 13, 3) := qr_o180 0 13 hN_cX7_read hn_cX7_read rfl rfl rfl rfl
theorem dX7_read_48 : decode cX7_read 48 = .ok (.aload_n 0, 1) := qr_o42 hN_cX7_read hn_cX7_read rfl rfl
theorem dX7_read_49 : decode cX7_read 49 = .ok (.getfield 7, 3) := qr_o180 0 7 hN_cX7_read hn_cX7_read rfl rfl rfl rfl
theorem dX7_read_52 : decode cX7_read 52 = .ok (.invokestatic 20, 3) := qr_o184 0 20 hN_cX7_read hn_cX7_read rfl rfl rfl rfl
theorem dX7_read_55 : decode cX7_read 55 = .ok (.iload_n 3, 1) := qr_o29 hN_cX7_read hn_cX7_read rfl rfl
theorem dX7_read_56 : decode cX7_read 56 = .ok (.ireturn, 1) := qr_o172 hN_cX7_read hn_cX7_read rfl rfl
theorem dX7_read_57 : decode cX7_read 57 = .ok (.aload_n 1, 1) := qr_o43 hN_cX7_read hn_cX7_read rfl rfl
theorem dX7_read_58 : decode cX7_read 58 = .ok (.iload_n 2, 1) := qr_o28 hN_cX7_read hn_cX7_read rfl rfl
theorem dX7_read_59 : decode cX7_read 59 = .ok (.invokevirtual 34, 3) := qr_o182 0 34 hN_cX7_read hn_cX7_read rfl rfl rfl rfl
theorem dX7_read_62 : decode cX7_read 62 = .ok (.bipush 59, 2) := qr_o16 59 rfl hN_cX7_read hn_cX7_read rfl rfl rfl
theorem dX7_read_64 : decode cX7_read 64 = .ok (.if_icmp .eq 8, 3) := qr_o159 0 8 rfl hN_cX7_read hn_cX7_read rfl rfl rfl rfl
theorem dX7_read_67 : decode cX7_read 67 = .ok (.bipush (-20), 2) := qr_w16 236 20 rfl rfl hN_cX7_read hn_cX7_read rfl rfl rfl
theorem dX7_read_69 : decode cX7_read 69 = .ok (.iload_n 2, 1) := qr_o28 hN_cX7_read hn_cX7_read rfl rfl
theorem dX7_read_70 : decode cX7_read 70 = .ok (.isub, 1) := qr_o100 hN_cX7_read hn_cX7_read rfl rfl
theorem dX7_read_71 : decode cX7_read 71 = .ok (.ireturn, 1) := qr_o172 hN_cX7_read hn_cX7_read rfl rfl
theorem dX7_read_72 : decode cX7_read 72 = .ok (.iinc 3 1, 3) := qr_o132 3 1 rfl hN_cX7_read hn_cX7_read rfl rfl rfl rfl
theorem dX7_read_75 : decode cX7_read 75 = .ok (.goto (-60), 3) := qr_w167 255 196 60 rfl rfl hN_cX7_read hn_cX7_read rfl rfl rfl rfl
theorem dX7_read_78 : decode cX7_read 78 = .ok (.bipush (-20), 2) := qr_w16 236 20 rfl rfl hN_cX7_read hn_cX7_read rfl rfl rfl
theorem dX7_read_80 : decode cX7_read 80 = .ok (.iload_n 2, 1) := qr_o28 hN_cX7_read hn_cX7_read rfl rfl
theorem dX7_read_81 : decode cX7_read 81 = .ok (.isub, 1) := qr_o100 hN_cX7_read hn_cX7_read rfl rfl
theorem dX7_read_82 : decode cX7_read 82 = .ok (.ireturn, 1) := qr_o172 hN_cX7_read hn_cX7_read rfl rfl
def nN_cX7_readClause : Nat := 0xac2600b606152b4f071504150d00b42aac640515ec100900a42e04152f00b2071507363200b62e04152f00b2061505152bac640515ec100900a00515061506362c00b605152b05362600b660041d2bac641dec1008009c041504362900b82200b61d2b3e2600b61c2b
theorem hN_cX7_readClause : qr_n cX7_readClause.data.toList = nN_cX7_readClause := by decide +kernel
theorem hn_cX7_readClause : cX7_readClause.size = 105 := by decide +kernel
theorem dX7_readClause_0 : decode cX7_readClause 0 = .ok (.aload_n 1, 1) := qr_o43 hN_cX7_readClause hn_cX7_readClause rfl rfl
theorem dX7_readClause_1 : decode cX7_readClause 1 = .ok (.iload_n 2, 1) := qr_o28 hN_cX7_readClause hn_cX7_readClause rfl rfl
theorem dX7_readClause_2 : decode cX7_readClause 2 = .ok (.invokevirtual 38, 3) := qr_o182 0 38 hN_cX7_readClause hn_cX7_readClause rfl rfl rfl rfl
theorem dX7_readClause_5 : decode cX7_readClause 5 = .ok (.istore_n 3, 1) := qr_o62 hN_cX7_readClause hn_cX7_readClause rfl rfl
theorem dX7_readClause_6 : decode cX7_readClause 6 = .ok (.aload_n 1, 1) := qr_o43 hN_cX7_readClause hn_cX7_readClause rfl rfl
theorem dX7_readClause_7 : decode cX7_readClause 7 = .ok (.iload_n 3, 1) := qr_o29 hN_cX7_readClause hn_cX7_readClause rfl rfl
theorem dX7_readClause_8 : decode cX7_readClause 8 = .ok (.invokevirtual 34, 3) := qr_o182 0 34 hN_cX7_readClause hn_cX7_readClause rfl rfl rfl rfl
theorem dX7_readClause_11 : decode cX7_readClause 11 = .ok (.invokestatic 41, 3) := qr_o184 0 41 hN_cX7_readClause hn_cX7_readClause rfl rfl rfl rfl
theorem dX7_readClause_14 : decode cX7_readClause 14 = .ok (.istore 4, 2) := qr_o54 4 hN_cX7_readClause hn_cX7_readClause rfl rfl rfl
theorem dX7_readClause_16 : decode cX7_readClause 16 = .ok (.iload 4, 2) := qr_o21 4 hN_cX7_readClause hn_cX7_readClause rfl rfl rfl
theorem dX7_readClause_18 : decode cX7_readClause 18 = .ok (.ifCond .ge 8, 3) := qr_o156 0 8 rfl hN_cX7_readClause hn_cX7_readClause rfl rfl rfl rfl
theorem dX7_readClause_21 : decode cX7_readClause 21 = .ok (.bipush (-20), 2) := qr_w16 236 20 rfl rfl hN_cX7_readClause hn_cX7_readClause rfl rfl rfl
theorem dX7_readClause_23 : decode cX7_readClause 23 = .ok (.iload_n 3, 1) := qr_o29 hN_cX7_readClause hn_cX7_readClause rfl rfl
theorem dX7_readClause_24 : decode cX7_readClause 24 = .ok (.isub, 1) := qr_o100 hN_cX7_readClause hn_cX7_readClause rfl rfl
theorem dX7_readClause_25 : decode cX7_readClause 25 = .ok (.ireturn, 1) := qr_o172 hN_cX7_readClause hn_cX7_readClause rfl rfl
theorem dX7_readClause_26 : decode cX7_readClause 26 = .ok (.aload_n 1, 1) := qr_o43 hN_cX7_readClause hn_cX7_readClause rfl rfl
theorem dX7_readClause_27 : decode cX7_readClause 27 = .ok (.iload_n 3, 1) := qr_o29 hN_cX7_readClause hn_cX7_readClause rfl rfl
theorem dX7_readClause_28 : decode cX7_readClause 28 = .ok (.iconst 1, 1) := qr_o4 hN_cX7_readClause hn_cX7_readClause rfl rfl
theorem dX7_readClause_29 : decode cX7_readClause 29 = .ok (.iadd, 1) := qr_o96 hN_cX7_readClause hn_cX7_readClause rfl rfl
theorem dX7_readClause_30 : decode cX7_readClause 30 = .ok (.invokevirtual 38, 3) := qr_o182 0 38 hN_cX7_readClause hn_cX7_readClause rfl rfl rfl rfl
theorem dX7_readClause_33 : decode cX7_readClause 33 = .ok (.istore 5, 2) := qr_o54 5 hN_cX7_readClause hn_cX7_readClause rfl rfl rfl
theorem dX7_readClause_35 : decode cX7_readClause 35 = .ok (.aload_n 1, 1) := qr_o43 hN_cX7_readClause hn_cX7_readClause rfl rfl
theorem dX7_readClause_36 : decode cX7_readClause 36 = .ok (.iload 5, 2) := qr_o21 5 hN_cX7_readClause hn_cX7_readClause rfl rfl rfl
theorem dX7_readClause_38 : decode cX7_readClause 38 = .ok (.invokevirtual 44, 3) := qr_o182 0 44 hN_cX7_readClause hn_cX7_readClause rfl rfl rfl rfl
theorem dX7_readClause_41 : decode cX7_readClause 41 = .ok (.istore 6, 2) := qr_o54 6 hN_cX7_readClause hn_cX7_readClause rfl rfl rfl
theorem dX7_readClause_43 : decode cX7_readClause 43 = .ok (.iload 6, 2) := qr_o21 6 hN_cX7_readClause hn_cX7_readClause rfl rfl rfl
theorem dX7_readClause_45 : decode cX7_readClause 45 = .ok (.iload 5, 2) := qr_o21 5 hN_cX7_readClause hn_cX7_readClause rfl rfl rfl
theorem dX7_readClause_47 : decode cX7_readClause 47 = .ok (.if_icmp .ne 9, 3) := qr_o160 0 9 rfl hN_cX7_readClause hn_cX7_readClause rfl rfl rfl rfl
theorem dX7_readClause_50 : decode cX7_readClause 50 = .ok (.bipush (-20), 2) := qr_w16 236 20 rfl rfl hN_cX7_readClause hn_cX7_readClause rfl rfl rfl
theorem dX7_readClause_52 : decode cX7_readClause 52 = .ok (.iload 5, 2) := qr_o21 5 hN_cX7_readClause hn_cX7_readClause rfl rfl rfl
theorem dX7_readClause_54 : decode cX7_readClause 54 = .ok (.isub, 1) := qr_o100 hN_cX7_readClause hn_cX7_readClause rfl rfl
theorem dX7_readClause_55 : decode cX7_readClause 55 = .ok (.ireturn, 1) := qr_o172 hN_cX7_readClause hn_cX7_readClause rfl rfl
theorem dX7_readClause_56 : decode cX7_readClause 56 = .ok (.aload_n 1, 1) := qr_o43 hN_cX7_readClause hn_cX7_readClause rfl rfl
theorem dX7_readClause_57 : decode cX7_readClause 57 = .ok (.iload 5, 2) := qr_o21 5 hN_cX7_readClause hn_cX7_readClause rfl rfl rfl
theorem dX7_readClause_59 : decode cX7_readClause 59 = .ok (.iload 6, 2) := qr_o21 6 hN_cX7_readClause hn_cX7_readClause rfl rfl rfl
theorem dX7_readClause_61 : decode cX7_readClause 61 = .ok (.getstatic 47, 3) := qr_o178 0 47 hN_cX7_readClause hn_cX7_readClause rfl rfl rfl rfl
theorem dX7_readClause_64 : decode cX7_readClause 64 = .ok (.iload 4, 2) := qr_o21 4 hN_cX7_readClause hn_cX7_readClause rfl rfl rfl
theorem dX7_readClause_66 : decode cX7_readClause 66 = .ok (.iaload, 1) := qr_o46 hN_cX7_readClause hn_cX7_readClause rfl rfl
theorem dX7_readClause_67 : decode cX7_readClause 67 = .ok (.invokevirtual 50, 3) := qr_o182 0 50 hN_cX7_readClause hn_cX7_readClause rfl rfl rfl rfl
theorem dX7_readClause_70 : decode cX7_readClause 70 = .ok (.istore 7, 2) := qr_o54 7 hN_cX7_readClause hn_cX7_readClause rfl rfl rfl
theorem dX7_readClause_72 : decode cX7_readClause 72 = .ok (.iload 7, 2) := qr_o21 7 hN_cX7_readClause hn_cX7_readClause rfl rfl rfl
theorem dX7_readClause_74 : decode cX7_readClause 74 = .ok (.getstatic 47, 3) := qr_o178 0 47 hN_cX7_readClause hn_cX7_readClause rfl rfl rfl rfl
theorem dX7_readClause_77 : decode cX7_readClause 77 = .ok (.iload 4, 2) := qr_o21 4 hN_cX7_readClause hn_cX7_readClause rfl rfl rfl
theorem dX7_readClause_79 : decode cX7_readClause 79 = .ok (.iaload, 1) := qr_o46 hN_cX7_readClause hn_cX7_readClause rfl rfl
theorem dX7_readClause_80 : decode cX7_readClause 80 = .ok (.if_icmp .le 9, 3) := qr_o164 0 9 rfl hN_cX7_readClause hn_cX7_readClause rfl rfl rfl rfl
theorem dX7_readClause_83 : decode cX7_readClause 83 = .ok (.bipush (-20), 2) := qr_w16 236 20 rfl rfl hN_cX7_readClause hn_cX7_readClause rfl rfl rfl
theorem dX7_readClause_85 : decode cX7_readClause 85 = .ok (.iload 5, 2) := qr_o21 5 hN_cX7_readClause hn_cX7_readClause rfl rfl rfl
theorem dX7_readClause_87 : decode cX7_readClause 87 = .ok (.isub, 1) := qr_o100 hN_cX7_readClause hn_cX7_readClause rfl rfl
theorem dX7_readClause_88 : decode cX7_readClause 88 = .ok (.ireturn, 1) := qr_o172 hN_cX7_readClause hn_cX7_readClause rfl rfl
theorem dX7_readClause_89 : decode cX7_readClause 89 = .ok (.aload_n 0, 1) := qr_o42 hN_cX7_readClause hn_cX7_readClause rfl rfl
theorem dX7_readClause_90 : decode cX7_readClause 90 = .ok (.getfield 13, 3) := qr_o180 0 13 hN_cX7_readClause hn_cX7_readClause rfl rfl rfl rfl
theorem dX7_readClause_93 : decode cX7_readClause 93 = .ok (.iload 4, 2) := qr_o21 4 hN_cX7_readClause hn_cX7_readClause rfl rfl rfl
theorem dX7_readClause_95 : decode cX7_readClause 95 = .ok (.iload 7, 2) := qr_o21 7 hN_cX7_readClause hn_cX7_readClause rfl rfl rfl
theorem dX7_readClause_97 : decode cX7_readClause 97 = .ok (.iastore, 1) := qr_o79 hN_cX7_readClause hn_cX7_readClause rfl rfl
theorem dX7_readClause_98 : decode cX7_readClause 98 = .ok (.aload_n 1, 1) := qr_o43 hN_cX7_readClause hn_cX7_readClause rfl rfl
theorem dX7_readClause_99 : decode cX7_readClause 99 = .ok (.iload 6, 2) := qr_o21 6 hN_cX7_readClause hn_cX7_readClause rfl rfl rfl
theorem dX7_readClause_101 : decode cX7_readClause 101 = .ok (.invokevirtual 38, 3) := qr_o182 0 38 hN_cX7_readClause hn_cX7_readClause rfl rfl rfl rfl
theorem dX7_readClause_104 : decode cX7_readClause 104 = .ok (.ireturn, 1) := qr_o172 hN_cX7_readClause hn_cX7_readClause rfl rfl
def nN_cX7_copy : Nat := 0xb1f1ffa70102844f2e1c2a1c2b0f00a208101c3d03
theorem hN_cX7_copy : qr_n cX7_copy.data.toList = nN_cX7_copy := by decide +kernel
theorem hn_cX7_copy : cX7_copy.size = 21 := by decide +kernel
theorem dX7_copy_0 : decode cX7_copy 0 = .ok (.iconst 0, 1) := qr_o3 hN_cX7_copy hn_cX7_copy rfl rfl
theorem dX7_copy_1 : decode cX7_copy 1 = .ok (.istore_n 2, 1) := qr_o61 hN_cX7_copy hn_cX7_copy rfl rfl
theorem dX7_copy_2 : decode cX7_copy 2 = .ok (.iload_n 2, 1) := qr_o28 hN_cX7_copy hn_cX7_copy rfl rfl
theorem dX7_copy_3 : decode cX7_copy 3 = .ok (.bipush 8, 2) := qr_o16 8 rfl hN_cX7_copy hn_cX7_copy rfl rfl rfl
theorem dX7_copy_5 : decode cX7_copy 5 = .ok (.if_icmp .ge 15, 3) := qr_o162 0 15 rfl hN_cX7_copy hn_cX7_copy rfl rfl rfl rfl
theorem dX7_copy_8 : decode cX7_copy 8 = .ok (.aload_n 1, 1) := qr_o43 hN_cX7_copy hn_cX7_copy rfl rfl
theorem dX7_copy_9 : decode cX7_copy 9 = .ok (.iload_n 2, 1) := qr_o28 hN_cX7_copy hn_cX7_copy rfl rfl
theorem dX7_copy_10 : decode cX7_copy 10 = .ok (.aload_n 0, 1) := qr_o42 hN_cX7_copy hn_cX7_copy rfl rfl
theorem dX7_copy_11 : decode cX7_copy 11 = .ok (.iload_n 2, 1) := qr_o28 hN_cX7_copy hn_cX7_copy rfl rfl
theorem dX7_copy_12 : decode cX7_copy 12 = .ok (.iaload, 1) := qr_o46 hN_cX7_copy hn_cX7_copy rfl rfl
theorem dX7_copy_13 : decode cX7_copy 13 = .ok (.iastore, 1) := qr_o79 hN_cX7_copy hn_cX7_copy rfl rfl
theorem dX7_copy_14 : decode cX7_copy 14 = .ok (.iinc 2 1, 3) := qr_o132 2 1 rfl hN_cX7_copy hn_cX7_copy rfl rfl rfl rfl
theorem dX7_copy_17 : decode cX7_copy 17 = .ok (.goto (-15), 3) := qr_w167 255 241 15 rfl rfl hN_cX7_copy hn_cX7_copy rfl rfl rfl rfl
theorem dX7_copy_20 : decode cX7_copy 20 = .ok (.return_, 1) := qr_o177 hN_cX7_copy hn_cX7_copy rfl rfl
def nN_cX8_init : Nat := 0xb12300b5532200b7592000bb0659532200b7592000bb0559532200b7592000bb0459532200b7592000bb03592000bd072a1c00b51900b71300b42a591700bb2a1300b51200b7591000bb2a0a00b50900b7590700bb2a0100b72a
theorem hN_cX8_init : qr_n cX8_init.data.toList = nN_cX8_init := by decide +kernel
theorem hn_cX8_init : cX8_init.size = 90 := by decide +kernel
theorem dX8_init_0 : decode cX8_init 0 = .ok (.aload_n 0, 1) := qr_o42 hN_cX8_init hn_cX8_init rfl rfl
theorem dX8_init_1 : decode cX8_init 1 = .ok (.invokespecial 1, 3) := qr_o183 0 1 hN_cX8_init hn_cX8_init rfl rfl rfl rfl
theorem dX8_init_4 : decode cX8_init 4 = .ok (.aload_n 0, 1) := qr_o42 hN_cX8_init hn_cX8_init rfl rfl
theorem dX8_init_5 : decode cX8_init 5 = .ok (.new 7, 3) := qr_o187 0 7 hN_cX8_init hn_cX8_init rfl rfl rfl rfl
theorem dX8_init_8 : decode cX8_init 8 = .ok (.dup, 1) := qr_o89 hN_cX8_init hn_cX8_init rfl rfl
theorem dX8_init_9 : decode cX8_init 9 = .ok (.invokespecial 9, 3) := qr_o183 0 9 hN_cX8_init hn_cX8_init rfl rfl rfl rfl
theorem dX8_init_12 : decode cX8_init 12 = .ok (.putfield 10, 3) := qr_o181 0 10 hN_cX8_init hn_cX8_init rfl rfl rfl rfl
theorem dX8_init_15 : decode cX8_init 15 = .ok (.aload_n 0, 1) := qr_o42 hN_cX8_init hn_cX8_init rfl rfl
theorem dX8_init_16 : decode cX8_init 16 = .ok (.new 16, 3) := qr_o187 0 16 hN_cX8_init hn_cX8_init rfl rfl rfl rfl
theorem dX8_init_19 : decode cX8_init 19 = .ok (.dup, 1) := qr_o89 hN_cX8_init hn_cX8_init rfl rfl
theorem dX8_init_20 : decode cX8_init 20 = .ok (.invokespecial 18, 3) := qr_o183 0 18 hN_cX8_init hn_cX8_init rfl rfl rfl rfl
theorem dX8_init_23 : decode cX8_init 23 = .ok (.putfield 19, 3) := qr_o181 0 19 hN_cX8_init hn_cX8_init rfl rfl rfl rfl
theorem dX8_init_26 : decode cX8_init 26 = .ok (.aload_n 0, 1) := qr_o42 hN_cX8_init hn_cX8_init rfl rfl
theorem dX8_init_27 : decode cX8_init 27 = .ok (.new 23, 3) := qr_o187 0 23 hN_cX8_init hn_cX8_init rfl rfl rfl rfl
theorem dX8_init_30 : decode cX8_init 30 = .ok (.dup, 1) := qr_o89 hN_cX8_init hn_cX8_init rfl rfl
theorem dX8_init_31 : decode cX8_init 31 = .ok (.aload_n 0, 1) := qr_o42 hN_cX8_init hn_cX8_init rfl rfl
theorem dX8_init_32 : decode cX8_init 32 = .ok (.getfield 19, 3) := qr_o180 0 19 hN_cX8_init hn_cX8_init rfl rfl rfl rfl
theorem dX8_init_35 : decode cX8_init 35 = .ok (.invokespecial 25, 3) := qr_o183 0 25 hN_cX8_init hn_cX8_init rfl rfl rfl rfl
theorem dX8_init_38 : decode cX8_init 38 = .ok (.putfield 28, 3) := qr_o181 0 28 hN_cX8_init hn_cX8_init rfl rfl rfl rfl
theorem dX8_init_41 : decode cX8_init 41 = .ok (.aload_n 0, 1) := qr_o42 hN_cX8_init hn_cX8_init rfl rfl
theorem dX8_init_42 : decode cX8_init 42 = .ok (.iconst 4, 1) := qr_o7 hN_cX8_init hn_cX8_init rfl rfl
theorem dX8_init_43 : decode cX8_init 43 = .ok (.anewarray 32, 3) := qr_o189 0 32 hN_cX8_init hn_cX8_init rfl rfl rfl rfl
theorem dX8_init_46 : decode cX8_init 46 = .ok (.dup, 1) := qr_o89 hN_cX8_init hn_cX8_init rfl rfl
theorem dX8_init_47 : decode cX8_init 47 = .ok (.iconst 0, 1) := qr_o3 hN_cX8_init hn_cX8_init rfl rfl
theorem dX8_init_48 : decode cX8_init 48 = .ok (.new 32, 3) := qr_o187 0 32 hN_cX8_init hn_cX8_init rfl rfl rfl rfl
theorem dX8_init_51 : decode cX8_init 51 = .ok (.dup, 1) := qr_o89 hN_cX8_init hn_cX8_init rfl rfl
theorem dX8_init_52 : decode cX8_init 52 = .ok (.invokespecial 34, 3) := qr_o183 0 34 hN_cX8_init hn_cX8_init rfl rfl rfl rfl
theorem dX8_init_55 : decode cX8_init 55 = .ok (.aastore, 1) := qr_o83 hN_cX8_init hn_cX8_init rfl rfl
theorem dX8_init_56 : decode cX8_init 56 = .ok (.dup, 1) := qr_o89 hN_cX8_init hn_cX8_init rfl rfl
theorem dX8_init_57 : decode cX8_init 57 = .ok (.iconst 1, 1) := qr_o4 hN_cX8_init hn_cX8_init rfl rfl
theorem dX8_init_58 : decode cX8_init 58 = .ok (.new 32, 3) := qr_o187 0 32 hN_cX8_init hn_cX8_init rfl rfl rfl rfl
theorem dX8_init_61 : decode cX8_init 61 = .ok (.dup, 1) := qr_o89 hN_cX8_init hn_cX8_init rfl rfl
theorem dX8_init_62 : decode cX8_init 62 = .ok (.invokespecial 34, 3) := qr_o183 0 34 hN_cX8_init hn_cX8_init rfl rfl rfl rfl
theorem dX8_init_65 : decode cX8_init 65 = .ok (.aastore, 1) := qr_o83 hN_cX8_init hn_cX8_init rfl rfl
theorem dX8_init_66 : decode cX8_init 66 = .ok (.dup, 1) := qr_o89 hN_cX8_init hn_cX8_init rfl rfl
theorem dX8_init_67 : decode cX8_init 67 = .ok (.iconst 2, 1) := qr_o5 hN_cX8_init hn_cX8_init rfl rfl
theorem dX8_init_68 : decode cX8_init 68 = .ok (.new 32, 3) := qr_o187 0 32 hN_cX8_init hn_cX8_init rfl rfl rfl rfl
theorem dX8_init_71 : decode cX8_init 71 = .ok (.dup, 1) := qr_o89 hN_cX8_init hn_cX8_init rfl rfl
theorem dX8_init_72 : decode cX8_init 72 = .ok (.invokespecial 34, 3) := qr_o183 0 34 hN_cX8_init hn_cX8_init rfl rfl rfl rfl
theorem dX8_init_75 : decode cX8_init 75 = .ok (.aastore, 1) := qr_o83 hN_cX8_init hn_cX8_init rfl rfl
theorem dX8_init_76 : decode cX8_init 76 = .ok (.dup, 1) := qr_o89 hN_cX8_init hn_cX8_init rfl rfl
theorem dX8_init_77 : decode cX8_init 77 = .ok (.iconst 3, 1) := qr_o6 hN_cX8_init hn_cX8_init rfl rfl
theorem dX8_init_78 : decode cX8_init 78 = .ok (.new 32, 3) := qr_o187 0 32 hN_cX8_init hn_cX8_init rfl rfl rfl rfl
theorem dX8_init_81 : decode cX8_init 81 = .ok (.dup, 1) := qr_o89 hN_cX8_init hn_cX8_init rfl rfl
theorem dX8_init_82 : decode cX8_init 82 = .ok (.invokespecial 34, 3) := qr_o183 0 34 hN_cX8_init hn_cX8_init rfl rfl rfl rfl
theorem dX8_init_85 : decode cX8_init 85 = .ok (.aastore, 1) := qr_o83 hN_cX8_init hn_cX8_init rfl rfl
theorem dX8_init_86 : decode cX8_init 86 = .ok (.putfield 35, 3) := qr_o181 0 35 hN_cX8_init hn_cX8_init rfl rfl rfl rfl
theorem dX8_init_89 : decode cX8_init 89 = .ok (.return_, 1) := qr_o177 hN_cX8_init hn_cX8_init rfl rfl
def nN_cX8_type : Nat := 0xac3700b40a00b42aebffa7ff04843300b62b00b804151f0a00b42a16009b0415043664041dacfd1006009a2f00b61d0a00b42ae6ffa7ff0484ac0205009a2700b87e1020102b00b804151f1b009b0415043664041dac0205009a2700b80810041d
theorem hN_cX8_type : qr_n cX8_type.data.toList = nN_cX8_type := by decide +kernel
theorem hn_cX8_type : cX8_type.size = 97 := by decide +kernel
theorem dX8_type_0 : decode cX8_type 0 = .ok (.iload_n 3, 1) := qr_o29 hN_cX8_type hn_cX8_type rfl rfl
theorem dX8_type_1 : decode cX8_type 1 = .ok (.iconst 1, 1) := qr_o4 hN_cX8_type hn_cX8_type rfl rfl
theorem dX8_type_2 : decode cX8_type 2 = .ok (.bipush 8, 2) := qr_o16 8 rfl hN_cX8_type hn_cX8_type rfl rfl rfl
theorem dX8_type_4 : decode cX8_type 4 = .ok (.invokestatic 39, 3) := qr_o184 0 39 hN_cX8_type hn_cX8_type rfl rfl rfl rfl
theorem dX8_type_7 : decode cX8_type 7 = .ok (.ifCond .ne 5, 3) := qr_o154 0 5 rfl hN_cX8_type hn_cX8_type rfl rfl rfl rfl
theorem dX8_type_10 : decode cX8_type 10 = .ok (.iconst (-1), 1) := qr_o2 hN_cX8_type hn_cX8_type rfl rfl
theorem dX8_type_11 : decode cX8_type 11 = .ok (.ireturn, 1) := qr_o172 hN_cX8_type hn_cX8_type rfl rfl
theorem dX8_type_12 : decode cX8_type 12 = .ok (.iload_n 3, 1) := qr_o29 hN_cX8_type hn_cX8_type rfl rfl
theorem dX8_type_13 : decode cX8_type 13 = .ok (.iconst 1, 1) := qr_o4 hN_cX8_type hn_cX8_type rfl rfl
theorem dX8_type_14 : decode cX8_type 14 = .ok (.isub, 1) := qr_o100 hN_cX8_type hn_cX8_type rfl rfl
theorem dX8_type_15 : decode cX8_type 15 = .ok (.istore 4, 2) := qr_o54 4 hN_cX8_type hn_cX8_type rfl rfl rfl
theorem dX8_type_17 : decode cX8_type 17 = .ok (.iload 4, 2) := qr_o21 4 hN_cX8_type hn_cX8_type rfl rfl rfl
theorem dX8_type_19 : decode cX8_type 19 = .ok (.ifCond .lt 27, 3) := qr_o155 0 27 rfl hN_cX8_type hn_cX8_type rfl rfl rfl rfl
theorem dX8_type_22 : decode cX8_type 22 = .ok (.lload_n 1, 1) := qr_o31 hN_cX8_type hn_cX8_type rfl rfl
theorem dX8_type_23 : decode cX8_type 23 = .ok (.iload 4, 2) := qr_o21 4 hN_cX8_type hn_cX8_type rfl rfl rfl
theorem dX8_type_25 : decode cX8_type 25 = .ok (.invokestatic 43, 3) := qr_o184 0 43 hN_cX8_type hn_cX8_type rfl rfl rfl rfl
theorem dX8_type_28 : decode cX8_type 28 = .ok (.bipush 32, 2) := qr_o16 32 rfl hN_cX8_type hn_cX8_type rfl rfl rfl
theorem dX8_type_30 : decode cX8_type 30 = .ok (.bipush 126, 2) := qr_o16 126 rfl hN_cX8_type hn_cX8_type rfl rfl rfl
theorem dX8_type_32 : decode cX8_type 32 = .ok (.invokestatic 39, 3) := qr_o184 0 39 hN_cX8_type hn_cX8_type rfl rfl rfl rfl
theorem dX8_type_35 : decode cX8_type 35 = .ok (.ifCond .ne 5, 3) := qr_o154 0 5 rfl hN_cX8_type hn_cX8_type rfl rfl rfl rfl
theorem dX8_type_38 : decode cX8_type 38 = .ok (.iconst (-1), 1) := qr_o2 hN_cX8_type hn_cX8_type rfl rfl
theorem dX8_type_39 : decode cX8_type 39 = .ok (.ireturn, 1) := qr_o172 hN_cX8_type hn_cX8_type rfl rfl
theorem dX8_type_40 : decode cX8_type 40 = .ok (.iinc 4 (-1), 3) := qr_w132 4 255 1 rfl rfl hN_cX8_type hn_cX8_type rfl rfl rfl rfl
theorem dX8_type_43 : decode cX8_type 43 = .ok (.goto (-26), 3) := qr_w167 255 230 26 rfl rfl hN_cX8_type hn_cX8_type rfl rfl rfl rfl
theorem dX8_type_46 : decode cX8_type 46 = .ok (.aload_n 0, 1) := qr_o42 hN_cX8_type hn_cX8_type rfl rfl
theorem dX8_type_47 : decode cX8_type 47 = .ok (.getfield 10, 3) := qr_o180 0 10 hN_cX8_type hn_cX8_type rfl rfl rfl rfl
theorem dX8_type_50 : decode cX8_type 50 = .ok (.iload_n 3, 1) := qr_o29 hN_cX8_type hn_cX8_type rfl rfl
theorem dX8_type_51 : decode cX8_type 51 = .ok (.invokevirtual 47, 3) := qr_o182 0 47 hN_cX8_type hn_cX8_type rfl rfl rfl rfl
theorem dX8_type_54 : decode cX8_type 54 = .ok (.ifCond .ne 6, 3) := qr_o154 0 6 rfl hN_cX8_type hn_cX8_type rfl rfl rfl rfl
theorem dX8_type_57 : decode cX8_type 57 = .ok (.bipush (-3), 2) := qr_w16 253 3 rfl rfl hN_cX8_type hn_cX8_type rfl rfl rfl
theorem dX8_type_59 : decode cX8_type 59 = .ok (.ireturn, 1) := qr_o172 hN_cX8_type hn_cX8_type rfl rfl
theorem dX8_type_60 : decode cX8_type 60 = .ok (.iload_n 3, 1) := qr_o29 hN_cX8_type hn_cX8_type rfl rfl
theorem dX8_type_61 : decode cX8_type 61 = .ok (.iconst 1, 1) := qr_o4 hN_cX8_type hn_cX8_type rfl rfl
theorem dX8_type_62 : decode cX8_type 62 = .ok (.isub, 1) := qr_o100 hN_cX8_type hn_cX8_type rfl rfl
theorem dX8_type_63 : decode cX8_type 63 = .ok (.istore 4, 2) := qr_o54 4 hN_cX8_type hn_cX8_type rfl rfl rfl
theorem dX8_type_65 : decode cX8_type 65 = .ok (.iload 4, 2) := qr_o21 4 hN_cX8_type hn_cX8_type rfl rfl rfl
theorem dX8_type_67 : decode cX8_type 67 = .ok (.ifCond .lt 22, 3) := qr_o155 0 22 rfl hN_cX8_type hn_cX8_type rfl rfl rfl rfl
theorem dX8_type_70 : decode cX8_type 70 = .ok (.aload_n 0, 1) := qr_o42 hN_cX8_type hn_cX8_type rfl rfl
theorem dX8_type_71 : decode cX8_type 71 = .ok (.getfield 10, 3) := qr_o180 0 10 hN_cX8_type hn_cX8_type rfl rfl rfl rfl
theorem dX8_type_74 : decode cX8_type 74 = .ok (.lload_n 1, 1) := qr_o31 hN_cX8_type hn_cX8_type rfl rfl
theorem dX8_type_75 : decode cX8_type 75 = .ok (.iload 4, 2) := qr_o21 4 hN_cX8_type hn_cX8_type rfl rfl rfl
theorem dX8_type_77 : decode cX8_type 77 = .ok (.invokestatic 43, 3) := qr_o184 0 43 hN_cX8_type hn_cX8_type rfl rfl rfl rfl
theorem dX8_type_80 : decode cX8_type 80 = .ok (.invokevirtual 51, 3) := qr_o182 0 51 hN_cX8_type hn_cX8_type rfl rfl rfl rfl
theorem dX8_type_83 : decode cX8_type 83 = .ok (.iinc 4 (-1), 3) := qr_w132 4 255 1 rfl rfl hN_cX8_type hn_cX8_type rfl rfl rfl rfl
theorem dX8_type_86 : decode cX8_type 86 = .ok (.goto (-21), 3) := qr_w167 255 235 21 rfl rfl hN_cX8_type hn_cX8_type rfl rfl rfl rfl
theorem dX8_type_89 : decode cX8_type 89 = .ok (.aload_n 0, 1) := qr_o42 hN_cX8_type hn_cX8_type rfl rfl
theorem dX8_type_90 : decode cX8_type 90 = .ok (.getfield 10, 3) := qr_o180 0 10 hN_cX8_type hn_cX8_type rfl rfl rfl rfl
theorem dX8_type_93 : decode cX8_type 93 = .ok (.getfield 55, 3) := qr_o180 0 55 hN_cX8_type hn_cX8_type rfl rfl rfl rfl
theorem dX8_type_96 : decode cX8_type 96 = .ok (.ireturn, 1) := qr_o172 hN_cX8_type hn_cX8_type rfl rfl
def nN_cX8_terms : Nat := 0xac1b4500b60a00b42a3c3f00b60a00b42a3b00b41300b42a
theorem hN_cX8_terms : qr_n cX8_terms.data.toList = nN_cX8_terms := by decide +kernel
theorem hn_cX8_terms : cX8_terms.size = 24 := by decide +kernel
theorem dX8_terms_0 : decode cX8_terms 0 = .ok (.aload_n 0, 1) := qr_o42 hN_cX8_terms hn_cX8_terms rfl rfl
theorem dX8_terms_1 : decode cX8_terms 1 = .ok (.getfield 19, 3) := qr_o180 0 19 hN_cX8_terms hn_cX8_terms rfl rfl rfl rfl
theorem dX8_terms_4 : decode cX8_terms 4 = .ok (.getfield 59, 3) := qr_o180 0 59 hN_cX8_terms hn_cX8_terms rfl rfl rfl rfl
theorem dX8_terms_7 : decode cX8_terms 7 = .ok (.aload_n 0, 1) := qr_o42 hN_cX8_terms hn_cX8_terms rfl rfl
theorem dX8_terms_8 : decode cX8_terms 8 = .ok (.getfield 10, 3) := qr_o180 0 10 hN_cX8_terms hn_cX8_terms rfl rfl rfl rfl
theorem dX8_terms_11 : decode cX8_terms 11 = .ok (.invokevirtual 63, 3) := qr_o182 0 63 hN_cX8_terms hn_cX8_terms rfl rfl rfl rfl
theorem dX8_terms_14 : decode cX8_terms 14 = .ok (.istore_n 1, 1) := qr_o60 hN_cX8_terms hn_cX8_terms rfl rfl
theorem dX8_terms_15 : decode cX8_terms 15 = .ok (.aload_n 0, 1) := qr_o42 hN_cX8_terms hn_cX8_terms rfl rfl
theorem dX8_terms_16 : decode cX8_terms 16 = .ok (.getfield 10, 3) := qr_o180 0 10 hN_cX8_terms hn_cX8_terms rfl rfl rfl rfl
theorem dX8_terms_19 : decode cX8_terms 19 = .ok (.invokevirtual 69, 3) := qr_o182 0 69 hN_cX8_terms hn_cX8_terms rfl rfl rfl rfl
theorem dX8_terms_22 : decode cX8_terms 22 = .ok (.iload_n 1, 1) := qr_o27 hN_cX8_terms hn_cX8_terms rfl rfl
theorem dX8_terms_23 : decode cX8_terms 23 = .ok (.ireturn, 1) := qr_o172 hN_cX8_terms hn_cX8_terms rfl rfl
def nN_cX8_term : Nat := 0xac4c00b61c3b00b41300b42a0e00a70207009c1c3d4800b81b
theorem hN_cX8_term : qr_n cX8_term.data.toList = nN_cX8_term := by decide +kernel
theorem hn_cX8_term : cX8_term.size = 25 := by decide +kernel
theorem dX8_term_0 : decode cX8_term 0 = .ok (.iload_n 1, 1) := qr_o27 hN_cX8_term hn_cX8_term rfl rfl
theorem dX8_term_1 : decode cX8_term 1 = .ok (.invokestatic 72, 3) := qr_o184 0 72 hN_cX8_term hn_cX8_term rfl rfl rfl rfl
theorem dX8_term_4 : decode cX8_term 4 = .ok (.istore_n 2, 1) := qr_o61 hN_cX8_term hn_cX8_term rfl rfl
theorem dX8_term_5 : decode cX8_term 5 = .ok (.iload_n 2, 1) := qr_o28 hN_cX8_term hn_cX8_term rfl rfl
theorem dX8_term_6 : decode cX8_term 6 = .ok (.ifCond .ge 7, 3) := qr_o156 0 7 rfl hN_cX8_term hn_cX8_term rfl rfl rfl rfl
theorem dX8_term_9 : decode cX8_term 9 = .ok (.iconst (-1), 1) := qr_o2 hN_cX8_term hn_cX8_term rfl rfl
theorem dX8_term_10 : decode cX8_term 10 = .ok (.goto 14, 3) := qr_o167 0 14 rfl hN_cX8_term hn_cX8_term rfl rfl rfl rfl
theorem dX8_term_13 : decode cX8_term 13 = .ok (.aload_n 0, 1) := qr_o42 hN_cX8_term hn_cX8_term rfl rfl
theorem dX8_term_14 : decode cX8_term 14 = .ok (.getfield 19, 3) := qr_o180 0 19 hN_cX8_term hn_cX8_term rfl rfl rfl rfl
theorem dX8_term_17 : decode cX8_term 17 = .ok (.getfield 59, 3) := qr_o180 0 59 hN_cX8_term hn_cX8_term rfl rfl rfl rfl
theorem dX8_term_20 : decode cX8_term 20 = .ok (.iload_n 2, 1) := qr_o28 hN_cX8_term hn_cX8_term rfl rfl
theorem dX8_term_21 : decode cX8_term 21 = .ok (.invokevirtual 76, 3) := qr_o182 0 76 hN_cX8_term hn_cX8_term rfl rfl rfl rfl
theorem dX8_term_24 : decode cX8_term 24 = .ok (.ireturn, 1) := qr_o172 hN_cX8_term hn_cX8_term rfl rfl
def nN_cX8_post : Nat := 0xac04155600b61d1c1b1300b42a04365200b61c1b1300b42aac0205009a2700b80910031d0d009f1c1b1200994f00b81c1900994f00b81b
theorem hN_cX8_post : qr_n cX8_post.data.toList = nN_cX8_post := by decide +kernel
theorem hn_cX8_post : cX8_post.size = 55 := by decide +kernel
theorem dX8_post_0 : decode cX8_post 0 = .ok (.iload_n 1, 1) := qr_o27 hN_cX8_post hn_cX8_post rfl rfl
theorem dX8_post_1 : decode cX8_post 1 = .ok (.invokestatic 79, 3) := qr_o184 0 79 hN_cX8_post hn_cX8_post rfl rfl rfl rfl
theorem dX8_post_4 : decode cX8_post 4 = .ok (.ifCond .eq 25, 3) := qr_o153 0 25 rfl hN_cX8_post hn_cX8_post rfl rfl rfl rfl
theorem dX8_post_7 : decode cX8_post 7 = .ok (.iload_n 2, 1) := qr_o28 hN_cX8_post hn_cX8_post rfl rfl
theorem dX8_post_8 : decode cX8_post 8 = .ok (.invokestatic 79, 3) := qr_o184 0 79 hN_cX8_post hn_cX8_post rfl rfl rfl rfl
theorem dX8_post_11 : decode cX8_post 11 = .ok (.ifCond .eq 18, 3) := qr_o153 0 18 rfl hN_cX8_post hn_cX8_post rfl rfl rfl rfl
theorem dX8_post_14 : decode cX8_post 14 = .ok (.iload_n 1, 1) := qr_o27 hN_cX8_post hn_cX8_post rfl rfl
theorem dX8_post_15 : decode cX8_post 15 = .ok (.iload_n 2, 1) := qr_o28 hN_cX8_post hn_cX8_post rfl rfl
theorem dX8_post_16 : decode cX8_post 16 = .ok (.if_icmp .eq 13, 3) := qr_o159 0 13 rfl hN_cX8_post hn_cX8_post rfl rfl rfl rfl
theorem dX8_post_19 : decode cX8_post 19 = .ok (.iload_n 3, 1) := qr_o29 hN_cX8_post hn_cX8_post rfl rfl
theorem dX8_post_20 : decode cX8_post 20 = .ok (.iconst 0, 1) := qr_o3 hN_cX8_post hn_cX8_post rfl rfl
theorem dX8_post_21 : decode cX8_post 21 = .ok (.bipush 9, 2) := qr_o16 9 rfl hN_cX8_post hn_cX8_post rfl rfl rfl
theorem dX8_post_23 : decode cX8_post 23 = .ok (.invokestatic 39, 3) := qr_o184 0 39 hN_cX8_post hn_cX8_post rfl rfl rfl rfl
theorem dX8_post_26 : decode cX8_post 26 = .ok (.ifCond .ne 5, 3) := qr_o154 0 5 rfl hN_cX8_post hn_cX8_post rfl rfl rfl rfl
theorem dX8_post_29 : decode cX8_post 29 = .ok (.iconst (-1), 1) := qr_o2 hN_cX8_post hn_cX8_post rfl rfl
theorem dX8_post_30 : decode cX8_post 30 = .ok (.ireturn, 1) := qr_o172 hN_cX8_post hn_cX8_post rfl rfl
theorem dX8_post_31 : decode cX8_post 31 = .ok (.aload_n 0, 1) := qr_o42 hN_cX8_post hn_cX8_post rfl rfl
theorem dX8_post_32 : decode cX8_post 32 = .ok (.getfield 19, 3) := qr_o180 0 19 hN_cX8_post hn_cX8_post rfl rfl rfl rfl
theorem dX8_post_35 : decode cX8_post 35 = .ok (.iload_n 1, 1) := qr_o27 hN_cX8_post hn_cX8_post rfl rfl
theorem dX8_post_36 : decode cX8_post 36 = .ok (.iload_n 2, 1) := qr_o28 hN_cX8_post hn_cX8_post rfl rfl
theorem dX8_post_37 : decode cX8_post 37 = .ok (.invokevirtual 82, 3) := qr_o182 0 82 hN_cX8_post hn_cX8_post rfl rfl rfl rfl
theorem dX8_post_40 : decode cX8_post 40 = .ok (.istore 4, 2) := qr_o54 4 hN_cX8_post hn_cX8_post rfl rfl rfl
theorem dX8_post_42 : decode cX8_post 42 = .ok (.aload_n 0, 1) := qr_o42 hN_cX8_post hn_cX8_post rfl rfl
theorem dX8_post_43 : decode cX8_post 43 = .ok (.getfield 19, 3) := qr_o180 0 19 hN_cX8_post hn_cX8_post rfl rfl rfl rfl
theorem dX8_post_46 : decode cX8_post 46 = .ok (.iload_n 1, 1) := qr_o27 hN_cX8_post hn_cX8_post rfl rfl
theorem dX8_post_47 : decode cX8_post 47 = .ok (.iload_n 2, 1) := qr_o28 hN_cX8_post hn_cX8_post rfl rfl
theorem dX8_post_48 : decode cX8_post 48 = .ok (.iload_n 3, 1) := qr_o29 hN_cX8_post hn_cX8_post rfl rfl
theorem dX8_post_49 : decode cX8_post 49 = .ok (.invokevirtual 86, 3) := qr_o182 0 86 hN_cX8_post hn_cX8_post rfl rfl rfl rfl
theorem dX8_post_52 : decode cX8_post 52 = .ok (.iload 4, 2) := qr_o21 4 hN_cX8_post hn_cX8_post rfl rfl rfl
theorem dX8_post_54 : decode cX8_post 54 = .ok (.ireturn, 1) := qr_o172 hN_cX8_post hn_cX8_post rfl rfl
def nN_cX8_gown : Nat := 0xac5c00b60615051504151d1c1b032a
theorem hN_cX8_gown : qr_n cX8_gown.data.toList = nN_cX8_gown := by decide +kernel
theorem hn_cX8_gown : cX8_gown.size = 15 := by decide +kernel
theorem dX8_gown_0 : decode cX8_gown 0 = .ok (.aload_n 0, 1) := qr_o42 hN_cX8_gown hn_cX8_gown rfl rfl
theorem dX8_gown_1 : decode cX8_gown 1 = .ok (.iconst 0, 1) := qr_o3 hN_cX8_gown hn_cX8_gown rfl rfl
theorem dX8_gown_2 : decode cX8_gown 2 = .ok (.iload_n 1, 1) := qr_o27 hN_cX8_gown hn_cX8_gown rfl rfl
theorem dX8_gown_3 : decode cX8_gown 3 = .ok (.iload_n 2, 1) := qr_o28 hN_cX8_gown hn_cX8_gown rfl rfl
theorem dX8_gown_4 : decode cX8_gown 4 = .ok (.iload_n 3, 1) := qr_o29 hN_cX8_gown hn_cX8_gown rfl rfl
theorem dX8_gown_5 : decode cX8_gown 5 = .ok (.iload 4, 2) := qr_o21 4 hN_cX8_gown hn_cX8_gown rfl rfl rfl
theorem dX8_gown_7 : decode cX8_gown 7 = .ok (.iload 5, 2) := qr_o21 5 hN_cX8_gown hn_cX8_gown rfl rfl rfl
theorem dX8_gown_9 : decode cX8_gown 9 = .ok (.iload 6, 2) := qr_o21 6 hN_cX8_gown hn_cX8_gown rfl rfl rfl
theorem dX8_gown_11 : decode cX8_gown 11 = .ok (.invokevirtual 92, 3) := qr_o182 0 92 hN_cX8_gown hn_cX8_gown rfl rfl rfl rfl
theorem dX8_gown_14 : decode cX8_gown 14 = .ok (.ireturn, 1) := qr_o172 hN_cX8_gown hn_cX8_gown rfl rfl
def nN_cX8_longGown : Nat := 0xac5c00b60615051504151d1c1b042a
theorem hN_cX8_longGown : qr_n cX8_longGown.data.toList = nN_cX8_longGown := by decide +kernel
theorem hn_cX8_longGown : cX8_longGown.size = 15 := by decide +kernel
theorem dX8_longGown_0 : decode cX8_longGown 0 = .ok (.aload_n 0, 1) := qr_o42 hN_cX8_longGown hn_cX8_longGown rfl rfl
theorem dX8_longGown_1 : decode cX8_longGown 1 = .ok (.iconst 1, 1) := qr_o4 hN_cX8_longGown hn_cX8_longGown rfl rfl
theorem dX8_longGown_2 : decode cX8_longGown 2 = .ok (.iload_n 1, 1) := qr_o27 hN_cX8_longGown hn_cX8_longGown rfl rfl
theorem dX8_longGown_3 : decode cX8_longGown 3 = .ok (.iload_n 2, 1) := qr_o28 hN_cX8_longGown hn_cX8_longGown rfl rfl
theorem dX8_longGown_4 : decode cX8_longGown 4 = .ok (.iload_n 3, 1) := qr_o29 hN_cX8_longGown hn_cX8_longGown rfl rfl
theorem dX8_longGown_5 : decode cX8_longGown 5 = .ok (.iload 4, 2) := qr_o21 4 hN_cX8_longGown hn_cX8_longGown rfl rfl rfl
theorem dX8_longGown_7 : decode cX8_longGown 7 = .ok (.iload 5, 2) := qr_o21 5 hN_cX8_longGown hn_cX8_longGown rfl rfl rfl
theorem dX8_longGown_9 : decode cX8_longGown 9 = .ok (.iload 6, 2) := qr_o21 6 hN_cX8_longGown hn_cX8_longGown rfl rfl rfl
theorem dX8_longGown_11 : decode cX8_longGown 11 = .ok (.invokevirtual 92, 3) := qr_o182 0 92 hN_cX8_longGown hn_cX8_longGown rfl rfl rfl rfl
theorem dX8_longGown_14 : decode cX8_longGown 14 = .ok (.ireturn, 1) := qr_o172 hN_cX8_longGown hn_cX8_longGown rfl rfl
def nN_cX8_suit : Nat := 0xac5c00b60615051504151d1c1b052a
theorem hN_cX8_suit : qr_n cX8_suit.data.toList = nN_cX8_suit := by decide +kernel
theorem hn_cX8_suit : cX8_suit.size = 15 := by decide +kernel
theorem dX8_suit_0 : decode cX8_suit 0 = .ok (.aload_n 0, 1) := qr_o42 hN_cX8_suit hn_cX8_suit rfl rfl
theorem dX8_suit_1 : decode cX8_suit 1 = .ok (.iconst 2, 1) := qr_o5 hN_cX8_suit hn_cX8_suit rfl rfl
theorem dX8_suit_2 : decode cX8_suit 2 = .ok (.iload_n 1, 1) := qr_o27 hN_cX8_suit hn_cX8_suit rfl rfl
theorem dX8_suit_3 : decode cX8_suit 3 = .ok (.iload_n 2, 1) := qr_o28 hN_cX8_suit hn_cX8_suit rfl rfl
theorem dX8_suit_4 : decode cX8_suit 4 = .ok (.iload_n 3, 1) := qr_o29 hN_cX8_suit hn_cX8_suit rfl rfl
theorem dX8_suit_5 : decode cX8_suit 5 = .ok (.iload 4, 2) := qr_o21 4 hN_cX8_suit hn_cX8_suit rfl rfl rfl
theorem dX8_suit_7 : decode cX8_suit 7 = .ok (.iload 5, 2) := qr_o21 5 hN_cX8_suit hn_cX8_suit rfl rfl rfl
theorem dX8_suit_9 : decode cX8_suit 9 = .ok (.iload 6, 2) := qr_o21 6 hN_cX8_suit hn_cX8_suit rfl rfl rfl
theorem dX8_suit_11 : decode cX8_suit 11 = .ok (.invokevirtual 92, 3) := qr_o182 0 92 hN_cX8_suit hn_cX8_suit rfl rfl rfl rfl
theorem dX8_suit_14 : decode cX8_suit 14 = .ok (.ireturn, 1) := qr_o172 hN_cX8_suit hn_cX8_suit rfl rfl
def nN_cX8_hem : Nat := 0xac046700b51c2dacfe100600996700b42dacf41006009f046400b42dac0205009a2700b806041c0c00c62d4e6000b61b1300b42a
theorem hN_cX8_hem : qr_n cX8_hem.data.toList = nN_cX8_hem := by decide +kernel
theorem hn_cX8_hem : cX8_hem.size = 52 := by decide +kernel
theorem dX8_hem_0 : decode cX8_hem 0 = .ok (.aload_n 0, 1) := qr_o42 hN_cX8_hem hn_cX8_hem rfl rfl
theorem dX8_hem_1 : decode cX8_hem 1 = .ok (.getfield 19, 3) := qr_o180 0 19 hN_cX8_hem hn_cX8_hem rfl rfl rfl rfl
theorem dX8_hem_4 : decode cX8_hem 4 = .ok (.iload_n 1, 1) := qr_o27 hN_cX8_hem hn_cX8_hem rfl rfl
theorem dX8_hem_5 : decode cX8_hem 5 = .ok (.invokevirtual 96, 3) := qr_o182 0 96 hN_cX8_hem hn_cX8_hem rfl rfl rfl rfl
theorem dX8_hem_8 : decode cX8_hem 8 = .ok (.astore_n 3, 1) := qr_o78 hN_cX8_hem hn_cX8_hem rfl rfl
theorem dX8_hem_9 : decode cX8_hem 9 = .ok (.aload_n 3, 1) := qr_o45 hN_cX8_hem hn_cX8_hem rfl rfl
theorem dX8_hem_10 : decode cX8_hem 10 = .ok (.ifnull 12, 3) := qr_o198 0 12 rfl hN_cX8_hem hn_cX8_hem rfl rfl rfl rfl
theorem dX8_hem_13 : decode cX8_hem 13 = .ok (.iload_n 2, 1) := qr_o28 hN_cX8_hem hn_cX8_hem rfl rfl
theorem dX8_hem_14 : decode cX8_hem 14 = .ok (.iconst 1, 1) := qr_o4 hN_cX8_hem hn_cX8_hem rfl rfl
theorem dX8_hem_15 : decode cX8_hem 15 = .ok (.iconst 3, 1) := qr_o6 hN_cX8_hem hn_cX8_hem rfl rfl
theorem dX8_hem_16 : decode cX8_hem 16 = .ok (.invokestatic 39, 3) := qr_o184 0 39 hN_cX8_hem hn_cX8_hem rfl rfl rfl rfl
theorem dX8_hem_19 : decode cX8_hem 19 = .ok (.ifCond .ne 5, 3) := qr_o154 0 5 rfl hN_cX8_hem hn_cX8_hem rfl rfl rfl rfl
theorem dX8_hem_22 : decode cX8_hem 22 = .ok (.iconst (-1), 1) := qr_o2 hN_cX8_hem hn_cX8_hem rfl rfl
theorem dX8_hem_23 : decode cX8_hem 23 = .ok (.ireturn, 1) := qr_o172 hN_cX8_hem hn_cX8_hem rfl rfl
theorem dX8_hem_24 : decode cX8_hem 24 = .ok (.aload_n 3, 1) := qr_o45 hN_cX8_hem hn_cX8_hem rfl rfl
theorem dX8_hem_25 : decode cX8_hem 25 = .ok (.getfield 100, 3) := qr_o180 0 100 hN_cX8_hem hn_cX8_hem rfl rfl rfl rfl
theorem dX8_hem_28 : decode cX8_hem 28 = .ok (.iconst 1, 1) := qr_o4 hN_cX8_hem hn_cX8_hem rfl rfl
theorem dX8_hem_29 : decode cX8_hem 29 = .ok (.if_icmp .eq 6, 3) := qr_o159 0 6 rfl hN_cX8_hem hn_cX8_hem rfl rfl rfl rfl
theorem dX8_hem_32 : decode cX8_hem 32 = .ok (.bipush (-12), 2) := qr_w16 244 12 rfl rfl hN_cX8_hem hn_cX8_hem rfl rfl rfl
theorem dX8_hem_34 : decode cX8_hem 34 = .ok (.ireturn, 1) := qr_o172 hN_cX8_hem hn_cX8_hem rfl rfl
theorem dX8_hem_35 : decode cX8_hem 35 = .ok (.aload_n 3, 1) := qr_o45 hN_cX8_hem hn_cX8_hem rfl rfl
theorem dX8_hem_36 : decode cX8_hem 36 = .ok (.getfield 103, 3) := qr_o180 0 103 hN_cX8_hem hn_cX8_hem rfl rfl rfl rfl
theorem dX8_hem_39 : decode cX8_hem 39 = .ok (.ifCond .eq 6, 3) := qr_o153 0 6 rfl hN_cX8_hem hn_cX8_hem rfl rfl rfl rfl
theorem dX8_hem_42 : decode cX8_hem 42 = .ok (.bipush (-2), 2) := qr_w16 254 2 rfl rfl hN_cX8_hem hn_cX8_hem rfl rfl rfl
theorem dX8_hem_44 : decode cX8_hem 44 = .ok (.ireturn, 1) := qr_o172 hN_cX8_hem hn_cX8_hem rfl rfl
theorem dX8_hem_45 : decode cX8_hem 45 = .ok (.aload_n 3, 1) := qr_o45 hN_cX8_hem hn_cX8_hem rfl rfl
theorem dX8_hem_46 : decode cX8_hem 46 = .ok (.iload_n 2, 1) := qr_o28 hN_cX8_hem hn_cX8_hem rfl rfl
theorem dX8_hem_47 : decode cX8_hem 47 = .ok (.putfield 103, 3) := qr_o181 0 103 hN_cX8_hem hn_cX8_hem rfl rfl rfl rfl
theorem dX8_hem_50 : decode cX8_hem 50 = .ok (.iconst 1, 1) := qr_o4 hN_cX8_hem hn_cX8_hem rfl rfl
theorem dX8_hem_51 : decode cX8_hem 51 = .ok (.ireturn, 1) := qr_o172 hN_cX8_hem hn_cX8_hem rfl rfl
def nN_cX8_told : Nat := 0xac6a00b61c2dac0205009a2700b80910031c0d00c62d4e6000b61b1300b42a
theorem hN_cX8_told : qr_n cX8_told.data.toList = nN_cX8_told := by decide +kernel
theorem hn_cX8_told : cX8_told.size = 31 := by decide +kernel
theorem dX8_told_0 : decode cX8_told 0 = .ok (.aload_n 0, 1) := qr_o42 hN_cX8_told hn_cX8_told rfl rfl
theorem dX8_told_1 : decode cX8_told 1 = .ok (.getfield 19, 3) := qr_o180 0 19 hN_cX8_told hn_cX8_told rfl rfl rfl rfl
theorem dX8_told_4 : decode cX8_told 4 = .ok (.iload_n 1, 1) := qr_o27 hN_cX8_told hn_cX8_told rfl rfl
theorem dX8_told_5 : decode cX8_told 5 = .ok (.invokevirtual 96, 3) := qr_o182 0 96 hN_cX8_told hn_cX8_told rfl rfl rfl rfl
theorem dX8_told_8 : decode cX8_told 8 = .ok (.astore_n 3, 1) := qr_o78 hN_cX8_told hn_cX8_told rfl rfl
theorem dX8_told_9 : decode cX8_told 9 = .ok (.aload_n 3, 1) := qr_o45 hN_cX8_told hn_cX8_told rfl rfl
theorem dX8_told_10 : decode cX8_told 10 = .ok (.ifnull 13, 3) := qr_o198 0 13 rfl hN_cX8_told hn_cX8_told rfl rfl rfl rfl
theorem dX8_told_13 : decode cX8_told 13 = .ok (.iload_n 2, 1) := qr_o28 hN_cX8_told hn_cX8_told rfl rfl
theorem dX8_told_14 : decode cX8_told 14 = .ok (.iconst 0, 1) := qr_o3 hN_cX8_told hn_cX8_told rfl rfl
theorem dX8_told_15 : decode cX8_told 15 = .ok (.bipush 9, 2) := qr_o16 9 rfl hN_cX8_told hn_cX8_told rfl rfl rfl
theorem dX8_told_17 : decode cX8_told 17 = .ok (.invokestatic 39, 3) := qr_o184 0 39 hN_cX8_told hn_cX8_told rfl rfl rfl rfl
theorem dX8_told_20 : decode cX8_told 20 = .ok (.ifCond .ne 5, 3) := qr_o154 0 5 rfl hN_cX8_told hn_cX8_told rfl rfl rfl rfl
theorem dX8_told_23 : decode cX8_told 23 = .ok (.iconst (-1), 1) := qr_o2 hN_cX8_told hn_cX8_told rfl rfl
theorem dX8_told_24 : decode cX8_told 24 = .ok (.ireturn, 1) := qr_o172 hN_cX8_told hn_cX8_told rfl rfl
theorem dX8_told_25 : decode cX8_told 25 = .ok (.aload_n 3, 1) := qr_o45 hN_cX8_told hn_cX8_told rfl rfl
theorem dX8_told_26 : decode cX8_told 26 = .ok (.iload_n 2, 1) := qr_o28 hN_cX8_told hn_cX8_told rfl rfl
theorem dX8_told_27 : decode cX8_told 27 = .ok (.invokevirtual 106, 3) := qr_o182 0 106 hN_cX8_told hn_cX8_told rfl rfl rfl rfl
theorem dX8_told_30 : decode cX8_told 30 = .ok (.ireturn, 1) := qr_o172 hN_cX8_told hn_cX8_told rfl rfl
def nN_cX8_same : Nat := 0xac64047700b47300b41300b42a7c00b604151d1c1b7300b41300b42aacfd100600a114107700b47300b41300b42aac0205009a7000b804150b00997000b81c12009f1d1b1700996d00b81d1e00996d00b81b
theorem hN_cX8_same : qr_n cX8_same.data.toList = nN_cX8_same := by decide +kernel
theorem hn_cX8_same : cX8_same.size = 82 := by decide +kernel
theorem dX8_same_0 : decode cX8_same 0 = .ok (.iload_n 1, 1) := qr_o27 hN_cX8_same hn_cX8_same rfl rfl
theorem dX8_same_1 : decode cX8_same 1 = .ok (.invokestatic 109, 3) := qr_o184 0 109 hN_cX8_same hn_cX8_same rfl rfl rfl rfl
theorem dX8_same_4 : decode cX8_same 4 = .ok (.ifCond .eq 30, 3) := qr_o153 0 30 rfl hN_cX8_same hn_cX8_same rfl rfl rfl rfl
theorem dX8_same_7 : decode cX8_same 7 = .ok (.iload_n 3, 1) := qr_o29 hN_cX8_same hn_cX8_same rfl rfl
theorem dX8_same_8 : decode cX8_same 8 = .ok (.invokestatic 109, 3) := qr_o184 0 109 hN_cX8_same hn_cX8_same rfl rfl rfl rfl
theorem dX8_same_11 : decode cX8_same 11 = .ok (.ifCond .eq 23, 3) := qr_o153 0 23 rfl hN_cX8_same hn_cX8_same rfl rfl rfl rfl
theorem dX8_same_14 : decode cX8_same 14 = .ok (.iload_n 1, 1) := qr_o27 hN_cX8_same hn_cX8_same rfl rfl
theorem dX8_same_15 : decode cX8_same 15 = .ok (.iload_n 3, 1) := qr_o29 hN_cX8_same hn_cX8_same rfl rfl
theorem dX8_same_16 : decode cX8_same 16 = .ok (.if_icmp .eq 18, 3) := qr_o159 0 18 rfl hN_cX8_same hn_cX8_same rfl rfl rfl rfl
theorem dX8_same_19 : decode cX8_same 19 = .ok (.iload_n 2, 1) := qr_o28 hN_cX8_same hn_cX8_same rfl rfl
theorem dX8_same_20 : decode cX8_same 20 = .ok (.invokestatic 112, 3) := qr_o184 0 112 hN_cX8_same hn_cX8_same rfl rfl rfl rfl
theorem dX8_same_23 : decode cX8_same 23 = .ok (.ifCond .eq 11, 3) := qr_o153 0 11 rfl hN_cX8_same hn_cX8_same rfl rfl rfl rfl
theorem dX8_same_26 : decode cX8_same 26 = .ok (.iload 4, 2) := qr_o21 4 hN_cX8_same hn_cX8_same rfl rfl rfl
theorem dX8_same_28 : decode cX8_same 28 = .ok (.invokestatic 112, 3) := qr_o184 0 112 hN_cX8_same hn_cX8_same rfl rfl rfl rfl
theorem dX8_same_31 : decode cX8_same 31 = .ok (.ifCond .ne 5, 3) := qr_o154 0 5 rfl hN_cX8_same hn_cX8_same rfl rfl rfl rfl
theorem dX8_same_34 : decode cX8_same 34 = .ok (.iconst (-1), 1) := qr_o2 hN_cX8_same hn_cX8_same rfl rfl
theorem dX8_same_35 : decode cX8_same 35 = .ok (.ireturn, 1) := qr_o172 hN_cX8_same hn_cX8_same rfl rfl
theorem dX8_same_36 : decode cX8_same 36 = .ok (.aload_n 0, 1) := qr_o42 hN_cX8_same hn_cX8_same rfl rfl
theorem dX8_same_37 : decode cX8_same 37 = .ok (.getfield 19, 3) := qr_o180 0 19 hN_cX8_same hn_cX8_same rfl rfl rfl rfl
theorem dX8_same_40 : decode cX8_same 40 = .ok (.getfield 115, 3) := qr_o180 0 115 hN_cX8_same hn_cX8_same rfl rfl rfl rfl
theorem dX8_same_43 : decode cX8_same 43 = .ok (.getfield 119, 3) := qr_o180 0 119 hN_cX8_same hn_cX8_same rfl rfl rfl rfl
theorem dX8_same_46 : decode cX8_same 46 = .ok (.bipush 20, 2) := qr_o16 20 rfl hN_cX8_same hn_cX8_same rfl rfl rfl
theorem dX8_same_48 : decode cX8_same 48 = .ok (.if_icmp .lt 6, 3) := qr_o161 0 6 rfl hN_cX8_same hn_cX8_same rfl rfl rfl rfl
theorem dX8_same_51 : decode cX8_same 51 = .ok (.bipush (-3), 2) := qr_w16 253 3 rfl rfl hN_cX8_same hn_cX8_same rfl rfl rfl
theorem dX8_same_53 : decode cX8_same 53 = .ok (.ireturn, 1) := qr_o172 hN_cX8_same hn_cX8_same rfl rfl
theorem dX8_same_54 : decode cX8_same 54 = .ok (.aload_n 0, 1) := qr_o42 hN_cX8_same hn_cX8_same rfl rfl
theorem dX8_same_55 : decode cX8_same 55 = .ok (.getfield 19, 3) := qr_o180 0 19 hN_cX8_same hn_cX8_same rfl rfl rfl rfl
theorem dX8_same_58 : decode cX8_same 58 = .ok (.getfield 115, 3) := qr_o180 0 115 hN_cX8_same hn_cX8_same rfl rfl rfl rfl
theorem dX8_same_61 : decode cX8_same 61 = .ok (.iload_n 1, 1) := qr_o27 hN_cX8_same hn_cX8_same rfl rfl
theorem dX8_same_62 : decode cX8_same 62 = .ok (.iload_n 2, 1) := qr_o28 hN_cX8_same hn_cX8_same rfl rfl
theorem dX8_same_63 : decode cX8_same 63 = .ok (.iload_n 3, 1) := qr_o29 hN_cX8_same hn_cX8_same rfl rfl
theorem dX8_same_64 : decode cX8_same 64 = .ok (.iload 4, 2) := qr_o21 4 hN_cX8_same hn_cX8_same rfl rfl rfl
theorem dX8_same_66 : decode cX8_same 66 = .ok (.invokevirtual 124, 3) := qr_o182 0 124 hN_cX8_same hn_cX8_same rfl rfl rfl rfl
theorem dX8_same_69 : decode cX8_same 69 = .ok (.aload_n 0, 1) := qr_o42 hN_cX8_same hn_cX8_same rfl rfl
theorem dX8_same_70 : decode cX8_same 70 = .ok (.getfield 19, 3) := qr_o180 0 19 hN_cX8_same hn_cX8_same rfl rfl rfl rfl
theorem dX8_same_73 : decode cX8_same 73 = .ok (.getfield 115, 3) := qr_o180 0 115 hN_cX8_same hn_cX8_same rfl rfl rfl rfl
theorem dX8_same_76 : decode cX8_same 76 = .ok (.getfield 119, 3) := qr_o180 0 119 hN_cX8_same hn_cX8_same rfl rfl rfl rfl
theorem dX8_same_79 : decode cX8_same 79 = .ok (.iconst 1, 1) := qr_o4 hN_cX8_same hn_cX8_same rfl rfl
theorem dX8_same_80 : decode cX8_same 80 = .ok (.isub, 1) := qr_o100 hN_cX8_same hn_cX8_same rfl rfl
theorem dX8_same_81 : decode cX8_same 81 = .ok (.ireturn, 1) := qr_o172 hN_cX8_same hn_cX8_same rfl rfl
def nN_cX8_lie : Nat := 0xac8300b61b7300b41300b42a0e00a78000b61b7300b41300b42a11009a1cac9b1006009a2700b804031c0c00996d00b81b
theorem hN_cX8_lie : qr_n cX8_lie.data.toList = nN_cX8_lie := by decide +kernel
theorem hn_cX8_lie : cX8_lie.size = 49 := by decide +kernel
theorem dX8_lie_0 : decode cX8_lie 0 = .ok (.iload_n 1, 1) := qr_o27 hN_cX8_lie hn_cX8_lie rfl rfl
theorem dX8_lie_1 : decode cX8_lie 1 = .ok (.invokestatic 109, 3) := qr_o184 0 109 hN_cX8_lie hn_cX8_lie rfl rfl rfl rfl
theorem dX8_lie_4 : decode cX8_lie 4 = .ok (.ifCond .eq 12, 3) := qr_o153 0 12 rfl hN_cX8_lie hn_cX8_lie rfl rfl rfl rfl
theorem dX8_lie_7 : decode cX8_lie 7 = .ok (.iload_n 2, 1) := qr_o28 hN_cX8_lie hn_cX8_lie rfl rfl
theorem dX8_lie_8 : decode cX8_lie 8 = .ok (.iconst 0, 1) := qr_o3 hN_cX8_lie hn_cX8_lie rfl rfl
theorem dX8_lie_9 : decode cX8_lie 9 = .ok (.iconst 1, 1) := qr_o4 hN_cX8_lie hn_cX8_lie rfl rfl
theorem dX8_lie_10 : decode cX8_lie 10 = .ok (.invokestatic 39, 3) := qr_o184 0 39 hN_cX8_lie hn_cX8_lie rfl rfl rfl rfl
theorem dX8_lie_13 : decode cX8_lie 13 = .ok (.ifCond .ne 6, 3) := qr_o154 0 6 rfl hN_cX8_lie hn_cX8_lie rfl rfl rfl rfl
theorem dX8_lie_16 : decode cX8_lie 16 = .ok (.bipush (-101), 2) := qr_w16 155 101 rfl rfl hN_cX8_lie hn_cX8_lie rfl rfl rfl
theorem dX8_lie_18 : decode cX8_lie 18 = .ok (.ireturn, 1) := qr_o172 hN_cX8_lie hn_cX8_lie rfl rfl
theorem dX8_lie_19 : decode cX8_lie 19 = .ok (.iload_n 2, 1) := qr_o28 hN_cX8_lie hn_cX8_lie rfl rfl
theorem dX8_lie_20 : decode cX8_lie 20 = .ok (.ifCond .ne 17, 3) := qr_o154 0 17 rfl hN_cX8_lie hn_cX8_lie rfl rfl rfl rfl
theorem dX8_lie_23 : decode cX8_lie 23 = .ok (.aload_n 0, 1) := qr_o42 hN_cX8_lie hn_cX8_lie rfl rfl
theorem dX8_lie_24 : decode cX8_lie 24 = .ok (.getfield 19, 3) := qr_o180 0 19 hN_cX8_lie hn_cX8_lie rfl rfl rfl rfl
theorem dX8_lie_27 : decode cX8_lie 27 = .ok (.getfield 115, 3) := qr_o180 0 115 hN_cX8_lie hn_cX8_lie rfl rfl rfl rfl
theorem dX8_lie_30 : decode cX8_lie 30 = .ok (.iload_n 1, 1) := qr_o27 hN_cX8_lie hn_cX8_lie rfl rfl
theorem dX8_lie_31 : decode cX8_lie 31 = .ok (.invokevirtual 128, 3) := qr_o182 0 128 hN_cX8_lie hn_cX8_lie rfl rfl rfl rfl
theorem dX8_lie_34 : decode cX8_lie 34 = .ok (.goto 14, 3) := qr_o167 0 14 rfl hN_cX8_lie hn_cX8_lie rfl rfl rfl rfl
theorem dX8_lie_37 : decode cX8_lie 37 = .ok (.aload_n 0, 1) := qr_o42 hN_cX8_lie hn_cX8_lie rfl rfl
theorem dX8_lie_38 : decode cX8_lie 38 = .ok (.getfield 19, 3) := qr_o180 0 19 hN_cX8_lie hn_cX8_lie rfl rfl rfl rfl
theorem dX8_lie_41 : decode cX8_lie 41 = .ok (.getfield 115, 3) := qr_o180 0 115 hN_cX8_lie hn_cX8_lie rfl rfl rfl rfl
theorem dX8_lie_44 : decode cX8_lie 44 = .ok (.iload_n 1, 1) := qr_o27 hN_cX8_lie hn_cX8_lie rfl rfl
theorem dX8_lie_45 : decode cX8_lie 45 = .ok (.invokevirtual 131, 3) := qr_o182 0 131 hN_cX8_lie hn_cX8_lie rfl rfl rfl rfl
theorem dX8_lie_48 : decode cX8_lie 48 = .ok (.ireturn, 1) := qr_o172 hN_cX8_lie hn_cX8_lie rfl rfl
def nN_cX8_quarrel : Nat := 0xac030400a7040700998600b47300b41300b42a
theorem hN_cX8_quarrel : qr_n cX8_quarrel.data.toList = nN_cX8_quarrel := by decide +kernel
theorem hn_cX8_quarrel : cX8_quarrel.size = 19 := by decide +kernel
theorem dX8_quarrel_0 : decode cX8_quarrel 0 = .ok (.aload_n 0, 1) := qr_o42 hN_cX8_quarrel hn_cX8_quarrel rfl rfl
theorem dX8_quarrel_1 : decode cX8_quarrel 1 = .ok (.getfield 19, 3) := qr_o180 0 19 hN_cX8_quarrel hn_cX8_quarrel rfl rfl rfl rfl
theorem dX8_quarrel_4 : decode cX8_quarrel 4 = .ok (.getfield 115, 3) := qr_o180 0 115 hN_cX8_quarrel hn_cX8_quarrel rfl rfl rfl rfl
theorem dX8_quarrel_7 : decode cX8_quarrel 7 = .ok (.getfield 134, 3) := qr_o180 0 134 hN_cX8_quarrel hn_cX8_quarrel rfl rfl rfl rfl
theorem dX8_quarrel_10 : decode cX8_quarrel 10 = .ok (.ifCond .eq 7, 3) := qr_o153 0 7 rfl hN_cX8_quarrel hn_cX8_quarrel rfl rfl rfl rfl
theorem dX8_quarrel_13 : decode cX8_quarrel 13 = .ok (.iconst 1, 1) := qr_o4 hN_cX8_quarrel hn_cX8_quarrel rfl rfl
theorem dX8_quarrel_14 : decode cX8_quarrel 14 = .ok (.goto 4, 3) := qr_o167 0 4 rfl hN_cX8_quarrel hn_cX8_quarrel rfl rfl rfl rfl
theorem dX8_quarrel_17 : decode cX8_quarrel 17 = .ok (.iconst 0, 1) := qr_o3 hN_cX8_quarrel hn_cX8_quarrel rfl rfl
theorem dX8_quarrel_18 : decode cX8_quarrel 18 = .ok (.ireturn, 1) := qr_o172 hN_cX8_quarrel hn_cX8_quarrel rfl rfl
def nN_cX8_fits : Nat := 0xac8a00b61d1c04191300b42aac0205009a2700b805031d0c00997000b81c1300c60419043a6000b61b1300b42a
theorem hN_cX8_fits : qr_n cX8_fits.data.toList = nN_cX8_fits := by decide +kernel
theorem hn_cX8_fits : cX8_fits.size = 45 := by decide +kernel
theorem dX8_fits_0 : decode cX8_fits 0 = .ok (.aload_n 0, 1) := qr_o42 hN_cX8_fits hn_cX8_fits rfl rfl
theorem dX8_fits_1 : decode cX8_fits 1 = .ok (.getfield 19, 3) := qr_o180 0 19 hN_cX8_fits hn_cX8_fits rfl rfl rfl rfl
theorem dX8_fits_4 : decode cX8_fits 4 = .ok (.iload_n 1, 1) := qr_o27 hN_cX8_fits hn_cX8_fits rfl rfl
theorem dX8_fits_5 : decode cX8_fits 5 = .ok (.invokevirtual 96, 3) := qr_o182 0 96 hN_cX8_fits hn_cX8_fits rfl rfl rfl rfl
theorem dX8_fits_8 : decode cX8_fits 8 = .ok (.astore 4, 2) := qr_o58 4 hN_cX8_fits hn_cX8_fits rfl rfl rfl
theorem dX8_fits_10 : decode cX8_fits 10 = .ok (.aload 4, 2) := qr_o25 4 hN_cX8_fits hn_cX8_fits rfl rfl rfl
theorem dX8_fits_12 : decode cX8_fits 12 = .ok (.ifnull 19, 3) := qr_o198 0 19 rfl hN_cX8_fits hn_cX8_fits rfl rfl rfl rfl
theorem dX8_fits_15 : decode cX8_fits 15 = .ok (.iload_n 2, 1) := qr_o28 hN_cX8_fits hn_cX8_fits rfl rfl
theorem dX8_fits_16 : decode cX8_fits 16 = .ok (.invokestatic 112, 3) := qr_o184 0 112 hN_cX8_fits hn_cX8_fits rfl rfl rfl rfl
theorem dX8_fits_19 : decode cX8_fits 19 = .ok (.ifCond .eq 12, 3) := qr_o153 0 12 rfl hN_cX8_fits hn_cX8_fits rfl rfl rfl rfl
theorem dX8_fits_22 : decode cX8_fits 22 = .ok (.iload_n 3, 1) := qr_o29 hN_cX8_fits hn_cX8_fits rfl rfl
theorem dX8_fits_23 : decode cX8_fits 23 = .ok (.iconst 0, 1) := qr_o3 hN_cX8_fits hn_cX8_fits rfl rfl
theorem dX8_fits_24 : decode cX8_fits 24 = .ok (.iconst 2, 1) := qr_o5 hN_cX8_fits hn_cX8_fits rfl rfl
theorem dX8_fits_25 : decode cX8_fits 25 = .ok (.invokestatic 39, 3) := qr_o184 0 39 hN_cX8_fits hn_cX8_fits rfl rfl rfl rfl
theorem dX8_fits_28 : decode cX8_fits 28 = .ok (.ifCond .ne 5, 3) := qr_o154 0 5 rfl hN_cX8_fits hn_cX8_fits rfl rfl rfl rfl
theorem dX8_fits_31 : decode cX8_fits 31 = .ok (.iconst (-1), 1) := qr_o2 hN_cX8_fits hn_cX8_fits rfl rfl
theorem dX8_fits_32 : decode cX8_fits 32 = .ok (.ireturn, 1) := qr_o172 hN_cX8_fits hn_cX8_fits rfl rfl
theorem dX8_fits_33 : decode cX8_fits 33 = .ok (.aload_n 0, 1) := qr_o42 hN_cX8_fits hn_cX8_fits rfl rfl
theorem dX8_fits_34 : decode cX8_fits 34 = .ok (.getfield 19, 3) := qr_o180 0 19 hN_cX8_fits hn_cX8_fits rfl rfl rfl rfl
theorem dX8_fits_37 : decode cX8_fits 37 = .ok (.aload 4, 2) := qr_o25 4 hN_cX8_fits hn_cX8_fits rfl rfl rfl
theorem dX8_fits_39 : decode cX8_fits 39 = .ok (.iload_n 2, 1) := qr_o28 hN_cX8_fits hn_cX8_fits rfl rfl
theorem dX8_fits_40 : decode cX8_fits 40 = .ok (.iload_n 3, 1) := qr_o29 hN_cX8_fits hn_cX8_fits rfl rfl
theorem dX8_fits_41 : decode cX8_fits 41 = .ok (.invokevirtual 138, 3) := qr_o182 0 138 hN_cX8_fits hn_cX8_fits rfl rfl rfl rfl
theorem dX8_fits_44 : decode cX8_fits 44 = .ok (.ireturn, 1) := qr_o172 hN_cX8_fits hn_cX8_fits rfl rfl
def nN_cX8_book : Nat := 0xac64049900b41300b42a9500b60615051504151d1c1b1300b42aacfd1006009a9200b6041300b42aac0205009a8e00b80615051504151d1c1b
theorem hN_cX8_book : qr_n cX8_book.data.toList = nN_cX8_book := by decide +kernel
theorem hn_cX8_book : cX8_book.size = 57 := by decide +kernel
theorem dX8_book_0 : decode cX8_book 0 = .ok (.iload_n 1, 1) := qr_o27 hN_cX8_book hn_cX8_book rfl rfl
theorem dX8_book_1 : decode cX8_book 1 = .ok (.iload_n 2, 1) := qr_o28 hN_cX8_book hn_cX8_book rfl rfl
theorem dX8_book_2 : decode cX8_book 2 = .ok (.iload_n 3, 1) := qr_o29 hN_cX8_book hn_cX8_book rfl rfl
theorem dX8_book_3 : decode cX8_book 3 = .ok (.iload 4, 2) := qr_o21 4 hN_cX8_book hn_cX8_book rfl rfl rfl
theorem dX8_book_5 : decode cX8_book 5 = .ok (.iload 5, 2) := qr_o21 5 hN_cX8_book hn_cX8_book rfl rfl rfl
theorem dX8_book_7 : decode cX8_book 7 = .ok (.iload 6, 2) := qr_o21 6 hN_cX8_book hn_cX8_book rfl rfl rfl
theorem dX8_book_9 : decode cX8_book 9 = .ok (.invokestatic 142, 3) := qr_o184 0 142 hN_cX8_book hn_cX8_book rfl rfl rfl rfl
theorem dX8_book_12 : decode cX8_book 12 = .ok (.ifCond .ne 5, 3) := qr_o154 0 5 rfl hN_cX8_book hn_cX8_book rfl rfl rfl rfl
theorem dX8_book_15 : decode cX8_book 15 = .ok (.iconst (-1), 1) := qr_o2 hN_cX8_book hn_cX8_book rfl rfl
theorem dX8_book_16 : decode cX8_book 16 = .ok (.ireturn, 1) := qr_o172 hN_cX8_book hn_cX8_book rfl rfl
theorem dX8_book_17 : decode cX8_book 17 = .ok (.aload_n 0, 1) := qr_o42 hN_cX8_book hn_cX8_book rfl rfl
theorem dX8_book_18 : decode cX8_book 18 = .ok (.getfield 19, 3) := qr_o180 0 19 hN_cX8_book hn_cX8_book rfl rfl rfl rfl
theorem dX8_book_21 : decode cX8_book 21 = .ok (.iconst 1, 1) := qr_o4 hN_cX8_book hn_cX8_book rfl rfl
theorem dX8_book_22 : decode cX8_book 22 = .ok (.invokevirtual 146, 3) := qr_o182 0 146 hN_cX8_book hn_cX8_book rfl rfl rfl rfl
theorem dX8_book_25 : decode cX8_book 25 = .ok (.ifCond .ne 6, 3) := qr_o154 0 6 rfl hN_cX8_book hn_cX8_book rfl rfl rfl rfl
theorem dX8_book_28 : decode cX8_book 28 = .ok (.bipush (-3), 2) := qr_w16 253 3 rfl rfl hN_cX8_book hn_cX8_book rfl rfl rfl
theorem dX8_book_30 : decode cX8_book 30 = .ok (.ireturn, 1) := qr_o172 hN_cX8_book hn_cX8_book rfl rfl
theorem dX8_book_31 : decode cX8_book 31 = .ok (.aload_n 0, 1) := qr_o42 hN_cX8_book hn_cX8_book rfl rfl
theorem dX8_book_32 : decode cX8_book 32 = .ok (.getfield 19, 3) := qr_o180 0 19 hN_cX8_book hn_cX8_book rfl rfl rfl rfl
theorem dX8_book_35 : decode cX8_book 35 = .ok (.iload_n 1, 1) := qr_o27 hN_cX8_book hn_cX8_book rfl rfl
theorem dX8_book_36 : decode cX8_book 36 = .ok (.iload_n 2, 1) := qr_o28 hN_cX8_book hn_cX8_book rfl rfl
theorem dX8_book_37 : decode cX8_book 37 = .ok (.iload_n 3, 1) := qr_o29 hN_cX8_book hn_cX8_book rfl rfl
theorem dX8_book_38 : decode cX8_book 38 = .ok (.iload 4, 2) := qr_o21 4 hN_cX8_book hn_cX8_book rfl rfl rfl
theorem dX8_book_40 : decode cX8_book 40 = .ok (.iload 5, 2) := qr_o21 5 hN_cX8_book hn_cX8_book rfl rfl rfl
theorem dX8_book_42 : decode cX8_book 42 = .ok (.iload 6, 2) := qr_o21 6 hN_cX8_book hn_cX8_book rfl rfl rfl
theorem dX8_book_44 : decode cX8_book 44 = .ok (.invokevirtual 149, 3) := qr_o182 0 149 hN_cX8_book hn_cX8_book rfl rfl rfl rfl
theorem dX8_book_47 : decode cX8_book 47 = .ok (.aload_n 0, 1) := qr_o42 hN_cX8_book hn_cX8_book rfl rfl
theorem dX8_book_48 : decode cX8_book 48 = .ok (.getfield 19, 3) := qr_o180 0 19 hN_cX8_book hn_cX8_book rfl rfl rfl rfl
theorem dX8_book_51 : decode cX8_book 51 = .ok (.getfield 153, 3) := qr_o180 0 153 hN_cX8_book hn_cX8_book rfl rfl rfl rfl
theorem dX8_book_54 : decode cX8_book 54 = .ok (.iconst 1, 1) := qr_o4 hN_cX8_book hn_cX8_book rfl rfl
theorem dX8_book_55 : decode cX8_book 55 = .ok (.isub, 1) := qr_o100 hN_cX8_book hn_cX8_book rfl rfl
theorem dX8_book_56 : decode cX8_book 56 = .ok (.ireturn, 1) := qr_o172 hN_cX8_book hn_cX8_book rfl rfl
def nN_cX8_off : Nat := 0xac04b200b5012daf00b51c2dacfe10060099ac00b62d0a009aa800b62dac020500a2a300b42d1c0b0099a000b81c1200c62d4e9c00b61b1300b42a
theorem hN_cX8_off : qr_n cX8_off.data.toList = nN_cX8_off := by decide +kernel
theorem hn_cX8_off : cX8_off.size = 59 := by decide +kernel
theorem dX8_off_0 : decode cX8_off 0 = .ok (.aload_n 0, 1) := qr_o42 hN_cX8_off hn_cX8_off rfl rfl
theorem dX8_off_1 : decode cX8_off 1 = .ok (.getfield 19, 3) := qr_o180 0 19 hN_cX8_off hn_cX8_off rfl rfl rfl rfl
theorem dX8_off_4 : decode cX8_off 4 = .ok (.iload_n 1, 1) := qr_o27 hN_cX8_off hn_cX8_off rfl rfl
theorem dX8_off_5 : decode cX8_off 5 = .ok (.invokevirtual 156, 3) := qr_o182 0 156 hN_cX8_off hn_cX8_off rfl rfl rfl rfl
theorem dX8_off_8 : decode cX8_off 8 = .ok (.astore_n 3, 1) := qr_o78 hN_cX8_off hn_cX8_off rfl rfl
theorem dX8_off_9 : decode cX8_off 9 = .ok (.aload_n 3, 1) := qr_o45 hN_cX8_off hn_cX8_off rfl rfl
theorem dX8_off_10 : decode cX8_off 10 = .ok (.ifnull 18, 3) := qr_o198 0 18 rfl hN_cX8_off hn_cX8_off rfl rfl rfl rfl
theorem dX8_off_13 : decode cX8_off 13 = .ok (.iload_n 2, 1) := qr_o28 hN_cX8_off hn_cX8_off rfl rfl
theorem dX8_off_14 : decode cX8_off 14 = .ok (.invokestatic 160, 3) := qr_o184 0 160 hN_cX8_off hn_cX8_off rfl rfl rfl rfl
theorem dX8_off_17 : decode cX8_off 17 = .ok (.ifCond .eq 11, 3) := qr_o153 0 11 rfl hN_cX8_off hn_cX8_off rfl rfl rfl rfl
theorem dX8_off_20 : decode cX8_off 20 = .ok (.iload_n 2, 1) := qr_o28 hN_cX8_off hn_cX8_off rfl rfl
theorem dX8_off_21 : decode cX8_off 21 = .ok (.aload_n 3, 1) := qr_o45 hN_cX8_off hn_cX8_off rfl rfl
theorem dX8_off_22 : decode cX8_off 22 = .ok (.getfield 163, 3) := qr_o180 0 163 hN_cX8_off hn_cX8_off rfl rfl rfl rfl
theorem dX8_off_25 : decode cX8_off 25 = .ok (.if_icmp .ge 5, 3) := qr_o162 0 5 rfl hN_cX8_off hn_cX8_off rfl rfl rfl rfl
theorem dX8_off_28 : decode cX8_off 28 = .ok (.iconst (-1), 1) := qr_o2 hN_cX8_off hn_cX8_off rfl rfl
theorem dX8_off_29 : decode cX8_off 29 = .ok (.ireturn, 1) := qr_o172 hN_cX8_off hn_cX8_off rfl rfl
theorem dX8_off_30 : decode cX8_off 30 = .ok (.aload_n 3, 1) := qr_o45 hN_cX8_off hn_cX8_off rfl rfl
theorem dX8_off_31 : decode cX8_off 31 = .ok (.invokevirtual 168, 3) := qr_o182 0 168 hN_cX8_off hn_cX8_off rfl rfl rfl rfl
theorem dX8_off_34 : decode cX8_off 34 = .ok (.ifCond .ne 10, 3) := qr_o154 0 10 rfl hN_cX8_off hn_cX8_off rfl rfl rfl rfl
theorem dX8_off_37 : decode cX8_off 37 = .ok (.aload_n 3, 1) := qr_o45 hN_cX8_off hn_cX8_off rfl rfl
theorem dX8_off_38 : decode cX8_off 38 = .ok (.invokevirtual 172, 3) := qr_o182 0 172 hN_cX8_off hn_cX8_off rfl rfl rfl rfl
theorem dX8_off_41 : decode cX8_off 41 = .ok (.ifCond .eq 6, 3) := qr_o153 0 6 rfl hN_cX8_off hn_cX8_off rfl rfl rfl rfl
theorem dX8_off_44 : decode cX8_off 44 = .ok (.bipush (-2), 2) := qr_w16 254 2 rfl rfl hN_cX8_off hn_cX8_off rfl rfl rfl
theorem dX8_off_46 : decode cX8_off 46 = .ok (.ireturn, 1) := qr_o172 hN_cX8_off hn_cX8_off rfl rfl
theorem dX8_off_47 : decode cX8_off 47 = .ok (.aload_n 3, 1) := qr_o45 hN_cX8_off hn_cX8_off rfl rfl
theorem dX8_off_48 : decode cX8_off 48 = .ok (.iload_n 2, 1) := qr_o28 hN_cX8_off hn_cX8_off rfl rfl
theorem dX8_off_49 : decode cX8_off 49 = .ok (.putfield 175, 3) := qr_o181 0 175 hN_cX8_off hn_cX8_off rfl rfl rfl rfl
theorem dX8_off_52 : decode cX8_off 52 = .ok (.aload_n 3, 1) := qr_o45 hN_cX8_off hn_cX8_off rfl rfl
theorem dX8_off_53 : decode cX8_off 53 = .ok (.aconst_null, 1) := qr_o1 hN_cX8_off hn_cX8_off rfl rfl
theorem dX8_off_54 : decode cX8_off 54 = .ok (.putfield 178, 3) := qr_o181 0 178 hN_cX8_off hn_cX8_off rfl rfl rfl rfl
theorem dX8_off_57 : decode cX8_off 57 = .ok (.iconst 1, 1) := qr_o4 hN_cX8_off hn_cX8_off rfl rfl
theorem dX8_off_58 : decode cX8_off 58 = .ok (.ireturn, 1) := qr_o172 hN_cX8_off hn_cX8_off rfl rfl
def nN_cX8_give : Nat := 0xacbd00b62cb200b5b900b6022c1300b42a2cacfe1006009ab600b62cac020500c72c4d9c00b61b1300b42a
theorem hN_cX8_give : qr_n cX8_give.data.toList = nN_cX8_give := by decide +kernel
theorem hn_cX8_give : cX8_give.size = 43 := by decide +kernel
theorem dX8_give_0 : decode cX8_give 0 = .ok (.aload_n 0, 1) := qr_o42 hN_cX8_give hn_cX8_give rfl rfl
theorem dX8_give_1 : decode cX8_give 1 = .ok (.getfield 19, 3) := qr_o180 0 19 hN_cX8_give hn_cX8_give rfl rfl rfl rfl
theorem dX8_give_4 : decode cX8_give 4 = .ok (.iload_n 1, 1) := qr_o27 hN_cX8_give hn_cX8_give rfl rfl
theorem dX8_give_5 : decode cX8_give 5 = .ok (.invokevirtual 156, 3) := qr_o182 0 156 hN_cX8_give hn_cX8_give rfl rfl rfl rfl
theorem dX8_give_8 : decode cX8_give 8 = .ok (.astore_n 2, 1) := qr_o77 hN_cX8_give hn_cX8_give rfl rfl
theorem dX8_give_9 : decode cX8_give 9 = .ok (.aload_n 2, 1) := qr_o44 hN_cX8_give hn_cX8_give rfl rfl
theorem dX8_give_10 : decode cX8_give 10 = .ok (.ifnonnull 5, 3) := qr_o199 0 5 rfl hN_cX8_give hn_cX8_give rfl rfl rfl rfl
theorem dX8_give_13 : decode cX8_give 13 = .ok (.iconst (-1), 1) := qr_o2 hN_cX8_give hn_cX8_give rfl rfl
theorem dX8_give_14 : decode cX8_give 14 = .ok (.ireturn, 1) := qr_o172 hN_cX8_give hn_cX8_give rfl rfl
theorem dX8_give_15 : decode cX8_give 15 = .ok (.aload_n 2, 1) := qr_o44 hN_cX8_give hn_cX8_give rfl rfl
theorem dX8_give_16 : decode cX8_give 16 = .ok (.invokevirtual 182, 3) := qr_o182 0 182 hN_cX8_give hn_cX8_give rfl rfl rfl rfl
theorem dX8_give_19 : decode cX8_give 19 = .ok (.ifCond .ne 6, 3) := qr_o154 0 6 rfl hN_cX8_give hn_cX8_give rfl rfl rfl rfl
theorem dX8_give_22 : decode cX8_give 22 = .ok (.bipush (-2), 2) := qr_w16 254 2 rfl rfl hN_cX8_give hn_cX8_give rfl rfl rfl
theorem dX8_give_24 : decode cX8_give 24 = .ok (.ireturn, 1) := qr_o172 hN_cX8_give hn_cX8_give rfl rfl
theorem dX8_give_25 : decode cX8_give 25 = .ok (.aload_n 2, 1) := qr_o44 hN_cX8_give hn_cX8_give rfl rfl
theorem dX8_give_26 : decode cX8_give 26 = .ok (.aload_n 0, 1) := qr_o42 hN_cX8_give hn_cX8_give rfl rfl
theorem dX8_give_27 : decode cX8_give 27 = .ok (.getfield 19, 3) := qr_o180 0 19 hN_cX8_give hn_cX8_give rfl rfl rfl rfl
theorem dX8_give_30 : decode cX8_give 30 = .ok (.aload_n 2, 1) := qr_o44 hN_cX8_give hn_cX8_give rfl rfl
theorem dX8_give_31 : decode cX8_give 31 = .ok (.iconst (-1), 1) := qr_o2 hN_cX8_give hn_cX8_give rfl rfl
theorem dX8_give_32 : decode cX8_give 32 = .ok (.invokevirtual 185, 3) := qr_o182 0 185 hN_cX8_give hn_cX8_give rfl rfl rfl rfl
theorem dX8_give_35 : decode cX8_give 35 = .ok (.putfield 178, 3) := qr_o181 0 178 hN_cX8_give hn_cX8_give rfl rfl rfl rfl
theorem dX8_give_38 : decode cX8_give 38 = .ok (.aload_n 2, 1) := qr_o44 hN_cX8_give hn_cX8_give rfl rfl
theorem dX8_give_39 : decode cX8_give 39 = .ok (.invokevirtual 189, 3) := qr_o182 0 189 hN_cX8_give hn_cX8_give rfl rfl rfl rfl
theorem dX8_give_42 : decode cX8_give 42 = .ok (.ireturn, 1) := qr_o172 hN_cX8_give hn_cX8_give rfl rfl
def nN_cX8_has : Nat := 0xacbd00b62c0700a7020700c72c4d9c00b61b1300b42a
theorem hN_cX8_has : qr_n cX8_has.data.toList = nN_cX8_has := by decide +kernel
theorem hn_cX8_has : cX8_has.size = 22 := by decide +kernel
theorem dX8_has_0 : decode cX8_has 0 = .ok (.aload_n 0, 1) := qr_o42 hN_cX8_has hn_cX8_has rfl rfl
theorem dX8_has_1 : decode cX8_has 1 = .ok (.getfield 19, 3) := qr_o180 0 19 hN_cX8_has hn_cX8_has rfl rfl rfl rfl
theorem dX8_has_4 : decode cX8_has 4 = .ok (.iload_n 1, 1) := qr_o27 hN_cX8_has hn_cX8_has rfl rfl
theorem dX8_has_5 : decode cX8_has 5 = .ok (.invokevirtual 156, 3) := qr_o182 0 156 hN_cX8_has hn_cX8_has rfl rfl rfl rfl
theorem dX8_has_8 : decode cX8_has 8 = .ok (.astore_n 2, 1) := qr_o77 hN_cX8_has hn_cX8_has rfl rfl
theorem dX8_has_9 : decode cX8_has 9 = .ok (.aload_n 2, 1) := qr_o44 hN_cX8_has hn_cX8_has rfl rfl
theorem dX8_has_10 : decode cX8_has 10 = .ok (.ifnonnull 7, 3) := qr_o199 0 7 rfl hN_cX8_has hn_cX8_has rfl rfl rfl rfl
theorem dX8_has_13 : decode cX8_has 13 = .ok (.iconst (-1), 1) := qr_o2 hN_cX8_has hn_cX8_has rfl rfl
theorem dX8_has_14 : decode cX8_has 14 = .ok (.goto 7, 3) := qr_o167 0 7 rfl hN_cX8_has hn_cX8_has rfl rfl rfl rfl
theorem dX8_has_17 : decode cX8_has 17 = .ok (.aload_n 2, 1) := qr_o44 hN_cX8_has hn_cX8_has rfl rfl
theorem dX8_has_18 : decode cX8_has 18 = .ok (.invokevirtual 189, 3) := qr_o182 0 189 hN_cX8_has hn_cX8_has rfl rfl rfl rfl
theorem dX8_has_21 : decode cX8_has 21 = .ok (.ireturn, 1) := qr_o172 hN_cX8_has hn_cX8_has rfl rfl
def nN_cX8_free : Nat := 0xac030400a704070099c100b604192d1300b42aac020500c704190800c62d043a9c00b61c1300b42a4e6000b61b1300b42a
theorem hN_cX8_free : qr_n cX8_free.data.toList = nN_cX8_free := by decide +kernel
theorem hn_cX8_free : cX8_free.size = 49 := by decide +kernel
theorem dX8_free_0 : decode cX8_free 0 = .ok (.aload_n 0, 1) := qr_o42 hN_cX8_free hn_cX8_free rfl rfl
theorem dX8_free_1 : decode cX8_free 1 = .ok (.getfield 19, 3) := qr_o180 0 19 hN_cX8_free hn_cX8_free rfl rfl rfl rfl
theorem dX8_free_4 : decode cX8_free 4 = .ok (.iload_n 1, 1) := qr_o27 hN_cX8_free hn_cX8_free rfl rfl
theorem dX8_free_5 : decode cX8_free 5 = .ok (.invokevirtual 96, 3) := qr_o182 0 96 hN_cX8_free hn_cX8_free rfl rfl rfl rfl
theorem dX8_free_8 : decode cX8_free 8 = .ok (.astore_n 3, 1) := qr_o78 hN_cX8_free hn_cX8_free rfl rfl
theorem dX8_free_9 : decode cX8_free 9 = .ok (.aload_n 0, 1) := qr_o42 hN_cX8_free hn_cX8_free rfl rfl
theorem dX8_free_10 : decode cX8_free 10 = .ok (.getfield 19, 3) := qr_o180 0 19 hN_cX8_free hn_cX8_free rfl rfl rfl rfl
theorem dX8_free_13 : decode cX8_free 13 = .ok (.iload_n 2, 1) := qr_o28 hN_cX8_free hn_cX8_free rfl rfl
theorem dX8_free_14 : decode cX8_free 14 = .ok (.invokevirtual 156, 3) := qr_o182 0 156 hN_cX8_free hn_cX8_free rfl rfl rfl rfl
theorem dX8_free_17 : decode cX8_free 17 = .ok (.astore 4, 2) := qr_o58 4 hN_cX8_free hn_cX8_free rfl rfl rfl
theorem dX8_free_19 : decode cX8_free 19 = .ok (.aload_n 3, 1) := qr_o45 hN_cX8_free hn_cX8_free rfl rfl
theorem dX8_free_20 : decode cX8_free 20 = .ok (.ifnull 8, 3) := qr_o198 0 8 rfl hN_cX8_free hn_cX8_free rfl rfl rfl rfl
theorem dX8_free_23 : decode cX8_free 23 = .ok (.aload 4, 2) := qr_o25 4 hN_cX8_free hn_cX8_free rfl rfl rfl
theorem dX8_free_25 : decode cX8_free 25 = .ok (.ifnonnull 5, 3) := qr_o199 0 5 rfl hN_cX8_free hn_cX8_free rfl rfl rfl rfl
theorem dX8_free_28 : decode cX8_free 28 = .ok (.iconst (-1), 1) := qr_o2 hN_cX8_free hn_cX8_free rfl rfl
theorem dX8_free_29 : decode cX8_free 29 = .ok (.ireturn, 1) := qr_o172 hN_cX8_free hn_cX8_free rfl rfl
theorem dX8_free_30 : decode cX8_free 30 = .ok (.aload_n 0, 1) := qr_o42 hN_cX8_free hn_cX8_free rfl rfl
theorem dX8_free_31 : decode cX8_free 31 = .ok (.getfield 19, 3) := qr_o180 0 19 hN_cX8_free hn_cX8_free rfl rfl rfl rfl
theorem dX8_free_34 : decode cX8_free 34 = .ok (.aload_n 3, 1) := qr_o45 hN_cX8_free hn_cX8_free rfl rfl
theorem dX8_free_35 : decode cX8_free 35 = .ok (.aload 4, 2) := qr_o25 4 hN_cX8_free hn_cX8_free rfl rfl rfl
theorem dX8_free_37 : decode cX8_free 37 = .ok (.invokevirtual 193, 3) := qr_o182 0 193 hN_cX8_free hn_cX8_free rfl rfl rfl rfl
theorem dX8_free_40 : decode cX8_free 40 = .ok (.ifCond .eq 7, 3) := qr_o153 0 7 rfl hN_cX8_free hn_cX8_free rfl rfl rfl rfl
theorem dX8_free_43 : decode cX8_free 43 = .ok (.iconst 1, 1) := qr_o4 hN_cX8_free hn_cX8_free rfl rfl
theorem dX8_free_44 : decode cX8_free 44 = .ok (.goto 4, 3) := qr_o167 0 4 rfl hN_cX8_free hn_cX8_free rfl rfl rfl rfl
theorem dX8_free_47 : decode cX8_free 47 = .ok (.iconst 0, 1) := qr_o3 hN_cX8_free hn_cX8_free rfl rfl
theorem dX8_free_48 : decode cX8_free 48 = .ok (.ireturn, 1) := qr_o172 hN_cX8_free hn_cX8_free rfl rfl
def nN_cX8_away : Nat := 0xacc900b6051904191300b42a0e00a7c500b6051904191300b42a11009a1dac0205009a2700b804031d0c00c605191100c60419053a9c00b61c1300b42a043a6000b61b1300b42a
theorem hN_cX8_away : qr_n cX8_away.data.toList = nN_cX8_away := by decide +kernel
theorem hn_cX8_away : cX8_away.size = 71 := by decide +kernel
theorem dX8_away_0 : decode cX8_away 0 = .ok (.aload_n 0, 1) := qr_o42 hN_cX8_away hn_cX8_away rfl rfl
theorem dX8_away_1 : decode cX8_away 1 = .ok (.getfield 19, 3) := qr_o180 0 19 hN_cX8_away hn_cX8_away rfl rfl rfl rfl
theorem dX8_away_4 : decode cX8_away 4 = .ok (.iload_n 1, 1) := qr_o27 hN_cX8_away hn_cX8_away rfl rfl
theorem dX8_away_5 : decode cX8_away 5 = .ok (.invokevirtual 96, 3) := qr_o182 0 96 hN_cX8_away hn_cX8_away rfl rfl rfl rfl
theorem dX8_away_8 : decode cX8_away 8 = .ok (.astore 4, 2) := qr_o58 4 hN_cX8_away hn_cX8_away rfl rfl rfl
theorem dX8_away_10 : decode cX8_away 10 = .ok (.aload_n 0, 1) := qr_o42 hN_cX8_away hn_cX8_away rfl rfl
theorem dX8_away_11 : decode cX8_away 11 = .ok (.getfield 19, 3) := qr_o180 0 19 hN_cX8_away hn_cX8_away rfl rfl rfl rfl
theorem dX8_away_14 : decode cX8_away 14 = .ok (.iload_n 2, 1) := qr_o28 hN_cX8_away hn_cX8_away rfl rfl
theorem dX8_away_15 : decode cX8_away 15 = .ok (.invokevirtual 156, 3) := qr_o182 0 156 hN_cX8_away hn_cX8_away rfl rfl rfl rfl
theorem dX8_away_18 : decode cX8_away 18 = .ok (.astore 5, 2) := qr_o58 5 hN_cX8_away hn_cX8_away rfl rfl rfl
theorem dX8_away_20 : decode cX8_away 20 = .ok (.aload 4, 2) := qr_o25 4 hN_cX8_away hn_cX8_away rfl rfl rfl
theorem dX8_away_22 : decode cX8_away 22 = .ok (.ifnull 17, 3) := qr_o198 0 17 rfl hN_cX8_away hn_cX8_away rfl rfl rfl rfl
theorem dX8_away_25 : decode cX8_away 25 = .ok (.aload 5, 2) := qr_o25 5 hN_cX8_away hn_cX8_away rfl rfl rfl
theorem dX8_away_27 : decode cX8_away 27 = .ok (.ifnull 12, 3) := qr_o198 0 12 rfl hN_cX8_away hn_cX8_away rfl rfl rfl rfl
theorem dX8_away_30 : decode cX8_away 30 = .ok (.iload_n 3, 1) := qr_o29 hN_cX8_away hn_cX8_away rfl rfl
theorem dX8_away_31 : decode cX8_away 31 = .ok (.iconst 0, 1) := qr_o3 hN_cX8_away hn_cX8_away rfl rfl
theorem dX8_away_32 : decode cX8_away 32 = .ok (.iconst 1, 1) := qr_o4 hN_cX8_away hn_cX8_away rfl rfl
theorem dX8_away_33 : decode cX8_away 33 = .ok (.invokestatic 39, 3) := qr_o184 0 39 hN_cX8_away hn_cX8_away rfl rfl rfl rfl
theorem dX8_away_36 : decode cX8_away 36 = .ok (.ifCond .ne 5, 3) := qr_o154 0 5 rfl hN_cX8_away hn_cX8_away rfl rfl rfl rfl
theorem dX8_away_39 : decode cX8_away 39 = .ok (.iconst (-1), 1) := qr_o2 hN_cX8_away hn_cX8_away rfl rfl
theorem dX8_away_40 : decode cX8_away 40 = .ok (.ireturn, 1) := qr_o172 hN_cX8_away hn_cX8_away rfl rfl
theorem dX8_away_41 : decode cX8_away 41 = .ok (.iload_n 3, 1) := qr_o29 hN_cX8_away hn_cX8_away rfl rfl
theorem dX8_away_42 : decode cX8_away 42 = .ok (.ifCond .ne 17, 3) := qr_o154 0 17 rfl hN_cX8_away hn_cX8_away rfl rfl rfl rfl
theorem dX8_away_45 : decode cX8_away 45 = .ok (.aload_n 0, 1) := qr_o42 hN_cX8_away hn_cX8_away rfl rfl
theorem dX8_away_46 : decode cX8_away 46 = .ok (.getfield 19, 3) := qr_o180 0 19 hN_cX8_away hn_cX8_away rfl rfl rfl rfl
theorem dX8_away_49 : decode cX8_away 49 = .ok (.aload 4, 2) := qr_o25 4 hN_cX8_away hn_cX8_away rfl rfl rfl
theorem dX8_away_51 : decode cX8_away 51 = .ok (.aload 5, 2) := qr_o25 5 hN_cX8_away hn_cX8_away rfl rfl rfl
theorem dX8_away_53 : decode cX8_away 53 = .ok (.invokevirtual 197, 3) := qr_o182 0 197 hN_cX8_away hn_cX8_away rfl rfl rfl rfl
theorem dX8_away_56 : decode cX8_away 56 = .ok (.goto 14, 3) := qr_o167 0 14 rfl hN_cX8_away hn_cX8_away rfl rfl rfl rfl
theorem dX8_away_59 : decode cX8_away 59 = .ok (.aload_n 0, 1) := qr_o42 hN_cX8_away hn_cX8_away rfl rfl
theorem dX8_away_60 : decode cX8_away 60 = .ok (.getfield 19, 3) := qr_o180 0 19 hN_cX8_away hn_cX8_away rfl rfl rfl rfl
theorem dX8_away_63 : decode cX8_away 63 = .ok (.aload 4, 2) := qr_o25 4 hN_cX8_away hn_cX8_away rfl rfl rfl
theorem dX8_away_65 : decode cX8_away 65 = .ok (.aload 5, 2) := qr_o25 5 hN_cX8_away hn_cX8_away rfl rfl rfl
theorem dX8_away_67 : decode cX8_away 67 = .ok (.invokevirtual 201, 3) := qr_o182 0 201 hN_cX8_away hn_cX8_away rfl rfl rfl rfl
theorem dX8_away_70 : decode cX8_away 70 = .ok (.ireturn, 1) := qr_o172 hN_cX8_away hn_cX8_away rfl rfl
def nN_cX8_tear : Nat := 0xacd200b61c2d1300b42acf00b51c2dacfe10060099cc00b61c2dac0205009aa000b81c0a00c62d4e6000b61b1300b42a
theorem hN_cX8_tear : qr_n cX8_tear.data.toList = nN_cX8_tear := by decide +kernel
theorem hn_cX8_tear : cX8_tear.size = 48 := by decide +kernel
theorem dX8_tear_0 : decode cX8_tear 0 = .ok (.aload_n 0, 1) := qr_o42 hN_cX8_tear hn_cX8_tear rfl rfl
theorem dX8_tear_1 : decode cX8_tear 1 = .ok (.getfield 19, 3) := qr_o180 0 19 hN_cX8_tear hn_cX8_tear rfl rfl rfl rfl
theorem dX8_tear_4 : decode cX8_tear 4 = .ok (.iload_n 1, 1) := qr_o27 hN_cX8_tear hn_cX8_tear rfl rfl
theorem dX8_tear_5 : decode cX8_tear 5 = .ok (.invokevirtual 96, 3) := qr_o182 0 96 hN_cX8_tear hn_cX8_tear rfl rfl rfl rfl
theorem dX8_tear_8 : decode cX8_tear 8 = .ok (.astore_n 3, 1) := qr_o78 hN_cX8_tear hn_cX8_tear rfl rfl
theorem dX8_tear_9 : decode cX8_tear 9 = .ok (.aload_n 3, 1) := qr_o45 hN_cX8_tear hn_cX8_tear rfl rfl
theorem dX8_tear_10 : decode cX8_tear 10 = .ok (.ifnull 10, 3) := qr_o198 0 10 rfl hN_cX8_tear hn_cX8_tear rfl rfl rfl rfl
theorem dX8_tear_13 : decode cX8_tear 13 = .ok (.iload_n 2, 1) := qr_o28 hN_cX8_tear hn_cX8_tear rfl rfl
theorem dX8_tear_14 : decode cX8_tear 14 = .ok (.invokestatic 160, 3) := qr_o184 0 160 hN_cX8_tear hn_cX8_tear rfl rfl rfl rfl
theorem dX8_tear_17 : decode cX8_tear 17 = .ok (.ifCond .ne 5, 3) := qr_o154 0 5 rfl hN_cX8_tear hn_cX8_tear rfl rfl rfl rfl
theorem dX8_tear_20 : decode cX8_tear 20 = .ok (.iconst (-1), 1) := qr_o2 hN_cX8_tear hn_cX8_tear rfl rfl
theorem dX8_tear_21 : decode cX8_tear 21 = .ok (.ireturn, 1) := qr_o172 hN_cX8_tear hn_cX8_tear rfl rfl
theorem dX8_tear_22 : decode cX8_tear 22 = .ok (.aload_n 3, 1) := qr_o45 hN_cX8_tear hn_cX8_tear rfl rfl
theorem dX8_tear_23 : decode cX8_tear 23 = .ok (.iload_n 2, 1) := qr_o28 hN_cX8_tear hn_cX8_tear rfl rfl
theorem dX8_tear_24 : decode cX8_tear 24 = .ok (.invokevirtual 204, 3) := qr_o182 0 204 hN_cX8_tear hn_cX8_tear rfl rfl rfl rfl
theorem dX8_tear_27 : decode cX8_tear 27 = .ok (.ifCond .eq 6, 3) := qr_o153 0 6 rfl hN_cX8_tear hn_cX8_tear rfl rfl rfl rfl
theorem dX8_tear_30 : decode cX8_tear 30 = .ok (.bipush (-2), 2) := qr_w16 254 2 rfl rfl hN_cX8_tear hn_cX8_tear rfl rfl rfl
theorem dX8_tear_32 : decode cX8_tear 32 = .ok (.ireturn, 1) := qr_o172 hN_cX8_tear hn_cX8_tear rfl rfl
theorem dX8_tear_33 : decode cX8_tear 33 = .ok (.aload_n 3, 1) := qr_o45 hN_cX8_tear hn_cX8_tear rfl rfl
theorem dX8_tear_34 : decode cX8_tear 34 = .ok (.iload_n 2, 1) := qr_o28 hN_cX8_tear hn_cX8_tear rfl rfl
theorem dX8_tear_35 : decode cX8_tear 35 = .ok (.putfield 207, 3) := qr_o181 0 207 hN_cX8_tear hn_cX8_tear rfl rfl rfl rfl
theorem dX8_tear_38 : decode cX8_tear 38 = .ok (.aload_n 0, 1) := qr_o42 hN_cX8_tear hn_cX8_tear rfl rfl
theorem dX8_tear_39 : decode cX8_tear 39 = .ok (.getfield 19, 3) := qr_o180 0 19 hN_cX8_tear hn_cX8_tear rfl rfl rfl rfl
theorem dX8_tear_42 : decode cX8_tear 42 = .ok (.aload_n 3, 1) := qr_o45 hN_cX8_tear hn_cX8_tear rfl rfl
theorem dX8_tear_43 : decode cX8_tear 43 = .ok (.iload_n 2, 1) := qr_o28 hN_cX8_tear hn_cX8_tear rfl rfl
theorem dX8_tear_44 : decode cX8_tear 44 = .ok (.invokevirtual 210, 3) := qr_o182 0 210 hN_cX8_tear hn_cX8_tear rfl rfl rfl rfl
theorem dX8_tear_47 : decode cX8_tear 47 = .ok (.ireturn, 1) := qr_o172 hN_cX8_tear hn_cX8_tear rfl rfl
def nN_cX8_mend : Nat := 0xac04cf00b5fc102cacfe1006009ad600b62cac020500c72c4d6000b61b1300b42a
theorem hN_cX8_mend : qr_n cX8_mend.data.toList = nN_cX8_mend := by decide +kernel
theorem hn_cX8_mend : cX8_mend.size = 33 := by decide +kernel
theorem dX8_mend_0 : decode cX8_mend 0 = .ok (.aload_n 0, 1) := qr_o42 hN_cX8_mend hn_cX8_mend rfl rfl
theorem dX8_mend_1 : decode cX8_mend 1 = .ok (.getfield 19, 3) := qr_o180 0 19 hN_cX8_mend hn_cX8_mend rfl rfl rfl rfl
theorem dX8_mend_4 : decode cX8_mend 4 = .ok (.iload_n 1, 1) := qr_o27 hN_cX8_mend hn_cX8_mend rfl rfl
theorem dX8_mend_5 : decode cX8_mend 5 = .ok (.invokevirtual 96, 3) := qr_o182 0 96 hN_cX8_mend hn_cX8_mend rfl rfl rfl rfl
theorem dX8_mend_8 : decode cX8_mend 8 = .ok (.astore_n 2, 1) := qr_o77 hN_cX8_mend hn_cX8_mend rfl rfl
theorem dX8_mend_9 : decode cX8_mend 9 = .ok (.aload_n 2, 1) := qr_o44 hN_cX8_mend hn_cX8_mend rfl rfl
theorem dX8_mend_10 : decode cX8_mend 10 = .ok (.ifnonnull 5, 3) := qr_o199 0 5 rfl hN_cX8_mend hn_cX8_mend rfl rfl rfl rfl
theorem dX8_mend_13 : decode cX8_mend 13 = .ok (.iconst (-1), 1) := qr_o2 hN_cX8_mend hn_cX8_mend rfl rfl
theorem dX8_mend_14 : decode cX8_mend 14 = .ok (.ireturn, 1) := qr_o172 hN_cX8_mend hn_cX8_mend rfl rfl
theorem dX8_mend_15 : decode cX8_mend 15 = .ok (.aload_n 2, 1) := qr_o44 hN_cX8_mend hn_cX8_mend rfl rfl
theorem dX8_mend_16 : decode cX8_mend 16 = .ok (.invokevirtual 214, 3) := qr_o182 0 214 hN_cX8_mend hn_cX8_mend rfl rfl rfl rfl
theorem dX8_mend_19 : decode cX8_mend 19 = .ok (.ifCond .ne 6, 3) := qr_o154 0 6 rfl hN_cX8_mend hn_cX8_mend rfl rfl rfl rfl
theorem dX8_mend_22 : decode cX8_mend 22 = .ok (.bipush (-2), 2) := qr_w16 254 2 rfl rfl hN_cX8_mend hn_cX8_mend rfl rfl rfl
theorem dX8_mend_24 : decode cX8_mend 24 = .ok (.ireturn, 1) := qr_o172 hN_cX8_mend hn_cX8_mend rfl rfl
theorem dX8_mend_25 : decode cX8_mend 25 = .ok (.aload_n 2, 1) := qr_o44 hN_cX8_mend hn_cX8_mend rfl rfl
theorem dX8_mend_26 : decode cX8_mend 26 = .ok (.bipush (-4), 2) := qr_w16 252 4 rfl rfl hN_cX8_mend hn_cX8_mend rfl rfl rfl
theorem dX8_mend_28 : decode cX8_mend 28 = .ok (.putfield 207, 3) := qr_o181 0 207 hN_cX8_mend hn_cX8_mend rfl rfl rfl rfl
theorem dX8_mend_31 : decode cX8_mend 31 = .ok (.iconst 1, 1) := qr_o4 hN_cX8_mend hn_cX8_mend rfl rfl
theorem dX8_mend_32 : decode cX8_mend 32 = .ok (.ireturn, 1) := qr_o172 hN_cX8_mend hn_cX8_mend rfl rfl
def nN_cX8_chain : Nat := 0xacfe100500a7d900b62c1c00b42a0e0099b600b62cac020500c72c4d9c00b61b1300b42a
theorem hN_cX8_chain : qr_n cX8_chain.data.toList = nN_cX8_chain := by decide +kernel
theorem hn_cX8_chain : cX8_chain.size = 36 := by decide +kernel
theorem dX8_chain_0 : decode cX8_chain 0 = .ok (.aload_n 0, 1) := qr_o42 hN_cX8_chain hn_cX8_chain rfl rfl
theorem dX8_chain_1 : decode cX8_chain 1 = .ok (.getfield 19, 3) := qr_o180 0 19 hN_cX8_chain hn_cX8_chain rfl rfl rfl rfl
theorem dX8_chain_4 : decode cX8_chain 4 = .ok (.iload_n 1, 1) := qr_o27 hN_cX8_chain hn_cX8_chain rfl rfl
theorem dX8_chain_5 : decode cX8_chain 5 = .ok (.invokevirtual 156, 3) := qr_o182 0 156 hN_cX8_chain hn_cX8_chain rfl rfl rfl rfl
theorem dX8_chain_8 : decode cX8_chain 8 = .ok (.astore_n 2, 1) := qr_o77 hN_cX8_chain hn_cX8_chain rfl rfl
theorem dX8_chain_9 : decode cX8_chain 9 = .ok (.aload_n 2, 1) := qr_o44 hN_cX8_chain hn_cX8_chain rfl rfl
theorem dX8_chain_10 : decode cX8_chain 10 = .ok (.ifnonnull 5, 3) := qr_o199 0 5 rfl hN_cX8_chain hn_cX8_chain rfl rfl rfl rfl
theorem dX8_chain_13 : decode cX8_chain 13 = .ok (.iconst (-1), 1) := qr_o2 hN_cX8_chain hn_cX8_chain rfl rfl
theorem dX8_chain_14 : decode cX8_chain 14 = .ok (.ireturn, 1) := qr_o172 hN_cX8_chain hn_cX8_chain rfl rfl
theorem dX8_chain_15 : decode cX8_chain 15 = .ok (.aload_n 2, 1) := qr_o44 hN_cX8_chain hn_cX8_chain rfl rfl
theorem dX8_chain_16 : decode cX8_chain 16 = .ok (.invokevirtual 182, 3) := qr_o182 0 182 hN_cX8_chain hn_cX8_chain rfl rfl rfl rfl
theorem dX8_chain_19 : decode cX8_chain 19 = .ok (.ifCond .eq 14, 3) := qr_o153 0 14 rfl hN_cX8_chain hn_cX8_chain rfl rfl rfl rfl
theorem dX8_chain_22 : decode cX8_chain 22 = .ok (.aload_n 0, 1) := qr_o42 hN_cX8_chain hn_cX8_chain rfl rfl
theorem dX8_chain_23 : decode cX8_chain 23 = .ok (.getfield 28, 3) := qr_o180 0 28 hN_cX8_chain hn_cX8_chain rfl rfl rfl rfl
theorem dX8_chain_26 : decode cX8_chain 26 = .ok (.aload_n 2, 1) := qr_o44 hN_cX8_chain hn_cX8_chain rfl rfl
theorem dX8_chain_27 : decode cX8_chain 27 = .ok (.invokevirtual 217, 3) := qr_o182 0 217 hN_cX8_chain hn_cX8_chain rfl rfl rfl rfl
theorem dX8_chain_30 : decode cX8_chain 30 = .ok (.goto 5, 3) := qr_o167 0 5 rfl hN_cX8_chain hn_cX8_chain rfl rfl rfl rfl
theorem dX8_chain_33 : decode cX8_chain 33 = .ok (.bipush (-2), 2) := qr_w16 254 2 rfl rfl hN_cX8_chain hn_cX8_chain rfl rfl rfl
theorem dX8_chain_35 : decode cX8_chain 35 = .ok (.ireturn, 1) := qr_o172 hN_cX8_chain hn_cX8_chain rfl rfl
def nN_cX8_link : Nat := 0xace200b61c1c00b42a0b00a7df00b61c1c00b42a0e009a1dac020500a104151cac041506009c04150436dd00b61b2aac0205009a2700b804031d0c009b1c
theorem hN_cX8_link : qr_n cX8_link.data.toList = nN_cX8_link := by decide +kernel
theorem hn_cX8_link : cX8_link.size = 62 := by decide +kernel
theorem dX8_link_0 : decode cX8_link 0 = .ok (.iload_n 2, 1) := qr_o28 hN_cX8_link hn_cX8_link rfl rfl
theorem dX8_link_1 : decode cX8_link 1 = .ok (.ifCond .lt 12, 3) := qr_o155 0 12 rfl hN_cX8_link hn_cX8_link rfl rfl rfl rfl
theorem dX8_link_4 : decode cX8_link 4 = .ok (.iload_n 3, 1) := qr_o29 hN_cX8_link hn_cX8_link rfl rfl
theorem dX8_link_5 : decode cX8_link 5 = .ok (.iconst 0, 1) := qr_o3 hN_cX8_link hn_cX8_link rfl rfl
theorem dX8_link_6 : decode cX8_link 6 = .ok (.iconst 1, 1) := qr_o4 hN_cX8_link hn_cX8_link rfl rfl
theorem dX8_link_7 : decode cX8_link 7 = .ok (.invokestatic 39, 3) := qr_o184 0 39 hN_cX8_link hn_cX8_link rfl rfl rfl rfl
theorem dX8_link_10 : decode cX8_link 10 = .ok (.ifCond .ne 5, 3) := qr_o154 0 5 rfl hN_cX8_link hn_cX8_link rfl rfl rfl rfl
theorem dX8_link_13 : decode cX8_link 13 = .ok (.iconst (-1), 1) := qr_o2 hN_cX8_link hn_cX8_link rfl rfl
theorem dX8_link_14 : decode cX8_link 14 = .ok (.ireturn, 1) := qr_o172 hN_cX8_link hn_cX8_link rfl rfl
theorem dX8_link_15 : decode cX8_link 15 = .ok (.aload_n 0, 1) := qr_o42 hN_cX8_link hn_cX8_link rfl rfl
theorem dX8_link_16 : decode cX8_link 16 = .ok (.iload_n 1, 1) := qr_o27 hN_cX8_link hn_cX8_link rfl rfl
theorem dX8_link_17 : decode cX8_link 17 = .ok (.invokevirtual 221, 3) := qr_o182 0 221 hN_cX8_link hn_cX8_link rfl rfl rfl rfl
theorem dX8_link_20 : decode cX8_link 20 = .ok (.istore 4, 2) := qr_o54 4 hN_cX8_link hn_cX8_link rfl rfl rfl
theorem dX8_link_22 : decode cX8_link 22 = .ok (.iload 4, 2) := qr_o21 4 hN_cX8_link hn_cX8_link rfl rfl rfl
theorem dX8_link_24 : decode cX8_link 24 = .ok (.ifCond .ge 6, 3) := qr_o156 0 6 rfl hN_cX8_link hn_cX8_link rfl rfl rfl rfl
theorem dX8_link_27 : decode cX8_link 27 = .ok (.iload 4, 2) := qr_o21 4 hN_cX8_link hn_cX8_link rfl rfl rfl
theorem dX8_link_29 : decode cX8_link 29 = .ok (.ireturn, 1) := qr_o172 hN_cX8_link hn_cX8_link rfl rfl
theorem dX8_link_30 : decode cX8_link 30 = .ok (.iload_n 2, 1) := qr_o28 hN_cX8_link hn_cX8_link rfl rfl
theorem dX8_link_31 : decode cX8_link 31 = .ok (.iload 4, 2) := qr_o21 4 hN_cX8_link hn_cX8_link rfl rfl rfl
theorem dX8_link_33 : decode cX8_link 33 = .ok (.if_icmp .lt 5, 3) := qr_o161 0 5 rfl hN_cX8_link hn_cX8_link rfl rfl rfl rfl
theorem dX8_link_36 : decode cX8_link 36 = .ok (.iconst (-1), 1) := qr_o2 hN_cX8_link hn_cX8_link rfl rfl
theorem dX8_link_37 : decode cX8_link 37 = .ok (.ireturn, 1) := qr_o172 hN_cX8_link hn_cX8_link rfl rfl
theorem dX8_link_38 : decode cX8_link 38 = .ok (.iload_n 3, 1) := qr_o29 hN_cX8_link hn_cX8_link rfl rfl
theorem dX8_link_39 : decode cX8_link 39 = .ok (.ifCond .ne 14, 3) := qr_o154 0 14 rfl hN_cX8_link hn_cX8_link rfl rfl rfl rfl
theorem dX8_link_42 : decode cX8_link 42 = .ok (.aload_n 0, 1) := qr_o42 hN_cX8_link hn_cX8_link rfl rfl
theorem dX8_link_43 : decode cX8_link 43 = .ok (.getfield 28, 3) := qr_o180 0 28 hN_cX8_link hn_cX8_link rfl rfl rfl rfl
theorem dX8_link_46 : decode cX8_link 46 = .ok (.iload_n 2, 1) := qr_o28 hN_cX8_link hn_cX8_link rfl rfl
theorem dX8_link_47 : decode cX8_link 47 = .ok (.invokevirtual 223, 3) := qr_o182 0 223 hN_cX8_link hn_cX8_link rfl rfl rfl rfl
theorem dX8_link_50 : decode cX8_link 50 = .ok (.goto 11, 3) := qr_o167 0 11 rfl hN_cX8_link hn_cX8_link rfl rfl rfl rfl
theorem dX8_link_53 : decode cX8_link 53 = .ok (.aload_n 0, 1) := qr_o42 hN_cX8_link hn_cX8_link rfl rfl
theorem dX8_link_54 : decode cX8_link 54 = .ok (.getfield 28, 3) := qr_o180 0 28 hN_cX8_link hn_cX8_link rfl rfl rfl rfl
theorem dX8_link_57 : decode cX8_link 57 = .ok (.iload_n 2, 1) := qr_o28 hN_cX8_link hn_cX8_link rfl rfl
theorem dX8_link_58 : decode cX8_link 58 = .ok (.invokevirtual 226, 3) := qr_o182 0 226 hN_cX8_link hn_cX8_link rfl rfl rfl rfl
theorem dX8_link_61 : decode cX8_link 61 = .ok (.ireturn, 1) := qr_o172 hN_cX8_link hn_cX8_link rfl rfl
def nN_cX8_swap : Nat := 0xac1ce500b61c00b42a0a009e1c3ddd00b61b2a
theorem hN_cX8_swap : qr_n cX8_swap.data.toList = nN_cX8_swap := by decide +kernel
theorem hn_cX8_swap : cX8_swap.size = 19 := by decide +kernel
theorem dX8_swap_0 : decode cX8_swap 0 = .ok (.aload_n 0, 1) := qr_o42 hN_cX8_swap hn_cX8_swap rfl rfl
theorem dX8_swap_1 : decode cX8_swap 1 = .ok (.iload_n 1, 1) := qr_o27 hN_cX8_swap hn_cX8_swap rfl rfl
theorem dX8_swap_2 : decode cX8_swap 2 = .ok (.invokevirtual 221, 3) := qr_o182 0 221 hN_cX8_swap hn_cX8_swap rfl rfl rfl rfl
theorem dX8_swap_5 : decode cX8_swap 5 = .ok (.istore_n 2, 1) := qr_o61 hN_cX8_swap hn_cX8_swap rfl rfl
theorem dX8_swap_6 : decode cX8_swap 6 = .ok (.iload_n 2, 1) := qr_o28 hN_cX8_swap hn_cX8_swap rfl rfl
theorem dX8_swap_7 : decode cX8_swap 7 = .ok (.ifCond .le 10, 3) := qr_o158 0 10 rfl hN_cX8_swap hn_cX8_swap rfl rfl rfl rfl
theorem dX8_swap_10 : decode cX8_swap 10 = .ok (.aload_n 0, 1) := qr_o42 hN_cX8_swap hn_cX8_swap rfl rfl
theorem dX8_swap_11 : decode cX8_swap 11 = .ok (.getfield 28, 3) := qr_o180 0 28 hN_cX8_swap hn_cX8_swap rfl rfl rfl rfl
theorem dX8_swap_14 : decode cX8_swap 14 = .ok (.invokevirtual 229, 3) := qr_o182 0 229 hN_cX8_swap hn_cX8_swap rfl rfl rfl rfl
theorem dX8_swap_17 : decode cX8_swap 17 = .ok (.iload_n 2, 1) := qr_o28 hN_cX8_swap hn_cX8_swap rfl rfl
theorem dX8_swap_18 : decode cX8_swap 18 = .ok (.ireturn, 1) := qr_o172 hN_cX8_swap hn_cX8_swap rfl rfl
def nN_cX8_match : Nat := 0xac05150500a7041508009a1cdbffa701068404360615053607150b00a4051507150736eb00b606151b1300b42a2400a309100615063603053602043603ac1d0500a0051cacfc1006009a1d3ee800b61b1300b42aac0205009a2700b805031c0c00992700b807031b
theorem hN_cX8_match : qr_n cX8_match.data.toList = nN_cX8_match := by decide +kernel
theorem hn_cX8_match : cX8_match.size = 104 := by decide +kernel
theorem dX8_match_0 : decode cX8_match 0 = .ok (.iload_n 1, 1) := qr_o27 hN_cX8_match hn_cX8_match rfl rfl
theorem dX8_match_1 : decode cX8_match 1 = .ok (.iconst 0, 1) := qr_o3 hN_cX8_match hn_cX8_match rfl rfl
theorem dX8_match_2 : decode cX8_match 2 = .ok (.iconst 4, 1) := qr_o7 hN_cX8_match hn_cX8_match rfl rfl
theorem dX8_match_3 : decode cX8_match 3 = .ok (.invokestatic 39, 3) := qr_o184 0 39 hN_cX8_match hn_cX8_match rfl rfl rfl rfl
theorem dX8_match_6 : decode cX8_match 6 = .ok (.ifCond .eq 12, 3) := qr_o153 0 12 rfl hN_cX8_match hn_cX8_match rfl rfl rfl rfl
theorem dX8_match_9 : decode cX8_match 9 = .ok (.iload_n 2, 1) := qr_o28 hN_cX8_match hn_cX8_match rfl rfl
theorem dX8_match_10 : decode cX8_match 10 = .ok (.iconst 0, 1) := qr_o3 hN_cX8_match hn_cX8_match rfl rfl
theorem dX8_match_11 : decode cX8_match 11 = .ok (.iconst 2, 1) := qr_o5 hN_cX8_match hn_cX8_match rfl rfl
theorem dX8_match_12 : decode cX8_match 12 = .ok (.invokestatic 39, 3) := qr_o184 0 39 hN_cX8_match hn_cX8_match rfl rfl rfl rfl
theorem dX8_match_15 : decode cX8_match 15 = .ok (.ifCond .ne 5, 3) := qr_o154 0 5 rfl hN_cX8_match hn_cX8_match rfl rfl rfl rfl
theorem dX8_match_18 : decode cX8_match 18 = .ok (.iconst (-1), 1) := qr_o2 hN_cX8_match hn_cX8_match rfl rfl
theorem dX8_match_19 : decode cX8_match 19 = .ok (.ireturn, 1) := qr_o172 hN_cX8_match hn_cX8_match rfl rfl
theorem dX8_match_20 : decode cX8_match 20 = .ok (.aload_n 0, 1) := qr_o42 hN_cX8_match hn_cX8_match rfl rfl
theorem dX8_match_21 : decode cX8_match 21 = .ok (.getfield 19, 3) := qr_o180 0 19 hN_cX8_match hn_cX8_match rfl rfl rfl rfl
theorem dX8_match_24 : decode cX8_match 24 = .ok (.iload_n 1, 1) := qr_o27 hN_cX8_match hn_cX8_match rfl rfl
theorem dX8_match_25 : decode cX8_match 25 = .ok (.invokevirtual 232, 3) := qr_o182 0 232 hN_cX8_match hn_cX8_match rfl rfl rfl rfl
theorem dX8_match_28 : decode cX8_match 28 = .ok (.istore_n 3, 1) := qr_o62 hN_cX8_match hn_cX8_match rfl rfl
theorem dX8_match_29 : decode cX8_match 29 = .ok (.iload_n 3, 1) := qr_o29 hN_cX8_match hn_cX8_match rfl rfl
theorem dX8_match_30 : decode cX8_match 30 = .ok (.ifCond .ne 6, 3) := qr_o154 0 6 rfl hN_cX8_match hn_cX8_match rfl rfl rfl rfl
theorem dX8_match_33 : decode cX8_match 33 = .ok (.bipush (-4), 2) := qr_w16 252 4 rfl rfl hN_cX8_match hn_cX8_match rfl rfl rfl
theorem dX8_match_35 : decode cX8_match 35 = .ok (.ireturn, 1) := qr_o172 hN_cX8_match hn_cX8_match rfl rfl
theorem dX8_match_36 : decode cX8_match 36 = .ok (.iload_n 2, 1) := qr_o28 hN_cX8_match hn_cX8_match rfl rfl
theorem dX8_match_37 : decode cX8_match 37 = .ok (.iconst 2, 1) := qr_o5 hN_cX8_match hn_cX8_match rfl rfl
theorem dX8_match_38 : decode cX8_match 38 = .ok (.if_icmp .ne 5, 3) := qr_o160 0 5 rfl hN_cX8_match hn_cX8_match rfl rfl rfl rfl
theorem dX8_match_41 : decode cX8_match 41 = .ok (.iload_n 3, 1) := qr_o29 hN_cX8_match hn_cX8_match rfl rfl
theorem dX8_match_42 : decode cX8_match 42 = .ok (.ireturn, 1) := qr_o172 hN_cX8_match hn_cX8_match rfl rfl
theorem dX8_match_43 : decode cX8_match 43 = .ok (.iconst 0, 1) := qr_o3 hN_cX8_match hn_cX8_match rfl rfl
theorem dX8_match_44 : decode cX8_match 44 = .ok (.istore 4, 2) := qr_o54 4 hN_cX8_match hn_cX8_match rfl rfl rfl
theorem dX8_match_46 : decode cX8_match 46 = .ok (.iconst (-1), 1) := qr_o2 hN_cX8_match hn_cX8_match rfl rfl
theorem dX8_match_47 : decode cX8_match 47 = .ok (.istore 5, 2) := qr_o54 5 hN_cX8_match hn_cX8_match rfl rfl rfl
theorem dX8_match_49 : decode cX8_match 49 = .ok (.iconst 0, 1) := qr_o3 hN_cX8_match hn_cX8_match rfl rfl
theorem dX8_match_50 : decode cX8_match 50 = .ok (.istore 6, 2) := qr_o54 6 hN_cX8_match hn_cX8_match rfl rfl rfl
theorem dX8_match_52 : decode cX8_match 52 = .ok (.iload 6, 2) := qr_o21 6 hN_cX8_match hn_cX8_match rfl rfl rfl
theorem dX8_match_54 : decode cX8_match 54 = .ok (.bipush 9, 2) := qr_o16 9 rfl hN_cX8_match hn_cX8_match rfl rfl rfl
theorem dX8_match_56 : decode cX8_match 56 = .ok (.if_icmp .gt 36, 3) := qr_o163 0 36 rfl hN_cX8_match hn_cX8_match rfl rfl rfl rfl
theorem dX8_match_59 : decode cX8_match 59 = .ok (.aload_n 0, 1) := qr_o42 hN_cX8_match hn_cX8_match rfl rfl
theorem dX8_match_60 : decode cX8_match 60 = .ok (.getfield 19, 3) := qr_o180 0 19 hN_cX8_match hn_cX8_match rfl rfl rfl rfl
theorem dX8_match_63 : decode cX8_match 63 = .ok (.iload_n 1, 1) := qr_o27 hN_cX8_match hn_cX8_match rfl rfl
theorem dX8_match_64 : decode cX8_match 64 = .ok (.iload 6, 2) := qr_o21 6 hN_cX8_match hn_cX8_match rfl rfl rfl
theorem dX8_match_66 : decode cX8_match 66 = .ok (.invokevirtual 235, 3) := qr_o182 0 235 hN_cX8_match hn_cX8_match rfl rfl rfl rfl
theorem dX8_match_69 : decode cX8_match 69 = .ok (.istore 7, 2) := qr_o54 7 hN_cX8_match hn_cX8_match rfl rfl rfl
theorem dX8_match_71 : decode cX8_match 71 = .ok (.iload 7, 2) := qr_o21 7 hN_cX8_match hn_cX8_match rfl rfl rfl
theorem dX8_match_73 : decode cX8_match 73 = .ok (.iload 5, 2) := qr_o21 5 hN_cX8_match hn_cX8_match rfl rfl rfl
theorem dX8_match_75 : decode cX8_match 75 = .ok (.if_icmp .le 11, 3) := qr_o164 0 11 rfl hN_cX8_match hn_cX8_match rfl rfl rfl rfl
theorem dX8_match_78 : decode cX8_match 78 = .ok (.iload 7, 2) := qr_o21 7 hN_cX8_match hn_cX8_match rfl rfl rfl
theorem dX8_match_80 : decode cX8_match 80 = .ok (.istore 5, 2) := qr_o54 5 hN_cX8_match hn_cX8_match rfl rfl rfl
theorem dX8_match_82 : decode cX8_match 82 = .ok (.iload 6, 2) := qr_o21 6 hN_cX8_match hn_cX8_match rfl rfl rfl
theorem dX8_match_84 : decode cX8_match 84 = .ok (.istore 4, 2) := qr_o54 4 hN_cX8_match hn_cX8_match rfl rfl rfl
theorem dX8_match_86 : decode cX8_match 86 = .ok (.iinc 6 1, 3) := qr_o132 6 1 rfl hN_cX8_match hn_cX8_match rfl rfl rfl rfl
theorem dX8_match_89 : decode cX8_match 89 = .ok (.goto (-37), 3) := qr_w167 255 219 37 rfl rfl hN_cX8_match hn_cX8_match rfl rfl rfl rfl
theorem dX8_match_92 : decode cX8_match 92 = .ok (.iload_n 2, 1) := qr_o28 hN_cX8_match hn_cX8_match rfl rfl
theorem dX8_match_93 : decode cX8_match 93 = .ok (.ifCond .ne 8, 3) := qr_o154 0 8 rfl hN_cX8_match hn_cX8_match rfl rfl rfl rfl
theorem dX8_match_96 : decode cX8_match 96 = .ok (.iload 4, 2) := qr_o21 4 hN_cX8_match hn_cX8_match rfl rfl rfl
theorem dX8_match_98 : decode cX8_match 98 = .ok (.goto 5, 3) := qr_o167 0 5 rfl hN_cX8_match hn_cX8_match rfl rfl rfl rfl
theorem dX8_match_101 : decode cX8_match 101 = .ok (.iload 5, 2) := qr_o21 5 hN_cX8_match hn_cX8_match rfl rfl rfl
theorem dX8_match_103 : decode cX8_match 103 = .ok (.ireturn, 1) := qr_o172 hN_cX8_match hn_cX8_match rfl rfl
def nN_cX8_asOf : Nat := 0xacee00b604151d1b1300b42a0e00a7ee00b67c011114101b1300b42a13009a1cac0205009a2700b804031c0c0099a000b81b
theorem hN_cX8_asOf : qr_n cX8_asOf.data.toList = nN_cX8_asOf := by decide +kernel
theorem hn_cX8_asOf : cX8_asOf.size = 50 := by decide +kernel
theorem dX8_asOf_0 : decode cX8_asOf 0 = .ok (.iload_n 1, 1) := qr_o27 hN_cX8_asOf hn_cX8_asOf rfl rfl
theorem dX8_asOf_1 : decode cX8_asOf 1 = .ok (.invokestatic 160, 3) := qr_o184 0 160 hN_cX8_asOf hn_cX8_asOf rfl rfl rfl rfl
theorem dX8_asOf_4 : decode cX8_asOf 4 = .ok (.ifCond .eq 12, 3) := qr_o153 0 12 rfl hN_cX8_asOf hn_cX8_asOf rfl rfl rfl rfl
theorem dX8_asOf_7 : decode cX8_asOf 7 = .ok (.iload_n 2, 1) := qr_o28 hN_cX8_asOf hn_cX8_asOf rfl rfl
theorem dX8_asOf_8 : decode cX8_asOf 8 = .ok (.iconst 0, 1) := qr_o3 hN_cX8_asOf hn_cX8_asOf rfl rfl
theorem dX8_asOf_9 : decode cX8_asOf 9 = .ok (.iconst 1, 1) := qr_o4 hN_cX8_asOf hn_cX8_asOf rfl rfl
theorem dX8_asOf_10 : decode cX8_asOf 10 = .ok (.invokestatic 39, 3) := qr_o184 0 39 hN_cX8_asOf hn_cX8_asOf rfl rfl rfl rfl
theorem dX8_asOf_13 : decode cX8_asOf 13 = .ok (.ifCond .ne 5, 3) := qr_o154 0 5 rfl hN_cX8_asOf hn_cX8_asOf rfl rfl rfl rfl
theorem dX8_asOf_16 : decode cX8_asOf 16 = .ok (.iconst (-1), 1) := qr_o2 hN_cX8_asOf hn_cX8_asOf rfl rfl
theorem dX8_asOf_17 : decode cX8_asOf 17 = .ok (.ireturn, 1) := qr_o172 hN_cX8_asOf hn_cX8_asOf rfl rfl
theorem dX8_asOf_18 : decode cX8_asOf 18 = .ok (.iload_n 2, 1) := qr_o28 hN_cX8_asOf hn_cX8_asOf rfl rfl
theorem dX8_asOf_19 : decode cX8_asOf 19 = .ok (.ifCond .ne 19, 3) := qr_o154 0 19 rfl hN_cX8_asOf hn_cX8_asOf rfl rfl rfl rfl
theorem dX8_asOf_22 : decode cX8_asOf 22 = .ok (.aload_n 0, 1) := qr_o42 hN_cX8_asOf hn_cX8_asOf rfl rfl
theorem dX8_asOf_23 : decode cX8_asOf 23 = .ok (.getfield 19, 3) := qr_o180 0 19 hN_cX8_asOf hn_cX8_asOf rfl rfl rfl rfl
theorem dX8_asOf_26 : decode cX8_asOf 26 = .ok (.iload_n 1, 1) := qr_o27 hN_cX8_asOf hn_cX8_asOf rfl rfl
theorem dX8_asOf_27 : decode cX8_asOf 27 = .ok (.bipush 20, 2) := qr_o16 20 rfl hN_cX8_asOf hn_cX8_asOf rfl rfl rfl
theorem dX8_asOf_29 : decode cX8_asOf 29 = .ok (.sipush 380, 3) := qr_o17 1 124 rfl hN_cX8_asOf hn_cX8_asOf rfl rfl rfl rfl
theorem dX8_asOf_32 : decode cX8_asOf 32 = .ok (.invokevirtual 238, 3) := qr_o182 0 238 hN_cX8_asOf hn_cX8_asOf rfl rfl rfl rfl
theorem dX8_asOf_35 : decode cX8_asOf 35 = .ok (.goto 14, 3) := qr_o167 0 14 rfl hN_cX8_asOf hn_cX8_asOf rfl rfl rfl rfl
theorem dX8_asOf_38 : decode cX8_asOf 38 = .ok (.aload_n 0, 1) := qr_o42 hN_cX8_asOf hn_cX8_asOf rfl rfl
theorem dX8_asOf_39 : decode cX8_asOf 39 = .ok (.getfield 19, 3) := qr_o180 0 19 hN_cX8_asOf hn_cX8_asOf rfl rfl rfl rfl
theorem dX8_asOf_42 : decode cX8_asOf 42 = .ok (.iload_n 1, 1) := qr_o27 hN_cX8_asOf hn_cX8_asOf rfl rfl
theorem dX8_asOf_43 : decode cX8_asOf 43 = .ok (.iload_n 3, 1) := qr_o29 hN_cX8_asOf hn_cX8_asOf rfl rfl
theorem dX8_asOf_44 : decode cX8_asOf 44 = .ok (.iload 4, 2) := qr_o21 4 hN_cX8_asOf hn_cX8_asOf rfl rfl rfl
theorem dX8_asOf_46 : decode cX8_asOf 46 = .ok (.invokevirtual 238, 3) := qr_o182 0 238 hN_cX8_asOf hn_cX8_asOf rfl rfl rfl rfl
theorem dX8_asOf_49 : decode cX8_asOf 49 = .ok (.ireturn, 1) := qr_o172 hN_cX8_asOf hn_cX8_asOf rfl rfl
def nN_cX8_out : Nat := 0xacfa00b42df600b6f200b6b200b42d1300b42a1c2dacfe10060099ac00b62d0a00c6b200b42dac0205009a2700b8ff0f11031c0e00c62d4e9c00b61b1300b42a
theorem hN_cX8_out : qr_n cX8_out.data.toList = nN_cX8_out := by decide +kernel
theorem hn_cX8_out : cX8_out.size = 64 := by decide +kernel
theorem dX8_out_0 : decode cX8_out 0 = .ok (.aload_n 0, 1) := qr_o42 hN_cX8_out hn_cX8_out rfl rfl
theorem dX8_out_1 : decode cX8_out 1 = .ok (.getfield 19, 3) := qr_o180 0 19 hN_cX8_out hn_cX8_out rfl rfl rfl rfl
theorem dX8_out_4 : decode cX8_out 4 = .ok (.iload_n 1, 1) := qr_o27 hN_cX8_out hn_cX8_out rfl rfl
theorem dX8_out_5 : decode cX8_out 5 = .ok (.invokevirtual 156, 3) := qr_o182 0 156 hN_cX8_out hn_cX8_out rfl rfl rfl rfl
theorem dX8_out_8 : decode cX8_out 8 = .ok (.astore_n 3, 1) := qr_o78 hN_cX8_out hn_cX8_out rfl rfl
theorem dX8_out_9 : decode cX8_out 9 = .ok (.aload_n 3, 1) := qr_o45 hN_cX8_out hn_cX8_out rfl rfl
theorem dX8_out_10 : decode cX8_out 10 = .ok (.ifnull 14, 3) := qr_o198 0 14 rfl hN_cX8_out hn_cX8_out rfl rfl rfl rfl
theorem dX8_out_13 : decode cX8_out 13 = .ok (.iload_n 2, 1) := qr_o28 hN_cX8_out hn_cX8_out rfl rfl
theorem dX8_out_14 : decode cX8_out 14 = .ok (.iconst 0, 1) := qr_o3 hN_cX8_out hn_cX8_out rfl rfl
theorem dX8_out_15 : decode cX8_out 15 = .ok (.sipush 4095, 3) := qr_o17 15 255 rfl hN_cX8_out hn_cX8_out rfl rfl rfl rfl
theorem dX8_out_18 : decode cX8_out 18 = .ok (.invokestatic 39, 3) := qr_o184 0 39 hN_cX8_out hn_cX8_out rfl rfl rfl rfl
theorem dX8_out_21 : decode cX8_out 21 = .ok (.ifCond .ne 5, 3) := qr_o154 0 5 rfl hN_cX8_out hn_cX8_out rfl rfl rfl rfl
theorem dX8_out_24 : decode cX8_out 24 = .ok (.iconst (-1), 1) := qr_o2 hN_cX8_out hn_cX8_out rfl rfl
theorem dX8_out_25 : decode cX8_out 25 = .ok (.ireturn, 1) := qr_o172 hN_cX8_out hn_cX8_out rfl rfl
theorem dX8_out_26 : decode cX8_out 26 = .ok (.aload_n 3, 1) := qr_o45 hN_cX8_out hn_cX8_out rfl rfl
theorem dX8_out_27 : decode cX8_out 27 = .ok (.getfield 178, 3) := qr_o180 0 178 hN_cX8_out hn_cX8_out rfl rfl rfl rfl
theorem dX8_out_30 : decode cX8_out 30 = .ok (.ifnull 10, 3) := qr_o198 0 10 rfl hN_cX8_out hn_cX8_out rfl rfl rfl rfl
theorem dX8_out_33 : decode cX8_out 33 = .ok (.aload_n 3, 1) := qr_o45 hN_cX8_out hn_cX8_out rfl rfl
theorem dX8_out_34 : decode cX8_out 34 = .ok (.invokevirtual 172, 3) := qr_o182 0 172 hN_cX8_out hn_cX8_out rfl rfl rfl rfl
theorem dX8_out_37 : decode cX8_out 37 = .ok (.ifCond .eq 6, 3) := qr_o153 0 6 rfl hN_cX8_out hn_cX8_out rfl rfl rfl rfl
theorem dX8_out_40 : decode cX8_out 40 = .ok (.bipush (-2), 2) := qr_w16 254 2 rfl rfl hN_cX8_out hn_cX8_out rfl rfl rfl
theorem dX8_out_42 : decode cX8_out 42 = .ok (.ireturn, 1) := qr_o172 hN_cX8_out hn_cX8_out rfl rfl
theorem dX8_out_43 : decode cX8_out 43 = .ok (.aload_n 3, 1) := qr_o45 hN_cX8_out hn_cX8_out rfl rfl
theorem dX8_out_44 : decode cX8_out 44 = .ok (.iload_n 2, 1) := qr_o28 hN_cX8_out hn_cX8_out rfl rfl
theorem dX8_out_45 : decode cX8_out 45 = .ok (.aload_n 0, 1) := qr_o42 hN_cX8_out hn_cX8_out rfl rfl
theorem dX8_out_46 : decode cX8_out 46 = .ok (.getfield 19, 3) := qr_o180 0 19 hN_cX8_out hn_cX8_out rfl rfl rfl rfl
theorem dX8_out_49 : decode cX8_out 49 = .ok (.aload_n 3, 1) := qr_o45 hN_cX8_out hn_cX8_out rfl rfl
theorem dX8_out_50 : decode cX8_out 50 = .ok (.getfield 178, 3) := qr_o180 0 178 hN_cX8_out hn_cX8_out rfl rfl rfl rfl
theorem dX8_out_53 : decode cX8_out 53 = .ok (.invokevirtual 242, 3) := qr_o182 0 242 hN_cX8_out hn_cX8_out rfl rfl rfl rfl
theorem dX8_out_56 : decode cX8_out 56 = .ok (.invokevirtual 246, 3) := qr_o182 0 246 hN_cX8_out hn_cX8_out rfl rfl rfl rfl
theorem dX8_out_59 : decode cX8_out 59 = .ok (.aload_n 3, 1) := qr_o45 hN_cX8_out hn_cX8_out rfl rfl
theorem dX8_out_60 : decode cX8_out 60 = .ok (.getfield 250, 3) := qr_o180 0 250 hN_cX8_out hn_cX8_out rfl rfl rfl rfl
theorem dX8_out_63 : decode cX8_out 63 = .ok (.ireturn, 1) := qr_o172 hN_cX8_out hn_cX8_out rfl rfl
def nN_cX8_home : Nat := 0xac64fa00b404190801b604191300b42a0501b560040501b45905190201b61d1c0419acfe1206009f04ff00b40419acfd120600a2c500b6041905191300b42a1cacfe120600c70519053ab200b40419acfd1206009a2700b8ff0f11021d0e0099a000b81c1500c60419043a9c00b61b1300b42a
theorem hN_cX8_home : qr_n cX8_home.data.toList = nN_cX8_home := by decide +kernel
theorem hn_cX8_home : cX8_home.size = 115 := by decide +kernel
theorem dX8_home_0 : decode cX8_home 0 = .ok (.aload_n 0, 1) := qr_o42 hN_cX8_home hn_cX8_home rfl rfl
theorem dX8_home_1 : decode cX8_home 1 = .ok (.getfield 19, 3) := qr_o180 0 19 hN_cX8_home hn_cX8_home rfl rfl rfl rfl
theorem dX8_home_4 : decode cX8_home 4 = .ok (.iload_n 1, 1) := qr_o27 hN_cX8_home hn_cX8_home rfl rfl
theorem dX8_home_5 : decode cX8_home 5 = .ok (.invokevirtual 156, 3) := qr_o182 0 156 hN_cX8_home hn_cX8_home rfl rfl rfl rfl
theorem dX8_home_8 : decode cX8_home 8 = .ok (.astore 4, 2) := qr_o58 4 hN_cX8_home hn_cX8_home rfl rfl rfl
theorem dX8_home_10 : decode cX8_home 10 = .ok (.aload 4, 2) := qr_o25 4 hN_cX8_home hn_cX8_home rfl rfl rfl
theorem dX8_home_12 : decode cX8_home 12 = .ok (.ifnull 21, 3) := qr_o198 0 21 rfl hN_cX8_home hn_cX8_home rfl rfl rfl rfl
theorem dX8_home_15 : decode cX8_home 15 = .ok (.iload_n 2, 1) := qr_o28 hN_cX8_home hn_cX8_home rfl rfl
theorem dX8_home_16 : decode cX8_home 16 = .ok (.invokestatic 160, 3) := qr_o184 0 160 hN_cX8_home hn_cX8_home rfl rfl rfl rfl
theorem dX8_home_19 : decode cX8_home 19 = .ok (.ifCond .eq 14, 3) := qr_o153 0 14 rfl hN_cX8_home hn_cX8_home rfl rfl rfl rfl
theorem dX8_home_22 : decode cX8_home 22 = .ok (.iload_n 3, 1) := qr_o29 hN_cX8_home hn_cX8_home rfl rfl
theorem dX8_home_23 : decode cX8_home 23 = .ok (.iconst (-1), 1) := qr_o2 hN_cX8_home hn_cX8_home rfl rfl
theorem dX8_home_24 : decode cX8_home 24 = .ok (.sipush 4095, 3) := qr_o17 15 255 rfl hN_cX8_home hn_cX8_home rfl rfl rfl rfl
theorem dX8_home_27 : decode cX8_home 27 = .ok (.invokestatic 39, 3) := qr_o184 0 39 hN_cX8_home hn_cX8_home rfl rfl rfl rfl
theorem dX8_home_30 : decode cX8_home 30 = .ok (.ifCond .ne 6, 3) := qr_o154 0 6 rfl hN_cX8_home hn_cX8_home rfl rfl rfl rfl
theorem dX8_home_33 : decode cX8_home 33 = .ok (.ldc 253, 2) := qr_o18 253 hN_cX8_home hn_cX8_home rfl rfl rfl
theorem dX8_home_35 : decode cX8_home 35 = .ok (.ireturn, 1) := qr_o172 hN_cX8_home hn_cX8_home rfl rfl
theorem dX8_home_36 : decode cX8_home 36 = .ok (.aload 4, 2) := qr_o25 4 hN_cX8_home hn_cX8_home rfl rfl rfl
theorem dX8_home_38 : decode cX8_home 38 = .ok (.getfield 178, 3) := qr_o180 0 178 hN_cX8_home hn_cX8_home rfl rfl rfl rfl
theorem dX8_home_41 : decode cX8_home 41 = .ok (.astore 5, 2) := qr_o58 5 hN_cX8_home hn_cX8_home rfl rfl rfl
theorem dX8_home_43 : decode cX8_home 43 = .ok (.aload 5, 2) := qr_o25 5 hN_cX8_home hn_cX8_home rfl rfl rfl
theorem dX8_home_45 : decode cX8_home 45 = .ok (.ifnonnull 6, 3) := qr_o199 0 6 rfl hN_cX8_home hn_cX8_home rfl rfl rfl rfl
theorem dX8_home_48 : decode cX8_home 48 = .ok (.ldc 254, 2) := qr_o18 254 hN_cX8_home hn_cX8_home rfl rfl rfl
theorem dX8_home_50 : decode cX8_home 50 = .ok (.ireturn, 1) := qr_o172 hN_cX8_home hn_cX8_home rfl rfl
theorem dX8_home_51 : decode cX8_home 51 = .ok (.iload_n 2, 1) := qr_o28 hN_cX8_home hn_cX8_home rfl rfl
theorem dX8_home_52 : decode cX8_home 52 = .ok (.aload_n 0, 1) := qr_o42 hN_cX8_home hn_cX8_home rfl rfl
theorem dX8_home_53 : decode cX8_home 53 = .ok (.getfield 19, 3) := qr_o180 0 19 hN_cX8_home hn_cX8_home rfl rfl rfl rfl
theorem dX8_home_56 : decode cX8_home 56 = .ok (.aload 5, 2) := qr_o25 5 hN_cX8_home hn_cX8_home rfl rfl rfl
theorem dX8_home_58 : decode cX8_home 58 = .ok (.aload 4, 2) := qr_o25 4 hN_cX8_home hn_cX8_home rfl rfl rfl
theorem dX8_home_60 : decode cX8_home 60 = .ok (.invokevirtual 197, 3) := qr_o182 0 197 hN_cX8_home hn_cX8_home rfl rfl rfl rfl
theorem dX8_home_63 : decode cX8_home 63 = .ok (.if_icmp .ge 6, 3) := qr_o162 0 6 rfl hN_cX8_home hn_cX8_home rfl rfl rfl rfl
theorem dX8_home_66 : decode cX8_home 66 = .ok (.ldc 253, 2) := qr_o18 253 hN_cX8_home hn_cX8_home rfl rfl rfl
theorem dX8_home_68 : decode cX8_home 68 = .ok (.ireturn, 1) := qr_o172 hN_cX8_home hn_cX8_home rfl rfl
theorem dX8_home_69 : decode cX8_home 69 = .ok (.aload 4, 2) := qr_o25 4 hN_cX8_home hn_cX8_home rfl rfl rfl
theorem dX8_home_71 : decode cX8_home 71 = .ok (.getfield 255, 3) := qr_o180 0 255 hN_cX8_home hn_cX8_home rfl rfl rfl rfl
theorem dX8_home_74 : decode cX8_home 74 = .ok (.iconst 1, 1) := qr_o4 hN_cX8_home hn_cX8_home rfl rfl
theorem dX8_home_75 : decode cX8_home 75 = .ok (.if_icmp .eq 6, 3) := qr_o159 0 6 rfl hN_cX8_home hn_cX8_home rfl rfl rfl rfl
theorem dX8_home_78 : decode cX8_home 78 = .ok (.ldc 254, 2) := qr_o18 254 hN_cX8_home hn_cX8_home rfl rfl rfl
theorem dX8_home_80 : decode cX8_home 80 = .ok (.ireturn, 1) := qr_o172 hN_cX8_home hn_cX8_home rfl rfl
theorem dX8_home_81 : decode cX8_home 81 = .ok (.aload 4, 2) := qr_o25 4 hN_cX8_home hn_cX8_home rfl rfl rfl
theorem dX8_home_83 : decode cX8_home 83 = .ok (.iload_n 2, 1) := qr_o28 hN_cX8_home hn_cX8_home rfl rfl
theorem dX8_home_84 : decode cX8_home 84 = .ok (.iload_n 3, 1) := qr_o29 hN_cX8_home hn_cX8_home rfl rfl
theorem dX8_home_85 : decode cX8_home 85 = .ok (.invokevirtual 258, 3) := qr_o182 1 2 hN_cX8_home hn_cX8_home rfl rfl rfl rfl
theorem dX8_home_88 : decode cX8_home 88 = .ok (.aload 5, 2) := qr_o25 5 hN_cX8_home hn_cX8_home rfl rfl rfl
theorem dX8_home_90 : decode cX8_home 90 = .ok (.dup, 1) := qr_o89 hN_cX8_home hn_cX8_home rfl rfl
theorem dX8_home_91 : decode cX8_home 91 = .ok (.getfield 261, 3) := qr_o180 1 5 hN_cX8_home hn_cX8_home rfl rfl rfl rfl
theorem dX8_home_94 : decode cX8_home 94 = .ok (.iconst 1, 1) := qr_o4 hN_cX8_home hn_cX8_home rfl rfl
theorem dX8_home_95 : decode cX8_home 95 = .ok (.iadd, 1) := qr_o96 hN_cX8_home hn_cX8_home rfl rfl
theorem dX8_home_96 : decode cX8_home 96 = .ok (.putfield 261, 3) := qr_o181 1 5 hN_cX8_home hn_cX8_home rfl rfl rfl rfl
theorem dX8_home_99 : decode cX8_home 99 = .ok (.aload_n 0, 1) := qr_o42 hN_cX8_home hn_cX8_home rfl rfl
theorem dX8_home_100 : decode cX8_home 100 = .ok (.getfield 19, 3) := qr_o180 0 19 hN_cX8_home hn_cX8_home rfl rfl rfl rfl
theorem dX8_home_103 : decode cX8_home 103 = .ok (.aload 4, 2) := qr_o25 4 hN_cX8_home hn_cX8_home rfl rfl rfl
theorem dX8_home_105 : decode cX8_home 105 = .ok (.invokevirtual 264, 3) := qr_o182 1 8 hN_cX8_home hn_cX8_home rfl rfl rfl rfl
theorem dX8_home_108 : decode cX8_home 108 = .ok (.aload 4, 2) := qr_o25 4 hN_cX8_home hn_cX8_home rfl rfl rfl
theorem dX8_home_110 : decode cX8_home 110 = .ok (.getfield 250, 3) := qr_o180 0 250 hN_cX8_home hn_cX8_home rfl rfl rfl rfl
theorem dX8_home_113 : decode cX8_home 113 = .ok (.isub, 1) := qr_o100 hN_cX8_home hn_cX8_home rfl rfl
theorem dX8_home_114 : decode cX8_home 114 = .ok (.ireturn, 1) := qr_o172 hN_cX8_home hn_cX8_home rfl rfl
def nN_cX8_about : Nat := 0xac0801b62d1300b42aac0e01b62d1300b42aac0b01b62d1300b42aacfa00b42dacff00b42d330000002a000000250000002000000003000000000000003c000000000000aa1cac0205009f05ff00b42d0d00a1051c100099ac00b62d0a00a1041cac0205009a2700b807031c0c00c62d4e9c00b61b1300b42a
theorem hN_cX8_about : qr_n cX8_about.data.toList = nN_cX8_about := by decide +kernel
theorem hn_cX8_about : cX8_about.size = 121 := by decide +kernel
theorem dX8_about_0 : decode cX8_about 0 = .ok (.aload_n 0, 1) := qr_o42 hN_cX8_about hn_cX8_about rfl rfl
theorem dX8_about_1 : decode cX8_about 1 = .ok (.getfield 19, 3) := qr_o180 0 19 hN_cX8_about hn_cX8_about rfl rfl rfl rfl
theorem dX8_about_4 : decode cX8_about 4 = .ok (.iload_n 1, 1) := qr_o27 hN_cX8_about hn_cX8_about rfl rfl
theorem dX8_about_5 : decode cX8_about 5 = .ok (.invokevirtual 156, 3) := qr_o182 0 156 hN_cX8_about hn_cX8_about rfl rfl rfl rfl
theorem dX8_about_8 : decode cX8_about 8 = .ok (.astore_n 3, 1) := qr_o78 hN_cX8_about hn_cX8_about rfl rfl
theorem dX8_about_9 : decode cX8_about 9 = .ok (.aload_n 3, 1) := qr_o45 hN_cX8_about hn_cX8_about rfl rfl
theorem dX8_about_10 : decode cX8_about 10 = .ok (.ifnull 12, 3) := qr_o198 0 12 rfl hN_cX8_about hn_cX8_about rfl rfl rfl rfl
theorem dX8_about_13 : decode cX8_about 13 = .ok (.iload_n 2, 1) := qr_o28 hN_cX8_about hn_cX8_about rfl rfl
theorem dX8_about_14 : decode cX8_about 14 = .ok (.iconst 0, 1) := qr_o3 hN_cX8_about hn_cX8_about rfl rfl
theorem dX8_about_15 : decode cX8_about 15 = .ok (.iconst 4, 1) := qr_o7 hN_cX8_about hn_cX8_about rfl rfl
theorem dX8_about_16 : decode cX8_about 16 = .ok (.invokestatic 39, 3) := qr_o184 0 39 hN_cX8_about hn_cX8_about rfl rfl rfl rfl
theorem dX8_about_19 : decode cX8_about 19 = .ok (.ifCond .ne 5, 3) := qr_o154 0 5 rfl hN_cX8_about hn_cX8_about rfl rfl rfl rfl
theorem dX8_about_22 : decode cX8_about 22 = .ok (.iconst (-1), 1) := qr_o2 hN_cX8_about hn_cX8_about rfl rfl
theorem dX8_about_23 : decode cX8_about 23 = .ok (.ireturn, 1) := qr_o172 hN_cX8_about hn_cX8_about rfl rfl
theorem dX8_about_24 : decode cX8_about 24 = .ok (.iload_n 2, 1) := qr_o28 hN_cX8_about hn_cX8_about rfl rfl
theorem dX8_about_25 : decode cX8_about 25 = .ok (.iconst 1, 1) := qr_o4 hN_cX8_about hn_cX8_about rfl rfl
theorem dX8_about_26 : decode cX8_about 26 = .ok (.if_icmp .lt 10, 3) := qr_o161 0 10 rfl hN_cX8_about hn_cX8_about rfl rfl rfl rfl
theorem dX8_about_29 : decode cX8_about 29 = .ok (.aload_n 3, 1) := qr_o45 hN_cX8_about hn_cX8_about rfl rfl
theorem dX8_about_30 : decode cX8_about 30 = .ok (.invokevirtual 172, 3) := qr_o182 0 172 hN_cX8_about hn_cX8_about rfl rfl rfl rfl
theorem dX8_about_33 : decode cX8_about 33 = .ok (.ifCond .eq 16, 3) := qr_o153 0 16 rfl hN_cX8_about hn_cX8_about rfl rfl rfl rfl
theorem dX8_about_36 : decode cX8_about 36 = .ok (.iload_n 2, 1) := qr_o28 hN_cX8_about hn_cX8_about rfl rfl
theorem dX8_about_37 : decode cX8_about 37 = .ok (.iconst 2, 1) := qr_o5 hN_cX8_about hn_cX8_about rfl rfl
theorem dX8_about_38 : decode cX8_about 38 = .ok (.if_icmp .lt 13, 3) := qr_o161 0 13 rfl hN_cX8_about hn_cX8_about rfl rfl rfl rfl
theorem dX8_about_41 : decode cX8_about 41 = .ok (.aload_n 3, 1) := qr_o45 hN_cX8_about hn_cX8_about rfl rfl
theorem dX8_about_42 : decode cX8_about 42 = .ok (.getfield 255, 3) := qr_o180 0 255 hN_cX8_about hn_cX8_about rfl rfl rfl rfl
theorem dX8_about_45 : decode cX8_about 45 = .ok (.iconst 2, 1) := qr_o5 hN_cX8_about hn_cX8_about rfl rfl
theorem dX8_about_46 : decode cX8_about 46 = .ok (.if_icmp .eq 5, 3) := qr_o159 0 5 rfl hN_cX8_about hn_cX8_about rfl rfl rfl rfl
theorem dX8_about_49 : decode cX8_about 49 = .ok (.iconst (-1), 1) := qr_o2 hN_cX8_about hn_cX8_about rfl rfl
theorem dX8_about_50 : decode cX8_about 50 = .ok (.ireturn, 1) := qr_o172 hN_cX8_about hn_cX8_about rfl rfl
theorem dX8_about_51 : decode cX8_about 51 = .ok (.iload_n 2, 1) := qr_o28 hN_cX8_about hn_cX8_about rfl rfl
theorem dX8_about_52 : decode cX8_about 52 = .ok (.tableswitch 60 0 3 #[32, 37, 42, 51], 32) := by decide +kernel
theorem dX8_about_84 : decode cX8_about 84 = .ok (.aload_n 3, 1) := qr_o45 hN_cX8_about hn_cX8_about rfl rfl
theorem dX8_about_85 : decode cX8_about 85 = .ok (.getfield 255, 3) := qr_o180 0 255 hN_cX8_about hn_cX8_about rfl rfl rfl rfl
theorem dX8_about_88 : decode cX8_about 88 = .ok (.ireturn, 1) := qr_o172 hN_cX8_about hn_cX8_about rfl rfl
theorem dX8_about_89 : decode cX8_about 89 = .ok (.aload_n 3, 1) := qr_o45 hN_cX8_about hn_cX8_about rfl rfl
theorem dX8_about_90 : decode cX8_about 90 = .ok (.getfield 250, 3) := qr_o180 0 250 hN_cX8_about hn_cX8_about rfl rfl rfl rfl
theorem dX8_about_93 : decode cX8_about 93 = .ok (.ireturn, 1) := qr_o172 hN_cX8_about hn_cX8_about rfl rfl
theorem dX8_about_94 : decode cX8_about 94 = .ok (.aload_n 0, 1) := qr_o42 hN_cX8_about hn_cX8_about rfl rfl
theorem dX8_about_95 : decode cX8_about 95 = .ok (.getfield 19, 3) := qr_o180 0 19 hN_cX8_about hn_cX8_about rfl rfl rfl rfl
theorem dX8_about_98 : decode cX8_about 98 = .ok (.aload_n 3, 1) := qr_o45 hN_cX8_about hn_cX8_about rfl rfl
theorem dX8_about_99 : decode cX8_about 99 = .ok (.invokevirtual 267, 3) := qr_o182 1 11 hN_cX8_about hn_cX8_about rfl rfl rfl rfl
theorem dX8_about_102 : decode cX8_about 102 = .ok (.ireturn, 1) := qr_o172 hN_cX8_about hn_cX8_about rfl rfl
theorem dX8_about_103 : decode cX8_about 103 = .ok (.aload_n 0, 1) := qr_o42 hN_cX8_about hn_cX8_about rfl rfl
theorem dX8_about_104 : decode cX8_about 104 = .ok (.getfield 19, 3) := qr_o180 0 19 hN_cX8_about hn_cX8_about rfl rfl rfl rfl
theorem dX8_about_107 : decode cX8_about 107 = .ok (.aload_n 3, 1) := qr_o45 hN_cX8_about hn_cX8_about rfl rfl
theorem dX8_about_108 : decode cX8_about 108 = .ok (.invokevirtual 270, 3) := qr_o182 1 14 hN_cX8_about hn_cX8_about rfl rfl rfl rfl
theorem dX8_about_111 : decode cX8_about 111 = .ok (.ireturn, 1) := qr_o172 hN_cX8_about hn_cX8_about rfl rfl
theorem dX8_about_112 : decode cX8_about 112 = .ok (.aload_n 0, 1) := qr_o42 hN_cX8_about hn_cX8_about rfl rfl
theorem dX8_about_113 : decode cX8_about 113 = .ok (.getfield 19, 3) := qr_o180 0 19 hN_cX8_about hn_cX8_about rfl rfl rfl rfl
theorem dX8_about_116 : decode cX8_about 116 = .ok (.aload_n 3, 1) := qr_o45 hN_cX8_about hn_cX8_about rfl rfl
theorem dX8_about_117 : decode cX8_about 117 = .ok (.invokevirtual 264, 3) := qr_o182 1 8 hN_cX8_about hn_cX8_about rfl rfl rfl rfl
theorem dX8_about_120 : decode cX8_about 120 = .ok (.ireturn, 1) := qr_o172 hN_cX8_about hn_cX8_about rfl rfl
def nN_cX8_retire : Nat := 0xac1701b62c1401b5042cacfe100600991101b62cac020500c72c4d6000b61b1300b42a
theorem hN_cX8_retire : qr_n cX8_retire.data.toList = nN_cX8_retire := by decide +kernel
theorem hn_cX8_retire : cX8_retire.size = 35 := by decide +kernel
theorem dX8_retire_0 : decode cX8_retire 0 = .ok (.aload_n 0, 1) := qr_o42 hN_cX8_retire hn_cX8_retire rfl rfl
theorem dX8_retire_1 : decode cX8_retire 1 = .ok (.getfield 19, 3) := qr_o180 0 19 hN_cX8_retire hn_cX8_retire rfl rfl rfl rfl
theorem dX8_retire_4 : decode cX8_retire 4 = .ok (.iload_n 1, 1) := qr_o27 hN_cX8_retire hn_cX8_retire rfl rfl
theorem dX8_retire_5 : decode cX8_retire 5 = .ok (.invokevirtual 96, 3) := qr_o182 0 96 hN_cX8_retire hn_cX8_retire rfl rfl rfl rfl
theorem dX8_retire_8 : decode cX8_retire 8 = .ok (.astore_n 2, 1) := qr_o77 hN_cX8_retire hn_cX8_retire rfl rfl
theorem dX8_retire_9 : decode cX8_retire 9 = .ok (.aload_n 2, 1) := qr_o44 hN_cX8_retire hn_cX8_retire rfl rfl
theorem dX8_retire_10 : decode cX8_retire 10 = .ok (.ifnonnull 5, 3) := qr_o199 0 5 rfl hN_cX8_retire hn_cX8_retire rfl rfl rfl rfl
theorem dX8_retire_13 : decode cX8_retire 13 = .ok (.iconst (-1), 1) := qr_o2 hN_cX8_retire hn_cX8_retire rfl rfl
theorem dX8_retire_14 : decode cX8_retire 14 = .ok (.ireturn, 1) := qr_o172 hN_cX8_retire hn_cX8_retire rfl rfl
theorem dX8_retire_15 : decode cX8_retire 15 = .ok (.aload_n 2, 1) := qr_o44 hN_cX8_retire hn_cX8_retire rfl rfl
theorem dX8_retire_16 : decode cX8_retire 16 = .ok (.invokevirtual 273, 3) := qr_o182 1 17 hN_cX8_retire hn_cX8_retire rfl rfl rfl rfl
theorem dX8_retire_19 : decode cX8_retire 19 = .ok (.ifCond .eq 6, 3) := qr_o153 0 6 rfl hN_cX8_retire hn_cX8_retire rfl rfl rfl rfl
theorem dX8_retire_22 : decode cX8_retire 22 = .ok (.bipush (-2), 2) := qr_w16 254 2 rfl rfl hN_cX8_retire hn_cX8_retire rfl rfl rfl
theorem dX8_retire_24 : decode cX8_retire 24 = .ok (.ireturn, 1) := qr_o172 hN_cX8_retire hn_cX8_retire rfl rfl
theorem dX8_retire_25 : decode cX8_retire 25 = .ok (.aload_n 2, 1) := qr_o44 hN_cX8_retire hn_cX8_retire rfl rfl
theorem dX8_retire_26 : decode cX8_retire 26 = .ok (.iconst 1, 1) := qr_o4 hN_cX8_retire hn_cX8_retire rfl rfl
theorem dX8_retire_27 : decode cX8_retire 27 = .ok (.putfield 276, 3) := qr_o181 1 20 hN_cX8_retire hn_cX8_retire rfl rfl rfl rfl
theorem dX8_retire_30 : decode cX8_retire 30 = .ok (.aload_n 2, 1) := qr_o44 hN_cX8_retire hn_cX8_retire rfl rfl
theorem dX8_retire_31 : decode cX8_retire 31 = .ok (.invokevirtual 279, 3) := qr_o182 1 23 hN_cX8_retire hn_cX8_retire rfl rfl rfl rfl
theorem dX8_retire_34 : decode cX8_retire 34 = .ok (.ireturn, 1) := qr_o172 hN_cX8_retire hn_cX8_retire rfl rfl
def nN_cX8_count : Nat := 0xac02ac2001b61b1300b42aac9900b41300b42aac7700b47300b41300b42aac1d01b61b1300b42aac1a01b41300b42a3700000053000000530000004b0000004000000037000000370000002f00000007000000000000005c0000000000aa1b
theorem hN_cX8_count : qr_n cX8_count.data.toList = nN_cX8_count := by decide +kernel
theorem hn_cX8_count : cX8_count.size = 95 := by decide +kernel
theorem dX8_count_0 : decode cX8_count 0 = .ok (.iload_n 1, 1) := qr_o27 hN_cX8_count hn_cX8_count rfl rfl
theorem dX8_count_1 : decode cX8_count 1 = .ok (.tableswitch 92 0 7 #[47, 55, 55, 64, 75, 83, 83, 55], 47) := by decide +kernel
theorem dX8_count_48 : decode cX8_count 48 = .ok (.aload_n 0, 1) := qr_o42 hN_cX8_count hn_cX8_count rfl rfl
theorem dX8_count_49 : decode cX8_count 49 = .ok (.getfield 19, 3) := qr_o180 0 19 hN_cX8_count hn_cX8_count rfl rfl rfl rfl
theorem dX8_count_52 : decode cX8_count 52 = .ok (.getfield 282, 3) := qr_o180 1 26 hN_cX8_count hn_cX8_count rfl rfl rfl rfl
theorem dX8_count_55 : decode cX8_count 55 = .ok (.ireturn, 1) := qr_o172 hN_cX8_count hn_cX8_count rfl rfl
theorem dX8_count_56 : decode cX8_count 56 = .ok (.aload_n 0, 1) := qr_o42 hN_cX8_count hn_cX8_count rfl rfl
theorem dX8_count_57 : decode cX8_count 57 = .ok (.getfield 19, 3) := qr_o180 0 19 hN_cX8_count hn_cX8_count rfl rfl rfl rfl
theorem dX8_count_60 : decode cX8_count 60 = .ok (.iload_n 1, 1) := qr_o27 hN_cX8_count hn_cX8_count rfl rfl
theorem dX8_count_61 : decode cX8_count 61 = .ok (.invokevirtual 285, 3) := qr_o182 1 29 hN_cX8_count hn_cX8_count rfl rfl rfl rfl
theorem dX8_count_64 : decode cX8_count 64 = .ok (.ireturn, 1) := qr_o172 hN_cX8_count hn_cX8_count rfl rfl
theorem dX8_count_65 : decode cX8_count 65 = .ok (.aload_n 0, 1) := qr_o42 hN_cX8_count hn_cX8_count rfl rfl
theorem dX8_count_66 : decode cX8_count 66 = .ok (.getfield 19, 3) := qr_o180 0 19 hN_cX8_count hn_cX8_count rfl rfl rfl rfl
theorem dX8_count_69 : decode cX8_count 69 = .ok (.getfield 115, 3) := qr_o180 0 115 hN_cX8_count hn_cX8_count rfl rfl rfl rfl
theorem dX8_count_72 : decode cX8_count 72 = .ok (.getfield 119, 3) := qr_o180 0 119 hN_cX8_count hn_cX8_count rfl rfl rfl rfl
theorem dX8_count_75 : decode cX8_count 75 = .ok (.ireturn, 1) := qr_o172 hN_cX8_count hn_cX8_count rfl rfl
theorem dX8_count_76 : decode cX8_count 76 = .ok (.aload_n 0, 1) := qr_o42 hN_cX8_count hn_cX8_count rfl rfl
theorem dX8_count_77 : decode cX8_count 77 = .ok (.getfield 19, 3) := qr_o180 0 19 hN_cX8_count hn_cX8_count rfl rfl rfl rfl
theorem dX8_count_80 : decode cX8_count 80 = .ok (.getfield 153, 3) := qr_o180 0 153 hN_cX8_count hn_cX8_count rfl rfl rfl rfl
theorem dX8_count_83 : decode cX8_count 83 = .ok (.ireturn, 1) := qr_o172 hN_cX8_count hn_cX8_count rfl rfl
theorem dX8_count_84 : decode cX8_count 84 = .ok (.aload_n 0, 1) := qr_o42 hN_cX8_count hn_cX8_count rfl rfl
theorem dX8_count_85 : decode cX8_count 85 = .ok (.getfield 19, 3) := qr_o180 0 19 hN_cX8_count hn_cX8_count rfl rfl rfl rfl
theorem dX8_count_88 : decode cX8_count 88 = .ok (.iload_n 1, 1) := qr_o27 hN_cX8_count hn_cX8_count rfl rfl
theorem dX8_count_89 : decode cX8_count 89 = .ok (.invokevirtual 288, 3) := qr_o182 1 32 hN_cX8_count hn_cX8_count rfl rfl rfl rfl
theorem dX8_count_92 : decode cX8_count 92 = .ok (.ireturn, 1) := qr_o172 hN_cX8_count hn_cX8_count rfl rfl
theorem dX8_count_93 : decode cX8_count 93 = .ok (.iconst (-1), 1) := qr_o2 hN_cX8_count hn_cX8_count rfl rfl
theorem dX8_count_94 : decode cX8_count 94 = .ok (.ireturn, 1) := qr_o172 hN_cX8_count hn_cX8_count rfl rfl
def nN_cX8_sheet : Nat := 0xac1d2901b61d1c321b2300b42aacf21006009c1dac020500a424101d0900992601b81c1000992301b81b
theorem hN_cX8_sheet : qr_n cX8_sheet.data.toList = nN_cX8_sheet := by decide +kernel
theorem hn_cX8_sheet : cX8_sheet.size = 42 := by decide +kernel
theorem dX8_sheet_0 : decode cX8_sheet 0 = .ok (.iload_n 1, 1) := qr_o27 hN_cX8_sheet hn_cX8_sheet rfl rfl
theorem dX8_sheet_1 : decode cX8_sheet 1 = .ok (.invokestatic 291, 3) := qr_o184 1 35 hN_cX8_sheet hn_cX8_sheet rfl rfl rfl rfl
theorem dX8_sheet_4 : decode cX8_sheet 4 = .ok (.ifCond .eq 16, 3) := qr_o153 0 16 rfl hN_cX8_sheet hn_cX8_sheet rfl rfl rfl rfl
theorem dX8_sheet_7 : decode cX8_sheet 7 = .ok (.iload_n 2, 1) := qr_o28 hN_cX8_sheet hn_cX8_sheet rfl rfl
theorem dX8_sheet_8 : decode cX8_sheet 8 = .ok (.invokestatic 294, 3) := qr_o184 1 38 hN_cX8_sheet hn_cX8_sheet rfl rfl rfl rfl
theorem dX8_sheet_11 : decode cX8_sheet 11 = .ok (.ifCond .eq 9, 3) := qr_o153 0 9 rfl hN_cX8_sheet hn_cX8_sheet rfl rfl rfl rfl
theorem dX8_sheet_14 : decode cX8_sheet 14 = .ok (.iload_n 3, 1) := qr_o29 hN_cX8_sheet hn_cX8_sheet rfl rfl
theorem dX8_sheet_15 : decode cX8_sheet 15 = .ok (.bipush 36, 2) := qr_o16 36 rfl hN_cX8_sheet hn_cX8_sheet rfl rfl rfl
theorem dX8_sheet_17 : decode cX8_sheet 17 = .ok (.if_icmp .le 5, 3) := qr_o164 0 5 rfl hN_cX8_sheet hn_cX8_sheet rfl rfl rfl rfl
theorem dX8_sheet_20 : decode cX8_sheet 20 = .ok (.iconst (-1), 1) := qr_o2 hN_cX8_sheet hn_cX8_sheet rfl rfl
theorem dX8_sheet_21 : decode cX8_sheet 21 = .ok (.ireturn, 1) := qr_o172 hN_cX8_sheet hn_cX8_sheet rfl rfl
theorem dX8_sheet_22 : decode cX8_sheet 22 = .ok (.iload_n 3, 1) := qr_o29 hN_cX8_sheet hn_cX8_sheet rfl rfl
theorem dX8_sheet_23 : decode cX8_sheet 23 = .ok (.ifCond .ge 6, 3) := qr_o156 0 6 rfl hN_cX8_sheet hn_cX8_sheet rfl rfl rfl rfl
theorem dX8_sheet_26 : decode cX8_sheet 26 = .ok (.bipush (-14), 2) := qr_w16 242 14 rfl rfl hN_cX8_sheet hn_cX8_sheet rfl rfl rfl
theorem dX8_sheet_28 : decode cX8_sheet 28 = .ok (.ireturn, 1) := qr_o172 hN_cX8_sheet hn_cX8_sheet rfl rfl
theorem dX8_sheet_29 : decode cX8_sheet 29 = .ok (.aload_n 0, 1) := qr_o42 hN_cX8_sheet hn_cX8_sheet rfl rfl
theorem dX8_sheet_30 : decode cX8_sheet 30 = .ok (.getfield 35, 3) := qr_o180 0 35 hN_cX8_sheet hn_cX8_sheet rfl rfl rfl rfl
theorem dX8_sheet_33 : decode cX8_sheet 33 = .ok (.iload_n 1, 1) := qr_o27 hN_cX8_sheet hn_cX8_sheet rfl rfl
theorem dX8_sheet_34 : decode cX8_sheet 34 = .ok (.aaload, 1) := qr_o50 hN_cX8_sheet hn_cX8_sheet rfl rfl
theorem dX8_sheet_35 : decode cX8_sheet 35 = .ok (.iload_n 2, 1) := qr_o28 hN_cX8_sheet hn_cX8_sheet rfl rfl
theorem dX8_sheet_36 : decode cX8_sheet 36 = .ok (.iload_n 3, 1) := qr_o29 hN_cX8_sheet hn_cX8_sheet rfl rfl
theorem dX8_sheet_37 : decode cX8_sheet 37 = .ok (.invokevirtual 297, 3) := qr_o182 1 41 hN_cX8_sheet hn_cX8_sheet rfl rfl rfl rfl
theorem dX8_sheet_40 : decode cX8_sheet 40 = .ok (.iload_n 3, 1) := qr_o29 hN_cX8_sheet hn_cX8_sheet rfl rfl
theorem dX8_sheet_41 : decode cX8_sheet 41 = .ok (.ireturn, 1) := qr_o172 hN_cX8_sheet hn_cX8_sheet rfl rfl
def nN_cX8_drop : Nat := 0xac2f01b42c2c01b5032cacf51006009a2c01b42c4d321b2300b42aac0205009a2301b81b
theorem hN_cX8_drop : qr_n cX8_drop.data.toList = nN_cX8_drop := by decide +kernel
theorem hn_cX8_drop : cX8_drop.size = 36 := by decide +kernel
theorem dX8_drop_0 : decode cX8_drop 0 = .ok (.iload_n 1, 1) := qr_o27 hN_cX8_drop hn_cX8_drop rfl rfl
theorem dX8_drop_1 : decode cX8_drop 1 = .ok (.invokestatic 291, 3) := qr_o184 1 35 hN_cX8_drop hn_cX8_drop rfl rfl rfl rfl
theorem dX8_drop_4 : decode cX8_drop 4 = .ok (.ifCond .ne 5, 3) := qr_o154 0 5 rfl hN_cX8_drop hn_cX8_drop rfl rfl rfl rfl
theorem dX8_drop_7 : decode cX8_drop 7 = .ok (.iconst (-1), 1) := qr_o2 hN_cX8_drop hn_cX8_drop rfl rfl
theorem dX8_drop_8 : decode cX8_drop 8 = .ok (.ireturn, 1) := qr_o172 hN_cX8_drop hn_cX8_drop rfl rfl
theorem dX8_drop_9 : decode cX8_drop 9 = .ok (.aload_n 0, 1) := qr_o42 hN_cX8_drop hn_cX8_drop rfl rfl
theorem dX8_drop_10 : decode cX8_drop 10 = .ok (.getfield 35, 3) := qr_o180 0 35 hN_cX8_drop hn_cX8_drop rfl rfl rfl rfl
theorem dX8_drop_13 : decode cX8_drop 13 = .ok (.iload_n 1, 1) := qr_o27 hN_cX8_drop hn_cX8_drop rfl rfl
theorem dX8_drop_14 : decode cX8_drop 14 = .ok (.aaload, 1) := qr_o50 hN_cX8_drop hn_cX8_drop rfl rfl
theorem dX8_drop_15 : decode cX8_drop 15 = .ok (.astore_n 2, 1) := qr_o77 hN_cX8_drop hn_cX8_drop rfl rfl
theorem dX8_drop_16 : decode cX8_drop 16 = .ok (.aload_n 2, 1) := qr_o44 hN_cX8_drop hn_cX8_drop rfl rfl
theorem dX8_drop_17 : decode cX8_drop 17 = .ok (.getfield 300, 3) := qr_o180 1 44 hN_cX8_drop hn_cX8_drop rfl rfl rfl rfl
theorem dX8_drop_20 : decode cX8_drop 20 = .ok (.ifCond .ne 6, 3) := qr_o154 0 6 rfl hN_cX8_drop hn_cX8_drop rfl rfl rfl rfl
theorem dX8_drop_23 : decode cX8_drop 23 = .ok (.bipush (-11), 2) := qr_w16 245 11 rfl rfl hN_cX8_drop hn_cX8_drop rfl rfl rfl
theorem dX8_drop_25 : decode cX8_drop 25 = .ok (.ireturn, 1) := qr_o172 hN_cX8_drop hn_cX8_drop rfl rfl
theorem dX8_drop_26 : decode cX8_drop 26 = .ok (.aload_n 2, 1) := qr_o44 hN_cX8_drop hn_cX8_drop rfl rfl
theorem dX8_drop_27 : decode cX8_drop 27 = .ok (.iconst 0, 1) := qr_o3 hN_cX8_drop hn_cX8_drop rfl rfl
theorem dX8_drop_28 : decode cX8_drop 28 = .ok (.putfield 300, 3) := qr_o181 1 44 hN_cX8_drop hn_cX8_drop rfl rfl rfl rfl
theorem dX8_drop_31 : decode cX8_drop 31 = .ok (.aload_n 2, 1) := qr_o44 hN_cX8_drop hn_cX8_drop rfl rfl
theorem dX8_drop_32 : decode cX8_drop 32 = .ok (.getfield 303, 3) := qr_o180 1 47 hN_cX8_drop hn_cX8_drop rfl rfl rfl rfl
theorem dX8_drop_35 : decode cX8_drop 35 = .ok (.ireturn, 1) := qr_o172 hN_cX8_drop hn_cX8_drop rfl rfl
def nN_cX8_item : Nat := 0xac043701b604151d0519acf31006009a3301b6041d0519ac0615060099061506363001b61c0519053a321b2300b42aac0205009a2601b81c0a00992301b81b
theorem hN_cX8_item : qr_n cX8_item.data.toList = nN_cX8_item := by decide +kernel
theorem hn_cX8_item : cX8_item.size = 63 := by decide +kernel
theorem dX8_item_0 : decode cX8_item 0 = .ok (.iload_n 1, 1) := qr_o27 hN_cX8_item hn_cX8_item rfl rfl
theorem dX8_item_1 : decode cX8_item 1 = .ok (.invokestatic 291, 3) := qr_o184 1 35 hN_cX8_item hn_cX8_item rfl rfl rfl rfl
theorem dX8_item_4 : decode cX8_item 4 = .ok (.ifCond .eq 10, 3) := qr_o153 0 10 rfl hN_cX8_item hn_cX8_item rfl rfl rfl rfl
theorem dX8_item_7 : decode cX8_item 7 = .ok (.iload_n 2, 1) := qr_o28 hN_cX8_item hn_cX8_item rfl rfl
theorem dX8_item_8 : decode cX8_item 8 = .ok (.invokestatic 294, 3) := qr_o184 1 38 hN_cX8_item hn_cX8_item rfl rfl rfl rfl
theorem dX8_item_11 : decode cX8_item 11 = .ok (.ifCond .ne 5, 3) := qr_o154 0 5 rfl hN_cX8_item hn_cX8_item rfl rfl rfl rfl
theorem dX8_item_14 : decode cX8_item 14 = .ok (.iconst (-1), 1) := qr_o2 hN_cX8_item hn_cX8_item rfl rfl
theorem dX8_item_15 : decode cX8_item 15 = .ok (.ireturn, 1) := qr_o172 hN_cX8_item hn_cX8_item rfl rfl
theorem dX8_item_16 : decode cX8_item 16 = .ok (.aload_n 0, 1) := qr_o42 hN_cX8_item hn_cX8_item rfl rfl
theorem dX8_item_17 : decode cX8_item 17 = .ok (.getfield 35, 3) := qr_o180 0 35 hN_cX8_item hn_cX8_item rfl rfl rfl rfl
theorem dX8_item_20 : decode cX8_item 20 = .ok (.iload_n 1, 1) := qr_o27 hN_cX8_item hn_cX8_item rfl rfl
theorem dX8_item_21 : decode cX8_item 21 = .ok (.aaload, 1) := qr_o50 hN_cX8_item hn_cX8_item rfl rfl
theorem dX8_item_22 : decode cX8_item 22 = .ok (.astore 5, 2) := qr_o58 5 hN_cX8_item hn_cX8_item rfl rfl rfl
theorem dX8_item_24 : decode cX8_item 24 = .ok (.aload 5, 2) := qr_o25 5 hN_cX8_item hn_cX8_item rfl rfl rfl
theorem dX8_item_26 : decode cX8_item 26 = .ok (.iload_n 2, 1) := qr_o28 hN_cX8_item hn_cX8_item rfl rfl
theorem dX8_item_27 : decode cX8_item 27 = .ok (.invokevirtual 304, 3) := qr_o182 1 48 hN_cX8_item hn_cX8_item rfl rfl rfl rfl
theorem dX8_item_30 : decode cX8_item 30 = .ok (.istore 6, 2) := qr_o54 6 hN_cX8_item hn_cX8_item rfl rfl rfl
theorem dX8_item_32 : decode cX8_item 32 = .ok (.iload 6, 2) := qr_o21 6 hN_cX8_item hn_cX8_item rfl rfl rfl
theorem dX8_item_34 : decode cX8_item 34 = .ok (.ifCond .eq 6, 3) := qr_o153 0 6 rfl hN_cX8_item hn_cX8_item rfl rfl rfl rfl
theorem dX8_item_37 : decode cX8_item 37 = .ok (.iload 6, 2) := qr_o21 6 hN_cX8_item hn_cX8_item rfl rfl rfl
theorem dX8_item_39 : decode cX8_item 39 = .ok (.ireturn, 1) := qr_o172 hN_cX8_item hn_cX8_item rfl rfl
theorem dX8_item_40 : decode cX8_item 40 = .ok (.aload 5, 2) := qr_o25 5 hN_cX8_item hn_cX8_item rfl rfl rfl
theorem dX8_item_42 : decode cX8_item 42 = .ok (.iload_n 3, 1) := qr_o29 hN_cX8_item hn_cX8_item rfl rfl
theorem dX8_item_43 : decode cX8_item 43 = .ok (.iconst 1, 1) := qr_o4 hN_cX8_item hn_cX8_item rfl rfl
theorem dX8_item_44 : decode cX8_item 44 = .ok (.invokevirtual 307, 3) := qr_o182 1 51 hN_cX8_item hn_cX8_item rfl rfl rfl rfl
theorem dX8_item_47 : decode cX8_item 47 = .ok (.ifCond .ne 6, 3) := qr_o154 0 6 rfl hN_cX8_item hn_cX8_item rfl rfl rfl rfl
theorem dX8_item_50 : decode cX8_item 50 = .ok (.bipush (-13), 2) := qr_w16 243 13 rfl rfl hN_cX8_item hn_cX8_item rfl rfl rfl
theorem dX8_item_52 : decode cX8_item 52 = .ok (.ireturn, 1) := qr_o172 hN_cX8_item hn_cX8_item rfl rfl
theorem dX8_item_53 : decode cX8_item 53 = .ok (.aload 5, 2) := qr_o25 5 hN_cX8_item hn_cX8_item rfl rfl rfl
theorem dX8_item_55 : decode cX8_item 55 = .ok (.iload_n 3, 1) := qr_o29 hN_cX8_item hn_cX8_item rfl rfl
theorem dX8_item_56 : decode cX8_item 56 = .ok (.iload 4, 2) := qr_o21 4 hN_cX8_item hn_cX8_item rfl rfl rfl
theorem dX8_item_58 : decode cX8_item 58 = .ok (.invokevirtual 311, 3) := qr_o182 1 55 hN_cX8_item hn_cX8_item rfl rfl rfl rfl
theorem dX8_item_61 : decode cX8_item 61 = .ok (.iconst 1, 1) := qr_o4 hN_cX8_item hn_cX8_item rfl rfl
theorem dX8_item_62 : decode cX8_item 62 = .ok (.ireturn, 1) := qr_o172 hN_cX8_item hn_cX8_item rfl rfl
def nN_cX8_books : Nat := 0xac9900b41300b42ae9ffa70107843e01b66068061007151d05192a1600a204150715073603acfd1006009a9200b604151300b42ae4ffa7010784acfe1006009a3a01b86068061007151d05191b00a204150715073603acf31006009a3301b668061004151d0519ac0615060099061506363001b61c0519053a321b2300b42aac0205009a2700b806100304150e00992601b81c1500992301b81b
theorem hN_cX8_books : qr_n cX8_books.data.toList = nN_cX8_books := by decide +kernel
theorem hn_cX8_books : cX8_books.size = 154 := by decide +kernel
theorem dX8_books_0 : decode cX8_books 0 = .ok (.iload_n 1, 1) := qr_o27 hN_cX8_books hn_cX8_books rfl rfl
theorem dX8_books_1 : decode cX8_books 1 = .ok (.invokestatic 291, 3) := qr_o184 1 35 hN_cX8_books hn_cX8_books rfl rfl rfl rfl
theorem dX8_books_4 : decode cX8_books 4 = .ok (.ifCond .eq 21, 3) := qr_o153 0 21 rfl hN_cX8_books hn_cX8_books rfl rfl rfl rfl
theorem dX8_books_7 : decode cX8_books 7 = .ok (.iload_n 2, 1) := qr_o28 hN_cX8_books hn_cX8_books rfl rfl
theorem dX8_books_8 : decode cX8_books 8 = .ok (.invokestatic 294, 3) := qr_o184 1 38 hN_cX8_books hn_cX8_books rfl rfl rfl rfl
theorem dX8_books_11 : decode cX8_books 11 = .ok (.ifCond .eq 14, 3) := qr_o153 0 14 rfl hN_cX8_books hn_cX8_books rfl rfl rfl rfl
theorem dX8_books_14 : decode cX8_books 14 = .ok (.iload 4, 2) := qr_o21 4 hN_cX8_books hn_cX8_books rfl rfl rfl
theorem dX8_books_16 : decode cX8_books 16 = .ok (.iconst 0, 1) := qr_o3 hN_cX8_books hn_cX8_books rfl rfl
theorem dX8_books_17 : decode cX8_books 17 = .ok (.bipush 6, 2) := qr_o16 6 rfl hN_cX8_books hn_cX8_books rfl rfl rfl
theorem dX8_books_19 : decode cX8_books 19 = .ok (.invokestatic 39, 3) := qr_o184 0 39 hN_cX8_books hn_cX8_books rfl rfl rfl rfl
theorem dX8_books_22 : decode cX8_books 22 = .ok (.ifCond .ne 5, 3) := qr_o154 0 5 rfl hN_cX8_books hn_cX8_books rfl rfl rfl rfl
theorem dX8_books_25 : decode cX8_books 25 = .ok (.iconst (-1), 1) := qr_o2 hN_cX8_books hn_cX8_books rfl rfl
theorem dX8_books_26 : decode cX8_books 26 = .ok (.ireturn, 1) := qr_o172 hN_cX8_books hn_cX8_books rfl rfl
theorem dX8_books_27 : decode cX8_books 27 = .ok (.aload_n 0, 1) := qr_o42 hN_cX8_books hn_cX8_books rfl rfl
theorem dX8_books_28 : decode cX8_books 28 = .ok (.getfield 35, 3) := qr_o180 0 35 hN_cX8_books hn_cX8_books rfl rfl rfl rfl
theorem dX8_books_31 : decode cX8_books 31 = .ok (.iload_n 1, 1) := qr_o27 hN_cX8_books hn_cX8_books rfl rfl
theorem dX8_books_32 : decode cX8_books 32 = .ok (.aaload, 1) := qr_o50 hN_cX8_books hn_cX8_books rfl rfl
theorem dX8_books_33 : decode cX8_books 33 = .ok (.astore 5, 2) := qr_o58 5 hN_cX8_books hn_cX8_books rfl rfl rfl
theorem dX8_books_35 : decode cX8_books 35 = .ok (.aload 5, 2) := qr_o25 5 hN_cX8_books hn_cX8_books rfl rfl rfl
theorem dX8_books_37 : decode cX8_books 37 = .ok (.iload_n 2, 1) := qr_o28 hN_cX8_books hn_cX8_books rfl rfl
theorem dX8_books_38 : decode cX8_books 38 = .ok (.invokevirtual 304, 3) := qr_o182 1 48 hN_cX8_books hn_cX8_books rfl rfl rfl rfl
theorem dX8_books_41 : decode cX8_books 41 = .ok (.istore 6, 2) := qr_o54 6 hN_cX8_books hn_cX8_books rfl rfl rfl
theorem dX8_books_43 : decode cX8_books 43 = .ok (.iload 6, 2) := qr_o21 6 hN_cX8_books hn_cX8_books rfl rfl rfl
theorem dX8_books_45 : decode cX8_books 45 = .ok (.ifCond .eq 6, 3) := qr_o153 0 6 rfl hN_cX8_books hn_cX8_books rfl rfl rfl rfl
theorem dX8_books_48 : decode cX8_books 48 = .ok (.iload 6, 2) := qr_o21 6 hN_cX8_books hn_cX8_books rfl rfl rfl
theorem dX8_books_50 : decode cX8_books 50 = .ok (.ireturn, 1) := qr_o172 hN_cX8_books hn_cX8_books rfl rfl
theorem dX8_books_51 : decode cX8_books 51 = .ok (.aload 5, 2) := qr_o25 5 hN_cX8_books hn_cX8_books rfl rfl rfl
theorem dX8_books_53 : decode cX8_books 53 = .ok (.iload_n 3, 1) := qr_o29 hN_cX8_books hn_cX8_books rfl rfl
theorem dX8_books_54 : decode cX8_books 54 = .ok (.iload 4, 2) := qr_o21 4 hN_cX8_books hn_cX8_books rfl rfl rfl
theorem dX8_books_56 : decode cX8_books 56 = .ok (.bipush 6, 2) := qr_o16 6 rfl hN_cX8_books hn_cX8_books rfl rfl rfl
theorem dX8_books_58 : decode cX8_books 58 = .ok (.imul, 1) := qr_o104 hN_cX8_books hn_cX8_books rfl rfl
theorem dX8_books_59 : decode cX8_books 59 = .ok (.invokevirtual 307, 3) := qr_o182 1 51 hN_cX8_books hn_cX8_books rfl rfl rfl rfl
theorem dX8_books_62 : decode cX8_books 62 = .ok (.ifCond .ne 6, 3) := qr_o154 0 6 rfl hN_cX8_books hn_cX8_books rfl rfl rfl rfl
theorem dX8_books_65 : decode cX8_books 65 = .ok (.bipush (-13), 2) := qr_w16 243 13 rfl rfl hN_cX8_books hn_cX8_books rfl rfl rfl
theorem dX8_books_67 : decode cX8_books 67 = .ok (.ireturn, 1) := qr_o172 hN_cX8_books hn_cX8_books rfl rfl
theorem dX8_books_68 : decode cX8_books 68 = .ok (.iconst 0, 1) := qr_o3 hN_cX8_books hn_cX8_books rfl rfl
theorem dX8_books_69 : decode cX8_books 69 = .ok (.istore 7, 2) := qr_o54 7 hN_cX8_books hn_cX8_books rfl rfl rfl
theorem dX8_books_71 : decode cX8_books 71 = .ok (.iload 7, 2) := qr_o21 7 hN_cX8_books hn_cX8_books rfl rfl rfl
theorem dX8_books_73 : decode cX8_books 73 = .ok (.iload 4, 2) := qr_o21 4 hN_cX8_books hn_cX8_books rfl rfl rfl
theorem dX8_books_75 : decode cX8_books 75 = .ok (.if_icmp .ge 27, 3) := qr_o162 0 27 rfl hN_cX8_books hn_cX8_books rfl rfl rfl rfl
theorem dX8_books_78 : decode cX8_books 78 = .ok (.aload 5, 2) := qr_o25 5 hN_cX8_books hn_cX8_books rfl rfl rfl
theorem dX8_books_80 : decode cX8_books 80 = .ok (.iload_n 3, 1) := qr_o29 hN_cX8_books hn_cX8_books rfl rfl
theorem dX8_books_81 : decode cX8_books 81 = .ok (.iload 7, 2) := qr_o21 7 hN_cX8_books hn_cX8_books rfl rfl rfl
theorem dX8_books_83 : decode cX8_books 83 = .ok (.bipush 6, 2) := qr_o16 6 rfl hN_cX8_books hn_cX8_books rfl rfl rfl
theorem dX8_books_85 : decode cX8_books 85 = .ok (.imul, 1) := qr_o104 hN_cX8_books hn_cX8_books rfl rfl
theorem dX8_books_86 : decode cX8_books 86 = .ok (.iadd, 1) := qr_o96 hN_cX8_books hn_cX8_books rfl rfl
theorem dX8_books_87 : decode cX8_books 87 = .ok (.invokestatic 314, 3) := qr_o184 1 58 hN_cX8_books hn_cX8_books rfl rfl rfl rfl
theorem dX8_books_90 : decode cX8_books 90 = .ok (.ifCond .ne 6, 3) := qr_o154 0 6 rfl hN_cX8_books hn_cX8_books rfl rfl rfl rfl
theorem dX8_books_93 : decode cX8_books 93 = .ok (.bipush (-2), 2) := qr_w16 254 2 rfl rfl hN_cX8_books hn_cX8_books rfl rfl rfl
theorem dX8_books_95 : decode cX8_books 95 = .ok (.ireturn, 1) := qr_o172 hN_cX8_books hn_cX8_books rfl rfl
theorem dX8_books_96 : decode cX8_books 96 = .ok (.iinc 7 1, 3) := qr_o132 7 1 rfl hN_cX8_books hn_cX8_books rfl rfl rfl rfl
theorem dX8_books_99 : decode cX8_books 99 = .ok (.goto (-28), 3) := qr_w167 255 228 28 rfl rfl hN_cX8_books hn_cX8_books rfl rfl rfl rfl
theorem dX8_books_102 : decode cX8_books 102 = .ok (.aload_n 0, 1) := qr_o42 hN_cX8_books hn_cX8_books rfl rfl
theorem dX8_books_103 : decode cX8_books 103 = .ok (.getfield 19, 3) := qr_o180 0 19 hN_cX8_books hn_cX8_books rfl rfl rfl rfl
theorem dX8_books_106 : decode cX8_books 106 = .ok (.iload 4, 2) := qr_o21 4 hN_cX8_books hn_cX8_books rfl rfl rfl
theorem dX8_books_108 : decode cX8_books 108 = .ok (.invokevirtual 146, 3) := qr_o182 0 146 hN_cX8_books hn_cX8_books rfl rfl rfl rfl
theorem dX8_books_111 : decode cX8_books 111 = .ok (.ifCond .ne 6, 3) := qr_o154 0 6 rfl hN_cX8_books hn_cX8_books rfl rfl rfl rfl
theorem dX8_books_114 : decode cX8_books 114 = .ok (.bipush (-3), 2) := qr_w16 253 3 rfl rfl hN_cX8_books hn_cX8_books rfl rfl rfl
theorem dX8_books_116 : decode cX8_books 116 = .ok (.ireturn, 1) := qr_o172 hN_cX8_books hn_cX8_books rfl rfl
theorem dX8_books_117 : decode cX8_books 117 = .ok (.iconst 0, 1) := qr_o3 hN_cX8_books hn_cX8_books rfl rfl
theorem dX8_books_118 : decode cX8_books 118 = .ok (.istore 7, 2) := qr_o54 7 hN_cX8_books hn_cX8_books rfl rfl rfl
theorem dX8_books_120 : decode cX8_books 120 = .ok (.iload 7, 2) := qr_o21 7 hN_cX8_books hn_cX8_books rfl rfl rfl
theorem dX8_books_122 : decode cX8_books 122 = .ok (.iload 4, 2) := qr_o21 4 hN_cX8_books hn_cX8_books rfl rfl rfl
theorem dX8_books_124 : decode cX8_books 124 = .ok (.if_icmp .ge 22, 3) := qr_o162 0 22 rfl hN_cX8_books hn_cX8_books rfl rfl rfl rfl
theorem dX8_books_127 : decode cX8_books 127 = .ok (.aload_n 0, 1) := qr_o42 hN_cX8_books hn_cX8_books rfl rfl
theorem dX8_books_128 : decode cX8_books 128 = .ok (.aload 5, 2) := qr_o25 5 hN_cX8_books hn_cX8_books rfl rfl rfl
theorem dX8_books_130 : decode cX8_books 130 = .ok (.iload_n 3, 1) := qr_o29 hN_cX8_books hn_cX8_books rfl rfl
theorem dX8_books_131 : decode cX8_books 131 = .ok (.iload 7, 2) := qr_o21 7 hN_cX8_books hn_cX8_books rfl rfl rfl
theorem dX8_books_133 : decode cX8_books 133 = .ok (.bipush 6, 2) := qr_o16 6 rfl hN_cX8_books hn_cX8_books rfl rfl rfl
theorem dX8_books_135 : decode cX8_books 135 = .ok (.imul, 1) := qr_o104 hN_cX8_books hn_cX8_books rfl rfl
theorem dX8_books_136 : decode cX8_books 136 = .ok (.iadd, 1) := qr_o96 hN_cX8_books hn_cX8_books rfl rfl
theorem dX8_books_137 : decode cX8_books 137 = .ok (.invokevirtual 318, 3) := qr_o182 1 62 hN_cX8_books hn_cX8_books rfl rfl rfl rfl
theorem dX8_books_140 : decode cX8_books 140 = .ok (.iinc 7 1, 3) := qr_o132 7 1 rfl hN_cX8_books hn_cX8_books rfl rfl rfl rfl
theorem dX8_books_143 : decode cX8_books 143 = .ok (.goto (-23), 3) := qr_w167 255 233 23 rfl rfl hN_cX8_books hn_cX8_books rfl rfl rfl rfl
theorem dX8_books_146 : decode cX8_books 146 = .ok (.aload_n 0, 1) := qr_o42 hN_cX8_books hn_cX8_books rfl rfl
theorem dX8_books_147 : decode cX8_books 147 = .ok (.getfield 19, 3) := qr_o180 0 19 hN_cX8_books hn_cX8_books rfl rfl rfl rfl
theorem dX8_books_150 : decode cX8_books 150 = .ok (.getfield 153, 3) := qr_o180 0 153 hN_cX8_books hn_cX8_books rfl rfl rfl rfl
theorem dX8_books_153 : decode cX8_books 153 = .ok (.ireturn, 1) := qr_o172 hN_cX8_books hn_cX8_books rfl rfl
def nN_cX8_isIn : Nat := 0xac030400a7040700a31c1a0c00a11b1a
theorem hN_cX8_isIn : qr_n cX8_isIn.data.toList = nN_cX8_isIn := by decide +kernel
theorem hn_cX8_isIn : cX8_isIn.size = 16 := by decide +kernel
theorem dX8_isIn_0 : decode cX8_isIn 0 = .ok (.iload_n 0, 1) := qr_o26 hN_cX8_isIn hn_cX8_isIn rfl rfl
theorem dX8_isIn_1 : decode cX8_isIn 1 = .ok (.iload_n 1, 1) := qr_o27 hN_cX8_isIn hn_cX8_isIn rfl rfl
theorem dX8_isIn_2 : decode cX8_isIn 2 = .ok (.if_icmp .lt 12, 3) := qr_o161 0 12 rfl hN_cX8_isIn hn_cX8_isIn rfl rfl rfl rfl
theorem dX8_isIn_5 : decode cX8_isIn 5 = .ok (.iload_n 0, 1) := qr_o26 hN_cX8_isIn hn_cX8_isIn rfl rfl
theorem dX8_isIn_6 : decode cX8_isIn 6 = .ok (.iload_n 2, 1) := qr_o28 hN_cX8_isIn hn_cX8_isIn rfl rfl
theorem dX8_isIn_7 : decode cX8_isIn 7 = .ok (.if_icmp .gt 7, 3) := qr_o163 0 7 rfl hN_cX8_isIn hn_cX8_isIn rfl rfl rfl rfl
theorem dX8_isIn_10 : decode cX8_isIn 10 = .ok (.iconst 1, 1) := qr_o4 hN_cX8_isIn hn_cX8_isIn rfl rfl
theorem dX8_isIn_11 : decode cX8_isIn 11 = .ok (.goto 4, 3) := qr_o167 0 4 rfl hN_cX8_isIn hn_cX8_isIn rfl rfl rfl rfl
theorem dX8_isIn_14 : decode cX8_isIn 14 = .ok (.iconst 0, 1) := qr_o3 hN_cX8_isIn hn_cX8_isIn rfl rfl
theorem dX8_isIn_15 : decode cX8_isIn 15 = .ok (.ireturn, 1) := qr_o172 hN_cX8_isIn hn_cX8_isIn rfl rfl
def nN_cX8_isTown : Nat := 0xac2700b80810031a
theorem hN_cX8_isTown : qr_n cX8_isTown.data.toList = nN_cX8_isTown := by decide +kernel
theorem hn_cX8_isTown : cX8_isTown.size = 8 := by decide +kernel
theorem dX8_isTown_0 : decode cX8_isTown 0 = .ok (.iload_n 0, 1) := qr_o26 hN_cX8_isTown hn_cX8_isTown rfl rfl
theorem dX8_isTown_1 : decode cX8_isTown 1 = .ok (.iconst 0, 1) := qr_o3 hN_cX8_isTown hn_cX8_isTown rfl rfl
theorem dX8_isTown_2 : decode cX8_isTown 2 = .ok (.bipush 8, 2) := qr_o16 8 rfl hN_cX8_isTown hn_cX8_isTown rfl rfl rfl
theorem dX8_isTown_4 : decode cX8_isTown 4 = .ok (.invokestatic 39, 3) := qr_o184 0 39 hN_cX8_isTown hn_cX8_isTown rfl rfl rfl rfl
theorem dX8_isTown_7 : decode cX8_isTown 7 = .ok (.ireturn, 1) := qr_o172 hN_cX8_isTown hn_cX8_isTown rfl rfl
def nN_cX8_isMaker : Nat := 0xac2700b808031a
theorem hN_cX8_isMaker : qr_n cX8_isMaker.data.toList = nN_cX8_isMaker := by decide +kernel
theorem hn_cX8_isMaker : cX8_isMaker.size = 7 := by decide +kernel
theorem dX8_isMaker_0 : decode cX8_isMaker 0 = .ok (.iload_n 0, 1) := qr_o26 hN_cX8_isMaker hn_cX8_isMaker rfl rfl
theorem dX8_isMaker_1 : decode cX8_isMaker 1 = .ok (.iconst 0, 1) := qr_o3 hN_cX8_isMaker hn_cX8_isMaker rfl rfl
theorem dX8_isMaker_2 : decode cX8_isMaker 2 = .ok (.iconst 5, 1) := qr_o8 hN_cX8_isMaker hn_cX8_isMaker rfl rfl
theorem dX8_isMaker_3 : decode cX8_isMaker 3 = .ok (.invokestatic 39, 3) := qr_o184 0 39 hN_cX8_isMaker hn_cX8_isMaker rfl rfl rfl rfl
theorem dX8_isMaker_6 : decode cX8_isMaker 6 = .ok (.ireturn, 1) := qr_o172 hN_cX8_isMaker hn_cX8_isMaker rfl rfl
def nN_cX8_isLabel : Nat := 0xac2700b82810041a
theorem hN_cX8_isLabel : qr_n cX8_isLabel.data.toList = nN_cX8_isLabel := by decide +kernel
theorem hn_cX8_isLabel : cX8_isLabel.size = 8 := by decide +kernel
theorem dX8_isLabel_0 : decode cX8_isLabel 0 = .ok (.iload_n 0, 1) := qr_o26 hN_cX8_isLabel hn_cX8_isLabel rfl rfl
theorem dX8_isLabel_1 : decode cX8_isLabel 1 = .ok (.iconst 1, 1) := qr_o4 hN_cX8_isLabel hn_cX8_isLabel rfl rfl
theorem dX8_isLabel_2 : decode cX8_isLabel 2 = .ok (.bipush 40, 2) := qr_o16 40 rfl hN_cX8_isLabel hn_cX8_isLabel rfl rfl rfl
theorem dX8_isLabel_4 : decode cX8_isLabel 4 = .ok (.invokestatic 39, 3) := qr_o184 0 39 hN_cX8_isLabel hn_cX8_isLabel rfl rfl rfl rfl
theorem dX8_isLabel_7 : decode cX8_isLabel 7 = .ok (.ireturn, 1) := qr_o172 hN_cX8_isLabel hn_cX8_isLabel rfl rfl
def nN_cX8_isDay : Nat := 0xac2700b88f0111031a
theorem hN_cX8_isDay : qr_n cX8_isDay.data.toList = nN_cX8_isDay := by decide +kernel
theorem hn_cX8_isDay : cX8_isDay.size = 9 := by decide +kernel
theorem dX8_isDay_0 : decode cX8_isDay 0 = .ok (.iload_n 0, 1) := qr_o26 hN_cX8_isDay hn_cX8_isDay rfl rfl
theorem dX8_isDay_1 : decode cX8_isDay 1 = .ok (.iconst 0, 1) := qr_o3 hN_cX8_isDay hn_cX8_isDay rfl rfl
theorem dX8_isDay_2 : decode cX8_isDay 2 = .ok (.sipush 399, 3) := qr_o17 1 143 rfl hN_cX8_isDay hn_cX8_isDay rfl rfl rfl rfl
theorem dX8_isDay_5 : decode cX8_isDay 5 = .ok (.invokestatic 39, 3) := qr_o184 0 39 hN_cX8_isDay hn_cX8_isDay rfl rfl rfl rfl
theorem dX8_isDay_8 : decode cX8_isDay 8 = .ok (.ireturn, 1) := qr_o172 hN_cX8_isDay hn_cX8_isDay rfl rfl
def nN_cX8_isSheet : Nat := 0xac2700b806031a
theorem hN_cX8_isSheet : qr_n cX8_isSheet.data.toList = nN_cX8_isSheet := by decide +kernel
theorem hn_cX8_isSheet : cX8_isSheet.size = 7 := by decide +kernel
theorem dX8_isSheet_0 : decode cX8_isSheet 0 = .ok (.iload_n 0, 1) := qr_o26 hN_cX8_isSheet hn_cX8_isSheet rfl rfl
theorem dX8_isSheet_1 : decode cX8_isSheet 1 = .ok (.iconst 0, 1) := qr_o3 hN_cX8_isSheet hn_cX8_isSheet rfl rfl
theorem dX8_isSheet_2 : decode cX8_isSheet 2 = .ok (.iconst 3, 1) := qr_o6 hN_cX8_isSheet hn_cX8_isSheet rfl rfl
theorem dX8_isSheet_3 : decode cX8_isSheet 3 = .ok (.invokestatic 39, 3) := qr_o184 0 39 hN_cX8_isSheet hn_cX8_isSheet rfl rfl rfl rfl
theorem dX8_isSheet_6 : decode cX8_isSheet 6 = .ok (.ireturn, 1) := qr_o172 hN_cX8_isSheet hn_cX8_isSheet rfl rfl
def nN_cX8_isLane : Nat := 0xac2700b805031a
theorem hN_cX8_isLane : qr_n cX8_isLane.data.toList = nN_cX8_isLane := by decide +kernel
theorem hn_cX8_isLane : cX8_isLane.size = 7 := by decide +kernel
theorem dX8_isLane_0 : decode cX8_isLane 0 = .ok (.iload_n 0, 1) := qr_o26 hN_cX8_isLane hn_cX8_isLane rfl rfl
