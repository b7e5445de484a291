theorem dX9_isSheet_21 : decode cX9_isSheet 21 = .ok (.ifCond .eq 7, 3) := qr_o153 0 7 rfl hN_cX9_isSheet hn_cX9_isSheet rfl rfl rfl rfl
theorem dX9_isSheet_24 : decode cX9_isSheet 24 = .ok (.iconst 1, 1) := qr_o4 hN_cX9_isSheet hn_cX9_isSheet rfl rfl
theorem dX9_isSheet_25 : decode cX9_isSheet 25 = .ok (.goto 4, 3) := qr_o167 0 4 rfl hN_cX9_isSheet hn_cX9_isSheet rfl rfl rfl rfl
theorem dX9_isSheet_28 : decode cX9_isSheet 28 = .ok (.iconst 0, 1) := qr_o3 hN_cX9_isSheet hn_cX9_isSheet rfl rfl
theorem dX9_isSheet_29 : decode cX9_isSheet 29 = .ok (.ireturn, 1) := qr_o172 hN_cX9_isSheet hn_cX9_isSheet rfl rfl
def nN_cX9_sheet : Nat := 0xac1de9ffa70104844f03600415681b24108f00b42a1600a2241004150436034f1d1b8c00b42a4f1c1b8900b42aacf21006009c1dac020500a424101d0900994b01b81c1b
theorem hN_cX9_sheet : qr_n cX9_sheet.data.toList = nN_cX9_sheet := by decide +kernel
theorem hn_cX9_sheet : cX9_sheet.size = 68 := by decide +kernel
theorem dX9_sheet_0 : decode cX9_sheet 0 = .ok (.iload_n 1, 1) := qr_o27 hN_cX9_sheet hn_cX9_sheet rfl rfl
theorem dX9_sheet_1 : decode cX9_sheet 1 = .ok (.iload_n 2, 1) := qr_o28 hN_cX9_sheet hn_cX9_sheet rfl rfl
theorem dX9_sheet_2 : decode cX9_sheet 2 = .ok (.invokestatic 331, 3) := qr_o184 1 75 hN_cX9_sheet hn_cX9_sheet rfl rfl rfl rfl
theorem dX9_sheet_5 : decode cX9_sheet 5 = .ok (.ifCond .eq 9, 3) := qr_o153 0 9 rfl hN_cX9_sheet hn_cX9_sheet rfl rfl rfl rfl
theorem dX9_sheet_8 : decode cX9_sheet 8 = .ok (.iload_n 3, 1) := qr_o29 hN_cX9_sheet hn_cX9_sheet rfl rfl
theorem dX9_sheet_9 : decode cX9_sheet 9 = .ok (.bipush 36, 2) := qr_o16 36 rfl hN_cX9_sheet hn_cX9_sheet rfl rfl rfl
theorem dX9_sheet_11 : decode cX9_sheet 11 = .ok (.if_icmp .le 5, 3) := qr_o164 0 5 rfl hN_cX9_sheet hn_cX9_sheet rfl rfl rfl rfl
theorem dX9_sheet_14 : decode cX9_sheet 14 = .ok (.iconst (-1), 1) := qr_o2 hN_cX9_sheet hn_cX9_sheet rfl rfl
theorem dX9_sheet_15 : decode cX9_sheet 15 = .ok (.ireturn, 1) := qr_o172 hN_cX9_sheet hn_cX9_sheet rfl rfl
theorem dX9_sheet_16 : decode cX9_sheet 16 = .ok (.iload_n 3, 1) := qr_o29 hN_cX9_sheet hn_cX9_sheet rfl rfl
theorem dX9_sheet_17 : decode cX9_sheet 17 = .ok (.ifCond .ge 6, 3) := qr_o156 0 6 rfl hN_cX9_sheet hn_cX9_sheet rfl rfl rfl rfl
theorem dX9_sheet_20 : decode cX9_sheet 20 = .ok (.bipush (-14), 2) := qr_w16 242 14 rfl rfl hN_cX9_sheet hn_cX9_sheet rfl rfl rfl
theorem dX9_sheet_22 : decode cX9_sheet 22 = .ok (.ireturn, 1) := qr_o172 hN_cX9_sheet hn_cX9_sheet rfl rfl
theorem dX9_sheet_23 : decode cX9_sheet 23 = .ok (.aload_n 0, 1) := qr_o42 hN_cX9_sheet hn_cX9_sheet rfl rfl
theorem dX9_sheet_24 : decode cX9_sheet 24 = .ok (.getfield 137, 3) := qr_o180 0 137 hN_cX9_sheet hn_cX9_sheet rfl rfl rfl rfl
theorem dX9_sheet_27 : decode cX9_sheet 27 = .ok (.iload_n 1, 1) := qr_o27 hN_cX9_sheet hn_cX9_sheet rfl rfl
theorem dX9_sheet_28 : decode cX9_sheet 28 = .ok (.iload_n 2, 1) := qr_o28 hN_cX9_sheet hn_cX9_sheet rfl rfl
theorem dX9_sheet_29 : decode cX9_sheet 29 = .ok (.iastore, 1) := qr_o79 hN_cX9_sheet hn_cX9_sheet rfl rfl
theorem dX9_sheet_30 : decode cX9_sheet 30 = .ok (.aload_n 0, 1) := qr_o42 hN_cX9_sheet hn_cX9_sheet rfl rfl
theorem dX9_sheet_31 : decode cX9_sheet 31 = .ok (.getfield 140, 3) := qr_o180 0 140 hN_cX9_sheet hn_cX9_sheet rfl rfl rfl rfl
theorem dX9_sheet_34 : decode cX9_sheet 34 = .ok (.iload_n 1, 1) := qr_o27 hN_cX9_sheet hn_cX9_sheet rfl rfl
theorem dX9_sheet_35 : decode cX9_sheet 35 = .ok (.iload_n 3, 1) := qr_o29 hN_cX9_sheet hn_cX9_sheet rfl rfl
theorem dX9_sheet_36 : decode cX9_sheet 36 = .ok (.iastore, 1) := qr_o79 hN_cX9_sheet hn_cX9_sheet rfl rfl
theorem dX9_sheet_37 : decode cX9_sheet 37 = .ok (.iconst 0, 1) := qr_o3 hN_cX9_sheet hn_cX9_sheet rfl rfl
theorem dX9_sheet_38 : decode cX9_sheet 38 = .ok (.istore 4, 2) := qr_o54 4 hN_cX9_sheet hn_cX9_sheet rfl rfl rfl
theorem dX9_sheet_40 : decode cX9_sheet 40 = .ok (.iload 4, 2) := qr_o21 4 hN_cX9_sheet hn_cX9_sheet rfl rfl rfl
theorem dX9_sheet_42 : decode cX9_sheet 42 = .ok (.bipush 36, 2) := qr_o16 36 rfl hN_cX9_sheet hn_cX9_sheet rfl rfl rfl
theorem dX9_sheet_44 : decode cX9_sheet 44 = .ok (.if_icmp .ge 22, 3) := qr_o162 0 22 rfl hN_cX9_sheet hn_cX9_sheet rfl rfl rfl rfl
theorem dX9_sheet_47 : decode cX9_sheet 47 = .ok (.aload_n 0, 1) := qr_o42 hN_cX9_sheet hn_cX9_sheet rfl rfl
theorem dX9_sheet_48 : decode cX9_sheet 48 = .ok (.getfield 143, 3) := qr_o180 0 143 hN_cX9_sheet hn_cX9_sheet rfl rfl rfl rfl
theorem dX9_sheet_51 : decode cX9_sheet 51 = .ok (.bipush 36, 2) := qr_o16 36 rfl hN_cX9_sheet hn_cX9_sheet rfl rfl rfl
theorem dX9_sheet_53 : decode cX9_sheet 53 = .ok (.iload_n 1, 1) := qr_o27 hN_cX9_sheet hn_cX9_sheet rfl rfl
theorem dX9_sheet_54 : decode cX9_sheet 54 = .ok (.imul, 1) := qr_o104 hN_cX9_sheet hn_cX9_sheet rfl rfl
theorem dX9_sheet_55 : decode cX9_sheet 55 = .ok (.iload 4, 2) := qr_o21 4 hN_cX9_sheet hn_cX9_sheet rfl rfl rfl
theorem dX9_sheet_57 : decode cX9_sheet 57 = .ok (.iadd, 1) := qr_o96 hN_cX9_sheet hn_cX9_sheet rfl rfl
theorem dX9_sheet_58 : decode cX9_sheet 58 = .ok (.iconst 0, 1) := qr_o3 hN_cX9_sheet hn_cX9_sheet rfl rfl
theorem dX9_sheet_59 : decode cX9_sheet 59 = .ok (.iastore, 1) := qr_o79 hN_cX9_sheet hn_cX9_sheet rfl rfl
theorem dX9_sheet_60 : decode cX9_sheet 60 = .ok (.iinc 4 1, 3) := qr_o132 4 1 rfl hN_cX9_sheet hn_cX9_sheet rfl rfl rfl rfl
theorem dX9_sheet_63 : decode cX9_sheet 63 = .ok (.goto (-23), 3) := qr_w167 255 233 23 rfl rfl hN_cX9_sheet hn_cX9_sheet rfl rfl rfl rfl
theorem dX9_sheet_66 : decode cX9_sheet 66 = .ok (.iload_n 3, 1) := qr_o29 hN_cX9_sheet hn_cX9_sheet rfl rfl
theorem dX9_sheet_67 : decode cX9_sheet 67 = .ok (.ireturn, 1) := qr_o172 hN_cX9_sheet hn_cX9_sheet rfl rfl
def nN_cX9_drop : Nat := 0xac2e1b8c00b42a4f021b8900b42aacf51006009c2e1b8900b42aac0205009a9400b8d5001409851b
theorem hN_cX9_drop : qr_n cX9_drop.data.toList = nN_cX9_drop := by decide +kernel
theorem hn_cX9_drop : cX9_drop.size = 40 := by decide +kernel
theorem dX9_drop_0 : decode cX9_drop 0 = .ok (.iload_n 1, 1) := qr_o27 hN_cX9_drop hn_cX9_drop rfl rfl
theorem dX9_drop_1 : decode cX9_drop 1 = .ok (.i2l, 1) := qr_o133 hN_cX9_drop hn_cX9_drop rfl rfl
theorem dX9_drop_2 : decode cX9_drop 2 = .ok (.lconst 0, 1) := qr_o9 hN_cX9_drop hn_cX9_drop rfl rfl
theorem dX9_drop_3 : decode cX9_drop 3 = .ok (.ldc2_w 213, 3) := qr_o20 0 213 hN_cX9_drop hn_cX9_drop rfl rfl rfl rfl
theorem dX9_drop_6 : decode cX9_drop 6 = .ok (.invokestatic 148, 3) := qr_o184 0 148 hN_cX9_drop hn_cX9_drop rfl rfl rfl rfl
theorem dX9_drop_9 : decode cX9_drop 9 = .ok (.ifCond .ne 5, 3) := qr_o154 0 5 rfl hN_cX9_drop hn_cX9_drop rfl rfl rfl rfl
theorem dX9_drop_12 : decode cX9_drop 12 = .ok (.iconst (-1), 1) := qr_o2 hN_cX9_drop hn_cX9_drop rfl rfl
theorem dX9_drop_13 : decode cX9_drop 13 = .ok (.ireturn, 1) := qr_o172 hN_cX9_drop hn_cX9_drop rfl rfl
theorem dX9_drop_14 : decode cX9_drop 14 = .ok (.aload_n 0, 1) := qr_o42 hN_cX9_drop hn_cX9_drop rfl rfl
theorem dX9_drop_15 : decode cX9_drop 15 = .ok (.getfield 137, 3) := qr_o180 0 137 hN_cX9_drop hn_cX9_drop rfl rfl rfl rfl
theorem dX9_drop_18 : decode cX9_drop 18 = .ok (.iload_n 1, 1) := qr_o27 hN_cX9_drop hn_cX9_drop rfl rfl
theorem dX9_drop_19 : decode cX9_drop 19 = .ok (.iaload, 1) := qr_o46 hN_cX9_drop hn_cX9_drop rfl rfl
theorem dX9_drop_20 : decode cX9_drop 20 = .ok (.ifCond .ge 6, 3) := qr_o156 0 6 rfl hN_cX9_drop hn_cX9_drop rfl rfl rfl rfl
theorem dX9_drop_23 : decode cX9_drop 23 = .ok (.bipush (-11), 2) := qr_w16 245 11 rfl rfl hN_cX9_drop hn_cX9_drop rfl rfl rfl
theorem dX9_drop_25 : decode cX9_drop 25 = .ok (.ireturn, 1) := qr_o172 hN_cX9_drop hn_cX9_drop rfl rfl
theorem dX9_drop_26 : decode cX9_drop 26 = .ok (.aload_n 0, 1) := qr_o42 hN_cX9_drop hn_cX9_drop rfl rfl
theorem dX9_drop_27 : decode cX9_drop 27 = .ok (.getfield 137, 3) := qr_o180 0 137 hN_cX9_drop hn_cX9_drop rfl rfl rfl rfl
theorem dX9_drop_30 : decode cX9_drop 30 = .ok (.iload_n 1, 1) := qr_o27 hN_cX9_drop hn_cX9_drop rfl rfl
theorem dX9_drop_31 : decode cX9_drop 31 = .ok (.iconst (-1), 1) := qr_o2 hN_cX9_drop hn_cX9_drop rfl rfl
theorem dX9_drop_32 : decode cX9_drop 32 = .ok (.iastore, 1) := qr_o79 hN_cX9_drop hn_cX9_drop rfl rfl
theorem dX9_drop_33 : decode cX9_drop 33 = .ok (.aload_n 0, 1) := qr_o42 hN_cX9_drop hn_cX9_drop rfl rfl
theorem dX9_drop_34 : decode cX9_drop 34 = .ok (.getfield 140, 3) := qr_o180 0 140 hN_cX9_drop hn_cX9_drop rfl rfl rfl rfl
theorem dX9_drop_37 : decode cX9_drop 37 = .ok (.iload_n 1, 1) := qr_o27 hN_cX9_drop hn_cX9_drop rfl rfl
theorem dX9_drop_38 : decode cX9_drop 38 = .ok (.iaload, 1) := qr_o46 hN_cX9_drop hn_cX9_drop rfl rfl
theorem dX9_drop_39 : decode cX9_drop 39 = .ok (.ireturn, 1) := qr_o172 hN_cX9_drop hn_cX9_drop rfl rfl
def nN_cX9_against : Nat := 0xacf3100500a7030700999400b8856404152e1b8c00b42a09851dacf4100500a7f51008009c2e1b8900b42a14009f1c2e1b8900b42a
theorem hN_cX9_against : qr_n cX9_against.data.toList = nN_cX9_against := by decide +kernel
theorem hn_cX9_against : cX9_against.size = 53 := by decide +kernel
theorem dX9_against_0 : decode cX9_against 0 = .ok (.aload_n 0, 1) := qr_o42 hN_cX9_against hn_cX9_against rfl rfl
theorem dX9_against_1 : decode cX9_against 1 = .ok (.getfield 137, 3) := qr_o180 0 137 hN_cX9_against hn_cX9_against rfl rfl rfl rfl
theorem dX9_against_4 : decode cX9_against 4 = .ok (.iload_n 1, 1) := qr_o27 hN_cX9_against hn_cX9_against rfl rfl
theorem dX9_against_5 : decode cX9_against 5 = .ok (.iaload, 1) := qr_o46 hN_cX9_against hn_cX9_against rfl rfl
theorem dX9_against_6 : decode cX9_against 6 = .ok (.iload_n 2, 1) := qr_o28 hN_cX9_against hn_cX9_against rfl rfl
theorem dX9_against_7 : decode cX9_against 7 = .ok (.if_icmp .eq 20, 3) := qr_o159 0 20 rfl hN_cX9_against hn_cX9_against rfl rfl rfl rfl
theorem dX9_against_10 : decode cX9_against 10 = .ok (.aload_n 0, 1) := qr_o42 hN_cX9_against hn_cX9_against rfl rfl
theorem dX9_against_11 : decode cX9_against 11 = .ok (.getfield 137, 3) := qr_o180 0 137 hN_cX9_against hn_cX9_against rfl rfl rfl rfl
theorem dX9_against_14 : decode cX9_against 14 = .ok (.iload_n 1, 1) := qr_o27 hN_cX9_against hn_cX9_against rfl rfl
theorem dX9_against_15 : decode cX9_against 15 = .ok (.iaload, 1) := qr_o46 hN_cX9_against hn_cX9_against rfl rfl
theorem dX9_against_16 : decode cX9_against 16 = .ok (.ifCond .ge 8, 3) := qr_o156 0 8 rfl hN_cX9_against hn_cX9_against rfl rfl rfl rfl
theorem dX9_against_19 : decode cX9_against 19 = .ok (.bipush (-11), 2) := qr_w16 245 11 rfl rfl hN_cX9_against hn_cX9_against rfl rfl rfl
theorem dX9_against_21 : decode cX9_against 21 = .ok (.goto 5, 3) := qr_o167 0 5 rfl hN_cX9_against hn_cX9_against rfl rfl rfl rfl
theorem dX9_against_24 : decode cX9_against 24 = .ok (.bipush (-12), 2) := qr_w16 244 12 rfl rfl hN_cX9_against hn_cX9_against rfl rfl rfl
theorem dX9_against_26 : decode cX9_against 26 = .ok (.ireturn, 1) := qr_o172 hN_cX9_against hn_cX9_against rfl rfl
theorem dX9_against_27 : decode cX9_against 27 = .ok (.iload_n 3, 1) := qr_o29 hN_cX9_against hn_cX9_against rfl rfl
theorem dX9_against_28 : decode cX9_against 28 = .ok (.i2l, 1) := qr_o133 hN_cX9_against hn_cX9_against rfl rfl
theorem dX9_against_29 : decode cX9_against 29 = .ok (.lconst 0, 1) := qr_o9 hN_cX9_against hn_cX9_against rfl rfl
theorem dX9_against_30 : decode cX9_against 30 = .ok (.aload_n 0, 1) := qr_o42 hN_cX9_against hn_cX9_against rfl rfl
theorem dX9_against_31 : decode cX9_against 31 = .ok (.getfield 140, 3) := qr_o180 0 140 hN_cX9_against hn_cX9_against rfl rfl rfl rfl
theorem dX9_against_34 : decode cX9_against 34 = .ok (.iload_n 1, 1) := qr_o27 hN_cX9_against hn_cX9_against rfl rfl
theorem dX9_against_35 : decode cX9_against 35 = .ok (.iaload, 1) := qr_o46 hN_cX9_against hn_cX9_against rfl rfl
theorem dX9_against_36 : decode cX9_against 36 = .ok (.iload 4, 2) := qr_o21 4 hN_cX9_against hn_cX9_against rfl rfl rfl
theorem dX9_against_38 : decode cX9_against 38 = .ok (.isub, 1) := qr_o100 hN_cX9_against hn_cX9_against rfl rfl
theorem dX9_against_39 : decode cX9_against 39 = .ok (.i2l, 1) := qr_o133 hN_cX9_against hn_cX9_against rfl rfl
theorem dX9_against_40 : decode cX9_against 40 = .ok (.invokestatic 148, 3) := qr_o184 0 148 hN_cX9_against hn_cX9_against rfl rfl rfl rfl
theorem dX9_against_43 : decode cX9_against 43 = .ok (.ifCond .eq 7, 3) := qr_o153 0 7 rfl hN_cX9_against hn_cX9_against rfl rfl rfl rfl
theorem dX9_against_46 : decode cX9_against 46 = .ok (.iconst 0, 1) := qr_o3 hN_cX9_against hn_cX9_against rfl rfl
theorem dX9_against_47 : decode cX9_against 47 = .ok (.goto 5, 3) := qr_o167 0 5 rfl hN_cX9_against hn_cX9_against rfl rfl rfl rfl
theorem dX9_against_50 : decode cX9_against 50 = .ok (.bipush (-13), 2) := qr_w16 243 13 rfl rfl hN_cX9_against hn_cX9_against rfl rfl rfl
theorem dX9_against_52 : decode cX9_against 52 = .ok (.ireturn, 1) := qr_o172 hN_cX9_against hn_cX9_against rfl rfl
def nN_cX9_item : Nat := 0xac044f04150500a77a101078101004150e00a0041c1500a77a181078181004150e009a1c601d681b24108f00b42aac051506009c051505364e01b6041d1c1b2aac0205009a4b01b81c1b
theorem hN_cX9_item : qr_n cX9_item.data.toList = nN_cX9_item := by decide +kernel
theorem hn_cX9_item : cX9_item.size = 74 := by decide +kernel
theorem dX9_item_0 : decode cX9_item 0 = .ok (.iload_n 1, 1) := qr_o27 hN_cX9_item hn_cX9_item rfl rfl
theorem dX9_item_1 : decode cX9_item 1 = .ok (.iload_n 2, 1) := qr_o28 hN_cX9_item hn_cX9_item rfl rfl
theorem dX9_item_2 : decode cX9_item 2 = .ok (.invokestatic 331, 3) := qr_o184 1 75 hN_cX9_item hn_cX9_item rfl rfl rfl rfl
theorem dX9_item_5 : decode cX9_item 5 = .ok (.ifCond .ne 5, 3) := qr_o154 0 5 rfl hN_cX9_item hn_cX9_item rfl rfl rfl rfl
theorem dX9_item_8 : decode cX9_item 8 = .ok (.iconst (-1), 1) := qr_o2 hN_cX9_item hn_cX9_item rfl rfl
theorem dX9_item_9 : decode cX9_item 9 = .ok (.ireturn, 1) := qr_o172 hN_cX9_item hn_cX9_item rfl rfl
theorem dX9_item_10 : decode cX9_item 10 = .ok (.aload_n 0, 1) := qr_o42 hN_cX9_item hn_cX9_item rfl rfl
theorem dX9_item_11 : decode cX9_item 11 = .ok (.iload_n 1, 1) := qr_o27 hN_cX9_item hn_cX9_item rfl rfl
theorem dX9_item_12 : decode cX9_item 12 = .ok (.iload_n 2, 1) := qr_o28 hN_cX9_item hn_cX9_item rfl rfl
theorem dX9_item_13 : decode cX9_item 13 = .ok (.iload_n 3, 1) := qr_o29 hN_cX9_item hn_cX9_item rfl rfl
theorem dX9_item_14 : decode cX9_item 14 = .ok (.iconst 1, 1) := qr_o4 hN_cX9_item hn_cX9_item rfl rfl
theorem dX9_item_15 : decode cX9_item 15 = .ok (.invokevirtual 334, 3) := qr_o182 1 78 hN_cX9_item hn_cX9_item rfl rfl rfl rfl
theorem dX9_item_18 : decode cX9_item 18 = .ok (.istore 5, 2) := qr_o54 5 hN_cX9_item hn_cX9_item rfl rfl rfl
theorem dX9_item_20 : decode cX9_item 20 = .ok (.iload 5, 2) := qr_o21 5 hN_cX9_item hn_cX9_item rfl rfl rfl
theorem dX9_item_22 : decode cX9_item 22 = .ok (.ifCond .ge 6, 3) := qr_o156 0 6 rfl hN_cX9_item hn_cX9_item rfl rfl rfl rfl
theorem dX9_item_25 : decode cX9_item 25 = .ok (.iload 5, 2) := qr_o21 5 hN_cX9_item hn_cX9_item rfl rfl rfl
theorem dX9_item_27 : decode cX9_item 27 = .ok (.ireturn, 1) := qr_o172 hN_cX9_item hn_cX9_item rfl rfl
theorem dX9_item_28 : decode cX9_item 28 = .ok (.aload_n 0, 1) := qr_o42 hN_cX9_item hn_cX9_item rfl rfl
theorem dX9_item_29 : decode cX9_item 29 = .ok (.getfield 143, 3) := qr_o180 0 143 hN_cX9_item hn_cX9_item rfl rfl rfl rfl
theorem dX9_item_32 : decode cX9_item 32 = .ok (.bipush 36, 2) := qr_o16 36 rfl hN_cX9_item hn_cX9_item rfl rfl rfl
theorem dX9_item_34 : decode cX9_item 34 = .ok (.iload_n 1, 1) := qr_o27 hN_cX9_item hn_cX9_item rfl rfl
theorem dX9_item_35 : decode cX9_item 35 = .ok (.imul, 1) := qr_o104 hN_cX9_item hn_cX9_item rfl rfl
theorem dX9_item_36 : decode cX9_item 36 = .ok (.iload_n 3, 1) := qr_o29 hN_cX9_item hn_cX9_item rfl rfl
theorem dX9_item_37 : decode cX9_item 37 = .ok (.iadd, 1) := qr_o96 hN_cX9_item hn_cX9_item rfl rfl
theorem dX9_item_38 : decode cX9_item 38 = .ok (.iload_n 2, 1) := qr_o28 hN_cX9_item hn_cX9_item rfl rfl
theorem dX9_item_39 : decode cX9_item 39 = .ok (.ifCond .ne 14, 3) := qr_o154 0 14 rfl hN_cX9_item hn_cX9_item rfl rfl rfl rfl
theorem dX9_item_42 : decode cX9_item 42 = .ok (.iload 4, 2) := qr_o21 4 hN_cX9_item hn_cX9_item rfl rfl rfl
theorem dX9_item_44 : decode cX9_item 44 = .ok (.bipush 24, 2) := qr_o16 24 rfl hN_cX9_item hn_cX9_item rfl rfl rfl
theorem dX9_item_46 : decode cX9_item 46 = .ok (.ishl, 1) := qr_o120 hN_cX9_item hn_cX9_item rfl rfl
theorem dX9_item_47 : decode cX9_item 47 = .ok (.bipush 24, 2) := qr_o16 24 rfl hN_cX9_item hn_cX9_item rfl rfl rfl
theorem dX9_item_49 : decode cX9_item 49 = .ok (.ishr, 1) := qr_o122 hN_cX9_item hn_cX9_item rfl rfl
theorem dX9_item_50 : decode cX9_item 50 = .ok (.goto 21, 3) := qr_o167 0 21 rfl hN_cX9_item hn_cX9_item rfl rfl rfl rfl
theorem dX9_item_53 : decode cX9_item 53 = .ok (.iload_n 2, 1) := qr_o28 hN_cX9_item hn_cX9_item rfl rfl
theorem dX9_item_54 : decode cX9_item 54 = .ok (.iconst 1, 1) := qr_o4 hN_cX9_item hn_cX9_item rfl rfl
theorem dX9_item_55 : decode cX9_item 55 = .ok (.if_icmp .ne 14, 3) := qr_o160 0 14 rfl hN_cX9_item hn_cX9_item rfl rfl rfl rfl
theorem dX9_item_58 : decode cX9_item 58 = .ok (.iload 4, 2) := qr_o21 4 hN_cX9_item hn_cX9_item rfl rfl rfl
theorem dX9_item_60 : decode cX9_item 60 = .ok (.bipush 16, 2) := qr_o16 16 rfl hN_cX9_item hn_cX9_item rfl rfl rfl
theorem dX9_item_62 : decode cX9_item 62 = .ok (.ishl, 1) := qr_o120 hN_cX9_item hn_cX9_item rfl rfl
theorem dX9_item_63 : decode cX9_item 63 = .ok (.bipush 16, 2) := qr_o16 16 rfl hN_cX9_item hn_cX9_item rfl rfl rfl
theorem dX9_item_65 : decode cX9_item 65 = .ok (.ishr, 1) := qr_o122 hN_cX9_item hn_cX9_item rfl rfl
theorem dX9_item_66 : decode cX9_item 66 = .ok (.goto 5, 3) := qr_o167 0 5 rfl hN_cX9_item hn_cX9_item rfl rfl rfl rfl
theorem dX9_item_69 : decode cX9_item 69 = .ok (.iload 4, 2) := qr_o21 4 hN_cX9_item hn_cX9_item rfl rfl rfl
theorem dX9_item_71 : decode cX9_item 71 = .ok (.iastore, 1) := qr_o79 hN_cX9_item hn_cX9_item rfl rfl
theorem dX9_item_72 : decode cX9_item 72 = .ok (.iconst 1, 1) := qr_o4 hN_cX9_item hn_cX9_item rfl rfl
theorem dX9_item_73 : decode cX9_item 73 = .ok (.ireturn, 1) := qr_o172 hN_cX9_item hn_cX9_item rfl rfl
def nN_cX9_books : Nat := 0xac0101b42ab8ffa70607840801b62e600807158f00b42a2e600707158f00b42a2e600607158f00b42a2e600507158f00b42a2e600407158f00b42a2e07158f00b42a2a4100a26068041506100615071507360615acfd100600a41e106004150101b42ab3ffa7060784acfe1006009a0401b82e600807158f00b42a2e600707158f00b42a2e600607158f00b42a2e600507158f00b42a2e600407158f00b42a2e07158f00b42a4600a260680415061006150715073606150636601d681b2410ac051506009c051505364e01b668041506101d1c1b2aac0205009a9400b8520114098504151000994b01b81c1b
theorem hN_cX9_books : qr_n cX9_books.data.toList = nN_cX9_books := by decide +kernel
theorem hn_cX9_books : cX9_books.size = 236 := by decide +kernel
theorem dX9_books_0 : decode cX9_books 0 = .ok (.iload_n 1, 1) := qr_o27 hN_cX9_books hn_cX9_books rfl rfl
theorem dX9_books_1 : decode cX9_books 1 = .ok (.iload_n 2, 1) := qr_o28 hN_cX9_books hn_cX9_books rfl rfl
theorem dX9_books_2 : decode cX9_books 2 = .ok (.invokestatic 331, 3) := qr_o184 1 75 hN_cX9_books hn_cX9_books rfl rfl rfl rfl
theorem dX9_books_5 : decode cX9_books 5 = .ok (.ifCond .eq 16, 3) := qr_o153 0 16 rfl hN_cX9_books hn_cX9_books rfl rfl rfl rfl
theorem dX9_books_8 : decode cX9_books 8 = .ok (.iload 4, 2) := qr_o21 4 hN_cX9_books hn_cX9_books rfl rfl rfl
theorem dX9_books_10 : decode cX9_books 10 = .ok (.i2l, 1) := qr_o133 hN_cX9_books hn_cX9_books rfl rfl
theorem dX9_books_11 : decode cX9_books 11 = .ok (.lconst 0, 1) := qr_o9 hN_cX9_books hn_cX9_books rfl rfl
theorem dX9_books_12 : decode cX9_books 12 = .ok (.ldc2_w 338, 3) := qr_o20 1 82 hN_cX9_books hn_cX9_books rfl rfl rfl rfl
theorem dX9_books_15 : decode cX9_books 15 = .ok (.invokestatic 148, 3) := qr_o184 0 148 hN_cX9_books hn_cX9_books rfl rfl rfl rfl
theorem dX9_books_18 : decode cX9_books 18 = .ok (.ifCond .ne 5, 3) := qr_o154 0 5 rfl hN_cX9_books hn_cX9_books rfl rfl rfl rfl
theorem dX9_books_21 : decode cX9_books 21 = .ok (.iconst (-1), 1) := qr_o2 hN_cX9_books hn_cX9_books rfl rfl
theorem dX9_books_22 : decode cX9_books 22 = .ok (.ireturn, 1) := qr_o172 hN_cX9_books hn_cX9_books rfl rfl
theorem dX9_books_23 : decode cX9_books 23 = .ok (.aload_n 0, 1) := qr_o42 hN_cX9_books hn_cX9_books rfl rfl
theorem dX9_books_24 : decode cX9_books 24 = .ok (.iload_n 1, 1) := qr_o27 hN_cX9_books hn_cX9_books rfl rfl
theorem dX9_books_25 : decode cX9_books 25 = .ok (.iload_n 2, 1) := qr_o28 hN_cX9_books hn_cX9_books rfl rfl
theorem dX9_books_26 : decode cX9_books 26 = .ok (.iload_n 3, 1) := qr_o29 hN_cX9_books hn_cX9_books rfl rfl
theorem dX9_books_27 : decode cX9_books 27 = .ok (.bipush 6, 2) := qr_o16 6 rfl hN_cX9_books hn_cX9_books rfl rfl rfl
theorem dX9_books_29 : decode cX9_books 29 = .ok (.iload 4, 2) := qr_o21 4 hN_cX9_books hn_cX9_books rfl rfl rfl
theorem dX9_books_31 : decode cX9_books 31 = .ok (.imul, 1) := qr_o104 hN_cX9_books hn_cX9_books rfl rfl
theorem dX9_books_32 : decode cX9_books 32 = .ok (.invokevirtual 334, 3) := qr_o182 1 78 hN_cX9_books hn_cX9_books rfl rfl rfl rfl
theorem dX9_books_35 : decode cX9_books 35 = .ok (.istore 5, 2) := qr_o54 5 hN_cX9_books hn_cX9_books rfl rfl rfl
theorem dX9_books_37 : decode cX9_books 37 = .ok (.iload 5, 2) := qr_o21 5 hN_cX9_books hn_cX9_books rfl rfl rfl
theorem dX9_books_39 : decode cX9_books 39 = .ok (.ifCond .ge 6, 3) := qr_o156 0 6 rfl hN_cX9_books hn_cX9_books rfl rfl rfl rfl
theorem dX9_books_42 : decode cX9_books 42 = .ok (.iload 5, 2) := qr_o21 5 hN_cX9_books hn_cX9_books rfl rfl rfl
theorem dX9_books_44 : decode cX9_books 44 = .ok (.ireturn, 1) := qr_o172 hN_cX9_books hn_cX9_books rfl rfl
theorem dX9_books_45 : decode cX9_books 45 = .ok (.bipush 36, 2) := qr_o16 36 rfl hN_cX9_books hn_cX9_books rfl rfl rfl
theorem dX9_books_47 : decode cX9_books 47 = .ok (.iload_n 1, 1) := qr_o27 hN_cX9_books hn_cX9_books rfl rfl
theorem dX9_books_48 : decode cX9_books 48 = .ok (.imul, 1) := qr_o104 hN_cX9_books hn_cX9_books rfl rfl
theorem dX9_books_49 : decode cX9_books 49 = .ok (.iload_n 3, 1) := qr_o29 hN_cX9_books hn_cX9_books rfl rfl
theorem dX9_books_50 : decode cX9_books 50 = .ok (.iadd, 1) := qr_o96 hN_cX9_books hn_cX9_books rfl rfl
theorem dX9_books_51 : decode cX9_books 51 = .ok (.istore 6, 2) := qr_o54 6 hN_cX9_books hn_cX9_books rfl rfl rfl
theorem dX9_books_53 : decode cX9_books 53 = .ok (.iload 6, 2) := qr_o21 6 hN_cX9_books hn_cX9_books rfl rfl rfl
theorem dX9_books_55 : decode cX9_books 55 = .ok (.istore 7, 2) := qr_o54 7 hN_cX9_books hn_cX9_books rfl rfl rfl
theorem dX9_books_57 : decode cX9_books 57 = .ok (.iload 7, 2) := qr_o21 7 hN_cX9_books hn_cX9_books rfl rfl rfl
theorem dX9_books_59 : decode cX9_books 59 = .ok (.iload 6, 2) := qr_o21 6 hN_cX9_books hn_cX9_books rfl rfl rfl
theorem dX9_books_61 : decode cX9_books 61 = .ok (.bipush 6, 2) := qr_o16 6 rfl hN_cX9_books hn_cX9_books rfl rfl rfl
theorem dX9_books_63 : decode cX9_books 63 = .ok (.iload 4, 2) := qr_o21 4 hN_cX9_books hn_cX9_books rfl rfl rfl
theorem dX9_books_65 : decode cX9_books 65 = .ok (.imul, 1) := qr_o104 hN_cX9_books hn_cX9_books rfl rfl
theorem dX9_books_66 : decode cX9_books 66 = .ok (.iadd, 1) := qr_o96 hN_cX9_books hn_cX9_books rfl rfl
theorem dX9_books_67 : decode cX9_books 67 = .ok (.if_icmp .ge 70, 3) := qr_o162 0 70 rfl hN_cX9_books hn_cX9_books rfl rfl rfl rfl
theorem dX9_books_70 : decode cX9_books 70 = .ok (.aload_n 0, 1) := qr_o42 hN_cX9_books hn_cX9_books rfl rfl
theorem dX9_books_71 : decode cX9_books 71 = .ok (.getfield 143, 3) := qr_o180 0 143 hN_cX9_books hn_cX9_books rfl rfl rfl rfl
theorem dX9_books_74 : decode cX9_books 74 = .ok (.iload 7, 2) := qr_o21 7 hN_cX9_books hn_cX9_books rfl rfl rfl
theorem dX9_books_76 : decode cX9_books 76 = .ok (.iaload, 1) := qr_o46 hN_cX9_books hn_cX9_books rfl rfl
theorem dX9_books_77 : decode cX9_books 77 = .ok (.aload_n 0, 1) := qr_o42 hN_cX9_books hn_cX9_books rfl rfl
theorem dX9_books_78 : decode cX9_books 78 = .ok (.getfield 143, 3) := qr_o180 0 143 hN_cX9_books hn_cX9_books rfl rfl rfl rfl
theorem dX9_books_81 : decode cX9_books 81 = .ok (.iload 7, 2) := qr_o21 7 hN_cX9_books hn_cX9_books rfl rfl rfl
theorem dX9_books_83 : decode cX9_books 83 = .ok (.iconst 1, 1) := qr_o4 hN_cX9_books hn_cX9_books rfl rfl
theorem dX9_books_84 : decode cX9_books 84 = .ok (.iadd, 1) := qr_o96 hN_cX9_books hn_cX9_books rfl rfl
theorem dX9_books_85 : decode cX9_books 85 = .ok (.iaload, 1) := qr_o46 hN_cX9_books hn_cX9_books rfl rfl
theorem dX9_books_86 : decode cX9_books 86 = .ok (.aload_n 0, 1) := qr_o42 hN_cX9_books hn_cX9_books rfl rfl
theorem dX9_books_87 : decode cX9_books 87 = .ok (.getfield 143, 3) := qr_o180 0 143 hN_cX9_books hn_cX9_books rfl rfl rfl rfl
theorem dX9_books_90 : decode cX9_books 90 = .ok (.iload 7, 2) := qr_o21 7 hN_cX9_books hn_cX9_books rfl rfl rfl
theorem dX9_books_92 : decode cX9_books 92 = .ok (.iconst 2, 1) := qr_o5 hN_cX9_books hn_cX9_books rfl rfl
theorem dX9_books_93 : decode cX9_books 93 = .ok (.iadd, 1) := qr_o96 hN_cX9_books hn_cX9_books rfl rfl
theorem dX9_books_94 : decode cX9_books 94 = .ok (.iaload, 1) := qr_o46 hN_cX9_books hn_cX9_books rfl rfl
theorem dX9_books_95 : decode cX9_books 95 = .ok (.aload_n 0, 1) := qr_o42 hN_cX9_books hn_cX9_books rfl rfl
theorem dX9_books_96 : decode cX9_books 96 = .ok (.getfield 143, 3) := qr_o180 0 143 hN_cX9_books hn_cX9_books rfl rfl rfl rfl
theorem dX9_books_99 : decode cX9_books 99 = .ok (.iload 7, 2) := qr_o21 7 hN_cX9_books hn_cX9_books rfl rfl rfl
theorem dX9_books_101 : decode cX9_books 101 = .ok (.iconst 3, 1) := qr_o6 hN_cX9_books hn_cX9_books rfl rfl
theorem dX9_books_102 : decode cX9_books 102 = .ok (.iadd, 1) := qr_o96 hN_cX9_books hn_cX9_books rfl rfl
theorem dX9_books_103 : decode cX9_books 103 = .ok (.iaload, 1) := qr_o46 hN_cX9_books hn_cX9_books rfl rfl
theorem dX9_books_104 : decode cX9_books 104 = .ok (.aload_n 0, 1) := qr_o42 hN_cX9_books hn_cX9_books rfl rfl
theorem dX9_books_105 : decode cX9_books 105 = .ok (.getfield 143, 3) := qr_o180 0 143 hN_cX9_books hn_cX9_books rfl rfl rfl rfl
theorem dX9_books_108 : decode cX9_books 108 = .ok (.iload 7, 2) := qr_o21 7 hN_cX9_books hn_cX9_books rfl rfl rfl
theorem dX9_books_110 : decode cX9_books 110 = .ok (.iconst 4, 1) := qr_o7 hN_cX9_books hn_cX9_books rfl rfl
theorem dX9_books_111 : decode cX9_books 111 = .ok (.iadd, 1) := qr_o96 hN_cX9_books hn_cX9_books rfl rfl
theorem dX9_books_112 : decode cX9_books 112 = .ok (.iaload, 1) := qr_o46 hN_cX9_books hn_cX9_books rfl rfl
theorem dX9_books_113 : decode cX9_books 113 = .ok (.aload_n 0, 1) := qr_o42 hN_cX9_books hn_cX9_books rfl rfl
theorem dX9_books_114 : decode cX9_books 114 = .ok (.getfield 143, 3) := qr_o180 0 143 hN_cX9_books hn_cX9_books rfl rfl rfl rfl
theorem dX9_books_117 : decode cX9_books 117 = .ok (.iload 7, 2) := qr_o21 7 hN_cX9_books hn_cX9_books rfl rfl rfl
theorem dX9_books_119 : decode cX9_books 119 = .ok (.iconst 5, 1) := qr_o8 hN_cX9_books hn_cX9_books rfl rfl
theorem dX9_books_120 : decode cX9_books 120 = .ok (.iadd, 1) := qr_o96 hN_cX9_books hn_cX9_books rfl rfl
theorem dX9_books_121 : decode cX9_books 121 = .ok (.iaload, 1) := qr_o46 hN_cX9_books hn_cX9_books rfl rfl
theorem dX9_books_122 : decode cX9_books 122 = .ok (.invokestatic 260, 3) := qr_o184 1 4 hN_cX9_books hn_cX9_books rfl rfl rfl rfl
theorem dX9_books_125 : decode cX9_books 125 = .ok (.ifCond .ne 6, 3) := qr_o154 0 6 rfl hN_cX9_books hn_cX9_books rfl rfl rfl rfl
theorem dX9_books_128 : decode cX9_books 128 = .ok (.bipush (-2), 2) := qr_w16 254 2 rfl rfl hN_cX9_books hn_cX9_books rfl rfl rfl
theorem dX9_books_130 : decode cX9_books 130 = .ok (.ireturn, 1) := qr_o172 hN_cX9_books hn_cX9_books rfl rfl
theorem dX9_books_131 : decode cX9_books 131 = .ok (.iinc 7 6, 3) := qr_o132 7 6 rfl hN_cX9_books hn_cX9_books rfl rfl rfl rfl
theorem dX9_books_134 : decode cX9_books 134 = .ok (.goto (-77), 3) := qr_w167 255 179 77 rfl rfl hN_cX9_books hn_cX9_books rfl rfl rfl rfl
theorem dX9_books_137 : decode cX9_books 137 = .ok (.aload_n 0, 1) := qr_o42 hN_cX9_books hn_cX9_books rfl rfl
theorem dX9_books_138 : decode cX9_books 138 = .ok (.getfield 257, 3) := qr_o180 1 1 hN_cX9_books hn_cX9_books rfl rfl rfl rfl
theorem dX9_books_141 : decode cX9_books 141 = .ok (.iload 4, 2) := qr_o21 4 hN_cX9_books hn_cX9_books rfl rfl rfl
theorem dX9_books_143 : decode cX9_books 143 = .ok (.iadd, 1) := qr_o96 hN_cX9_books hn_cX9_books rfl rfl
theorem dX9_books_144 : decode cX9_books 144 = .ok (.bipush 30, 2) := qr_o16 30 rfl hN_cX9_books hn_cX9_books rfl rfl rfl
theorem dX9_books_146 : decode cX9_books 146 = .ok (.if_icmp .le 6, 3) := qr_o164 0 6 rfl hN_cX9_books hn_cX9_books rfl rfl rfl rfl
theorem dX9_books_149 : decode cX9_books 149 = .ok (.bipush (-3), 2) := qr_w16 253 3 rfl rfl hN_cX9_books hn_cX9_books rfl rfl rfl
theorem dX9_books_151 : decode cX9_books 151 = .ok (.ireturn, 1) := qr_o172 hN_cX9_books hn_cX9_books rfl rfl
theorem dX9_books_152 : decode cX9_books 152 = .ok (.iload 6, 2) := qr_o21 6 hN_cX9_books hn_cX9_books rfl rfl rfl
theorem dX9_books_154 : decode cX9_books 154 = .ok (.istore 7, 2) := qr_o54 7 hN_cX9_books hn_cX9_books rfl rfl rfl
theorem dX9_books_156 : decode cX9_books 156 = .ok (.iload 7, 2) := qr_o21 7 hN_cX9_books hn_cX9_books rfl rfl rfl
theorem dX9_books_158 : decode cX9_books 158 = .ok (.iload 6, 2) := qr_o21 6 hN_cX9_books hn_cX9_books rfl rfl rfl
theorem dX9_books_160 : decode cX9_books 160 = .ok (.bipush 6, 2) := qr_o16 6 rfl hN_cX9_books hn_cX9_books rfl rfl rfl
theorem dX9_books_162 : decode cX9_books 162 = .ok (.iload 4, 2) := qr_o21 4 hN_cX9_books hn_cX9_books rfl rfl rfl
theorem dX9_books_164 : decode cX9_books 164 = .ok (.imul, 1) := qr_o104 hN_cX9_books hn_cX9_books rfl rfl
theorem dX9_books_165 : decode cX9_books 165 = .ok (.iadd, 1) := qr_o96 hN_cX9_books hn_cX9_books rfl rfl
theorem dX9_books_166 : decode cX9_books 166 = .ok (.if_icmp .ge 65, 3) := qr_o162 0 65 rfl hN_cX9_books hn_cX9_books rfl rfl rfl rfl
theorem dX9_books_169 : decode cX9_books 169 = .ok (.aload_n 0, 1) := qr_o42 hN_cX9_books hn_cX9_books rfl rfl
theorem dX9_books_170 : decode cX9_books 170 = .ok (.aload_n 0, 1) := qr_o42 hN_cX9_books hn_cX9_books rfl rfl
theorem dX9_books_171 : decode cX9_books 171 = .ok (.getfield 143, 3) := qr_o180 0 143 hN_cX9_books hn_cX9_books rfl rfl rfl rfl
theorem dX9_books_174 : decode cX9_books 174 = .ok (.iload 7, 2) := qr_o21 7 hN_cX9_books hn_cX9_books rfl rfl rfl
theorem dX9_books_176 : decode cX9_books 176 = .ok (.iaload, 1) := qr_o46 hN_cX9_books hn_cX9_books rfl rfl
theorem dX9_books_177 : decode cX9_books 177 = .ok (.aload_n 0, 1) := qr_o42 hN_cX9_books hn_cX9_books rfl rfl
theorem dX9_books_178 : decode cX9_books 178 = .ok (.getfield 143, 3) := qr_o180 0 143 hN_cX9_books hn_cX9_books rfl rfl rfl rfl
theorem dX9_books_181 : decode cX9_books 181 = .ok (.iload 7, 2) := qr_o21 7 hN_cX9_books hn_cX9_books rfl rfl rfl
theorem dX9_books_183 : decode cX9_books 183 = .ok (.iconst 1, 1) := qr_o4 hN_cX9_books hn_cX9_books rfl rfl
theorem dX9_books_184 : decode cX9_books 184 = .ok (.iadd, 1) := qr_o96 hN_cX9_books hn_cX9_books rfl rfl
theorem dX9_books_185 : decode cX9_books 185 = .ok (.iaload, 1) := qr_o46 hN_cX9_books hn_cX9_books rfl rfl
theorem dX9_books_186 : decode cX9_books 186 = .ok (.aload_n 0, 1) := qr_o42 hN_cX9_books hn_cX9_books rfl rfl
theorem dX9_books_187 : decode cX9_books 187 = .ok (.getfield 143, 3) := qr_o180 0 143 hN_cX9_books hn_cX9_books rfl rfl rfl rfl
theorem dX9_books_190 : decode cX9_books 190 = .ok (.iload 7, 2) := qr_o21 7 hN_cX9_books hn_cX9_books rfl rfl rfl
theorem dX9_books_192 : decode cX9_books 192 = .ok (.iconst 2, 1) := qr_o5 hN_cX9_books hn_cX9_books rfl rfl
theorem dX9_books_193 : decode cX9_books 193 = .ok (.iadd, 1) := qr_o96 hN_cX9_books hn_cX9_books rfl rfl
theorem dX9_books_194 : decode cX9_books 194 = .ok (.iaload, 1) := qr_o46 hN_cX9_books hn_cX9_books rfl rfl
theorem dX9_books_195 : decode cX9_books 195 = .ok (.aload_n 0, 1) := qr_o42 hN_cX9_books hn_cX9_books rfl rfl
theorem dX9_books_196 : decode cX9_books 196 = .ok (.getfield 143, 3) := qr_o180 0 143 hN_cX9_books hn_cX9_books rfl rfl rfl rfl
theorem dX9_books_199 : decode cX9_books 199 = .ok (.iload 7, 2) := qr_o21 7 hN_cX9_books hn_cX9_books rfl rfl rfl
theorem dX9_books_201 : decode cX9_books 201 = .ok (.iconst 3, 1) := qr_o6 hN_cX9_books hn_cX9_books rfl rfl
theorem dX9_books_202 : decode cX9_books 202 = .ok (.iadd, 1) := qr_o96 hN_cX9_books hn_cX9_books rfl rfl
theorem dX9_books_203 : decode cX9_books 203 = .ok (.iaload, 1) := qr_o46 hN_cX9_books hn_cX9_books rfl rfl
theorem dX9_books_204 : decode cX9_books 204 = .ok (.aload_n 0, 1) := qr_o42 hN_cX9_books hn_cX9_books rfl rfl
theorem dX9_books_205 : decode cX9_books 205 = .ok (.getfield 143, 3) := qr_o180 0 143 hN_cX9_books hn_cX9_books rfl rfl rfl rfl
theorem dX9_books_208 : decode cX9_books 208 = .ok (.iload 7, 2) := qr_o21 7 hN_cX9_books hn_cX9_books rfl rfl rfl
theorem dX9_books_210 : decode cX9_books 210 = .ok (.iconst 4, 1) := qr_o7 hN_cX9_books hn_cX9_books rfl rfl
theorem dX9_books_211 : decode cX9_books 211 = .ok (.iadd, 1) := qr_o96 hN_cX9_books hn_cX9_books rfl rfl
theorem dX9_books_212 : decode cX9_books 212 = .ok (.iaload, 1) := qr_o46 hN_cX9_books hn_cX9_books rfl rfl
theorem dX9_books_213 : decode cX9_books 213 = .ok (.aload_n 0, 1) := qr_o42 hN_cX9_books hn_cX9_books rfl rfl
theorem dX9_books_214 : decode cX9_books 214 = .ok (.getfield 143, 3) := qr_o180 0 143 hN_cX9_books hn_cX9_books rfl rfl rfl rfl
theorem dX9_books_217 : decode cX9_books 217 = .ok (.iload 7, 2) := qr_o21 7 hN_cX9_books hn_cX9_books rfl rfl rfl
theorem dX9_books_219 : decode cX9_books 219 = .ok (.iconst 5, 1) := qr_o8 hN_cX9_books hn_cX9_books rfl rfl
theorem dX9_books_220 : decode cX9_books 220 = .ok (.iadd, 1) := qr_o96 hN_cX9_books hn_cX9_books rfl rfl
theorem dX9_books_221 : decode cX9_books 221 = .ok (.iaload, 1) := qr_o46 hN_cX9_books hn_cX9_books rfl rfl
theorem dX9_books_222 : decode cX9_books 222 = .ok (.invokevirtual 264, 3) := qr_o182 1 8 hN_cX9_books hn_cX9_books rfl rfl rfl rfl
theorem dX9_books_225 : decode cX9_books 225 = .ok (.iinc 7 6, 3) := qr_o132 7 6 rfl hN_cX9_books hn_cX9_books rfl rfl rfl rfl
theorem dX9_books_228 : decode cX9_books 228 = .ok (.goto (-72), 3) := qr_w167 255 184 72 rfl rfl hN_cX9_books hn_cX9_books rfl rfl rfl rfl
theorem dX9_books_231 : decode cX9_books 231 = .ok (.aload_n 0, 1) := qr_o42 hN_cX9_books hn_cX9_books rfl rfl
theorem dX9_books_232 : decode cX9_books 232 = .ok (.getfield 257, 3) := qr_o180 1 1 hN_cX9_books hn_cX9_books rfl rfl rfl rfl
theorem dX9_books_235 : decode cX9_books 235 = .ok (.ireturn, 1) := qr_o172 hN_cX9_books hn_cX9_books rfl rfl
def nN_cJ6_bitCount_0f7a4 : Nat := 0xac7e3f101a3b607c10101a1a3b607c08101a1a3b7e0b0113607c071a1a3b607e0a01137c051a7e0a01131a3b647e0901137c041a1a
theorem hN_cJ6_bitCount_0f7a4 : qr_n cJ6_bitCount_0f7a4.data.toList = nN_cJ6_bitCount_0f7a4 := by decide +kernel
theorem hn_cJ6_bitCount_0f7a4 : cJ6_bitCount_0f7a4.size = 53 := by decide +kernel
theorem dJ6_bitCount_0f7a4_0 : decode cJ6_bitCount_0f7a4 0 = .ok (.iload_n 0, 1) := qr_o26 hN_cJ6_bitCount_0f7a4 hn_cJ6_bitCount_0f7a4 rfl rfl
theorem dJ6_bitCount_0f7a4_1 : decode cJ6_bitCount_0f7a4 1 = .ok (.iload_n 0, 1) := qr_o26 hN_cJ6_bitCount_0f7a4 hn_cJ6_bitCount_0f7a4 rfl rfl
theorem dJ6_bitCount_0f7a4_2 : decode cJ6_bitCount_0f7a4 2 = .ok (.iconst 1, 1) := qr_o4 hN_cJ6_bitCount_0f7a4 hn_cJ6_bitCount_0f7a4 rfl rfl
theorem dJ6_bitCount_0f7a4_3 : decode cJ6_bitCount_0f7a4 3 = .ok (.iushr, 1) := qr_o124 hN_cJ6_bitCount_0f7a4 hn_cJ6_bitCount_0f7a4 rfl rfl
theorem dJ6_bitCount_0f7a4_4 : decode cJ6_bitCount_0f7a4 4 = .ok (.ldc_w 265, 3) := qr_o19 1 9 hN_cJ6_bitCount_0f7a4 hn_cJ6_bitCount_0f7a4 rfl rfl rfl rfl
theorem dJ6_bitCount_0f7a4_7 : decode cJ6_bitCount_0f7a4 7 = .ok (.iand, 1) := qr_o126 hN_cJ6_bitCount_0f7a4 hn_cJ6_bitCount_0f7a4 rfl rfl
theorem dJ6_bitCount_0f7a4_8 : decode cJ6_bitCount_0f7a4 8 = .ok (.isub, 1) := qr_o100 hN_cJ6_bitCount_0f7a4 hn_cJ6_bitCount_0f7a4 rfl rfl
theorem dJ6_bitCount_0f7a4_9 : decode cJ6_bitCount_0f7a4 9 = .ok (.istore_n 0, 1) := qr_o59 hN_cJ6_bitCount_0f7a4 hn_cJ6_bitCount_0f7a4 rfl rfl
theorem dJ6_bitCount_0f7a4_10 : decode cJ6_bitCount_0f7a4 10 = .ok (.iload_n 0, 1) := qr_o26 hN_cJ6_bitCount_0f7a4 hn_cJ6_bitCount_0f7a4 rfl rfl
theorem dJ6_bitCount_0f7a4_11 : decode cJ6_bitCount_0f7a4 11 = .ok (.ldc_w 266, 3) := qr_o19 1 10 hN_cJ6_bitCount_0f7a4 hn_cJ6_bitCount_0f7a4 rfl rfl rfl rfl
theorem dJ6_bitCount_0f7a4_14 : decode cJ6_bitCount_0f7a4 14 = .ok (.iand, 1) := qr_o126 hN_cJ6_bitCount_0f7a4 hn_cJ6_bitCount_0f7a4 rfl rfl
theorem dJ6_bitCount_0f7a4_15 : decode cJ6_bitCount_0f7a4 15 = .ok (.iload_n 0, 1) := qr_o26 hN_cJ6_bitCount_0f7a4 hn_cJ6_bitCount_0f7a4 rfl rfl
theorem dJ6_bitCount_0f7a4_16 : decode cJ6_bitCount_0f7a4 16 = .ok (.iconst 2, 1) := qr_o5 hN_cJ6_bitCount_0f7a4 hn_cJ6_bitCount_0f7a4 rfl rfl
theorem dJ6_bitCount_0f7a4_17 : decode cJ6_bitCount_0f7a4 17 = .ok (.iushr, 1) := qr_o124 hN_cJ6_bitCount_0f7a4 hn_cJ6_bitCount_0f7a4 rfl rfl
theorem dJ6_bitCount_0f7a4_18 : decode cJ6_bitCount_0f7a4 18 = .ok (.ldc_w 266, 3) := qr_o19 1 10 hN_cJ6_bitCount_0f7a4 hn_cJ6_bitCount_0f7a4 rfl rfl rfl rfl
theorem dJ6_bitCount_0f7a4_21 : decode cJ6_bitCount_0f7a4 21 = .ok (.iand, 1) := qr_o126 hN_cJ6_bitCount_0f7a4 hn_cJ6_bitCount_0f7a4 rfl rfl
theorem dJ6_bitCount_0f7a4_22 : decode cJ6_bitCount_0f7a4 22 = .ok (.iadd, 1) := qr_o96 hN_cJ6_bitCount_0f7a4 hn_cJ6_bitCount_0f7a4 rfl rfl
theorem dJ6_bitCount_0f7a4_23 : decode cJ6_bitCount_0f7a4 23 = .ok (.istore_n 0, 1) := qr_o59 hN_cJ6_bitCount_0f7a4 hn_cJ6_bitCount_0f7a4 rfl rfl
theorem dJ6_bitCount_0f7a4_24 : decode cJ6_bitCount_0f7a4 24 = .ok (.iload_n 0, 1) := qr_o26 hN_cJ6_bitCount_0f7a4 hn_cJ6_bitCount_0f7a4 rfl rfl
theorem dJ6_bitCount_0f7a4_25 : decode cJ6_bitCount_0f7a4 25 = .ok (.iload_n 0, 1) := qr_o26 hN_cJ6_bitCount_0f7a4 hn_cJ6_bitCount_0f7a4 rfl rfl
theorem dJ6_bitCount_0f7a4_26 : decode cJ6_bitCount_0f7a4 26 = .ok (.iconst 4, 1) := qr_o7 hN_cJ6_bitCount_0f7a4 hn_cJ6_bitCount_0f7a4 rfl rfl
theorem dJ6_bitCount_0f7a4_27 : decode cJ6_bitCount_0f7a4 27 = .ok (.iushr, 1) := qr_o124 hN_cJ6_bitCount_0f7a4 hn_cJ6_bitCount_0f7a4 rfl rfl
theorem dJ6_bitCount_0f7a4_28 : decode cJ6_bitCount_0f7a4 28 = .ok (.iadd, 1) := qr_o96 hN_cJ6_bitCount_0f7a4 hn_cJ6_bitCount_0f7a4 rfl rfl
theorem dJ6_bitCount_0f7a4_29 : decode cJ6_bitCount_0f7a4 29 = .ok (.ldc_w 267, 3) := qr_o19 1 11 hN_cJ6_bitCount_0f7a4 hn_cJ6_bitCount_0f7a4 rfl rfl rfl rfl
theorem dJ6_bitCount_0f7a4_32 : decode cJ6_bitCount_0f7a4 32 = .ok (.iand, 1) := qr_o126 hN_cJ6_bitCount_0f7a4 hn_cJ6_bitCount_0f7a4 rfl rfl
theorem dJ6_bitCount_0f7a4_33 : decode cJ6_bitCount_0f7a4 33 = .ok (.istore_n 0, 1) := qr_o59 hN_cJ6_bitCount_0f7a4 hn_cJ6_bitCount_0f7a4 rfl rfl
theorem dJ6_bitCount_0f7a4_34 : decode cJ6_bitCount_0f7a4 34 = .ok (.iload_n 0, 1) := qr_o26 hN_cJ6_bitCount_0f7a4 hn_cJ6_bitCount_0f7a4 rfl rfl
theorem dJ6_bitCount_0f7a4_35 : decode cJ6_bitCount_0f7a4 35 = .ok (.iload_n 0, 1) := qr_o26 hN_cJ6_bitCount_0f7a4 hn_cJ6_bitCount_0f7a4 rfl rfl
theorem dJ6_bitCount_0f7a4_36 : decode cJ6_bitCount_0f7a4 36 = .ok (.bipush 8, 2) := qr_o16 8 rfl hN_cJ6_bitCount_0f7a4 hn_cJ6_bitCount_0f7a4 rfl rfl rfl
theorem dJ6_bitCount_0f7a4_38 : decode cJ6_bitCount_0f7a4 38 = .ok (.iushr, 1) := qr_o124 hN_cJ6_bitCount_0f7a4 hn_cJ6_bitCount_0f7a4 rfl rfl
theorem dJ6_bitCount_0f7a4_39 : decode cJ6_bitCount_0f7a4 39 = .ok (.iadd, 1) := qr_o96 hN_cJ6_bitCount_0f7a4 hn_cJ6_bitCount_0f7a4 rfl rfl
theorem dJ6_bitCount_0f7a4_40 : decode cJ6_bitCount_0f7a4 40 = .ok (.istore_n 0, 1) := qr_o59 hN_cJ6_bitCount_0f7a4 hn_cJ6_bitCount_0f7a4 rfl rfl
theorem dJ6_bitCount_0f7a4_41 : decode cJ6_bitCount_0f7a4 41 = .ok (.iload_n 0, 1) := qr_o26 hN_cJ6_bitCount_0f7a4 hn_cJ6_bitCount_0f7a4 rfl rfl
theorem dJ6_bitCount_0f7a4_42 : decode cJ6_bitCount_0f7a4 42 = .ok (.iload_n 0, 1) := qr_o26 hN_cJ6_bitCount_0f7a4 hn_cJ6_bitCount_0f7a4 rfl rfl
theorem dJ6_bitCount_0f7a4_43 : decode cJ6_bitCount_0f7a4 43 = .ok (.bipush 16, 2) := qr_o16 16 rfl hN_cJ6_bitCount_0f7a4 hn_cJ6_bitCount_0f7a4 rfl rfl rfl
theorem dJ6_bitCount_0f7a4_45 : decode cJ6_bitCount_0f7a4 45 = .ok (.iushr, 1) := qr_o124 hN_cJ6_bitCount_0f7a4 hn_cJ6_bitCount_0f7a4 rfl rfl
theorem dJ6_bitCount_0f7a4_46 : decode cJ6_bitCount_0f7a4 46 = .ok (.iadd, 1) := qr_o96 hN_cJ6_bitCount_0f7a4 hn_cJ6_bitCount_0f7a4 rfl rfl
theorem dJ6_bitCount_0f7a4_47 : decode cJ6_bitCount_0f7a4 47 = .ok (.istore_n 0, 1) := qr_o59 hN_cJ6_bitCount_0f7a4 hn_cJ6_bitCount_0f7a4 rfl rfl
theorem dJ6_bitCount_0f7a4_48 : decode cJ6_bitCount_0f7a4 48 = .ok (.iload_n 0, 1) := qr_o26 hN_cJ6_bitCount_0f7a4 hn_cJ6_bitCount_0f7a4 rfl rfl
theorem dJ6_bitCount_0f7a4_49 : decode cJ6_bitCount_0f7a4 49 = .ok (.bipush 63, 2) := qr_o16 63 rfl hN_cJ6_bitCount_0f7a4 hn_cJ6_bitCount_0f7a4 rfl rfl rfl
theorem dJ6_bitCount_0f7a4_51 : decode cJ6_bitCount_0f7a4 51 = .ok (.iand, 1) := qr_o126 hN_cJ6_bitCount_0f7a4 hn_cJ6_bitCount_0f7a4 rfl rfl
theorem dJ6_bitCount_0f7a4_52 : decode cJ6_bitCount_0f7a4 52 = .ok (.ireturn, 1) := qr_o172 hN_cJ6_bitCount_0f7a4 hn_cJ6_bitCount_0f7a4 rfl rfl
