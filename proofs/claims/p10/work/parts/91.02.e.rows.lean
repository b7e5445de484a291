theorem dX9_addBooking_46 : decode cX9_addBooking 46 = .ok (.getfield 257, 3) := qr_o180 1 1 hN_cX9_addBooking hn_cX9_addBooking rfl rfl rfl rfl
theorem dX9_addBooking_49 : decode cX9_addBooking 49 = .ok (.iload 5, 2) := qr_o21 5 hN_cX9_addBooking hn_cX9_addBooking rfl rfl rfl
theorem dX9_addBooking_51 : decode cX9_addBooking 51 = .ok (.iastore, 1) := qr_o79 hN_cX9_addBooking hn_cX9_addBooking rfl rfl
theorem dX9_addBooking_52 : decode cX9_addBooking 52 = .ok (.aload_n 0, 1) := qr_o42 hN_cX9_addBooking hn_cX9_addBooking rfl rfl
theorem dX9_addBooking_53 : decode cX9_addBooking 53 = .ok (.getfield 98, 3) := qr_o180 0 98 hN_cX9_addBooking hn_cX9_addBooking rfl rfl rfl rfl
theorem dX9_addBooking_56 : decode cX9_addBooking 56 = .ok (.aload_n 0, 1) := qr_o42 hN_cX9_addBooking hn_cX9_addBooking rfl rfl
theorem dX9_addBooking_57 : decode cX9_addBooking 57 = .ok (.getfield 257, 3) := qr_o180 1 1 hN_cX9_addBooking hn_cX9_addBooking rfl rfl rfl rfl
theorem dX9_addBooking_60 : decode cX9_addBooking 60 = .ok (.iload 6, 2) := qr_o21 6 hN_cX9_addBooking hn_cX9_addBooking rfl rfl rfl
theorem dX9_addBooking_62 : decode cX9_addBooking 62 = .ok (.iastore, 1) := qr_o79 hN_cX9_addBooking hn_cX9_addBooking rfl rfl
theorem dX9_addBooking_63 : decode cX9_addBooking 63 = .ok (.aload_n 0, 1) := qr_o42 hN_cX9_addBooking hn_cX9_addBooking rfl rfl
theorem dX9_addBooking_64 : decode cX9_addBooking 64 = .ok (.getfield 101, 3) := qr_o180 0 101 hN_cX9_addBooking hn_cX9_addBooking rfl rfl rfl rfl
theorem dX9_addBooking_67 : decode cX9_addBooking 67 = .ok (.aload_n 0, 1) := qr_o42 hN_cX9_addBooking hn_cX9_addBooking rfl rfl
theorem dX9_addBooking_68 : decode cX9_addBooking 68 = .ok (.getfield 257, 3) := qr_o180 1 1 hN_cX9_addBooking hn_cX9_addBooking rfl rfl rfl rfl
theorem dX9_addBooking_71 : decode cX9_addBooking 71 = .ok (.iconst (-1), 1) := qr_o2 hN_cX9_addBooking hn_cX9_addBooking rfl rfl
theorem dX9_addBooking_72 : decode cX9_addBooking 72 = .ok (.iastore, 1) := qr_o79 hN_cX9_addBooking hn_cX9_addBooking rfl rfl
theorem dX9_addBooking_73 : decode cX9_addBooking 73 = .ok (.aload_n 0, 1) := qr_o42 hN_cX9_addBooking hn_cX9_addBooking rfl rfl
theorem dX9_addBooking_74 : decode cX9_addBooking 74 = .ok (.getfield 104, 3) := qr_o180 0 104 hN_cX9_addBooking hn_cX9_addBooking rfl rfl rfl rfl
theorem dX9_addBooking_77 : decode cX9_addBooking 77 = .ok (.aload_n 0, 1) := qr_o42 hN_cX9_addBooking hn_cX9_addBooking rfl rfl
theorem dX9_addBooking_78 : decode cX9_addBooking 78 = .ok (.getfield 257, 3) := qr_o180 1 1 hN_cX9_addBooking hn_cX9_addBooking rfl rfl rfl rfl
theorem dX9_addBooking_81 : decode cX9_addBooking 81 = .ok (.iconst (-1), 1) := qr_o2 hN_cX9_addBooking hn_cX9_addBooking rfl rfl
theorem dX9_addBooking_82 : decode cX9_addBooking 82 = .ok (.iastore, 1) := qr_o79 hN_cX9_addBooking hn_cX9_addBooking rfl rfl
theorem dX9_addBooking_83 : decode cX9_addBooking 83 = .ok (.aload_n 0, 1) := qr_o42 hN_cX9_addBooking hn_cX9_addBooking rfl rfl
theorem dX9_addBooking_84 : decode cX9_addBooking 84 = .ok (.dup, 1) := qr_o89 hN_cX9_addBooking hn_cX9_addBooking rfl rfl
theorem dX9_addBooking_85 : decode cX9_addBooking 85 = .ok (.getfield 257, 3) := qr_o180 1 1 hN_cX9_addBooking hn_cX9_addBooking rfl rfl rfl rfl
theorem dX9_addBooking_88 : decode cX9_addBooking 88 = .ok (.iconst 1, 1) := qr_o4 hN_cX9_addBooking hn_cX9_addBooking rfl rfl
theorem dX9_addBooking_89 : decode cX9_addBooking 89 = .ok (.iadd, 1) := qr_o96 hN_cX9_addBooking hn_cX9_addBooking rfl rfl
theorem dX9_addBooking_90 : decode cX9_addBooking 90 = .ok (.putfield 257, 3) := qr_o181 1 1 hN_cX9_addBooking hn_cX9_addBooking rfl rfl rfl rfl
theorem dX9_addBooking_93 : decode cX9_addBooking 93 = .ok (.return_, 1) := qr_o177 hN_cX9_addBooking hn_cX9_addBooking rfl rfl
def nN_cX9_book : Nat := 0xac64040101b42a0801b60615051504151d1c1b2aacfd100600a01e100101b42aac0205009a0401b80615051504151d1c1b
theorem hN_cX9_book : qr_n cX9_book.data.toList = nN_cX9_book := by decide +kernel
theorem hn_cX9_book : cX9_book.size = 49 := by decide +kernel
theorem dX9_book_0 : decode cX9_book 0 = .ok (.iload_n 1, 1) := qr_o27 hN_cX9_book hn_cX9_book rfl rfl
theorem dX9_book_1 : decode cX9_book 1 = .ok (.iload_n 2, 1) := qr_o28 hN_cX9_book hn_cX9_book rfl rfl
theorem dX9_book_2 : decode cX9_book 2 = .ok (.iload_n 3, 1) := qr_o29 hN_cX9_book hn_cX9_book rfl rfl
theorem dX9_book_3 : decode cX9_book 3 = .ok (.iload 4, 2) := qr_o21 4 hN_cX9_book hn_cX9_book rfl rfl rfl
theorem dX9_book_5 : decode cX9_book 5 = .ok (.iload 5, 2) := qr_o21 5 hN_cX9_book hn_cX9_book rfl rfl rfl
theorem dX9_book_7 : decode cX9_book 7 = .ok (.iload 6, 2) := qr_o21 6 hN_cX9_book hn_cX9_book rfl rfl rfl
theorem dX9_book_9 : decode cX9_book 9 = .ok (.invokestatic 260, 3) := qr_o184 1 4 hN_cX9_book hn_cX9_book rfl rfl rfl rfl
theorem dX9_book_12 : decode cX9_book 12 = .ok (.ifCond .ne 5, 3) := qr_o154 0 5 rfl hN_cX9_book hn_cX9_book rfl rfl rfl rfl
theorem dX9_book_15 : decode cX9_book 15 = .ok (.iconst (-1), 1) := qr_o2 hN_cX9_book hn_cX9_book rfl rfl
theorem dX9_book_16 : decode cX9_book 16 = .ok (.ireturn, 1) := qr_o172 hN_cX9_book hn_cX9_book rfl rfl
theorem dX9_book_17 : decode cX9_book 17 = .ok (.aload_n 0, 1) := qr_o42 hN_cX9_book hn_cX9_book rfl rfl
theorem dX9_book_18 : decode cX9_book 18 = .ok (.getfield 257, 3) := qr_o180 1 1 hN_cX9_book hn_cX9_book rfl rfl rfl rfl
theorem dX9_book_21 : decode cX9_book 21 = .ok (.bipush 30, 2) := qr_o16 30 rfl hN_cX9_book hn_cX9_book rfl rfl rfl
theorem dX9_book_23 : decode cX9_book 23 = .ok (.if_icmp .ne 6, 3) := qr_o160 0 6 rfl hN_cX9_book hn_cX9_book rfl rfl rfl rfl
theorem dX9_book_26 : decode cX9_book 26 = .ok (.bipush (-3), 2) := qr_w16 253 3 rfl rfl hN_cX9_book hn_cX9_book rfl rfl rfl
theorem dX9_book_28 : decode cX9_book 28 = .ok (.ireturn, 1) := qr_o172 hN_cX9_book hn_cX9_book rfl rfl
theorem dX9_book_29 : decode cX9_book 29 = .ok (.aload_n 0, 1) := qr_o42 hN_cX9_book hn_cX9_book rfl rfl
theorem dX9_book_30 : decode cX9_book 30 = .ok (.iload_n 1, 1) := qr_o27 hN_cX9_book hn_cX9_book rfl rfl
theorem dX9_book_31 : decode cX9_book 31 = .ok (.iload_n 2, 1) := qr_o28 hN_cX9_book hn_cX9_book rfl rfl
theorem dX9_book_32 : decode cX9_book 32 = .ok (.iload_n 3, 1) := qr_o29 hN_cX9_book hn_cX9_book rfl rfl
theorem dX9_book_33 : decode cX9_book 33 = .ok (.iload 4, 2) := qr_o21 4 hN_cX9_book hn_cX9_book rfl rfl rfl
theorem dX9_book_35 : decode cX9_book 35 = .ok (.iload 5, 2) := qr_o21 5 hN_cX9_book hn_cX9_book rfl rfl rfl
theorem dX9_book_37 : decode cX9_book 37 = .ok (.iload 6, 2) := qr_o21 6 hN_cX9_book hn_cX9_book rfl rfl rfl
theorem dX9_book_39 : decode cX9_book 39 = .ok (.invokevirtual 264, 3) := qr_o182 1 8 hN_cX9_book hn_cX9_book rfl rfl rfl rfl
theorem dX9_book_42 : decode cX9_book 42 = .ok (.aload_n 0, 1) := qr_o42 hN_cX9_book hn_cX9_book rfl rfl
theorem dX9_book_43 : decode cX9_book 43 = .ok (.getfield 257, 3) := qr_o180 1 1 hN_cX9_book hn_cX9_book rfl rfl rfl rfl
theorem dX9_book_46 : decode cX9_book 46 = .ok (.iconst 1, 1) := qr_o4 hN_cX9_book hn_cX9_book rfl rfl
theorem dX9_book_47 : decode cX9_book 47 = .ok (.isub, 1) := qr_o100 hN_cX9_book hn_cX9_book rfl rfl
theorem dX9_book_48 : decode cX9_book 48 = .ok (.ireturn, 1) := qr_o172 hN_cX9_book hn_cX9_book rfl rfl
def nN_cX9_isThere : Nat := 0xac9400b88564040101b42a09851b
theorem hN_cX9_isThere : qr_n cX9_isThere.data.toList = nN_cX9_isThere := by decide +kernel
theorem hn_cX9_isThere : cX9_isThere.size = 14 := by decide +kernel
theorem dX9_isThere_0 : decode cX9_isThere 0 = .ok (.iload_n 1, 1) := qr_o27 hN_cX9_isThere hn_cX9_isThere rfl rfl
theorem dX9_isThere_1 : decode cX9_isThere 1 = .ok (.i2l, 1) := qr_o133 hN_cX9_isThere hn_cX9_isThere rfl rfl
theorem dX9_isThere_2 : decode cX9_isThere 2 = .ok (.lconst 0, 1) := qr_o9 hN_cX9_isThere hn_cX9_isThere rfl rfl
theorem dX9_isThere_3 : decode cX9_isThere 3 = .ok (.aload_n 0, 1) := qr_o42 hN_cX9_isThere hn_cX9_isThere rfl rfl
theorem dX9_isThere_4 : decode cX9_isThere 4 = .ok (.getfield 257, 3) := qr_o180 1 1 hN_cX9_isThere hn_cX9_isThere rfl rfl rfl rfl
theorem dX9_isThere_7 : decode cX9_isThere 7 = .ok (.iconst 1, 1) := qr_o4 hN_cX9_isThere hn_cX9_isThere rfl rfl
theorem dX9_isThere_8 : decode cX9_isThere 8 = .ok (.isub, 1) := qr_o100 hN_cX9_isThere hn_cX9_isThere rfl rfl
theorem dX9_isThere_9 : decode cX9_isThere 9 = .ok (.i2l, 1) := qr_o133 hN_cX9_isThere hn_cX9_isThere rfl rfl
theorem dX9_isThere_10 : decode cX9_isThere 10 = .ok (.invokestatic 148, 3) := qr_o184 0 148 hN_cX9_isThere hn_cX9_isThere rfl rfl rfl rfl
theorem dX9_isThere_13 : decode cX9_isThere 13 = .ok (.ireturn, 1) := qr_o172 hN_cX9_isThere hn_cX9_isThere rfl rfl
def nN_cX9_off : Nat := 0xac044f021b6800b42a4f1c1b6500b42aacfe1006009e2e1b6b00b42a0c009c2e1b6500b42aac0205009a9400b8fb0014852e1b5f00b42a851c1500990c01b61b2a
theorem hN_cX9_off : qr_n cX9_off.data.toList = nN_cX9_off := by decide +kernel
theorem hn_cX9_off : cX9_off.size = 65 := by decide +kernel
theorem dX9_off_0 : decode cX9_off 0 = .ok (.aload_n 0, 1) := qr_o42 hN_cX9_off hn_cX9_off rfl rfl
theorem dX9_off_1 : decode cX9_off 1 = .ok (.iload_n 1, 1) := qr_o27 hN_cX9_off hn_cX9_off rfl rfl
theorem dX9_off_2 : decode cX9_off 2 = .ok (.invokevirtual 268, 3) := qr_o182 1 12 hN_cX9_off hn_cX9_off rfl rfl rfl rfl
theorem dX9_off_5 : decode cX9_off 5 = .ok (.ifCond .eq 21, 3) := qr_o153 0 21 rfl hN_cX9_off hn_cX9_off rfl rfl rfl rfl
theorem dX9_off_8 : decode cX9_off 8 = .ok (.iload_n 2, 1) := qr_o28 hN_cX9_off hn_cX9_off rfl rfl
theorem dX9_off_9 : decode cX9_off 9 = .ok (.i2l, 1) := qr_o133 hN_cX9_off hn_cX9_off rfl rfl
theorem dX9_off_10 : decode cX9_off 10 = .ok (.aload_n 0, 1) := qr_o42 hN_cX9_off hn_cX9_off rfl rfl
theorem dX9_off_11 : decode cX9_off 11 = .ok (.getfield 95, 3) := qr_o180 0 95 hN_cX9_off hn_cX9_off rfl rfl rfl rfl
theorem dX9_off_14 : decode cX9_off 14 = .ok (.iload_n 1, 1) := qr_o27 hN_cX9_off hn_cX9_off rfl rfl
theorem dX9_off_15 : decode cX9_off 15 = .ok (.iaload, 1) := qr_o46 hN_cX9_off hn_cX9_off rfl rfl
theorem dX9_off_16 : decode cX9_off 16 = .ok (.i2l, 1) := qr_o133 hN_cX9_off hn_cX9_off rfl rfl
theorem dX9_off_17 : decode cX9_off 17 = .ok (.ldc2_w 251, 3) := qr_o20 0 251 hN_cX9_off hn_cX9_off rfl rfl rfl rfl
theorem dX9_off_20 : decode cX9_off 20 = .ok (.invokestatic 148, 3) := qr_o184 0 148 hN_cX9_off hn_cX9_off rfl rfl rfl rfl
theorem dX9_off_23 : decode cX9_off 23 = .ok (.ifCond .ne 5, 3) := qr_o154 0 5 rfl hN_cX9_off hn_cX9_off rfl rfl rfl rfl
theorem dX9_off_26 : decode cX9_off 26 = .ok (.iconst (-1), 1) := qr_o2 hN_cX9_off hn_cX9_off rfl rfl
theorem dX9_off_27 : decode cX9_off 27 = .ok (.ireturn, 1) := qr_o172 hN_cX9_off hn_cX9_off rfl rfl
theorem dX9_off_28 : decode cX9_off 28 = .ok (.aload_n 0, 1) := qr_o42 hN_cX9_off hn_cX9_off rfl rfl
theorem dX9_off_29 : decode cX9_off 29 = .ok (.getfield 101, 3) := qr_o180 0 101 hN_cX9_off hn_cX9_off rfl rfl rfl rfl
theorem dX9_off_32 : decode cX9_off 32 = .ok (.iload_n 1, 1) := qr_o27 hN_cX9_off hn_cX9_off rfl rfl
theorem dX9_off_33 : decode cX9_off 33 = .ok (.iaload, 1) := qr_o46 hN_cX9_off hn_cX9_off rfl rfl
theorem dX9_off_34 : decode cX9_off 34 = .ok (.ifCond .ge 12, 3) := qr_o156 0 12 rfl hN_cX9_off hn_cX9_off rfl rfl rfl rfl
theorem dX9_off_37 : decode cX9_off 37 = .ok (.aload_n 0, 1) := qr_o42 hN_cX9_off hn_cX9_off rfl rfl
theorem dX9_off_38 : decode cX9_off 38 = .ok (.getfield 107, 3) := qr_o180 0 107 hN_cX9_off hn_cX9_off rfl rfl rfl rfl
theorem dX9_off_41 : decode cX9_off 41 = .ok (.iload_n 1, 1) := qr_o27 hN_cX9_off hn_cX9_off rfl rfl
theorem dX9_off_42 : decode cX9_off 42 = .ok (.iaload, 1) := qr_o46 hN_cX9_off hn_cX9_off rfl rfl
theorem dX9_off_43 : decode cX9_off 43 = .ok (.ifCond .le 6, 3) := qr_o158 0 6 rfl hN_cX9_off hn_cX9_off rfl rfl rfl rfl
theorem dX9_off_46 : decode cX9_off 46 = .ok (.bipush (-2), 2) := qr_w16 254 2 rfl rfl hN_cX9_off hn_cX9_off rfl rfl rfl
theorem dX9_off_48 : decode cX9_off 48 = .ok (.ireturn, 1) := qr_o172 hN_cX9_off hn_cX9_off rfl rfl
theorem dX9_off_49 : decode cX9_off 49 = .ok (.aload_n 0, 1) := qr_o42 hN_cX9_off hn_cX9_off rfl rfl
theorem dX9_off_50 : decode cX9_off 50 = .ok (.getfield 101, 3) := qr_o180 0 101 hN_cX9_off hn_cX9_off rfl rfl rfl rfl
theorem dX9_off_53 : decode cX9_off 53 = .ok (.iload_n 1, 1) := qr_o27 hN_cX9_off hn_cX9_off rfl rfl
theorem dX9_off_54 : decode cX9_off 54 = .ok (.iload_n 2, 1) := qr_o28 hN_cX9_off hn_cX9_off rfl rfl
theorem dX9_off_55 : decode cX9_off 55 = .ok (.iastore, 1) := qr_o79 hN_cX9_off hn_cX9_off rfl rfl
theorem dX9_off_56 : decode cX9_off 56 = .ok (.aload_n 0, 1) := qr_o42 hN_cX9_off hn_cX9_off rfl rfl
theorem dX9_off_57 : decode cX9_off 57 = .ok (.getfield 104, 3) := qr_o180 0 104 hN_cX9_off hn_cX9_off rfl rfl rfl rfl
theorem dX9_off_60 : decode cX9_off 60 = .ok (.iload_n 1, 1) := qr_o27 hN_cX9_off hn_cX9_off rfl rfl
theorem dX9_off_61 : decode cX9_off 61 = .ok (.iconst (-1), 1) := qr_o2 hN_cX9_off hn_cX9_off rfl rfl
theorem dX9_off_62 : decode cX9_off 62 = .ok (.iastore, 1) := qr_o79 hN_cX9_off hn_cX9_off rfl rfl
theorem dX9_off_63 : decode cX9_off 63 = .ok (.iconst 1, 1) := qr_o4 hN_cX9_off hn_cX9_off rfl rfl
theorem dX9_off_64 : decode cX9_off 64 = .ok (.ireturn, 1) := qr_o172 hN_cX9_off hn_cX9_off rfl rfl
def nN_cX9_postOf : Nat := 0xac2e602e1c5c00b42a682e1b2800b42a09101900b42a
theorem hN_cX9_postOf : qr_n cX9_postOf.data.toList = nN_cX9_postOf := by decide +kernel
theorem hn_cX9_postOf : cX9_postOf.size = 22 := by decide +kernel
theorem dX9_postOf_0 : decode cX9_postOf 0 = .ok (.aload_n 0, 1) := qr_o42 hN_cX9_postOf hn_cX9_postOf rfl rfl
theorem dX9_postOf_1 : decode cX9_postOf 1 = .ok (.getfield 25, 3) := qr_o180 0 25 hN_cX9_postOf hn_cX9_postOf rfl rfl rfl rfl
theorem dX9_postOf_4 : decode cX9_postOf 4 = .ok (.bipush 9, 2) := qr_o16 9 rfl hN_cX9_postOf hn_cX9_postOf rfl rfl rfl
theorem dX9_postOf_6 : decode cX9_postOf 6 = .ok (.aload_n 0, 1) := qr_o42 hN_cX9_postOf hn_cX9_postOf rfl rfl
theorem dX9_postOf_7 : decode cX9_postOf 7 = .ok (.getfield 40, 3) := qr_o180 0 40 hN_cX9_postOf hn_cX9_postOf rfl rfl rfl rfl
theorem dX9_postOf_10 : decode cX9_postOf 10 = .ok (.iload_n 1, 1) := qr_o27 hN_cX9_postOf hn_cX9_postOf rfl rfl
theorem dX9_postOf_11 : decode cX9_postOf 11 = .ok (.iaload, 1) := qr_o46 hN_cX9_postOf hn_cX9_postOf rfl rfl
theorem dX9_postOf_12 : decode cX9_postOf 12 = .ok (.imul, 1) := qr_o104 hN_cX9_postOf hn_cX9_postOf rfl rfl
theorem dX9_postOf_13 : decode cX9_postOf 13 = .ok (.aload_n 0, 1) := qr_o42 hN_cX9_postOf hn_cX9_postOf rfl rfl
theorem dX9_postOf_14 : decode cX9_postOf 14 = .ok (.getfield 92, 3) := qr_o180 0 92 hN_cX9_postOf hn_cX9_postOf rfl rfl rfl rfl
theorem dX9_postOf_17 : decode cX9_postOf 17 = .ok (.iload_n 2, 1) := qr_o28 hN_cX9_postOf hn_cX9_postOf rfl rfl
theorem dX9_postOf_18 : decode cX9_postOf 18 = .ok (.iaload, 1) := qr_o46 hN_cX9_postOf hn_cX9_postOf rfl rfl
theorem dX9_postOf_19 : decode cX9_postOf 19 = .ok (.iadd, 1) := qr_o96 hN_cX9_postOf hn_cX9_postOf rfl rfl
theorem dX9_postOf_20 : decode cX9_postOf 20 = .ok (.iaload, 1) := qr_o46 hN_cX9_postOf hn_cX9_postOf rfl rfl
theorem dX9_postOf_21 : decode cX9_postOf 21 = .ok (.ireturn, 1) := qr_o172 hN_cX9_postOf hn_cX9_postOf rfl rfl
def nN_cX9_firstAway : Nat := 0xac640f01b61c1b2a642e031000b42a2e1c5900b42a
theorem hN_cX9_firstAway : qr_n cX9_firstAway.data.toList = nN_cX9_firstAway := by decide +kernel
theorem hn_cX9_firstAway : cX9_firstAway.size = 21 := by decide +kernel
theorem dX9_firstAway_0 : decode cX9_firstAway 0 = .ok (.aload_n 0, 1) := qr_o42 hN_cX9_firstAway hn_cX9_firstAway rfl rfl
theorem dX9_firstAway_1 : decode cX9_firstAway 1 = .ok (.getfield 89, 3) := qr_o180 0 89 hN_cX9_firstAway hn_cX9_firstAway rfl rfl rfl rfl
theorem dX9_firstAway_4 : decode cX9_firstAway 4 = .ok (.iload_n 2, 1) := qr_o28 hN_cX9_firstAway hn_cX9_firstAway rfl rfl
theorem dX9_firstAway_5 : decode cX9_firstAway 5 = .ok (.iaload, 1) := qr_o46 hN_cX9_firstAway hn_cX9_firstAway rfl rfl
theorem dX9_firstAway_6 : decode cX9_firstAway 6 = .ok (.aload_n 0, 1) := qr_o42 hN_cX9_firstAway hn_cX9_firstAway rfl rfl
theorem dX9_firstAway_7 : decode cX9_firstAway 7 = .ok (.getfield 16, 3) := qr_o180 0 16 hN_cX9_firstAway hn_cX9_firstAway rfl rfl rfl rfl
theorem dX9_firstAway_10 : decode cX9_firstAway 10 = .ok (.iconst 0, 1) := qr_o3 hN_cX9_firstAway hn_cX9_firstAway rfl rfl
theorem dX9_firstAway_11 : decode cX9_firstAway 11 = .ok (.iaload, 1) := qr_o46 hN_cX9_firstAway hn_cX9_firstAway rfl rfl
theorem dX9_firstAway_12 : decode cX9_firstAway 12 = .ok (.isub, 1) := qr_o100 hN_cX9_firstAway hn_cX9_firstAway rfl rfl
theorem dX9_firstAway_13 : decode cX9_firstAway 13 = .ok (.aload_n 0, 1) := qr_o42 hN_cX9_firstAway hn_cX9_firstAway rfl rfl
theorem dX9_firstAway_14 : decode cX9_firstAway 14 = .ok (.iload_n 1, 1) := qr_o27 hN_cX9_firstAway hn_cX9_firstAway rfl rfl
theorem dX9_firstAway_15 : decode cX9_firstAway 15 = .ok (.iload_n 2, 1) := qr_o28 hN_cX9_firstAway hn_cX9_firstAway rfl rfl
theorem dX9_firstAway_16 : decode cX9_firstAway 16 = .ok (.invokevirtual 271, 3) := qr_o182 1 15 hN_cX9_firstAway hn_cX9_firstAway rfl rfl rfl rfl
theorem dX9_firstAway_19 : decode cX9_firstAway 19 = .ok (.isub, 1) := qr_o100 hN_cX9_firstAway hn_cX9_firstAway rfl rfl
theorem dX9_firstAway_20 : decode cX9_firstAway 20 = .ok (.ireturn, 1) := qr_o172 hN_cX9_firstAway hn_cX9_firstAway rfl rfl
def nN_cX9_lastAway : Nat := 0xac602e041000b42a600f01b61c1b2a2e1c5900b42a
theorem hN_cX9_lastAway : qr_n cX9_lastAway.data.toList = nN_cX9_lastAway := by decide +kernel
theorem hn_cX9_lastAway : cX9_lastAway.size = 21 := by decide +kernel
theorem dX9_lastAway_0 : decode cX9_lastAway 0 = .ok (.aload_n 0, 1) := qr_o42 hN_cX9_lastAway hn_cX9_lastAway rfl rfl
theorem dX9_lastAway_1 : decode cX9_lastAway 1 = .ok (.getfield 89, 3) := qr_o180 0 89 hN_cX9_lastAway hn_cX9_lastAway rfl rfl rfl rfl
theorem dX9_lastAway_4 : decode cX9_lastAway 4 = .ok (.iload_n 2, 1) := qr_o28 hN_cX9_lastAway hn_cX9_lastAway rfl rfl
theorem dX9_lastAway_5 : decode cX9_lastAway 5 = .ok (.iaload, 1) := qr_o46 hN_cX9_lastAway hn_cX9_lastAway rfl rfl
theorem dX9_lastAway_6 : decode cX9_lastAway 6 = .ok (.aload_n 0, 1) := qr_o42 hN_cX9_lastAway hn_cX9_lastAway rfl rfl
theorem dX9_lastAway_7 : decode cX9_lastAway 7 = .ok (.iload_n 1, 1) := qr_o27 hN_cX9_lastAway hn_cX9_lastAway rfl rfl
theorem dX9_lastAway_8 : decode cX9_lastAway 8 = .ok (.iload_n 2, 1) := qr_o28 hN_cX9_lastAway hn_cX9_lastAway rfl rfl
theorem dX9_lastAway_9 : decode cX9_lastAway 9 = .ok (.invokevirtual 271, 3) := qr_o182 1 15 hN_cX9_lastAway hn_cX9_lastAway rfl rfl rfl rfl
theorem dX9_lastAway_12 : decode cX9_lastAway 12 = .ok (.iadd, 1) := qr_o96 hN_cX9_lastAway hn_cX9_lastAway rfl rfl
theorem dX9_lastAway_13 : decode cX9_lastAway 13 = .ok (.aload_n 0, 1) := qr_o42 hN_cX9_lastAway hn_cX9_lastAway rfl rfl
theorem dX9_lastAway_14 : decode cX9_lastAway 14 = .ok (.getfield 16, 3) := qr_o180 0 16 hN_cX9_lastAway hn_cX9_lastAway rfl rfl rfl rfl
theorem dX9_lastAway_17 : decode cX9_lastAway 17 = .ok (.iconst 1, 1) := qr_o4 hN_cX9_lastAway hn_cX9_lastAway rfl rfl
theorem dX9_lastAway_18 : decode cX9_lastAway 18 = .ok (.iaload, 1) := qr_o46 hN_cX9_lastAway hn_cX9_lastAway rfl rfl
theorem dX9_lastAway_19 : decode cX9_lastAway 19 = .ok (.iadd, 1) := qr_o96 hN_cX9_lastAway hn_cX9_lastAway rfl rfl
theorem dX9_lastAway_20 : decode cX9_lastAway 20 = .ok (.ireturn, 1) := qr_o172 hN_cX9_lastAway hn_cX9_lastAway rfl rfl
def nN_cX9_meet : Nat := 0xac030400a7040700a31601b61c1b2a1301b61d1b2a1600a31601b61d1b2a1301b61c1b2a
theorem hN_cX9_meet : qr_n cX9_meet.data.toList = nN_cX9_meet := by decide +kernel
theorem hn_cX9_meet : cX9_meet.size = 36 := by decide +kernel
theorem dX9_meet_0 : decode cX9_meet 0 = .ok (.aload_n 0, 1) := qr_o42 hN_cX9_meet hn_cX9_meet rfl rfl
theorem dX9_meet_1 : decode cX9_meet 1 = .ok (.iload_n 1, 1) := qr_o27 hN_cX9_meet hn_cX9_meet rfl rfl
theorem dX9_meet_2 : decode cX9_meet 2 = .ok (.iload_n 2, 1) := qr_o28 hN_cX9_meet hn_cX9_meet rfl rfl
theorem dX9_meet_3 : decode cX9_meet 3 = .ok (.invokevirtual 275, 3) := qr_o182 1 19 hN_cX9_meet hn_cX9_meet rfl rfl rfl rfl
theorem dX9_meet_6 : decode cX9_meet 6 = .ok (.aload_n 0, 1) := qr_o42 hN_cX9_meet hn_cX9_meet rfl rfl
theorem dX9_meet_7 : decode cX9_meet 7 = .ok (.iload_n 1, 1) := qr_o27 hN_cX9_meet hn_cX9_meet rfl rfl
theorem dX9_meet_8 : decode cX9_meet 8 = .ok (.iload_n 3, 1) := qr_o29 hN_cX9_meet hn_cX9_meet rfl rfl
theorem dX9_meet_9 : decode cX9_meet 9 = .ok (.invokevirtual 278, 3) := qr_o182 1 22 hN_cX9_meet hn_cX9_meet rfl rfl rfl rfl
theorem dX9_meet_12 : decode cX9_meet 12 = .ok (.if_icmp .gt 22, 3) := qr_o163 0 22 rfl hN_cX9_meet hn_cX9_meet rfl rfl rfl rfl
theorem dX9_meet_15 : decode cX9_meet 15 = .ok (.aload_n 0, 1) := qr_o42 hN_cX9_meet hn_cX9_meet rfl rfl
theorem dX9_meet_16 : decode cX9_meet 16 = .ok (.iload_n 1, 1) := qr_o27 hN_cX9_meet hn_cX9_meet rfl rfl
theorem dX9_meet_17 : decode cX9_meet 17 = .ok (.iload_n 3, 1) := qr_o29 hN_cX9_meet hn_cX9_meet rfl rfl
theorem dX9_meet_18 : decode cX9_meet 18 = .ok (.invokevirtual 275, 3) := qr_o182 1 19 hN_cX9_meet hn_cX9_meet rfl rfl rfl rfl
theorem dX9_meet_21 : decode cX9_meet 21 = .ok (.aload_n 0, 1) := qr_o42 hN_cX9_meet hn_cX9_meet rfl rfl
theorem dX9_meet_22 : decode cX9_meet 22 = .ok (.iload_n 1, 1) := qr_o27 hN_cX9_meet hn_cX9_meet rfl rfl
theorem dX9_meet_23 : decode cX9_meet 23 = .ok (.iload_n 2, 1) := qr_o28 hN_cX9_meet hn_cX9_meet rfl rfl
theorem dX9_meet_24 : decode cX9_meet 24 = .ok (.invokevirtual 278, 3) := qr_o182 1 22 hN_cX9_meet hn_cX9_meet rfl rfl rfl rfl
theorem dX9_meet_27 : decode cX9_meet 27 = .ok (.if_icmp .gt 7, 3) := qr_o163 0 7 rfl hN_cX9_meet hn_cX9_meet rfl rfl rfl rfl
theorem dX9_meet_30 : decode cX9_meet 30 = .ok (.iconst 1, 1) := qr_o4 hN_cX9_meet hn_cX9_meet rfl rfl
theorem dX9_meet_31 : decode cX9_meet 31 = .ok (.goto 4, 3) := qr_o167 0 4 rfl hN_cX9_meet hn_cX9_meet rfl rfl rfl rfl
theorem dX9_meet_34 : decode cX9_meet 34 = .ok (.iconst 0, 1) := qr_o3 hN_cX9_meet hn_cX9_meet rfl rfl
theorem dX9_meet_35 : decode cX9_meet 35 = .ok (.ireturn, 1) := qr_o172 hN_cX9_meet hn_cX9_meet rfl rfl
def nN_cX9_isWell : Nat := 0xac030400a7040700a42e1c5900b42a2e1b3e00b42a120099331b3b00b42a1f009ada00b61b2a
theorem hN_cX9_isWell : qr_n cX9_isWell.data.toList = nN_cX9_isWell := by decide +kernel
theorem hn_cX9_isWell : cX9_isWell.size = 38 := by decide +kernel
theorem dX9_isWell_0 : decode cX9_isWell 0 = .ok (.aload_n 0, 1) := qr_o42 hN_cX9_isWell hn_cX9_isWell rfl rfl
theorem dX9_isWell_1 : decode cX9_isWell 1 = .ok (.iload_n 1, 1) := qr_o27 hN_cX9_isWell hn_cX9_isWell rfl rfl
theorem dX9_isWell_2 : decode cX9_isWell 2 = .ok (.invokevirtual 218, 3) := qr_o182 0 218 hN_cX9_isWell hn_cX9_isWell rfl rfl rfl rfl
theorem dX9_isWell_5 : decode cX9_isWell 5 = .ok (.ifCond .ne 31, 3) := qr_o154 0 31 rfl hN_cX9_isWell hn_cX9_isWell rfl rfl rfl rfl
theorem dX9_isWell_8 : decode cX9_isWell 8 = .ok (.aload_n 0, 1) := qr_o42 hN_cX9_isWell hn_cX9_isWell rfl rfl
theorem dX9_isWell_9 : decode cX9_isWell 9 = .ok (.getfield 59, 3) := qr_o180 0 59 hN_cX9_isWell hn_cX9_isWell rfl rfl rfl rfl
theorem dX9_isWell_12 : decode cX9_isWell 12 = .ok (.iload_n 1, 1) := qr_o27 hN_cX9_isWell hn_cX9_isWell rfl rfl
theorem dX9_isWell_13 : decode cX9_isWell 13 = .ok (.baload, 1) := qr_o51 hN_cX9_isWell hn_cX9_isWell rfl rfl
theorem dX9_isWell_14 : decode cX9_isWell 14 = .ok (.ifCond .eq 18, 3) := qr_o153 0 18 rfl hN_cX9_isWell hn_cX9_isWell rfl rfl rfl rfl
theorem dX9_isWell_17 : decode cX9_isWell 17 = .ok (.aload_n 0, 1) := qr_o42 hN_cX9_isWell hn_cX9_isWell rfl rfl
theorem dX9_isWell_18 : decode cX9_isWell 18 = .ok (.getfield 62, 3) := qr_o180 0 62 hN_cX9_isWell hn_cX9_isWell rfl rfl rfl rfl
theorem dX9_isWell_21 : decode cX9_isWell 21 = .ok (.iload_n 1, 1) := qr_o27 hN_cX9_isWell hn_cX9_isWell rfl rfl
theorem dX9_isWell_22 : decode cX9_isWell 22 = .ok (.iaload, 1) := qr_o46 hN_cX9_isWell hn_cX9_isWell rfl rfl
theorem dX9_isWell_23 : decode cX9_isWell 23 = .ok (.aload_n 0, 1) := qr_o42 hN_cX9_isWell hn_cX9_isWell rfl rfl
theorem dX9_isWell_24 : decode cX9_isWell 24 = .ok (.getfield 89, 3) := qr_o180 0 89 hN_cX9_isWell hn_cX9_isWell rfl rfl rfl rfl
theorem dX9_isWell_27 : decode cX9_isWell 27 = .ok (.iload_n 2, 1) := qr_o28 hN_cX9_isWell hn_cX9_isWell rfl rfl
theorem dX9_isWell_28 : decode cX9_isWell 28 = .ok (.iaload, 1) := qr_o46 hN_cX9_isWell hn_cX9_isWell rfl rfl
theorem dX9_isWell_29 : decode cX9_isWell 29 = .ok (.if_icmp .le 7, 3) := qr_o164 0 7 rfl hN_cX9_isWell hn_cX9_isWell rfl rfl rfl rfl
theorem dX9_isWell_32 : decode cX9_isWell 32 = .ok (.iconst 1, 1) := qr_o4 hN_cX9_isWell hn_cX9_isWell rfl rfl
theorem dX9_isWell_33 : decode cX9_isWell 33 = .ok (.goto 4, 3) := qr_o167 0 4 rfl hN_cX9_isWell hn_cX9_isWell rfl rfl rfl rfl
theorem dX9_isWell_36 : decode cX9_isWell 36 = .ok (.iconst 0, 1) := qr_o3 hN_cX9_isWell hn_cX9_isWell rfl rfl
theorem dX9_isWell_37 : decode cX9_isWell 37 = .ok (.ireturn, 1) := qr_o172 hN_cX9_isWell hn_cX9_isWell rfl rfl
def nN_cX9_holderOf : Nat := 0xac1dcbffa70104843efe100500a704150800a0021d1000991901b604151c1b2a1b00a01b2e04156800b42a26009f1c04153200a20101b42a04150436033e02
theorem hN_cX9_holderOf : qr_n cX9_holderOf.data.toList = nN_cX9_holderOf := by decide +kernel
theorem hn_cX9_holderOf : cX9_holderOf.size = 63 := by decide +kernel
theorem dX9_holderOf_0 : decode cX9_holderOf 0 = .ok (.iconst (-1), 1) := qr_o2 hN_cX9_holderOf hn_cX9_holderOf rfl rfl
theorem dX9_holderOf_1 : decode cX9_holderOf 1 = .ok (.istore_n 3, 1) := qr_o62 hN_cX9_holderOf hn_cX9_holderOf rfl rfl
theorem dX9_holderOf_2 : decode cX9_holderOf 2 = .ok (.iconst 0, 1) := qr_o3 hN_cX9_holderOf hn_cX9_holderOf rfl rfl
theorem dX9_holderOf_3 : decode cX9_holderOf 3 = .ok (.istore 4, 2) := qr_o54 4 hN_cX9_holderOf hn_cX9_holderOf rfl rfl rfl
theorem dX9_holderOf_5 : decode cX9_holderOf 5 = .ok (.iload 4, 2) := qr_o21 4 hN_cX9_holderOf hn_cX9_holderOf rfl rfl rfl
theorem dX9_holderOf_7 : decode cX9_holderOf 7 = .ok (.aload_n 0, 1) := qr_o42 hN_cX9_holderOf hn_cX9_holderOf rfl rfl
theorem dX9_holderOf_8 : decode cX9_holderOf 8 = .ok (.getfield 257, 3) := qr_o180 1 1 hN_cX9_holderOf hn_cX9_holderOf rfl rfl rfl rfl
theorem dX9_holderOf_11 : decode cX9_holderOf 11 = .ok (.if_icmp .ge 50, 3) := qr_o162 0 50 rfl hN_cX9_holderOf hn_cX9_holderOf rfl rfl rfl rfl
theorem dX9_holderOf_14 : decode cX9_holderOf 14 = .ok (.iload 4, 2) := qr_o21 4 hN_cX9_holderOf hn_cX9_holderOf rfl rfl rfl
theorem dX9_holderOf_16 : decode cX9_holderOf 16 = .ok (.iload_n 2, 1) := qr_o28 hN_cX9_holderOf hn_cX9_holderOf rfl rfl
theorem dX9_holderOf_17 : decode cX9_holderOf 17 = .ok (.if_icmp .eq 38, 3) := qr_o159 0 38 rfl hN_cX9_holderOf hn_cX9_holderOf rfl rfl rfl rfl
theorem dX9_holderOf_20 : decode cX9_holderOf 20 = .ok (.aload_n 0, 1) := qr_o42 hN_cX9_holderOf hn_cX9_holderOf rfl rfl
theorem dX9_holderOf_21 : decode cX9_holderOf 21 = .ok (.getfield 104, 3) := qr_o180 0 104 hN_cX9_holderOf hn_cX9_holderOf rfl rfl rfl rfl
theorem dX9_holderOf_24 : decode cX9_holderOf 24 = .ok (.iload 4, 2) := qr_o21 4 hN_cX9_holderOf hn_cX9_holderOf rfl rfl rfl
theorem dX9_holderOf_26 : decode cX9_holderOf 26 = .ok (.iaload, 1) := qr_o46 hN_cX9_holderOf hn_cX9_holderOf rfl rfl
theorem dX9_holderOf_27 : decode cX9_holderOf 27 = .ok (.iload_n 1, 1) := qr_o27 hN_cX9_holderOf hn_cX9_holderOf rfl rfl
theorem dX9_holderOf_28 : decode cX9_holderOf 28 = .ok (.if_icmp .ne 27, 3) := qr_o160 0 27 rfl hN_cX9_holderOf hn_cX9_holderOf rfl rfl rfl rfl
theorem dX9_holderOf_31 : decode cX9_holderOf 31 = .ok (.aload_n 0, 1) := qr_o42 hN_cX9_holderOf hn_cX9_holderOf rfl rfl
theorem dX9_holderOf_32 : decode cX9_holderOf 32 = .ok (.iload_n 1, 1) := qr_o27 hN_cX9_holderOf hn_cX9_holderOf rfl rfl
theorem dX9_holderOf_33 : decode cX9_holderOf 33 = .ok (.iload_n 2, 1) := qr_o28 hN_cX9_holderOf hn_cX9_holderOf rfl rfl
theorem dX9_holderOf_34 : decode cX9_holderOf 34 = .ok (.iload 4, 2) := qr_o21 4 hN_cX9_holderOf hn_cX9_holderOf rfl rfl rfl
theorem dX9_holderOf_36 : decode cX9_holderOf 36 = .ok (.invokevirtual 281, 3) := qr_o182 1 25 hN_cX9_holderOf hn_cX9_holderOf rfl rfl rfl rfl
theorem dX9_holderOf_39 : decode cX9_holderOf 39 = .ok (.ifCond .eq 16, 3) := qr_o153 0 16 rfl hN_cX9_holderOf hn_cX9_holderOf rfl rfl rfl rfl
theorem dX9_holderOf_42 : decode cX9_holderOf 42 = .ok (.iload_n 3, 1) := qr_o29 hN_cX9_holderOf hn_cX9_holderOf rfl rfl
theorem dX9_holderOf_43 : decode cX9_holderOf 43 = .ok (.iconst (-1), 1) := qr_o2 hN_cX9_holderOf hn_cX9_holderOf rfl rfl
theorem dX9_holderOf_44 : decode cX9_holderOf 44 = .ok (.if_icmp .ne 8, 3) := qr_o160 0 8 rfl hN_cX9_holderOf hn_cX9_holderOf rfl rfl rfl rfl
theorem dX9_holderOf_47 : decode cX9_holderOf 47 = .ok (.iload 4, 2) := qr_o21 4 hN_cX9_holderOf hn_cX9_holderOf rfl rfl rfl
theorem dX9_holderOf_49 : decode cX9_holderOf 49 = .ok (.goto 5, 3) := qr_o167 0 5 rfl hN_cX9_holderOf hn_cX9_holderOf rfl rfl rfl rfl
theorem dX9_holderOf_52 : decode cX9_holderOf 52 = .ok (.bipush (-2), 2) := qr_w16 254 2 rfl rfl hN_cX9_holderOf hn_cX9_holderOf rfl rfl rfl
theorem dX9_holderOf_54 : decode cX9_holderOf 54 = .ok (.istore_n 3, 1) := qr_o62 hN_cX9_holderOf hn_cX9_holderOf rfl rfl
theorem dX9_holderOf_55 : decode cX9_holderOf 55 = .ok (.iinc 4 1, 3) := qr_o132 4 1 rfl hN_cX9_holderOf hn_cX9_holderOf rfl rfl rfl rfl
theorem dX9_holderOf_58 : decode cX9_holderOf 58 = .ok (.goto (-53), 3) := qr_w167 255 203 53 rfl rfl hN_cX9_holderOf hn_cX9_holderOf rfl rfl rfl rfl
theorem dX9_holderOf_61 : decode cX9_holderOf 61 = .ok (.iload_n 3, 1) := qr_o29 hN_cX9_holderOf hn_cX9_holderOf rfl rfl
theorem dX9_holderOf_62 : decode cX9_holderOf 62 = .ok (.ireturn, 1) := qr_o172 hN_cX9_holderOf hn_cX9_holderOf rfl rfl
def nN_cX9_isFree : Nat := 0xac030400a7040700a0022001b61c1b2a1100991c01b61c1b2a
theorem hN_cX9_isFree : qr_n cX9_isFree.data.toList = nN_cX9_isFree := by decide +kernel
theorem hn_cX9_isFree : cX9_isFree.size = 25 := by decide +kernel
theorem dX9_isFree_0 : decode cX9_isFree 0 = .ok (.aload_n 0, 1) := qr_o42 hN_cX9_isFree hn_cX9_isFree rfl rfl
theorem dX9_isFree_1 : decode cX9_isFree 1 = .ok (.iload_n 1, 1) := qr_o27 hN_cX9_isFree hn_cX9_isFree rfl rfl
theorem dX9_isFree_2 : decode cX9_isFree 2 = .ok (.iload_n 2, 1) := qr_o28 hN_cX9_isFree hn_cX9_isFree rfl rfl
theorem dX9_isFree_3 : decode cX9_isFree 3 = .ok (.invokevirtual 284, 3) := qr_o182 1 28 hN_cX9_isFree hn_cX9_isFree rfl rfl rfl rfl
theorem dX9_isFree_6 : decode cX9_isFree 6 = .ok (.ifCond .eq 17, 3) := qr_o153 0 17 rfl hN_cX9_isFree hn_cX9_isFree rfl rfl rfl rfl
theorem dX9_isFree_9 : decode cX9_isFree 9 = .ok (.aload_n 0, 1) := qr_o42 hN_cX9_isFree hn_cX9_isFree rfl rfl
theorem dX9_isFree_10 : decode cX9_isFree 10 = .ok (.iload_n 1, 1) := qr_o27 hN_cX9_isFree hn_cX9_isFree rfl rfl
theorem dX9_isFree_11 : decode cX9_isFree 11 = .ok (.iload_n 2, 1) := qr_o28 hN_cX9_isFree hn_cX9_isFree rfl rfl
theorem dX9_isFree_12 : decode cX9_isFree 12 = .ok (.invokevirtual 288, 3) := qr_o182 1 32 hN_cX9_isFree hn_cX9_isFree rfl rfl rfl rfl
theorem dX9_isFree_15 : decode cX9_isFree 15 = .ok (.iconst (-1), 1) := qr_o2 hN_cX9_isFree hn_cX9_isFree rfl rfl
theorem dX9_isFree_16 : decode cX9_isFree 16 = .ok (.if_icmp .ne 7, 3) := qr_o160 0 7 rfl hN_cX9_isFree hn_cX9_isFree rfl rfl rfl rfl
theorem dX9_isFree_19 : decode cX9_isFree 19 = .ok (.iconst 1, 1) := qr_o4 hN_cX9_isFree hn_cX9_isFree rfl rfl
theorem dX9_isFree_20 : decode cX9_isFree 20 = .ok (.goto 4, 3) := qr_o167 0 4 rfl hN_cX9_isFree hn_cX9_isFree rfl rfl rfl rfl
theorem dX9_isFree_23 : decode cX9_isFree 23 = .ok (.iconst 0, 1) := qr_o3 hN_cX9_isFree hn_cX9_isFree rfl rfl
theorem dX9_isFree_24 : decode cX9_isFree 24 = .ok (.ireturn, 1) := qr_o172 hN_cX9_isFree hn_cX9_isFree rfl rfl
def nN_cX9_givenOf : Nat := 0xac1d80ffa7010584043606153e05150a00a2041506150a009b1d0636600f01b61b05152a68ee00b8642e1b5300b42a602e05153100b42a602e2e05151f00b42a4d00b42a2e05152200b42a10104800992301b61b05152a5200a005f300b62e1b5600b42a2e1b5300b42a05152a6800a01c2e05152500b42a0e009b1c7d00a2cb00b42a05150536030436033efc10
theorem hN_cX9_givenOf : qr_n cX9_givenOf.data.toList = nN_cX9_givenOf := by decide +kernel
theorem hn_cX9_givenOf : cX9_givenOf.size = 142 := by decide +kernel
theorem dX9_givenOf_0 : decode cX9_givenOf 0 = .ok (.bipush (-4), 2) := qr_w16 252 4 rfl rfl hN_cX9_givenOf hn_cX9_givenOf rfl rfl rfl
theorem dX9_givenOf_2 : decode cX9_givenOf 2 = .ok (.istore_n 3, 1) := qr_o62 hN_cX9_givenOf hn_cX9_givenOf rfl rfl
theorem dX9_givenOf_3 : decode cX9_givenOf 3 = .ok (.iconst 0, 1) := qr_o3 hN_cX9_givenOf hn_cX9_givenOf rfl rfl
theorem dX9_givenOf_4 : decode cX9_givenOf 4 = .ok (.istore 4, 2) := qr_o54 4 hN_cX9_givenOf hn_cX9_givenOf rfl rfl rfl
theorem dX9_givenOf_6 : decode cX9_givenOf 6 = .ok (.iconst 0, 1) := qr_o3 hN_cX9_givenOf hn_cX9_givenOf rfl rfl
theorem dX9_givenOf_7 : decode cX9_givenOf 7 = .ok (.istore 5, 2) := qr_o54 5 hN_cX9_givenOf hn_cX9_givenOf rfl rfl rfl
theorem dX9_givenOf_9 : decode cX9_givenOf 9 = .ok (.iload 5, 2) := qr_o21 5 hN_cX9_givenOf hn_cX9_givenOf rfl rfl rfl
theorem dX9_givenOf_11 : decode cX9_givenOf 11 = .ok (.aload_n 0, 1) := qr_o42 hN_cX9_givenOf hn_cX9_givenOf rfl rfl
theorem dX9_givenOf_12 : decode cX9_givenOf 12 = .ok (.getfield 203, 3) := qr_o180 0 203 hN_cX9_givenOf hn_cX9_givenOf rfl rfl rfl rfl
theorem dX9_givenOf_15 : decode cX9_givenOf 15 = .ok (.if_icmp .ge 125, 3) := qr_o162 0 125 rfl hN_cX9_givenOf hn_cX9_givenOf rfl rfl rfl rfl
theorem dX9_givenOf_18 : decode cX9_givenOf 18 = .ok (.iload_n 2, 1) := qr_o28 hN_cX9_givenOf hn_cX9_givenOf rfl rfl
theorem dX9_givenOf_19 : decode cX9_givenOf 19 = .ok (.ifCond .lt 14, 3) := qr_o155 0 14 rfl hN_cX9_givenOf hn_cX9_givenOf rfl rfl rfl rfl
theorem dX9_givenOf_22 : decode cX9_givenOf 22 = .ok (.aload_n 0, 1) := qr_o42 hN_cX9_givenOf hn_cX9_givenOf rfl rfl
theorem dX9_givenOf_23 : decode cX9_givenOf 23 = .ok (.getfield 37, 3) := qr_o180 0 37 hN_cX9_givenOf hn_cX9_givenOf rfl rfl rfl rfl
theorem dX9_givenOf_26 : decode cX9_givenOf 26 = .ok (.iload 5, 2) := qr_o21 5 hN_cX9_givenOf hn_cX9_givenOf rfl rfl rfl
theorem dX9_givenOf_28 : decode cX9_givenOf 28 = .ok (.iaload, 1) := qr_o46 hN_cX9_givenOf hn_cX9_givenOf rfl rfl
theorem dX9_givenOf_29 : decode cX9_givenOf 29 = .ok (.iload_n 2, 1) := qr_o28 hN_cX9_givenOf hn_cX9_givenOf rfl rfl
theorem dX9_givenOf_30 : decode cX9_givenOf 30 = .ok (.if_icmp .ne 104, 3) := qr_o160 0 104 rfl hN_cX9_givenOf hn_cX9_givenOf rfl rfl rfl rfl
theorem dX9_givenOf_33 : decode cX9_givenOf 33 = .ok (.aload_n 0, 1) := qr_o42 hN_cX9_givenOf hn_cX9_givenOf rfl rfl
theorem dX9_givenOf_34 : decode cX9_givenOf 34 = .ok (.iload 5, 2) := qr_o21 5 hN_cX9_givenOf hn_cX9_givenOf rfl rfl rfl
theorem dX9_givenOf_36 : decode cX9_givenOf 36 = .ok (.aload_n 0, 1) := qr_o42 hN_cX9_givenOf hn_cX9_givenOf rfl rfl
theorem dX9_givenOf_37 : decode cX9_givenOf 37 = .ok (.getfield 83, 3) := qr_o180 0 83 hN_cX9_givenOf hn_cX9_givenOf rfl rfl rfl rfl
theorem dX9_givenOf_40 : decode cX9_givenOf 40 = .ok (.iload_n 1, 1) := qr_o27 hN_cX9_givenOf hn_cX9_givenOf rfl rfl
theorem dX9_givenOf_41 : decode cX9_givenOf 41 = .ok (.iaload, 1) := qr_o46 hN_cX9_givenOf hn_cX9_givenOf rfl rfl
theorem dX9_givenOf_42 : decode cX9_givenOf 42 = .ok (.aload_n 0, 1) := qr_o42 hN_cX9_givenOf hn_cX9_givenOf rfl rfl
theorem dX9_givenOf_43 : decode cX9_givenOf 43 = .ok (.getfield 86, 3) := qr_o180 0 86 hN_cX9_givenOf hn_cX9_givenOf rfl rfl rfl rfl
theorem dX9_givenOf_46 : decode cX9_givenOf 46 = .ok (.iload_n 1, 1) := qr_o27 hN_cX9_givenOf hn_cX9_givenOf rfl rfl
theorem dX9_givenOf_47 : decode cX9_givenOf 47 = .ok (.iaload, 1) := qr_o46 hN_cX9_givenOf hn_cX9_givenOf rfl rfl
theorem dX9_givenOf_48 : decode cX9_givenOf 48 = .ok (.invokevirtual 243, 3) := qr_o182 0 243 hN_cX9_givenOf hn_cX9_givenOf rfl rfl rfl rfl
theorem dX9_givenOf_51 : decode cX9_givenOf 51 = .ok (.iconst 2, 1) := qr_o5 hN_cX9_givenOf hn_cX9_givenOf rfl rfl
theorem dX9_givenOf_52 : decode cX9_givenOf 52 = .ok (.if_icmp .ne 82, 3) := qr_o160 0 82 rfl hN_cX9_givenOf hn_cX9_givenOf rfl rfl rfl rfl
theorem dX9_givenOf_55 : decode cX9_givenOf 55 = .ok (.aload_n 0, 1) := qr_o42 hN_cX9_givenOf hn_cX9_givenOf rfl rfl
theorem dX9_givenOf_56 : decode cX9_givenOf 56 = .ok (.iload 5, 2) := qr_o21 5 hN_cX9_givenOf hn_cX9_givenOf rfl rfl rfl
theorem dX9_givenOf_58 : decode cX9_givenOf 58 = .ok (.iload_n 1, 1) := qr_o27 hN_cX9_givenOf hn_cX9_givenOf rfl rfl
theorem dX9_givenOf_59 : decode cX9_givenOf 59 = .ok (.invokevirtual 291, 3) := qr_o182 1 35 hN_cX9_givenOf hn_cX9_givenOf rfl rfl rfl rfl
theorem dX9_givenOf_62 : decode cX9_givenOf 62 = .ok (.ifCond .eq 72, 3) := qr_o153 0 72 rfl hN_cX9_givenOf hn_cX9_givenOf rfl rfl rfl rfl
theorem dX9_givenOf_65 : decode cX9_givenOf 65 = .ok (.bipush 16, 2) := qr_o16 16 rfl hN_cX9_givenOf hn_cX9_givenOf rfl rfl rfl
theorem dX9_givenOf_67 : decode cX9_givenOf 67 = .ok (.aload_n 0, 1) := qr_o42 hN_cX9_givenOf hn_cX9_givenOf rfl rfl
theorem dX9_givenOf_68 : decode cX9_givenOf 68 = .ok (.getfield 34, 3) := qr_o180 0 34 hN_cX9_givenOf hn_cX9_givenOf rfl rfl rfl rfl
theorem dX9_givenOf_71 : decode cX9_givenOf 71 = .ok (.iload 5, 2) := qr_o21 5 hN_cX9_givenOf hn_cX9_givenOf rfl rfl rfl
theorem dX9_givenOf_73 : decode cX9_givenOf 73 = .ok (.iaload, 1) := qr_o46 hN_cX9_givenOf hn_cX9_givenOf rfl rfl
theorem dX9_givenOf_74 : decode cX9_givenOf 74 = .ok (.aload_n 0, 1) := qr_o42 hN_cX9_givenOf hn_cX9_givenOf rfl rfl
theorem dX9_givenOf_75 : decode cX9_givenOf 75 = .ok (.getfield 77, 3) := qr_o180 0 77 hN_cX9_givenOf hn_cX9_givenOf rfl rfl rfl rfl
theorem dX9_givenOf_78 : decode cX9_givenOf 78 = .ok (.aload_n 0, 1) := qr_o42 hN_cX9_givenOf hn_cX9_givenOf rfl rfl
theorem dX9_givenOf_79 : decode cX9_givenOf 79 = .ok (.getfield 31, 3) := qr_o180 0 31 hN_cX9_givenOf hn_cX9_givenOf rfl rfl rfl rfl
theorem dX9_givenOf_82 : decode cX9_givenOf 82 = .ok (.iload 5, 2) := qr_o21 5 hN_cX9_givenOf hn_cX9_givenOf rfl rfl rfl
theorem dX9_givenOf_84 : decode cX9_givenOf 84 = .ok (.iaload, 1) := qr_o46 hN_cX9_givenOf hn_cX9_givenOf rfl rfl
theorem dX9_givenOf_85 : decode cX9_givenOf 85 = .ok (.iaload, 1) := qr_o46 hN_cX9_givenOf hn_cX9_givenOf rfl rfl
theorem dX9_givenOf_86 : decode cX9_givenOf 86 = .ok (.iadd, 1) := qr_o96 hN_cX9_givenOf hn_cX9_givenOf rfl rfl
theorem dX9_givenOf_87 : decode cX9_givenOf 87 = .ok (.aload_n 0, 1) := qr_o42 hN_cX9_givenOf hn_cX9_givenOf rfl rfl
theorem dX9_givenOf_88 : decode cX9_givenOf 88 = .ok (.getfield 49, 3) := qr_o180 0 49 hN_cX9_givenOf hn_cX9_givenOf rfl rfl rfl rfl
theorem dX9_givenOf_91 : decode cX9_givenOf 91 = .ok (.iload 5, 2) := qr_o21 5 hN_cX9_givenOf hn_cX9_givenOf rfl rfl rfl
theorem dX9_givenOf_93 : decode cX9_givenOf 93 = .ok (.iaload, 1) := qr_o46 hN_cX9_givenOf hn_cX9_givenOf rfl rfl
theorem dX9_givenOf_94 : decode cX9_givenOf 94 = .ok (.iadd, 1) := qr_o96 hN_cX9_givenOf hn_cX9_givenOf rfl rfl
theorem dX9_givenOf_95 : decode cX9_givenOf 95 = .ok (.aload_n 0, 1) := qr_o42 hN_cX9_givenOf hn_cX9_givenOf rfl rfl
theorem dX9_givenOf_96 : decode cX9_givenOf 96 = .ok (.getfield 83, 3) := qr_o180 0 83 hN_cX9_givenOf hn_cX9_givenOf rfl rfl rfl rfl
theorem dX9_givenOf_99 : decode cX9_givenOf 99 = .ok (.iload_n 1, 1) := qr_o27 hN_cX9_givenOf hn_cX9_givenOf rfl rfl
theorem dX9_givenOf_100 : decode cX9_givenOf 100 = .ok (.iaload, 1) := qr_o46 hN_cX9_givenOf hn_cX9_givenOf rfl rfl
theorem dX9_givenOf_101 : decode cX9_givenOf 101 = .ok (.isub, 1) := qr_o100 hN_cX9_givenOf hn_cX9_givenOf rfl rfl
theorem dX9_givenOf_102 : decode cX9_givenOf 102 = .ok (.invokestatic 238, 3) := qr_o184 0 238 hN_cX9_givenOf hn_cX9_givenOf rfl rfl rfl rfl
theorem dX9_givenOf_105 : decode cX9_givenOf 105 = .ok (.imul, 1) := qr_o104 hN_cX9_givenOf hn_cX9_givenOf rfl rfl
theorem dX9_givenOf_106 : decode cX9_givenOf 106 = .ok (.aload_n 0, 1) := qr_o42 hN_cX9_givenOf hn_cX9_givenOf rfl rfl
theorem dX9_givenOf_107 : decode cX9_givenOf 107 = .ok (.iload 5, 2) := qr_o21 5 hN_cX9_givenOf hn_cX9_givenOf rfl rfl rfl
theorem dX9_givenOf_109 : decode cX9_givenOf 109 = .ok (.iload_n 1, 1) := qr_o27 hN_cX9_givenOf hn_cX9_givenOf rfl rfl
theorem dX9_givenOf_110 : decode cX9_givenOf 110 = .ok (.invokevirtual 271, 3) := qr_o182 1 15 hN_cX9_givenOf hn_cX9_givenOf rfl rfl rfl rfl
theorem dX9_givenOf_113 : decode cX9_givenOf 113 = .ok (.iadd, 1) := qr_o96 hN_cX9_givenOf hn_cX9_givenOf rfl rfl
theorem dX9_givenOf_114 : decode cX9_givenOf 114 = .ok (.istore 6, 2) := qr_o54 6 hN_cX9_givenOf hn_cX9_givenOf rfl rfl rfl
theorem dX9_givenOf_116 : decode cX9_givenOf 116 = .ok (.iload_n 3, 1) := qr_o29 hN_cX9_givenOf hn_cX9_givenOf rfl rfl
theorem dX9_givenOf_117 : decode cX9_givenOf 117 = .ok (.ifCond .lt 10, 3) := qr_o155 0 10 rfl hN_cX9_givenOf hn_cX9_givenOf rfl rfl rfl rfl
theorem dX9_givenOf_120 : decode cX9_givenOf 120 = .ok (.iload 6, 2) := qr_o21 6 hN_cX9_givenOf hn_cX9_givenOf rfl rfl rfl
theorem dX9_givenOf_122 : decode cX9_givenOf 122 = .ok (.iload 4, 2) := qr_o21 4 hN_cX9_givenOf hn_cX9_givenOf rfl rfl rfl
theorem dX9_givenOf_124 : decode cX9_givenOf 124 = .ok (.if_icmp .ge 10, 3) := qr_o162 0 10 rfl hN_cX9_givenOf hn_cX9_givenOf rfl rfl rfl rfl
theorem dX9_givenOf_127 : decode cX9_givenOf 127 = .ok (.iload 5, 2) := qr_o21 5 hN_cX9_givenOf hn_cX9_givenOf rfl rfl rfl
theorem dX9_givenOf_129 : decode cX9_givenOf 129 = .ok (.istore_n 3, 1) := qr_o62 hN_cX9_givenOf hn_cX9_givenOf rfl rfl
theorem dX9_givenOf_130 : decode cX9_givenOf 130 = .ok (.iload 6, 2) := qr_o21 6 hN_cX9_givenOf hn_cX9_givenOf rfl rfl rfl
theorem dX9_givenOf_132 : decode cX9_givenOf 132 = .ok (.istore 4, 2) := qr_o54 4 hN_cX9_givenOf hn_cX9_givenOf rfl rfl rfl
theorem dX9_givenOf_134 : decode cX9_givenOf 134 = .ok (.iinc 5 1, 3) := qr_o132 5 1 rfl hN_cX9_givenOf hn_cX9_givenOf rfl rfl rfl rfl
theorem dX9_givenOf_137 : decode cX9_givenOf 137 = .ok (.goto (-128), 3) := qr_w167 255 128 128 rfl rfl hN_cX9_givenOf hn_cX9_givenOf rfl rfl rfl rfl
theorem dX9_givenOf_140 : decode cX9_givenOf 140 = .ok (.iload_n 3, 1) := qr_o29 hN_cX9_givenOf hn_cX9_givenOf rfl rfl
theorem dX9_givenOf_141 : decode cX9_givenOf 141 = .ok (.ireturn, 1) := qr_o172 hN_cX9_givenOf hn_cX9_givenOf rfl rfl
def nN_cX9_isOpen : Nat := 0xac030400a70407009c2e1b6500b42a10009c2e1b6800b42a
theorem hN_cX9_isOpen : qr_n cX9_isOpen.data.toList = nN_cX9_isOpen := by decide +kernel
theorem hn_cX9_isOpen : cX9_isOpen.size = 24 := by decide +kernel
theorem dX9_isOpen_0 : decode cX9_isOpen 0 = .ok (.aload_n 0, 1) := qr_o42 hN_cX9_isOpen hn_cX9_isOpen rfl rfl
theorem dX9_isOpen_1 : decode cX9_isOpen 1 = .ok (.getfield 104, 3) := qr_o180 0 104 hN_cX9_isOpen hn_cX9_isOpen rfl rfl rfl rfl
theorem dX9_isOpen_4 : decode cX9_isOpen 4 = .ok (.iload_n 1, 1) := qr_o27 hN_cX9_isOpen hn_cX9_isOpen rfl rfl
theorem dX9_isOpen_5 : decode cX9_isOpen 5 = .ok (.iaload, 1) := qr_o46 hN_cX9_isOpen hn_cX9_isOpen rfl rfl
theorem dX9_isOpen_6 : decode cX9_isOpen 6 = .ok (.ifCond .ge 16, 3) := qr_o156 0 16 rfl hN_cX9_isOpen hn_cX9_isOpen rfl rfl rfl rfl
theorem dX9_isOpen_9 : decode cX9_isOpen 9 = .ok (.aload_n 0, 1) := qr_o42 hN_cX9_isOpen hn_cX9_isOpen rfl rfl
theorem dX9_isOpen_10 : decode cX9_isOpen 10 = .ok (.getfield 101, 3) := qr_o180 0 101 hN_cX9_isOpen hn_cX9_isOpen rfl rfl rfl rfl
theorem dX9_isOpen_13 : decode cX9_isOpen 13 = .ok (.iload_n 1, 1) := qr_o27 hN_cX9_isOpen hn_cX9_isOpen rfl rfl
theorem dX9_isOpen_14 : decode cX9_isOpen 14 = .ok (.iaload, 1) := qr_o46 hN_cX9_isOpen hn_cX9_isOpen rfl rfl
theorem dX9_isOpen_15 : decode cX9_isOpen 15 = .ok (.ifCond .ge 7, 3) := qr_o156 0 7 rfl hN_cX9_isOpen hn_cX9_isOpen rfl rfl rfl rfl
theorem dX9_isOpen_18 : decode cX9_isOpen 18 = .ok (.iconst 1, 1) := qr_o4 hN_cX9_isOpen hn_cX9_isOpen rfl rfl
theorem dX9_isOpen_19 : decode cX9_isOpen 19 = .ok (.goto 4, 3) := qr_o167 0 4 rfl hN_cX9_isOpen hn_cX9_isOpen rfl rfl rfl rfl
theorem dX9_isOpen_22 : decode cX9_isOpen 22 = .ok (.iconst 0, 1) := qr_o3 hN_cX9_isOpen hn_cX9_isOpen rfl rfl
theorem dX9_isOpen_23 : decode cX9_isOpen 23 = .ok (.ireturn, 1) := qr_o172 hN_cX9_isOpen hn_cX9_isOpen rfl rfl
def nN_cX9_give : Nat := 0xac1c4f1c0400a70207009c1c1b6800b42a3d2901b6021b2aeb00b62aacfe1006009a2601b61b2aac0205009a0c01b61b2a
theorem hN_cX9_give : qr_n cX9_give.data.toList = nN_cX9_give := by decide +kernel
theorem hn_cX9_give : cX9_give.size = 49 := by decide +kernel
theorem dX9_give_0 : decode cX9_give 0 = .ok (.aload_n 0, 1) := qr_o42 hN_cX9_give hn_cX9_give rfl rfl
theorem dX9_give_1 : decode cX9_give 1 = .ok (.iload_n 1, 1) := qr_o27 hN_cX9_give hn_cX9_give rfl rfl
theorem dX9_give_2 : decode cX9_give 2 = .ok (.invokevirtual 268, 3) := qr_o182 1 12 hN_cX9_give hn_cX9_give rfl rfl rfl rfl
theorem dX9_give_5 : decode cX9_give 5 = .ok (.ifCond .ne 5, 3) := qr_o154 0 5 rfl hN_cX9_give hn_cX9_give rfl rfl rfl rfl
theorem dX9_give_8 : decode cX9_give 8 = .ok (.iconst (-1), 1) := qr_o2 hN_cX9_give hn_cX9_give rfl rfl
theorem dX9_give_9 : decode cX9_give 9 = .ok (.ireturn, 1) := qr_o172 hN_cX9_give hn_cX9_give rfl rfl
theorem dX9_give_10 : decode cX9_give 10 = .ok (.aload_n 0, 1) := qr_o42 hN_cX9_give hn_cX9_give rfl rfl
theorem dX9_give_11 : decode cX9_give 11 = .ok (.iload_n 1, 1) := qr_o27 hN_cX9_give hn_cX9_give rfl rfl
theorem dX9_give_12 : decode cX9_give 12 = .ok (.invokevirtual 294, 3) := qr_o182 1 38 hN_cX9_give hn_cX9_give rfl rfl rfl rfl
theorem dX9_give_15 : decode cX9_give 15 = .ok (.ifCond .ne 6, 3) := qr_o154 0 6 rfl hN_cX9_give hn_cX9_give rfl rfl rfl rfl
theorem dX9_give_18 : decode cX9_give 18 = .ok (.bipush (-2), 2) := qr_w16 254 2 rfl rfl hN_cX9_give hn_cX9_give rfl rfl rfl
theorem dX9_give_20 : decode cX9_give 20 = .ok (.ireturn, 1) := qr_o172 hN_cX9_give hn_cX9_give rfl rfl
theorem dX9_give_21 : decode cX9_give 21 = .ok (.aload_n 0, 1) := qr_o42 hN_cX9_give hn_cX9_give rfl rfl
theorem dX9_give_22 : decode cX9_give 22 = .ok (.invokevirtual 235, 3) := qr_o182 0 235 hN_cX9_give hn_cX9_give rfl rfl rfl rfl
theorem dX9_give_25 : decode cX9_give 25 = .ok (.aload_n 0, 1) := qr_o42 hN_cX9_give hn_cX9_give rfl rfl
theorem dX9_give_26 : decode cX9_give 26 = .ok (.iload_n 1, 1) := qr_o27 hN_cX9_give hn_cX9_give rfl rfl
theorem dX9_give_27 : decode cX9_give 27 = .ok (.iconst (-1), 1) := qr_o2 hN_cX9_give hn_cX9_give rfl rfl
theorem dX9_give_28 : decode cX9_give 28 = .ok (.invokevirtual 297, 3) := qr_o182 1 41 hN_cX9_give hn_cX9_give rfl rfl rfl rfl
theorem dX9_give_31 : decode cX9_give 31 = .ok (.istore_n 2, 1) := qr_o61 hN_cX9_give hn_cX9_give rfl rfl
theorem dX9_give_32 : decode cX9_give 32 = .ok (.aload_n 0, 1) := qr_o42 hN_cX9_give hn_cX9_give rfl rfl
theorem dX9_give_33 : decode cX9_give 33 = .ok (.getfield 104, 3) := qr_o180 0 104 hN_cX9_give hn_cX9_give rfl rfl rfl rfl
theorem dX9_give_36 : decode cX9_give 36 = .ok (.iload_n 1, 1) := qr_o27 hN_cX9_give hn_cX9_give rfl rfl
theorem dX9_give_37 : decode cX9_give 37 = .ok (.iload_n 2, 1) := qr_o28 hN_cX9_give hn_cX9_give rfl rfl
theorem dX9_give_38 : decode cX9_give 38 = .ok (.ifCond .ge 7, 3) := qr_o156 0 7 rfl hN_cX9_give hn_cX9_give rfl rfl rfl rfl
theorem dX9_give_41 : decode cX9_give 41 = .ok (.iconst (-1), 1) := qr_o2 hN_cX9_give hn_cX9_give rfl rfl
theorem dX9_give_42 : decode cX9_give 42 = .ok (.goto 4, 3) := qr_o167 0 4 rfl hN_cX9_give hn_cX9_give rfl rfl rfl rfl
theorem dX9_give_45 : decode cX9_give 45 = .ok (.iload_n 2, 1) := qr_o28 hN_cX9_give hn_cX9_give rfl rfl
theorem dX9_give_46 : decode cX9_give 46 = .ok (.iastore, 1) := qr_o79 hN_cX9_give hn_cX9_give rfl rfl
theorem dX9_give_47 : decode cX9_give 47 = .ok (.iload_n 2, 1) := qr_o28 hN_cX9_give hn_cX9_give rfl rfl
theorem dX9_give_48 : decode cX9_give 48 = .ok (.ireturn, 1) := qr_o172 hN_cX9_give hn_cX9_give rfl rfl
def nN_cX9_has : Nat := 0xac2e1b6800b42a0900a7fc1008009c2e1b6800b42a1700a70207009a0c01b61b2a
theorem hN_cX9_has : qr_n cX9_has.data.toList = nN_cX9_has := by decide +kernel
theorem hn_cX9_has : cX9_has.size = 33 := by decide +kernel
theorem dX9_has_0 : decode cX9_has 0 = .ok (.aload_n 0, 1) := qr_o42 hN_cX9_has hn_cX9_has rfl rfl
theorem dX9_has_1 : decode cX9_has 1 = .ok (.iload_n 1, 1) := qr_o27 hN_cX9_has hn_cX9_has rfl rfl
theorem dX9_has_2 : decode cX9_has 2 = .ok (.invokevirtual 268, 3) := qr_o182 1 12 hN_cX9_has hn_cX9_has rfl rfl rfl rfl
theorem dX9_has_5 : decode cX9_has 5 = .ok (.ifCond .ne 7, 3) := qr_o154 0 7 rfl hN_cX9_has hn_cX9_has rfl rfl rfl rfl
theorem dX9_has_8 : decode cX9_has 8 = .ok (.iconst (-1), 1) := qr_o2 hN_cX9_has hn_cX9_has rfl rfl
theorem dX9_has_9 : decode cX9_has 9 = .ok (.goto 23, 3) := qr_o167 0 23 rfl hN_cX9_has hn_cX9_has rfl rfl rfl rfl
theorem dX9_has_12 : decode cX9_has 12 = .ok (.aload_n 0, 1) := qr_o42 hN_cX9_has hn_cX9_has rfl rfl
theorem dX9_has_13 : decode cX9_has 13 = .ok (.getfield 104, 3) := qr_o180 0 104 hN_cX9_has hn_cX9_has rfl rfl rfl rfl
theorem dX9_has_16 : decode cX9_has 16 = .ok (.iload_n 1, 1) := qr_o27 hN_cX9_has hn_cX9_has rfl rfl
theorem dX9_has_17 : decode cX9_has 17 = .ok (.iaload, 1) := qr_o46 hN_cX9_has hn_cX9_has rfl rfl
theorem dX9_has_18 : decode cX9_has 18 = .ok (.ifCond .ge 8, 3) := qr_o156 0 8 rfl hN_cX9_has hn_cX9_has rfl rfl rfl rfl
theorem dX9_has_21 : decode cX9_has 21 = .ok (.bipush (-4), 2) := qr_w16 252 4 rfl rfl hN_cX9_has hn_cX9_has rfl rfl rfl
theorem dX9_has_23 : decode cX9_has 23 = .ok (.goto 9, 3) := qr_o167 0 9 rfl hN_cX9_has hn_cX9_has rfl rfl rfl rfl
theorem dX9_has_26 : decode cX9_has 26 = .ok (.aload_n 0, 1) := qr_o42 hN_cX9_has hn_cX9_has rfl rfl
theorem dX9_has_27 : decode cX9_has 27 = .ok (.getfield 104, 3) := qr_o180 0 104 hN_cX9_has hn_cX9_has rfl rfl rfl rfl
theorem dX9_has_30 : decode cX9_has 30 = .ok (.iload_n 1, 1) := qr_o27 hN_cX9_has hn_cX9_has rfl rfl
theorem dX9_has_31 : decode cX9_has 31 = .ok (.iaload, 1) := qr_o46 hN_cX9_has hn_cX9_has rfl rfl
theorem dX9_has_32 : decode cX9_has 32 = .ok (.ireturn, 1) := qr_o172 hN_cX9_has hn_cX9_has rfl rfl
def nN_cX9_free : Nat := 0xac030400a7040700992301b61c1b2a1100a70207009a0c01b61c2a0b0099d200b61b2a
theorem hN_cX9_free : qr_n cX9_free.data.toList = nN_cX9_free := by decide +kernel
theorem hn_cX9_free : cX9_free.size = 35 := by decide +kernel
theorem dX9_free_0 : decode cX9_free 0 = .ok (.aload_n 0, 1) := qr_o42 hN_cX9_free hn_cX9_free rfl rfl
theorem dX9_free_1 : decode cX9_free 1 = .ok (.iload_n 1, 1) := qr_o27 hN_cX9_free hn_cX9_free rfl rfl
theorem dX9_free_2 : decode cX9_free 2 = .ok (.invokevirtual 210, 3) := qr_o182 0 210 hN_cX9_free hn_cX9_free rfl rfl rfl rfl
theorem dX9_free_5 : decode cX9_free 5 = .ok (.ifCond .eq 11, 3) := qr_o153 0 11 rfl hN_cX9_free hn_cX9_free rfl rfl rfl rfl
theorem dX9_free_8 : decode cX9_free 8 = .ok (.aload_n 0, 1) := qr_o42 hN_cX9_free hn_cX9_free rfl rfl
theorem dX9_free_9 : decode cX9_free 9 = .ok (.iload_n 2, 1) := qr_o28 hN_cX9_free hn_cX9_free rfl rfl
theorem dX9_free_10 : decode cX9_free 10 = .ok (.invokevirtual 268, 3) := qr_o182 1 12 hN_cX9_free hn_cX9_free rfl rfl rfl rfl
theorem dX9_free_13 : decode cX9_free 13 = .ok (.ifCond .ne 7, 3) := qr_o154 0 7 rfl hN_cX9_free hn_cX9_free rfl rfl rfl rfl
theorem dX9_free_16 : decode cX9_free 16 = .ok (.iconst (-1), 1) := qr_o2 hN_cX9_free hn_cX9_free rfl rfl
theorem dX9_free_17 : decode cX9_free 17 = .ok (.goto 17, 3) := qr_o167 0 17 rfl hN_cX9_free hn_cX9_free rfl rfl rfl rfl
theorem dX9_free_20 : decode cX9_free 20 = .ok (.aload_n 0, 1) := qr_o42 hN_cX9_free hn_cX9_free rfl rfl
theorem dX9_free_21 : decode cX9_free 21 = .ok (.iload_n 1, 1) := qr_o27 hN_cX9_free hn_cX9_free rfl rfl
theorem dX9_free_22 : decode cX9_free 22 = .ok (.iload_n 2, 1) := qr_o28 hN_cX9_free hn_cX9_free rfl rfl
theorem dX9_free_23 : decode cX9_free 23 = .ok (.invokevirtual 291, 3) := qr_o182 1 35 hN_cX9_free hn_cX9_free rfl rfl rfl rfl
theorem dX9_free_26 : decode cX9_free 26 = .ok (.ifCond .eq 7, 3) := qr_o153 0 7 rfl hN_cX9_free hn_cX9_free rfl rfl rfl rfl
theorem dX9_free_29 : decode cX9_free 29 = .ok (.iconst 1, 1) := qr_o4 hN_cX9_free hn_cX9_free rfl rfl
theorem dX9_free_30 : decode cX9_free 30 = .ok (.goto 4, 3) := qr_o167 0 4 rfl hN_cX9_free hn_cX9_free rfl rfl rfl rfl
theorem dX9_free_33 : decode cX9_free 33 = .ok (.iconst 0, 1) := qr_o3 hN_cX9_free hn_cX9_free rfl rfl
theorem dX9_free_34 : decode cX9_free 34 = .ok (.ireturn, 1) := qr_o172 hN_cX9_free hn_cX9_free rfl rfl
def nN_cX9_away : Nat := 0xac1601b61c1b2a0900a71301b61c1b2a0c009a1dac0205009a9400b80a09851d0d00990c01b61c2a150099d200b61b2a
theorem hN_cX9_away : qr_n cX9_away.data.toList = nN_cX9_away := by decide +kernel
theorem hn_cX9_away : cX9_away.size = 48 := by decide +kernel
theorem dX9_away_0 : decode cX9_away 0 = .ok (.aload_n 0, 1) := qr_o42 hN_cX9_away hn_cX9_away rfl rfl
theorem dX9_away_1 : decode cX9_away 1 = .ok (.iload_n 1, 1) := qr_o27 hN_cX9_away hn_cX9_away rfl rfl
theorem dX9_away_2 : decode cX9_away 2 = .ok (.invokevirtual 210, 3) := qr_o182 0 210 hN_cX9_away hn_cX9_away rfl rfl rfl rfl
theorem dX9_away_5 : decode cX9_away 5 = .ok (.ifCond .eq 21, 3) := qr_o153 0 21 rfl hN_cX9_away hn_cX9_away rfl rfl rfl rfl
theorem dX9_away_8 : decode cX9_away 8 = .ok (.aload_n 0, 1) := qr_o42 hN_cX9_away hn_cX9_away rfl rfl
theorem dX9_away_9 : decode cX9_away 9 = .ok (.iload_n 2, 1) := qr_o28 hN_cX9_away hn_cX9_away rfl rfl
theorem dX9_away_10 : decode cX9_away 10 = .ok (.invokevirtual 268, 3) := qr_o182 1 12 hN_cX9_away hn_cX9_away rfl rfl rfl rfl
theorem dX9_away_13 : decode cX9_away 13 = .ok (.ifCond .eq 13, 3) := qr_o153 0 13 rfl hN_cX9_away hn_cX9_away rfl rfl rfl rfl
theorem dX9_away_16 : decode cX9_away 16 = .ok (.iload_n 3, 1) := qr_o29 hN_cX9_away hn_cX9_away rfl rfl
theorem dX9_away_17 : decode cX9_away 17 = .ok (.i2l, 1) := qr_o133 hN_cX9_away hn_cX9_away rfl rfl
theorem dX9_away_18 : decode cX9_away 18 = .ok (.lconst 0, 1) := qr_o9 hN_cX9_away hn_cX9_away rfl rfl
theorem dX9_away_19 : decode cX9_away 19 = .ok (.lconst 1, 1) := qr_o10 hN_cX9_away hn_cX9_away rfl rfl
theorem dX9_away_20 : decode cX9_away 20 = .ok (.invokestatic 148, 3) := qr_o184 0 148 hN_cX9_away hn_cX9_away rfl rfl rfl rfl
theorem dX9_away_23 : decode cX9_away 23 = .ok (.ifCond .ne 5, 3) := qr_o154 0 5 rfl hN_cX9_away hn_cX9_away rfl rfl rfl rfl
theorem dX9_away_26 : decode cX9_away 26 = .ok (.iconst (-1), 1) := qr_o2 hN_cX9_away hn_cX9_away rfl rfl
theorem dX9_away_27 : decode cX9_away 27 = .ok (.ireturn, 1) := qr_o172 hN_cX9_away hn_cX9_away rfl rfl
theorem dX9_away_28 : decode cX9_away 28 = .ok (.iload_n 3, 1) := qr_o29 hN_cX9_away hn_cX9_away rfl rfl
theorem dX9_away_29 : decode cX9_away 29 = .ok (.ifCond .ne 12, 3) := qr_o154 0 12 rfl hN_cX9_away hn_cX9_away rfl rfl rfl rfl
theorem dX9_away_32 : decode cX9_away 32 = .ok (.aload_n 0, 1) := qr_o42 hN_cX9_away hn_cX9_away rfl rfl
theorem dX9_away_33 : decode cX9_away 33 = .ok (.iload_n 1, 1) := qr_o27 hN_cX9_away hn_cX9_away rfl rfl
theorem dX9_away_34 : decode cX9_away 34 = .ok (.iload_n 2, 1) := qr_o28 hN_cX9_away hn_cX9_away rfl rfl
theorem dX9_away_35 : decode cX9_away 35 = .ok (.invokevirtual 275, 3) := qr_o182 1 19 hN_cX9_away hn_cX9_away rfl rfl rfl rfl
theorem dX9_away_38 : decode cX9_away 38 = .ok (.goto 9, 3) := qr_o167 0 9 rfl hN_cX9_away hn_cX9_away rfl rfl rfl rfl
theorem dX9_away_41 : decode cX9_away 41 = .ok (.aload_n 0, 1) := qr_o42 hN_cX9_away hn_cX9_away rfl rfl
theorem dX9_away_42 : decode cX9_away 42 = .ok (.iload_n 1, 1) := qr_o27 hN_cX9_away hn_cX9_away rfl rfl
theorem dX9_away_43 : decode cX9_away 43 = .ok (.iload_n 2, 1) := qr_o28 hN_cX9_away hn_cX9_away rfl rfl
theorem dX9_away_44 : decode cX9_away 44 = .ok (.invokevirtual 278, 3) := qr_o182 1 22 hN_cX9_away hn_cX9_away rfl rfl rfl rfl
theorem dX9_away_47 : decode cX9_away 47 = .ok (.ireturn, 1) := qr_o172 hN_cX9_away hn_cX9_away rfl rfl
def nN_cX9_tear : Nat := 0xac1dc9ffa70104840103844f0204156800b42a0e009a2e04156b00b42a1800a11c2e04155900b42a2300a01b2e04156800b42a3400a20101b42a04150436033e034f1c1b3e00b42a54041b3b00b42aacfe100600a31c2e1b3e00b42a100099331b3b00b42aac0205009a9400b8fb001409851c0f0099d200b61b2a
theorem hN_cX9_tear : qr_n cX9_tear.data.toList = nN_cX9_tear := by decide +kernel
theorem hn_cX9_tear : cX9_tear.size = 123 := by decide +kernel
theorem dX9_tear_0 : decode cX9_tear 0 = .ok (.aload_n 0, 1) := qr_o42 hN_cX9_tear hn_cX9_tear rfl rfl
theorem dX9_tear_1 : decode cX9_tear 1 = .ok (.iload_n 1, 1) := qr_o27 hN_cX9_tear hn_cX9_tear rfl rfl
theorem dX9_tear_2 : decode cX9_tear 2 = .ok (.invokevirtual 210, 3) := qr_o182 0 210 hN_cX9_tear hn_cX9_tear rfl rfl rfl rfl
theorem dX9_tear_5 : decode cX9_tear 5 = .ok (.ifCond .eq 15, 3) := qr_o153 0 15 rfl hN_cX9_tear hn_cX9_tear rfl rfl rfl rfl
theorem dX9_tear_8 : decode cX9_tear 8 = .ok (.iload_n 2, 1) := qr_o28 hN_cX9_tear hn_cX9_tear rfl rfl
theorem dX9_tear_9 : decode cX9_tear 9 = .ok (.i2l, 1) := qr_o133 hN_cX9_tear hn_cX9_tear rfl rfl
theorem dX9_tear_10 : decode cX9_tear 10 = .ok (.lconst 0, 1) := qr_o9 hN_cX9_tear hn_cX9_tear rfl rfl
theorem dX9_tear_11 : decode cX9_tear 11 = .ok (.ldc2_w 251, 3) := qr_o20 0 251 hN_cX9_tear hn_cX9_tear rfl rfl rfl rfl
theorem dX9_tear_14 : decode cX9_tear 14 = .ok (.invokestatic 148, 3) := qr_o184 0 148 hN_cX9_tear hn_cX9_tear rfl rfl rfl rfl
theorem dX9_tear_17 : decode cX9_tear 17 = .ok (.ifCond .ne 5, 3) := qr_o154 0 5 rfl hN_cX9_tear hn_cX9_tear rfl rfl rfl rfl
theorem dX9_tear_20 : decode cX9_tear 20 = .ok (.iconst (-1), 1) := qr_o2 hN_cX9_tear hn_cX9_tear rfl rfl
theorem dX9_tear_21 : decode cX9_tear 21 = .ok (.ireturn, 1) := qr_o172 hN_cX9_tear hn_cX9_tear rfl rfl
theorem dX9_tear_22 : decode cX9_tear 22 = .ok (.aload_n 0, 1) := qr_o42 hN_cX9_tear hn_cX9_tear rfl rfl
theorem dX9_tear_23 : decode cX9_tear 23 = .ok (.getfield 59, 3) := qr_o180 0 59 hN_cX9_tear hn_cX9_tear rfl rfl rfl rfl
theorem dX9_tear_26 : decode cX9_tear 26 = .ok (.iload_n 1, 1) := qr_o27 hN_cX9_tear hn_cX9_tear rfl rfl
theorem dX9_tear_27 : decode cX9_tear 27 = .ok (.baload, 1) := qr_o51 hN_cX9_tear hn_cX9_tear rfl rfl
theorem dX9_tear_28 : decode cX9_tear 28 = .ok (.ifCond .eq 16, 3) := qr_o153 0 16 rfl hN_cX9_tear hn_cX9_tear rfl rfl rfl rfl
theorem dX9_tear_31 : decode cX9_tear 31 = .ok (.aload_n 0, 1) := qr_o42 hN_cX9_tear hn_cX9_tear rfl rfl
theorem dX9_tear_32 : decode cX9_tear 32 = .ok (.getfield 62, 3) := qr_o180 0 62 hN_cX9_tear hn_cX9_tear rfl rfl rfl rfl
theorem dX9_tear_35 : decode cX9_tear 35 = .ok (.iload_n 1, 1) := qr_o27 hN_cX9_tear hn_cX9_tear rfl rfl
theorem dX9_tear_36 : decode cX9_tear 36 = .ok (.iaload, 1) := qr_o46 hN_cX9_tear hn_cX9_tear rfl rfl
theorem dX9_tear_37 : decode cX9_tear 37 = .ok (.iload_n 2, 1) := qr_o28 hN_cX9_tear hn_cX9_tear rfl rfl
theorem dX9_tear_38 : decode cX9_tear 38 = .ok (.if_icmp .gt 6, 3) := qr_o163 0 6 rfl hN_cX9_tear hn_cX9_tear rfl rfl rfl rfl
theorem dX9_tear_41 : decode cX9_tear 41 = .ok (.bipush (-2), 2) := qr_w16 254 2 rfl rfl hN_cX9_tear hn_cX9_tear rfl rfl rfl
theorem dX9_tear_43 : decode cX9_tear 43 = .ok (.ireturn, 1) := qr_o172 hN_cX9_tear hn_cX9_tear rfl rfl
theorem dX9_tear_44 : decode cX9_tear 44 = .ok (.aload_n 0, 1) := qr_o42 hN_cX9_tear hn_cX9_tear rfl rfl
theorem dX9_tear_45 : decode cX9_tear 45 = .ok (.getfield 59, 3) := qr_o180 0 59 hN_cX9_tear hn_cX9_tear rfl rfl rfl rfl
theorem dX9_tear_48 : decode cX9_tear 48 = .ok (.iload_n 1, 1) := qr_o27 hN_cX9_tear hn_cX9_tear rfl rfl
theorem dX9_tear_49 : decode cX9_tear 49 = .ok (.iconst 1, 1) := qr_o4 hN_cX9_tear hn_cX9_tear rfl rfl
theorem dX9_tear_50 : decode cX9_tear 50 = .ok (.bastore, 1) := qr_o84 hN_cX9_tear hn_cX9_tear rfl rfl
theorem dX9_tear_51 : decode cX9_tear 51 = .ok (.aload_n 0, 1) := qr_o42 hN_cX9_tear hn_cX9_tear rfl rfl
theorem dX9_tear_52 : decode cX9_tear 52 = .ok (.getfield 62, 3) := qr_o180 0 62 hN_cX9_tear hn_cX9_tear rfl rfl rfl rfl
theorem dX9_tear_55 : decode cX9_tear 55 = .ok (.iload_n 1, 1) := qr_o27 hN_cX9_tear hn_cX9_tear rfl rfl
theorem dX9_tear_56 : decode cX9_tear 56 = .ok (.iload_n 2, 1) := qr_o28 hN_cX9_tear hn_cX9_tear rfl rfl
theorem dX9_tear_57 : decode cX9_tear 57 = .ok (.iastore, 1) := qr_o79 hN_cX9_tear hn_cX9_tear rfl rfl
theorem dX9_tear_58 : decode cX9_tear 58 = .ok (.iconst 0, 1) := qr_o3 hN_cX9_tear hn_cX9_tear rfl rfl
theorem dX9_tear_59 : decode cX9_tear 59 = .ok (.istore_n 3, 1) := qr_o62 hN_cX9_tear hn_cX9_tear rfl rfl
theorem dX9_tear_60 : decode cX9_tear 60 = .ok (.iconst 0, 1) := qr_o3 hN_cX9_tear hn_cX9_tear rfl rfl
theorem dX9_tear_61 : decode cX9_tear 61 = .ok (.istore 4, 2) := qr_o54 4 hN_cX9_tear hn_cX9_tear rfl rfl rfl
theorem dX9_tear_63 : decode cX9_tear 63 = .ok (.iload 4, 2) := qr_o21 4 hN_cX9_tear hn_cX9_tear rfl rfl rfl
theorem dX9_tear_65 : decode cX9_tear 65 = .ok (.aload_n 0, 1) := qr_o42 hN_cX9_tear hn_cX9_tear rfl rfl
theorem dX9_tear_66 : decode cX9_tear 66 = .ok (.getfield 257, 3) := qr_o180 1 1 hN_cX9_tear hn_cX9_tear rfl rfl rfl rfl
theorem dX9_tear_69 : decode cX9_tear 69 = .ok (.if_icmp .ge 52, 3) := qr_o162 0 52 rfl hN_cX9_tear hn_cX9_tear rfl rfl rfl rfl
theorem dX9_tear_72 : decode cX9_tear 72 = .ok (.aload_n 0, 1) := qr_o42 hN_cX9_tear hn_cX9_tear rfl rfl
theorem dX9_tear_73 : decode cX9_tear 73 = .ok (.getfield 104, 3) := qr_o180 0 104 hN_cX9_tear hn_cX9_tear rfl rfl rfl rfl
theorem dX9_tear_76 : decode cX9_tear 76 = .ok (.iload 4, 2) := qr_o21 4 hN_cX9_tear hn_cX9_tear rfl rfl rfl
theorem dX9_tear_78 : decode cX9_tear 78 = .ok (.iaload, 1) := qr_o46 hN_cX9_tear hn_cX9_tear rfl rfl
theorem dX9_tear_79 : decode cX9_tear 79 = .ok (.iload_n 1, 1) := qr_o27 hN_cX9_tear hn_cX9_tear rfl rfl
theorem dX9_tear_80 : decode cX9_tear 80 = .ok (.if_icmp .ne 35, 3) := qr_o160 0 35 rfl hN_cX9_tear hn_cX9_tear rfl rfl rfl rfl
theorem dX9_tear_83 : decode cX9_tear 83 = .ok (.aload_n 0, 1) := qr_o42 hN_cX9_tear hn_cX9_tear rfl rfl
theorem dX9_tear_84 : decode cX9_tear 84 = .ok (.getfield 89, 3) := qr_o180 0 89 hN_cX9_tear hn_cX9_tear rfl rfl rfl rfl
theorem dX9_tear_87 : decode cX9_tear 87 = .ok (.iload 4, 2) := qr_o21 4 hN_cX9_tear hn_cX9_tear rfl rfl rfl
theorem dX9_tear_89 : decode cX9_tear 89 = .ok (.iaload, 1) := qr_o46 hN_cX9_tear hn_cX9_tear rfl rfl
theorem dX9_tear_90 : decode cX9_tear 90 = .ok (.iload_n 2, 1) := qr_o28 hN_cX9_tear hn_cX9_tear rfl rfl
theorem dX9_tear_91 : decode cX9_tear 91 = .ok (.if_icmp .lt 24, 3) := qr_o161 0 24 rfl hN_cX9_tear hn_cX9_tear rfl rfl rfl rfl
theorem dX9_tear_94 : decode cX9_tear 94 = .ok (.aload_n 0, 1) := qr_o42 hN_cX9_tear hn_cX9_tear rfl rfl
theorem dX9_tear_95 : decode cX9_tear 95 = .ok (.getfield 107, 3) := qr_o180 0 107 hN_cX9_tear hn_cX9_tear rfl rfl rfl rfl
theorem dX9_tear_98 : decode cX9_tear 98 = .ok (.iload 4, 2) := qr_o21 4 hN_cX9_tear hn_cX9_tear rfl rfl rfl
theorem dX9_tear_100 : decode cX9_tear 100 = .ok (.iaload, 1) := qr_o46 hN_cX9_tear hn_cX9_tear rfl rfl
theorem dX9_tear_101 : decode cX9_tear 101 = .ok (.ifCond .ne 14, 3) := qr_o154 0 14 rfl hN_cX9_tear hn_cX9_tear rfl rfl rfl rfl
theorem dX9_tear_104 : decode cX9_tear 104 = .ok (.aload_n 0, 1) := qr_o42 hN_cX9_tear hn_cX9_tear rfl rfl
theorem dX9_tear_105 : decode cX9_tear 105 = .ok (.getfield 104, 3) := qr_o180 0 104 hN_cX9_tear hn_cX9_tear rfl rfl rfl rfl
theorem dX9_tear_108 : decode cX9_tear 108 = .ok (.iload 4, 2) := qr_o21 4 hN_cX9_tear hn_cX9_tear rfl rfl rfl
theorem dX9_tear_110 : decode cX9_tear 110 = .ok (.iconst (-1), 1) := qr_o2 hN_cX9_tear hn_cX9_tear rfl rfl
theorem dX9_tear_111 : decode cX9_tear 111 = .ok (.iastore, 1) := qr_o79 hN_cX9_tear hn_cX9_tear rfl rfl
theorem dX9_tear_112 : decode cX9_tear 112 = .ok (.iinc 3 1, 3) := qr_o132 3 1 rfl hN_cX9_tear hn_cX9_tear rfl rfl rfl rfl
theorem dX9_tear_115 : decode cX9_tear 115 = .ok (.iinc 4 1, 3) := qr_o132 4 1 rfl hN_cX9_tear hn_cX9_tear rfl rfl rfl rfl
theorem dX9_tear_118 : decode cX9_tear 118 = .ok (.goto (-55), 3) := qr_w167 255 201 55 rfl rfl hN_cX9_tear hn_cX9_tear rfl rfl rfl rfl
theorem dX9_tear_121 : decode cX9_tear 121 = .ok (.iload_n 3, 1) := qr_o29 hN_cX9_tear hn_cX9_tear rfl rfl
theorem dX9_tear_122 : decode cX9_tear 122 = .ok (.ireturn, 1) := qr_o172 hN_cX9_tear hn_cX9_tear rfl rfl
def nN_cX9_mend : Nat := 0xac0454031b3b00b42aacfe1006009a331b3b00b42aac0205009ad200b61b2a
theorem hN_cX9_mend : qr_n cX9_mend.data.toList = nN_cX9_mend := by decide +kernel
theorem hn_cX9_mend : cX9_mend.size = 31 := by decide +kernel
theorem dX9_mend_0 : decode cX9_mend 0 = .ok (.aload_n 0, 1) := qr_o42 hN_cX9_mend hn_cX9_mend rfl rfl
theorem dX9_mend_1 : decode cX9_mend 1 = .ok (.iload_n 1, 1) := qr_o27 hN_cX9_mend hn_cX9_mend rfl rfl
theorem dX9_mend_2 : decode cX9_mend 2 = .ok (.invokevirtual 210, 3) := qr_o182 0 210 hN_cX9_mend hn_cX9_mend rfl rfl rfl rfl
theorem dX9_mend_5 : decode cX9_mend 5 = .ok (.ifCond .ne 5, 3) := qr_o154 0 5 rfl hN_cX9_mend hn_cX9_mend rfl rfl rfl rfl
theorem dX9_mend_8 : decode cX9_mend 8 = .ok (.iconst (-1), 1) := qr_o2 hN_cX9_mend hn_cX9_mend rfl rfl
theorem dX9_mend_9 : decode cX9_mend 9 = .ok (.ireturn, 1) := qr_o172 hN_cX9_mend hn_cX9_mend rfl rfl
theorem dX9_mend_10 : decode cX9_mend 10 = .ok (.aload_n 0, 1) := qr_o42 hN_cX9_mend hn_cX9_mend rfl rfl
theorem dX9_mend_11 : decode cX9_mend 11 = .ok (.getfield 59, 3) := qr_o180 0 59 hN_cX9_mend hn_cX9_mend rfl rfl rfl rfl
theorem dX9_mend_14 : decode cX9_mend 14 = .ok (.iload_n 1, 1) := qr_o27 hN_cX9_mend hn_cX9_mend rfl rfl
theorem dX9_mend_15 : decode cX9_mend 15 = .ok (.baload, 1) := qr_o51 hN_cX9_mend hn_cX9_mend rfl rfl
theorem dX9_mend_16 : decode cX9_mend 16 = .ok (.ifCond .ne 6, 3) := qr_o154 0 6 rfl hN_cX9_mend hn_cX9_mend rfl rfl rfl rfl
theorem dX9_mend_19 : decode cX9_mend 19 = .ok (.bipush (-2), 2) := qr_w16 254 2 rfl rfl hN_cX9_mend hn_cX9_mend rfl rfl rfl
theorem dX9_mend_21 : decode cX9_mend 21 = .ok (.ireturn, 1) := qr_o172 hN_cX9_mend hn_cX9_mend rfl rfl
theorem dX9_mend_22 : decode cX9_mend 22 = .ok (.aload_n 0, 1) := qr_o42 hN_cX9_mend hn_cX9_mend rfl rfl
theorem dX9_mend_23 : decode cX9_mend 23 = .ok (.getfield 59, 3) := qr_o180 0 59 hN_cX9_mend hn_cX9_mend rfl rfl rfl rfl
theorem dX9_mend_26 : decode cX9_mend 26 = .ok (.iload_n 1, 1) := qr_o27 hN_cX9_mend hn_cX9_mend rfl rfl
theorem dX9_mend_27 : decode cX9_mend 27 = .ok (.iconst 0, 1) := qr_o3 hN_cX9_mend hn_cX9_mend rfl rfl
theorem dX9_mend_28 : decode cX9_mend 28 = .ok (.bastore, 1) := qr_o84 hN_cX9_mend hn_cX9_mend rfl rfl
theorem dX9_mend_29 : decode cX9_mend 29 = .ok (.iconst 1, 1) := qr_o4 hN_cX9_mend hn_cX9_mend rfl rfl
theorem dX9_mend_30 : decode cX9_mend 30 = .ok (.ireturn, 1) := qr_o172 hN_cX9_mend hn_cX9_mend rfl rfl
def nN_cX9_fromWhom : Nat := 0xac020400a71d07009a2e1d6b00b42a10009b1d3e2001b61c1b2aac0205009a1c01b61c1b2a0c00a005f300b62e1c5600b42a2e1c5300b42a1b2a
theorem hN_cX9_fromWhom : qr_n cX9_fromWhom.data.toList = nN_cX9_fromWhom := by decide +kernel
theorem hn_cX9_fromWhom : cX9_fromWhom.size = 58 := by decide +kernel
theorem dX9_fromWhom_0 : decode cX9_fromWhom 0 = .ok (.aload_n 0, 1) := qr_o42 hN_cX9_fromWhom hn_cX9_fromWhom rfl rfl
theorem dX9_fromWhom_1 : decode cX9_fromWhom 1 = .ok (.iload_n 1, 1) := qr_o27 hN_cX9_fromWhom hn_cX9_fromWhom rfl rfl
theorem dX9_fromWhom_2 : decode cX9_fromWhom 2 = .ok (.aload_n 0, 1) := qr_o42 hN_cX9_fromWhom hn_cX9_fromWhom rfl rfl
theorem dX9_fromWhom_3 : decode cX9_fromWhom 3 = .ok (.getfield 83, 3) := qr_o180 0 83 hN_cX9_fromWhom hn_cX9_fromWhom rfl rfl rfl rfl
theorem dX9_fromWhom_6 : decode cX9_fromWhom 6 = .ok (.iload_n 2, 1) := qr_o28 hN_cX9_fromWhom hn_cX9_fromWhom rfl rfl
theorem dX9_fromWhom_7 : decode cX9_fromWhom 7 = .ok (.iaload, 1) := qr_o46 hN_cX9_fromWhom hn_cX9_fromWhom rfl rfl
theorem dX9_fromWhom_8 : decode cX9_fromWhom 8 = .ok (.aload_n 0, 1) := qr_o42 hN_cX9_fromWhom hn_cX9_fromWhom rfl rfl
theorem dX9_fromWhom_9 : decode cX9_fromWhom 9 = .ok (.getfield 86, 3) := qr_o180 0 86 hN_cX9_fromWhom hn_cX9_fromWhom rfl rfl rfl rfl
theorem dX9_fromWhom_12 : decode cX9_fromWhom 12 = .ok (.iload_n 2, 1) := qr_o28 hN_cX9_fromWhom hn_cX9_fromWhom rfl rfl
theorem dX9_fromWhom_13 : decode cX9_fromWhom 13 = .ok (.iaload, 1) := qr_o46 hN_cX9_fromWhom hn_cX9_fromWhom rfl rfl
theorem dX9_fromWhom_14 : decode cX9_fromWhom 14 = .ok (.invokevirtual 243, 3) := qr_o182 0 243 hN_cX9_fromWhom hn_cX9_fromWhom rfl rfl rfl rfl
theorem dX9_fromWhom_17 : decode cX9_fromWhom 17 = .ok (.iconst 2, 1) := qr_o5 hN_cX9_fromWhom hn_cX9_fromWhom rfl rfl
theorem dX9_fromWhom_18 : decode cX9_fromWhom 18 = .ok (.if_icmp .ne 12, 3) := qr_o160 0 12 rfl hN_cX9_fromWhom hn_cX9_fromWhom rfl rfl rfl rfl
theorem dX9_fromWhom_21 : decode cX9_fromWhom 21 = .ok (.aload_n 0, 1) := qr_o42 hN_cX9_fromWhom hn_cX9_fromWhom rfl rfl
theorem dX9_fromWhom_22 : decode cX9_fromWhom 22 = .ok (.iload_n 1, 1) := qr_o27 hN_cX9_fromWhom hn_cX9_fromWhom rfl rfl
theorem dX9_fromWhom_23 : decode cX9_fromWhom 23 = .ok (.iload_n 2, 1) := qr_o28 hN_cX9_fromWhom hn_cX9_fromWhom rfl rfl
theorem dX9_fromWhom_24 : decode cX9_fromWhom 24 = .ok (.invokevirtual 284, 3) := qr_o182 1 28 hN_cX9_fromWhom hn_cX9_fromWhom rfl rfl rfl rfl
theorem dX9_fromWhom_27 : decode cX9_fromWhom 27 = .ok (.ifCond .ne 5, 3) := qr_o154 0 5 rfl hN_cX9_fromWhom hn_cX9_fromWhom rfl rfl rfl rfl
theorem dX9_fromWhom_30 : decode cX9_fromWhom 30 = .ok (.iconst (-1), 1) := qr_o2 hN_cX9_fromWhom hn_cX9_fromWhom rfl rfl
theorem dX9_fromWhom_31 : decode cX9_fromWhom 31 = .ok (.ireturn, 1) := qr_o172 hN_cX9_fromWhom hn_cX9_fromWhom rfl rfl
theorem dX9_fromWhom_32 : decode cX9_fromWhom 32 = .ok (.aload_n 0, 1) := qr_o42 hN_cX9_fromWhom hn_cX9_fromWhom rfl rfl
theorem dX9_fromWhom_33 : decode cX9_fromWhom 33 = .ok (.iload_n 1, 1) := qr_o27 hN_cX9_fromWhom hn_cX9_fromWhom rfl rfl
theorem dX9_fromWhom_34 : decode cX9_fromWhom 34 = .ok (.iload_n 2, 1) := qr_o28 hN_cX9_fromWhom hn_cX9_fromWhom rfl rfl
theorem dX9_fromWhom_35 : decode cX9_fromWhom 35 = .ok (.invokevirtual 288, 3) := qr_o182 1 32 hN_cX9_fromWhom hn_cX9_fromWhom rfl rfl rfl rfl
theorem dX9_fromWhom_38 : decode cX9_fromWhom 38 = .ok (.istore_n 3, 1) := qr_o62 hN_cX9_fromWhom hn_cX9_fromWhom rfl rfl
theorem dX9_fromWhom_39 : decode cX9_fromWhom 39 = .ok (.iload_n 3, 1) := qr_o29 hN_cX9_fromWhom hn_cX9_fromWhom rfl rfl
theorem dX9_fromWhom_40 : decode cX9_fromWhom 40 = .ok (.ifCond .lt 16, 3) := qr_o155 0 16 rfl hN_cX9_fromWhom hn_cX9_fromWhom rfl rfl rfl rfl
theorem dX9_fromWhom_43 : decode cX9_fromWhom 43 = .ok (.aload_n 0, 1) := qr_o42 hN_cX9_fromWhom hn_cX9_fromWhom rfl rfl
theorem dX9_fromWhom_44 : decode cX9_fromWhom 44 = .ok (.getfield 107, 3) := qr_o180 0 107 hN_cX9_fromWhom hn_cX9_fromWhom rfl rfl rfl rfl
theorem dX9_fromWhom_47 : decode cX9_fromWhom 47 = .ok (.iload_n 3, 1) := qr_o29 hN_cX9_fromWhom hn_cX9_fromWhom rfl rfl
theorem dX9_fromWhom_48 : decode cX9_fromWhom 48 = .ok (.iaload, 1) := qr_o46 hN_cX9_fromWhom hn_cX9_fromWhom rfl rfl
theorem dX9_fromWhom_49 : decode cX9_fromWhom 49 = .ok (.ifCond .ne 7, 3) := qr_o154 0 7 rfl hN_cX9_fromWhom hn_cX9_fromWhom rfl rfl rfl rfl
theorem dX9_fromWhom_52 : decode cX9_fromWhom 52 = .ok (.iload_n 3, 1) := qr_o29 hN_cX9_fromWhom hn_cX9_fromWhom rfl rfl
theorem dX9_fromWhom_53 : decode cX9_fromWhom 53 = .ok (.goto 4, 3) := qr_o167 0 4 rfl hN_cX9_fromWhom hn_cX9_fromWhom rfl rfl rfl rfl
theorem dX9_fromWhom_56 : decode cX9_fromWhom 56 = .ok (.iconst (-1), 1) := qr_o2 hN_cX9_fromWhom hn_cX9_fromWhom rfl rfl
theorem dX9_fromWhom_57 : decode cX9_fromWhom 57 = .ok (.ireturn, 1) := qr_o172 hN_cX9_fromWhom hn_cX9_fromWhom rfl rfl
def nN_cX9_findFar : Nat := 0xb19cffa7a7ffa7010284b7ffa70103843c044f60042e04157d00b42a1c7d00b42a1400a22e1c7d00b42a60042e04157d00b42a26009b04150436020400a72c01b61c1d2a0c00a4042e1c7d00b42a4700a2cb00b42a1d3e035700a20101b42a1c3d033c036600991b3c04dfffa70101844fe803110600a70407009b2901b6021b2a1b7d00b42a1f00a20101b42a1b3c03
theorem hN_cX9_findFar : qr_n cX9_findFar.data.toList = nN_cX9_findFar := by decide +kernel
theorem hn_cX9_findFar : cX9_findFar.size = 144 := by decide +kernel
theorem dX9_findFar_0 : decode cX9_findFar 0 = .ok (.iconst 0, 1) := qr_o3 hN_cX9_findFar hn_cX9_findFar rfl rfl
theorem dX9_findFar_1 : decode cX9_findFar 1 = .ok (.istore_n 1, 1) := qr_o60 hN_cX9_findFar hn_cX9_findFar rfl rfl
theorem dX9_findFar_2 : decode cX9_findFar 2 = .ok (.iload_n 1, 1) := qr_o27 hN_cX9_findFar hn_cX9_findFar rfl rfl
theorem dX9_findFar_3 : decode cX9_findFar 3 = .ok (.aload_n 0, 1) := qr_o42 hN_cX9_findFar hn_cX9_findFar rfl rfl
theorem dX9_findFar_4 : decode cX9_findFar 4 = .ok (.getfield 257, 3) := qr_o180 1 1 hN_cX9_findFar hn_cX9_findFar rfl rfl rfl rfl
theorem dX9_findFar_7 : decode cX9_findFar 7 = .ok (.if_icmp .ge 31, 3) := qr_o162 0 31 rfl hN_cX9_findFar hn_cX9_findFar rfl rfl rfl rfl
theorem dX9_findFar_10 : decode cX9_findFar 10 = .ok (.aload_n 0, 1) := qr_o42 hN_cX9_findFar hn_cX9_findFar rfl rfl
theorem dX9_findFar_11 : decode cX9_findFar 11 = .ok (.getfield 125, 3) := qr_o180 0 125 hN_cX9_findFar hn_cX9_findFar rfl rfl rfl rfl
theorem dX9_findFar_14 : decode cX9_findFar 14 = .ok (.iload_n 1, 1) := qr_o27 hN_cX9_findFar hn_cX9_findFar rfl rfl
theorem dX9_findFar_15 : decode cX9_findFar 15 = .ok (.aload_n 0, 1) := qr_o42 hN_cX9_findFar hn_cX9_findFar rfl rfl
theorem dX9_findFar_16 : decode cX9_findFar 16 = .ok (.iload_n 1, 1) := qr_o27 hN_cX9_findFar hn_cX9_findFar rfl rfl
theorem dX9_findFar_17 : decode cX9_findFar 17 = .ok (.iconst (-1), 1) := qr_o2 hN_cX9_findFar hn_cX9_findFar rfl rfl
theorem dX9_findFar_18 : decode cX9_findFar 18 = .ok (.invokevirtual 297, 3) := qr_o182 1 41 hN_cX9_findFar hn_cX9_findFar rfl rfl rfl rfl
theorem dX9_findFar_21 : decode cX9_findFar 21 = .ok (.ifCond .lt 7, 3) := qr_o155 0 7 rfl hN_cX9_findFar hn_cX9_findFar rfl rfl rfl rfl
theorem dX9_findFar_24 : decode cX9_findFar 24 = .ok (.iconst 1, 1) := qr_o4 hN_cX9_findFar hn_cX9_findFar rfl rfl
theorem dX9_findFar_25 : decode cX9_findFar 25 = .ok (.goto 6, 3) := qr_o167 0 6 rfl hN_cX9_findFar hn_cX9_findFar rfl rfl rfl rfl
theorem dX9_findFar_28 : decode cX9_findFar 28 = .ok (.sipush 1000, 3) := qr_o17 3 232 rfl hN_cX9_findFar hn_cX9_findFar rfl rfl rfl rfl
theorem dX9_findFar_31 : decode cX9_findFar 31 = .ok (.iastore, 1) := qr_o79 hN_cX9_findFar hn_cX9_findFar rfl rfl
theorem dX9_findFar_32 : decode cX9_findFar 32 = .ok (.iinc 1 1, 3) := qr_o132 1 1 rfl hN_cX9_findFar hn_cX9_findFar rfl rfl rfl rfl
theorem dX9_findFar_35 : decode cX9_findFar 35 = .ok (.goto (-33), 3) := qr_w167 255 223 33 rfl rfl hN_cX9_findFar hn_cX9_findFar rfl rfl rfl rfl
theorem dX9_findFar_38 : decode cX9_findFar 38 = .ok (.iconst 1, 1) := qr_o4 hN_cX9_findFar hn_cX9_findFar rfl rfl
theorem dX9_findFar_39 : decode cX9_findFar 39 = .ok (.istore_n 1, 1) := qr_o60 hN_cX9_findFar hn_cX9_findFar rfl rfl
theorem dX9_findFar_40 : decode cX9_findFar 40 = .ok (.iload_n 1, 1) := qr_o27 hN_cX9_findFar hn_cX9_findFar rfl rfl
theorem dX9_findFar_41 : decode cX9_findFar 41 = .ok (.ifCond .eq 102, 3) := qr_o153 0 102 rfl hN_cX9_findFar hn_cX9_findFar rfl rfl rfl rfl
theorem dX9_findFar_44 : decode cX9_findFar 44 = .ok (.iconst 0, 1) := qr_o3 hN_cX9_findFar hn_cX9_findFar rfl rfl
theorem dX9_findFar_45 : decode cX9_findFar 45 = .ok (.istore_n 1, 1) := qr_o60 hN_cX9_findFar hn_cX9_findFar rfl rfl
theorem dX9_findFar_46 : decode cX9_findFar 46 = .ok (.iconst 0, 1) := qr_o3 hN_cX9_findFar hn_cX9_findFar rfl rfl
theorem dX9_findFar_47 : decode cX9_findFar 47 = .ok (.istore_n 2, 1) := qr_o61 hN_cX9_findFar hn_cX9_findFar rfl rfl
theorem dX9_findFar_48 : decode cX9_findFar 48 = .ok (.iload_n 2, 1) := qr_o28 hN_cX9_findFar hn_cX9_findFar rfl rfl
theorem dX9_findFar_49 : decode cX9_findFar 49 = .ok (.aload_n 0, 1) := qr_o42 hN_cX9_findFar hn_cX9_findFar rfl rfl
theorem dX9_findFar_50 : decode cX9_findFar 50 = .ok (.getfield 257, 3) := qr_o180 1 1 hN_cX9_findFar hn_cX9_findFar rfl rfl rfl rfl
theorem dX9_findFar_53 : decode cX9_findFar 53 = .ok (.if_icmp .ge 87, 3) := qr_o162 0 87 rfl hN_cX9_findFar hn_cX9_findFar rfl rfl rfl rfl
theorem dX9_findFar_56 : decode cX9_findFar 56 = .ok (.iconst 0, 1) := qr_o3 hN_cX9_findFar hn_cX9_findFar rfl rfl
theorem dX9_findFar_57 : decode cX9_findFar 57 = .ok (.istore_n 3, 1) := qr_o62 hN_cX9_findFar hn_cX9_findFar rfl rfl
theorem dX9_findFar_58 : decode cX9_findFar 58 = .ok (.iload_n 3, 1) := qr_o29 hN_cX9_findFar hn_cX9_findFar rfl rfl
theorem dX9_findFar_59 : decode cX9_findFar 59 = .ok (.aload_n 0, 1) := qr_o42 hN_cX9_findFar hn_cX9_findFar rfl rfl
theorem dX9_findFar_60 : decode cX9_findFar 60 = .ok (.getfield 203, 3) := qr_o180 0 203 hN_cX9_findFar hn_cX9_findFar rfl rfl rfl rfl
theorem dX9_findFar_63 : decode cX9_findFar 63 = .ok (.if_icmp .ge 71, 3) := qr_o162 0 71 rfl hN_cX9_findFar hn_cX9_findFar rfl rfl rfl rfl
theorem dX9_findFar_66 : decode cX9_findFar 66 = .ok (.aload_n 0, 1) := qr_o42 hN_cX9_findFar hn_cX9_findFar rfl rfl
theorem dX9_findFar_67 : decode cX9_findFar 67 = .ok (.getfield 125, 3) := qr_o180 0 125 hN_cX9_findFar hn_cX9_findFar rfl rfl rfl rfl
theorem dX9_findFar_70 : decode cX9_findFar 70 = .ok (.iload_n 2, 1) := qr_o28 hN_cX9_findFar hn_cX9_findFar rfl rfl
theorem dX9_findFar_71 : decode cX9_findFar 71 = .ok (.iaload, 1) := qr_o46 hN_cX9_findFar hn_cX9_findFar rfl rfl
theorem dX9_findFar_72 : decode cX9_findFar 72 = .ok (.iconst 1, 1) := qr_o4 hN_cX9_findFar hn_cX9_findFar rfl rfl
theorem dX9_findFar_73 : decode cX9_findFar 73 = .ok (.if_icmp .le 12, 3) := qr_o164 0 12 rfl hN_cX9_findFar hn_cX9_findFar rfl rfl rfl rfl
theorem dX9_findFar_76 : decode cX9_findFar 76 = .ok (.aload_n 0, 1) := qr_o42 hN_cX9_findFar hn_cX9_findFar rfl rfl
theorem dX9_findFar_77 : decode cX9_findFar 77 = .ok (.iload_n 3, 1) := qr_o29 hN_cX9_findFar hn_cX9_findFar rfl rfl
theorem dX9_findFar_78 : decode cX9_findFar 78 = .ok (.iload_n 2, 1) := qr_o28 hN_cX9_findFar hn_cX9_findFar rfl rfl
theorem dX9_findFar_79 : decode cX9_findFar 79 = .ok (.invokevirtual 300, 3) := qr_o182 1 44 hN_cX9_findFar hn_cX9_findFar rfl rfl rfl rfl
theorem dX9_findFar_82 : decode cX9_findFar 82 = .ok (.goto 4, 3) := qr_o167 0 4 rfl hN_cX9_findFar hn_cX9_findFar rfl rfl rfl rfl
theorem dX9_findFar_85 : decode cX9_findFar 85 = .ok (.iconst (-1), 1) := qr_o2 hN_cX9_findFar hn_cX9_findFar rfl rfl
theorem dX9_findFar_86 : decode cX9_findFar 86 = .ok (.istore 4, 2) := qr_o54 4 hN_cX9_findFar hn_cX9_findFar rfl rfl rfl
theorem dX9_findFar_88 : decode cX9_findFar 88 = .ok (.iload 4, 2) := qr_o21 4 hN_cX9_findFar hn_cX9_findFar rfl rfl rfl
theorem dX9_findFar_90 : decode cX9_findFar 90 = .ok (.ifCond .lt 38, 3) := qr_o155 0 38 rfl hN_cX9_findFar hn_cX9_findFar rfl rfl rfl rfl
theorem dX9_findFar_93 : decode cX9_findFar 93 = .ok (.aload_n 0, 1) := qr_o42 hN_cX9_findFar hn_cX9_findFar rfl rfl
theorem dX9_findFar_94 : decode cX9_findFar 94 = .ok (.getfield 125, 3) := qr_o180 0 125 hN_cX9_findFar hn_cX9_findFar rfl rfl rfl rfl
theorem dX9_findFar_97 : decode cX9_findFar 97 = .ok (.iload 4, 2) := qr_o21 4 hN_cX9_findFar hn_cX9_findFar rfl rfl rfl
theorem dX9_findFar_99 : decode cX9_findFar 99 = .ok (.iaload, 1) := qr_o46 hN_cX9_findFar hn_cX9_findFar rfl rfl
theorem dX9_findFar_100 : decode cX9_findFar 100 = .ok (.iconst 1, 1) := qr_o4 hN_cX9_findFar hn_cX9_findFar rfl rfl
theorem dX9_findFar_101 : decode cX9_findFar 101 = .ok (.iadd, 1) := qr_o96 hN_cX9_findFar hn_cX9_findFar rfl rfl
theorem dX9_findFar_102 : decode cX9_findFar 102 = .ok (.aload_n 0, 1) := qr_o42 hN_cX9_findFar hn_cX9_findFar rfl rfl
theorem dX9_findFar_103 : decode cX9_findFar 103 = .ok (.getfield 125, 3) := qr_o180 0 125 hN_cX9_findFar hn_cX9_findFar rfl rfl rfl rfl
theorem dX9_findFar_106 : decode cX9_findFar 106 = .ok (.iload_n 2, 1) := qr_o28 hN_cX9_findFar hn_cX9_findFar rfl rfl
theorem dX9_findFar_107 : decode cX9_findFar 107 = .ok (.iaload, 1) := qr_o46 hN_cX9_findFar hn_cX9_findFar rfl rfl
theorem dX9_findFar_108 : decode cX9_findFar 108 = .ok (.if_icmp .ge 20, 3) := qr_o162 0 20 rfl hN_cX9_findFar hn_cX9_findFar rfl rfl rfl rfl
theorem dX9_findFar_111 : decode cX9_findFar 111 = .ok (.aload_n 0, 1) := qr_o42 hN_cX9_findFar hn_cX9_findFar rfl rfl
theorem dX9_findFar_112 : decode cX9_findFar 112 = .ok (.getfield 125, 3) := qr_o180 0 125 hN_cX9_findFar hn_cX9_findFar rfl rfl rfl rfl
theorem dX9_findFar_115 : decode cX9_findFar 115 = .ok (.iload_n 2, 1) := qr_o28 hN_cX9_findFar hn_cX9_findFar rfl rfl
theorem dX9_findFar_116 : decode cX9_findFar 116 = .ok (.aload_n 0, 1) := qr_o42 hN_cX9_findFar hn_cX9_findFar rfl rfl
theorem dX9_findFar_117 : decode cX9_findFar 117 = .ok (.getfield 125, 3) := qr_o180 0 125 hN_cX9_findFar hn_cX9_findFar rfl rfl rfl rfl
theorem dX9_findFar_120 : decode cX9_findFar 120 = .ok (.iload 4, 2) := qr_o21 4 hN_cX9_findFar hn_cX9_findFar rfl rfl rfl
theorem dX9_findFar_122 : decode cX9_findFar 122 = .ok (.iaload, 1) := qr_o46 hN_cX9_findFar hn_cX9_findFar rfl rfl
theorem dX9_findFar_123 : decode cX9_findFar 123 = .ok (.iconst 1, 1) := qr_o4 hN_cX9_findFar hn_cX9_findFar rfl rfl
theorem dX9_findFar_124 : decode cX9_findFar 124 = .ok (.iadd, 1) := qr_o96 hN_cX9_findFar hn_cX9_findFar rfl rfl
theorem dX9_findFar_125 : decode cX9_findFar 125 = .ok (.iastore, 1) := qr_o79 hN_cX9_findFar hn_cX9_findFar rfl rfl
theorem dX9_findFar_126 : decode cX9_findFar 126 = .ok (.iconst 1, 1) := qr_o4 hN_cX9_findFar hn_cX9_findFar rfl rfl
theorem dX9_findFar_127 : decode cX9_findFar 127 = .ok (.istore_n 1, 1) := qr_o60 hN_cX9_findFar hn_cX9_findFar rfl rfl
theorem dX9_findFar_128 : decode cX9_findFar 128 = .ok (.iinc 3 1, 3) := qr_o132 3 1 rfl hN_cX9_findFar hn_cX9_findFar rfl rfl rfl rfl
theorem dX9_findFar_131 : decode cX9_findFar 131 = .ok (.goto (-73), 3) := qr_w167 255 183 73 rfl rfl hN_cX9_findFar hn_cX9_findFar rfl rfl rfl rfl
theorem dX9_findFar_134 : decode cX9_findFar 134 = .ok (.iinc 2 1, 3) := qr_o132 2 1 rfl hN_cX9_findFar hn_cX9_findFar rfl rfl rfl rfl
theorem dX9_findFar_137 : decode cX9_findFar 137 = .ok (.goto (-89), 3) := qr_w167 255 167 89 rfl rfl hN_cX9_findFar hn_cX9_findFar rfl rfl rfl rfl
theorem dX9_findFar_140 : decode cX9_findFar 140 = .ok (.goto (-100), 3) := qr_w167 255 156 100 rfl rfl hN_cX9_findFar hn_cX9_findFar rfl rfl rfl rfl
theorem dX9_findFar_143 : decode cX9_findFar 143 = .ok (.return_, 1) := qr_o177 hN_cX9_findFar hn_cX9_findFar rfl rfl
def nN_cX9_isInChain : Nat := 0xac1de2ffa70104843e030400a7040700a01b2e04158000b42a0e009a1d1e00a31c04150436033e03
theorem hN_cX9_isInChain : qr_n cX9_isInChain.data.toList = nN_cX9_isInChain := by decide +kernel
theorem hn_cX9_isInChain : cX9_isInChain.size = 40 := by decide +kernel
theorem dX9_isInChain_0 : decode cX9_isInChain 0 = .ok (.iconst 0, 1) := qr_o3 hN_cX9_isInChain hn_cX9_isInChain rfl rfl
theorem dX9_isInChain_1 : decode cX9_isInChain 1 = .ok (.istore_n 3, 1) := qr_o62 hN_cX9_isInChain hn_cX9_isInChain rfl rfl
theorem dX9_isInChain_2 : decode cX9_isInChain 2 = .ok (.iconst 0, 1) := qr_o3 hN_cX9_isInChain hn_cX9_isInChain rfl rfl
theorem dX9_isInChain_3 : decode cX9_isInChain 3 = .ok (.istore 4, 2) := qr_o54 4 hN_cX9_isInChain hn_cX9_isInChain rfl rfl rfl
theorem dX9_isInChain_5 : decode cX9_isInChain 5 = .ok (.iload 4, 2) := qr_o21 4 hN_cX9_isInChain hn_cX9_isInChain rfl rfl rfl
theorem dX9_isInChain_7 : decode cX9_isInChain 7 = .ok (.iload_n 2, 1) := qr_o28 hN_cX9_isInChain hn_cX9_isInChain rfl rfl
theorem dX9_isInChain_8 : decode cX9_isInChain 8 = .ok (.if_icmp .gt 30, 3) := qr_o163 0 30 rfl hN_cX9_isInChain hn_cX9_isInChain rfl rfl rfl rfl
theorem dX9_isInChain_11 : decode cX9_isInChain 11 = .ok (.iload_n 3, 1) := qr_o29 hN_cX9_isInChain hn_cX9_isInChain rfl rfl
theorem dX9_isInChain_12 : decode cX9_isInChain 12 = .ok (.ifCond .ne 14, 3) := qr_o154 0 14 rfl hN_cX9_isInChain hn_cX9_isInChain rfl rfl rfl rfl
theorem dX9_isInChain_15 : decode cX9_isInChain 15 = .ok (.aload_n 0, 1) := qr_o42 hN_cX9_isInChain hn_cX9_isInChain rfl rfl
theorem dX9_isInChain_16 : decode cX9_isInChain 16 = .ok (.getfield 128, 3) := qr_o180 0 128 hN_cX9_isInChain hn_cX9_isInChain rfl rfl rfl rfl
theorem dX9_isInChain_19 : decode cX9_isInChain 19 = .ok (.iload 4, 2) := qr_o21 4 hN_cX9_isInChain hn_cX9_isInChain rfl rfl rfl
theorem dX9_isInChain_21 : decode cX9_isInChain 21 = .ok (.iaload, 1) := qr_o46 hN_cX9_isInChain hn_cX9_isInChain rfl rfl
theorem dX9_isInChain_22 : decode cX9_isInChain 22 = .ok (.iload_n 1, 1) := qr_o27 hN_cX9_isInChain hn_cX9_isInChain rfl rfl
theorem dX9_isInChain_23 : decode cX9_isInChain 23 = .ok (.if_icmp .ne 7, 3) := qr_o160 0 7 rfl hN_cX9_isInChain hn_cX9_isInChain rfl rfl rfl rfl
theorem dX9_isInChain_26 : decode cX9_isInChain 26 = .ok (.iconst 1, 1) := qr_o4 hN_cX9_isInChain hn_cX9_isInChain rfl rfl
theorem dX9_isInChain_27 : decode cX9_isInChain 27 = .ok (.goto 4, 3) := qr_o167 0 4 rfl hN_cX9_isInChain hn_cX9_isInChain rfl rfl rfl rfl
theorem dX9_isInChain_30 : decode cX9_isInChain 30 = .ok (.iconst 0, 1) := qr_o3 hN_cX9_isInChain hn_cX9_isInChain rfl rfl
theorem dX9_isInChain_31 : decode cX9_isInChain 31 = .ok (.istore_n 3, 1) := qr_o62 hN_cX9_isInChain hn_cX9_isInChain rfl rfl
theorem dX9_isInChain_32 : decode cX9_isInChain 32 = .ok (.iinc 4 1, 3) := qr_o132 4 1 rfl hN_cX9_isInChain hn_cX9_isInChain rfl rfl rfl rfl
theorem dX9_isInChain_35 : decode cX9_isInChain 35 = .ok (.goto (-30), 3) := qr_w167 255 226 30 rfl rfl hN_cX9_isInChain hn_cX9_isInChain rfl rfl rfl rfl
theorem dX9_isInChain_38 : decode cX9_isInChain 38 = .ok (.iload_n 3, 1) := qr_o29 hN_cX9_isInChain hn_cX9_isInChain rfl rfl
theorem dX9_isInChain_39 : decode cX9_isInChain 39 = .ok (.ireturn, 1) := qr_o172 hN_cX9_isInChain hn_cX9_isInChain rfl rfl
def nN_cX9_isTakenBy : Nat := 0xac1de2ffa70104843e030400a7040700a01b2e04158300b42a0e009a1d1e00a21c04150436033e03
theorem hN_cX9_isTakenBy : qr_n cX9_isTakenBy.data.toList = nN_cX9_isTakenBy := by decide +kernel
theorem hn_cX9_isTakenBy : cX9_isTakenBy.size = 40 := by decide +kernel
theorem dX9_isTakenBy_0 : decode cX9_isTakenBy 0 = .ok (.iconst 0, 1) := qr_o3 hN_cX9_isTakenBy hn_cX9_isTakenBy rfl rfl
theorem dX9_isTakenBy_1 : decode cX9_isTakenBy 1 = .ok (.istore_n 3, 1) := qr_o62 hN_cX9_isTakenBy hn_cX9_isTakenBy rfl rfl
theorem dX9_isTakenBy_2 : decode cX9_isTakenBy 2 = .ok (.iconst 0, 1) := qr_o3 hN_cX9_isTakenBy hn_cX9_isTakenBy rfl rfl
theorem dX9_isTakenBy_3 : decode cX9_isTakenBy 3 = .ok (.istore 4, 2) := qr_o54 4 hN_cX9_isTakenBy hn_cX9_isTakenBy rfl rfl rfl
theorem dX9_isTakenBy_5 : decode cX9_isTakenBy 5 = .ok (.iload 4, 2) := qr_o21 4 hN_cX9_isTakenBy hn_cX9_isTakenBy rfl rfl rfl
theorem dX9_isTakenBy_7 : decode cX9_isTakenBy 7 = .ok (.iload_n 2, 1) := qr_o28 hN_cX9_isTakenBy hn_cX9_isTakenBy rfl rfl
theorem dX9_isTakenBy_8 : decode cX9_isTakenBy 8 = .ok (.if_icmp .ge 30, 3) := qr_o162 0 30 rfl hN_cX9_isTakenBy hn_cX9_isTakenBy rfl rfl rfl rfl
theorem dX9_isTakenBy_11 : decode cX9_isTakenBy 11 = .ok (.iload_n 3, 1) := qr_o29 hN_cX9_isTakenBy hn_cX9_isTakenBy rfl rfl
theorem dX9_isTakenBy_12 : decode cX9_isTakenBy 12 = .ok (.ifCond .ne 14, 3) := qr_o154 0 14 rfl hN_cX9_isTakenBy hn_cX9_isTakenBy rfl rfl rfl rfl
theorem dX9_isTakenBy_15 : decode cX9_isTakenBy 15 = .ok (.aload_n 0, 1) := qr_o42 hN_cX9_isTakenBy hn_cX9_isTakenBy rfl rfl
theorem dX9_isTakenBy_16 : decode cX9_isTakenBy 16 = .ok (.getfield 131, 3) := qr_o180 0 131 hN_cX9_isTakenBy hn_cX9_isTakenBy rfl rfl rfl rfl
theorem dX9_isTakenBy_19 : decode cX9_isTakenBy 19 = .ok (.iload 4, 2) := qr_o21 4 hN_cX9_isTakenBy hn_cX9_isTakenBy rfl rfl rfl
theorem dX9_isTakenBy_21 : decode cX9_isTakenBy 21 = .ok (.iaload, 1) := qr_o46 hN_cX9_isTakenBy hn_cX9_isTakenBy rfl rfl
theorem dX9_isTakenBy_22 : decode cX9_isTakenBy 22 = .ok (.iload_n 1, 1) := qr_o27 hN_cX9_isTakenBy hn_cX9_isTakenBy rfl rfl
theorem dX9_isTakenBy_23 : decode cX9_isTakenBy 23 = .ok (.if_icmp .ne 7, 3) := qr_o160 0 7 rfl hN_cX9_isTakenBy hn_cX9_isTakenBy rfl rfl rfl rfl
theorem dX9_isTakenBy_26 : decode cX9_isTakenBy 26 = .ok (.iconst 1, 1) := qr_o4 hN_cX9_isTakenBy hn_cX9_isTakenBy rfl rfl
theorem dX9_isTakenBy_27 : decode cX9_isTakenBy 27 = .ok (.goto 4, 3) := qr_o167 0 4 rfl hN_cX9_isTakenBy hn_cX9_isTakenBy rfl rfl rfl rfl
theorem dX9_isTakenBy_30 : decode cX9_isTakenBy 30 = .ok (.iconst 0, 1) := qr_o3 hN_cX9_isTakenBy hn_cX9_isTakenBy rfl rfl
theorem dX9_isTakenBy_31 : decode cX9_isTakenBy 31 = .ok (.istore_n 3, 1) := qr_o62 hN_cX9_isTakenBy hn_cX9_isTakenBy rfl rfl
theorem dX9_isTakenBy_32 : decode cX9_isTakenBy 32 = .ok (.iinc 4 1, 3) := qr_o132 4 1 rfl hN_cX9_isTakenBy hn_cX9_isTakenBy rfl rfl rfl rfl
theorem dX9_isTakenBy_35 : decode cX9_isTakenBy 35 = .ok (.goto (-30), 3) := qr_w167 255 226 30 rfl rfl hN_cX9_isTakenBy hn_cX9_isTakenBy rfl rfl rfl rfl
theorem dX9_isTakenBy_38 : decode cX9_isTakenBy 38 = .ok (.iload_n 3, 1) := qr_o29 hN_cX9_isTakenBy hn_cX9_isTakenBy rfl rfl
theorem dX9_isTakenBy_39 : decode cX9_isTakenBy 39 = .ok (.ireturn, 1) := qr_o172 hN_cX9_isTakenBy hn_cX9_isTakenBy rfl rfl
def nN_cX9_canTake : Nat := 0xac030400a7040700a3641c64041d2e05157d00b42a16009a3201b61c05152a20009b051505362c01b604151b2aac030400a7040700992301b604151b2a1100a005f300b62e04155600b42a2e04155300b42a1b2a2a00a064041d1cac030500992f01b61c1b2a04362e1c8000b42a
theorem hN_cX9_canTake : qr_n cX9_canTake.data.toList = nN_cX9_canTake := by decide +kernel
theorem hn_cX9_canTake : cX9_canTake.size = 110 := by decide +kernel
theorem dX9_canTake_0 : decode cX9_canTake 0 = .ok (.aload_n 0, 1) := qr_o42 hN_cX9_canTake hn_cX9_canTake rfl rfl
theorem dX9_canTake_1 : decode cX9_canTake 1 = .ok (.getfield 128, 3) := qr_o180 0 128 hN_cX9_canTake hn_cX9_canTake rfl rfl rfl rfl
theorem dX9_canTake_4 : decode cX9_canTake 4 = .ok (.iload_n 2, 1) := qr_o28 hN_cX9_canTake hn_cX9_canTake rfl rfl
theorem dX9_canTake_5 : decode cX9_canTake 5 = .ok (.iaload, 1) := qr_o46 hN_cX9_canTake hn_cX9_canTake rfl rfl
theorem dX9_canTake_6 : decode cX9_canTake 6 = .ok (.istore 4, 2) := qr_o54 4 hN_cX9_canTake hn_cX9_canTake rfl rfl rfl
theorem dX9_canTake_8 : decode cX9_canTake 8 = .ok (.aload_n 0, 1) := qr_o42 hN_cX9_canTake hn_cX9_canTake rfl rfl
theorem dX9_canTake_9 : decode cX9_canTake 9 = .ok (.iload_n 1, 1) := qr_o27 hN_cX9_canTake hn_cX9_canTake rfl rfl
theorem dX9_canTake_10 : decode cX9_canTake 10 = .ok (.iload_n 2, 1) := qr_o28 hN_cX9_canTake hn_cX9_canTake rfl rfl
theorem dX9_canTake_11 : decode cX9_canTake 11 = .ok (.invokevirtual 303, 3) := qr_o182 1 47 hN_cX9_canTake hn_cX9_canTake rfl rfl rfl rfl
theorem dX9_canTake_14 : decode cX9_canTake 14 = .ok (.ifCond .eq 5, 3) := qr_o153 0 5 rfl hN_cX9_canTake hn_cX9_canTake rfl rfl rfl rfl
theorem dX9_canTake_17 : decode cX9_canTake 17 = .ok (.iconst 0, 1) := qr_o3 hN_cX9_canTake hn_cX9_canTake rfl rfl
theorem dX9_canTake_18 : decode cX9_canTake 18 = .ok (.ireturn, 1) := qr_o172 hN_cX9_canTake hn_cX9_canTake rfl rfl
theorem dX9_canTake_19 : decode cX9_canTake 19 = .ok (.iload_n 2, 1) := qr_o28 hN_cX9_canTake hn_cX9_canTake rfl rfl
theorem dX9_canTake_20 : decode cX9_canTake 20 = .ok (.iload_n 3, 1) := qr_o29 hN_cX9_canTake hn_cX9_canTake rfl rfl
theorem dX9_canTake_21 : decode cX9_canTake 21 = .ok (.iconst 1, 1) := qr_o4 hN_cX9_canTake hn_cX9_canTake rfl rfl
theorem dX9_canTake_22 : decode cX9_canTake 22 = .ok (.isub, 1) := qr_o100 hN_cX9_canTake hn_cX9_canTake rfl rfl
theorem dX9_canTake_23 : decode cX9_canTake 23 = .ok (.if_icmp .ne 42, 3) := qr_o160 0 42 rfl hN_cX9_canTake hn_cX9_canTake rfl rfl rfl rfl
theorem dX9_canTake_26 : decode cX9_canTake 26 = .ok (.aload_n 0, 1) := qr_o42 hN_cX9_canTake hn_cX9_canTake rfl rfl
theorem dX9_canTake_27 : decode cX9_canTake 27 = .ok (.iload_n 1, 1) := qr_o27 hN_cX9_canTake hn_cX9_canTake rfl rfl
theorem dX9_canTake_28 : decode cX9_canTake 28 = .ok (.aload_n 0, 1) := qr_o42 hN_cX9_canTake hn_cX9_canTake rfl rfl
theorem dX9_canTake_29 : decode cX9_canTake 29 = .ok (.getfield 83, 3) := qr_o180 0 83 hN_cX9_canTake hn_cX9_canTake rfl rfl rfl rfl
theorem dX9_canTake_32 : decode cX9_canTake 32 = .ok (.iload 4, 2) := qr_o21 4 hN_cX9_canTake hn_cX9_canTake rfl rfl rfl
theorem dX9_canTake_34 : decode cX9_canTake 34 = .ok (.iaload, 1) := qr_o46 hN_cX9_canTake hn_cX9_canTake rfl rfl
theorem dX9_canTake_35 : decode cX9_canTake 35 = .ok (.aload_n 0, 1) := qr_o42 hN_cX9_canTake hn_cX9_canTake rfl rfl
theorem dX9_canTake_36 : decode cX9_canTake 36 = .ok (.getfield 86, 3) := qr_o180 0 86 hN_cX9_canTake hn_cX9_canTake rfl rfl rfl rfl
theorem dX9_canTake_39 : decode cX9_canTake 39 = .ok (.iload 4, 2) := qr_o21 4 hN_cX9_canTake hn_cX9_canTake rfl rfl rfl
theorem dX9_canTake_41 : decode cX9_canTake 41 = .ok (.iaload, 1) := qr_o46 hN_cX9_canTake hn_cX9_canTake rfl rfl
theorem dX9_canTake_42 : decode cX9_canTake 42 = .ok (.invokevirtual 243, 3) := qr_o182 0 243 hN_cX9_canTake hn_cX9_canTake rfl rfl rfl rfl
theorem dX9_canTake_45 : decode cX9_canTake 45 = .ok (.iconst 2, 1) := qr_o5 hN_cX9_canTake hn_cX9_canTake rfl rfl
theorem dX9_canTake_46 : decode cX9_canTake 46 = .ok (.if_icmp .ne 17, 3) := qr_o160 0 17 rfl hN_cX9_canTake hn_cX9_canTake rfl rfl rfl rfl
theorem dX9_canTake_49 : decode cX9_canTake 49 = .ok (.aload_n 0, 1) := qr_o42 hN_cX9_canTake hn_cX9_canTake rfl rfl
theorem dX9_canTake_50 : decode cX9_canTake 50 = .ok (.iload_n 1, 1) := qr_o27 hN_cX9_canTake hn_cX9_canTake rfl rfl
theorem dX9_canTake_51 : decode cX9_canTake 51 = .ok (.iload 4, 2) := qr_o21 4 hN_cX9_canTake hn_cX9_canTake rfl rfl rfl
theorem dX9_canTake_53 : decode cX9_canTake 53 = .ok (.invokevirtual 291, 3) := qr_o182 1 35 hN_cX9_canTake hn_cX9_canTake rfl rfl rfl rfl
theorem dX9_canTake_56 : decode cX9_canTake 56 = .ok (.ifCond .eq 7, 3) := qr_o153 0 7 rfl hN_cX9_canTake hn_cX9_canTake rfl rfl rfl rfl
theorem dX9_canTake_59 : decode cX9_canTake 59 = .ok (.iconst 1, 1) := qr_o4 hN_cX9_canTake hn_cX9_canTake rfl rfl
theorem dX9_canTake_60 : decode cX9_canTake 60 = .ok (.goto 4, 3) := qr_o167 0 4 rfl hN_cX9_canTake hn_cX9_canTake rfl rfl rfl rfl
theorem dX9_canTake_63 : decode cX9_canTake 63 = .ok (.iconst 0, 1) := qr_o3 hN_cX9_canTake hn_cX9_canTake rfl rfl
theorem dX9_canTake_64 : decode cX9_canTake 64 = .ok (.ireturn, 1) := qr_o172 hN_cX9_canTake hn_cX9_canTake rfl rfl
theorem dX9_canTake_65 : decode cX9_canTake 65 = .ok (.aload_n 0, 1) := qr_o42 hN_cX9_canTake hn_cX9_canTake rfl rfl
theorem dX9_canTake_66 : decode cX9_canTake 66 = .ok (.iload_n 1, 1) := qr_o27 hN_cX9_canTake hn_cX9_canTake rfl rfl
theorem dX9_canTake_67 : decode cX9_canTake 67 = .ok (.iload 4, 2) := qr_o21 4 hN_cX9_canTake hn_cX9_canTake rfl rfl rfl
theorem dX9_canTake_69 : decode cX9_canTake 69 = .ok (.invokevirtual 300, 3) := qr_o182 1 44 hN_cX9_canTake hn_cX9_canTake rfl rfl rfl rfl
theorem dX9_canTake_72 : decode cX9_canTake 72 = .ok (.istore 5, 2) := qr_o54 5 hN_cX9_canTake hn_cX9_canTake rfl rfl rfl
theorem dX9_canTake_74 : decode cX9_canTake 74 = .ok (.iload 5, 2) := qr_o21 5 hN_cX9_canTake hn_cX9_canTake rfl rfl rfl
theorem dX9_canTake_76 : decode cX9_canTake 76 = .ok (.ifCond .lt 32, 3) := qr_o155 0 32 rfl hN_cX9_canTake hn_cX9_canTake rfl rfl rfl rfl
theorem dX9_canTake_79 : decode cX9_canTake 79 = .ok (.aload_n 0, 1) := qr_o42 hN_cX9_canTake hn_cX9_canTake rfl rfl
theorem dX9_canTake_80 : decode cX9_canTake 80 = .ok (.iload 5, 2) := qr_o21 5 hN_cX9_canTake hn_cX9_canTake rfl rfl rfl
theorem dX9_canTake_82 : decode cX9_canTake 82 = .ok (.iload_n 2, 1) := qr_o28 hN_cX9_canTake hn_cX9_canTake rfl rfl
theorem dX9_canTake_83 : decode cX9_canTake 83 = .ok (.invokevirtual 306, 3) := qr_o182 1 50 hN_cX9_canTake hn_cX9_canTake rfl rfl rfl rfl
theorem dX9_canTake_86 : decode cX9_canTake 86 = .ok (.ifCond .ne 22, 3) := qr_o154 0 22 rfl hN_cX9_canTake hn_cX9_canTake rfl rfl rfl rfl
theorem dX9_canTake_89 : decode cX9_canTake 89 = .ok (.aload_n 0, 1) := qr_o42 hN_cX9_canTake hn_cX9_canTake rfl rfl
theorem dX9_canTake_90 : decode cX9_canTake 90 = .ok (.getfield 125, 3) := qr_o180 0 125 hN_cX9_canTake hn_cX9_canTake rfl rfl rfl rfl
theorem dX9_canTake_93 : decode cX9_canTake 93 = .ok (.iload 5, 2) := qr_o21 5 hN_cX9_canTake hn_cX9_canTake rfl rfl rfl
theorem dX9_canTake_95 : decode cX9_canTake 95 = .ok (.iaload, 1) := qr_o46 hN_cX9_canTake hn_cX9_canTake rfl rfl
theorem dX9_canTake_96 : decode cX9_canTake 96 = .ok (.iload_n 3, 1) := qr_o29 hN_cX9_canTake hn_cX9_canTake rfl rfl
theorem dX9_canTake_97 : decode cX9_canTake 97 = .ok (.iconst 1, 1) := qr_o4 hN_cX9_canTake hn_cX9_canTake rfl rfl
theorem dX9_canTake_98 : decode cX9_canTake 98 = .ok (.isub, 1) := qr_o100 hN_cX9_canTake hn_cX9_canTake rfl rfl
theorem dX9_canTake_99 : decode cX9_canTake 99 = .ok (.iload_n 2, 1) := qr_o28 hN_cX9_canTake hn_cX9_canTake rfl rfl
theorem dX9_canTake_100 : decode cX9_canTake 100 = .ok (.isub, 1) := qr_o100 hN_cX9_canTake hn_cX9_canTake rfl rfl
theorem dX9_canTake_101 : decode cX9_canTake 101 = .ok (.if_icmp .gt 7, 3) := qr_o163 0 7 rfl hN_cX9_canTake hn_cX9_canTake rfl rfl rfl rfl
theorem dX9_canTake_104 : decode cX9_canTake 104 = .ok (.iconst 1, 1) := qr_o4 hN_cX9_canTake hn_cX9_canTake rfl rfl
theorem dX9_canTake_105 : decode cX9_canTake 105 = .ok (.goto 4, 3) := qr_o167 0 4 rfl hN_cX9_canTake hn_cX9_canTake rfl rfl rfl rfl
theorem dX9_canTake_108 : decode cX9_canTake 108 = .ok (.iconst 0, 1) := qr_o3 hN_cX9_canTake hn_cX9_canTake rfl rfl
theorem dX9_canTake_109 : decode cX9_canTake 109 = .ok (.ireturn, 1) := qr_o172 hN_cX9_canTake hn_cX9_canTake rfl rfl
def nN_cX9_findChainOf : Nat := 0xac030400a7040700a01c1d91ffa70436030400a760042e1d8300b42a0e009b1dff03841800a70436034f2c01b62e64041d8000b42a05152a1d8000b42a1700a21c1d0103844f05151d8300b42a2d00a2cb00b42a0515e9ffa701058409009a3501b61c1d05152a1400a2cb00b42a0515053604156c00a21c1d71009b1d0436033e034f1b038000b42a
theorem hN_cX9_findChainOf : qr_n cX9_findChainOf.data.toList = nN_cX9_findChainOf := by decide +kernel
theorem hn_cX9_findChainOf : cX9_findChainOf.size = 137 := by decide +kernel
theorem dX9_findChainOf_0 : decode cX9_findChainOf 0 = .ok (.aload_n 0, 1) := qr_o42 hN_cX9_findChainOf hn_cX9_findChainOf rfl rfl
theorem dX9_findChainOf_1 : decode cX9_findChainOf 1 = .ok (.getfield 128, 3) := qr_o180 0 128 hN_cX9_findChainOf hn_cX9_findChainOf rfl rfl rfl rfl
theorem dX9_findChainOf_4 : decode cX9_findChainOf 4 = .ok (.iconst 0, 1) := qr_o3 hN_cX9_findChainOf hn_cX9_findChainOf rfl rfl
theorem dX9_findChainOf_5 : decode cX9_findChainOf 5 = .ok (.iload_n 1, 1) := qr_o27 hN_cX9_findChainOf hn_cX9_findChainOf rfl rfl
theorem dX9_findChainOf_6 : decode cX9_findChainOf 6 = .ok (.iastore, 1) := qr_o79 hN_cX9_findChainOf hn_cX9_findChainOf rfl rfl
theorem dX9_findChainOf_7 : decode cX9_findChainOf 7 = .ok (.iconst 0, 1) := qr_o3 hN_cX9_findChainOf hn_cX9_findChainOf rfl rfl
theorem dX9_findChainOf_8 : decode cX9_findChainOf 8 = .ok (.istore_n 3, 1) := qr_o62 hN_cX9_findChainOf hn_cX9_findChainOf rfl rfl
theorem dX9_findChainOf_9 : decode cX9_findChainOf 9 = .ok (.iconst 0, 1) := qr_o3 hN_cX9_findChainOf hn_cX9_findChainOf rfl rfl
theorem dX9_findChainOf_10 : decode cX9_findChainOf 10 = .ok (.istore 4, 2) := qr_o54 4 hN_cX9_findChainOf hn_cX9_findChainOf rfl rfl rfl
theorem dX9_findChainOf_12 : decode cX9_findChainOf 12 = .ok (.iload_n 3, 1) := qr_o29 hN_cX9_findChainOf hn_cX9_findChainOf rfl rfl
theorem dX9_findChainOf_13 : decode cX9_findChainOf 13 = .ok (.ifCond .lt 113, 3) := qr_o155 0 113 rfl hN_cX9_findChainOf hn_cX9_findChainOf rfl rfl rfl rfl
theorem dX9_findChainOf_16 : decode cX9_findChainOf 16 = .ok (.iload_n 3, 1) := qr_o29 hN_cX9_findChainOf hn_cX9_findChainOf rfl rfl
theorem dX9_findChainOf_17 : decode cX9_findChainOf 17 = .ok (.iload_n 2, 1) := qr_o28 hN_cX9_findChainOf hn_cX9_findChainOf rfl rfl
theorem dX9_findChainOf_18 : decode cX9_findChainOf 18 = .ok (.if_icmp .ge 108, 3) := qr_o162 0 108 rfl hN_cX9_findChainOf hn_cX9_findChainOf rfl rfl rfl rfl
theorem dX9_findChainOf_21 : decode cX9_findChainOf 21 = .ok (.iload 4, 2) := qr_o21 4 hN_cX9_findChainOf hn_cX9_findChainOf rfl rfl rfl
theorem dX9_findChainOf_23 : decode cX9_findChainOf 23 = .ok (.istore 5, 2) := qr_o54 5 hN_cX9_findChainOf hn_cX9_findChainOf rfl rfl rfl
theorem dX9_findChainOf_25 : decode cX9_findChainOf 25 = .ok (.iload 5, 2) := qr_o21 5 hN_cX9_findChainOf hn_cX9_findChainOf rfl rfl rfl
theorem dX9_findChainOf_27 : decode cX9_findChainOf 27 = .ok (.aload_n 0, 1) := qr_o42 hN_cX9_findChainOf hn_cX9_findChainOf rfl rfl
theorem dX9_findChainOf_28 : decode cX9_findChainOf 28 = .ok (.getfield 203, 3) := qr_o180 0 203 hN_cX9_findChainOf hn_cX9_findChainOf rfl rfl rfl rfl
theorem dX9_findChainOf_31 : decode cX9_findChainOf 31 = .ok (.if_icmp .ge 20, 3) := qr_o162 0 20 rfl hN_cX9_findChainOf hn_cX9_findChainOf rfl rfl rfl rfl
theorem dX9_findChainOf_34 : decode cX9_findChainOf 34 = .ok (.aload_n 0, 1) := qr_o42 hN_cX9_findChainOf hn_cX9_findChainOf rfl rfl
theorem dX9_findChainOf_35 : decode cX9_findChainOf 35 = .ok (.iload 5, 2) := qr_o21 5 hN_cX9_findChainOf hn_cX9_findChainOf rfl rfl rfl
theorem dX9_findChainOf_37 : decode cX9_findChainOf 37 = .ok (.iload_n 3, 1) := qr_o29 hN_cX9_findChainOf hn_cX9_findChainOf rfl rfl
theorem dX9_findChainOf_38 : decode cX9_findChainOf 38 = .ok (.iload_n 2, 1) := qr_o28 hN_cX9_findChainOf hn_cX9_findChainOf rfl rfl
theorem dX9_findChainOf_39 : decode cX9_findChainOf 39 = .ok (.invokevirtual 309, 3) := qr_o182 1 53 hN_cX9_findChainOf hn_cX9_findChainOf rfl rfl rfl rfl
theorem dX9_findChainOf_42 : decode cX9_findChainOf 42 = .ok (.ifCond .ne 9, 3) := qr_o154 0 9 rfl hN_cX9_findChainOf hn_cX9_findChainOf rfl rfl rfl rfl
theorem dX9_findChainOf_45 : decode cX9_findChainOf 45 = .ok (.iinc 5 1, 3) := qr_o132 5 1 rfl hN_cX9_findChainOf hn_cX9_findChainOf rfl rfl rfl rfl
theorem dX9_findChainOf_48 : decode cX9_findChainOf 48 = .ok (.goto (-23), 3) := qr_w167 255 233 23 rfl rfl hN_cX9_findChainOf hn_cX9_findChainOf rfl rfl rfl rfl
theorem dX9_findChainOf_51 : decode cX9_findChainOf 51 = .ok (.iload 5, 2) := qr_o21 5 hN_cX9_findChainOf hn_cX9_findChainOf rfl rfl rfl
theorem dX9_findChainOf_53 : decode cX9_findChainOf 53 = .ok (.aload_n 0, 1) := qr_o42 hN_cX9_findChainOf hn_cX9_findChainOf rfl rfl
theorem dX9_findChainOf_54 : decode cX9_findChainOf 54 = .ok (.getfield 203, 3) := qr_o180 0 203 hN_cX9_findChainOf hn_cX9_findChainOf rfl rfl rfl rfl
theorem dX9_findChainOf_57 : decode cX9_findChainOf 57 = .ok (.if_icmp .ge 45, 3) := qr_o162 0 45 rfl hN_cX9_findChainOf hn_cX9_findChainOf rfl rfl rfl rfl
theorem dX9_findChainOf_60 : decode cX9_findChainOf 60 = .ok (.aload_n 0, 1) := qr_o42 hN_cX9_findChainOf hn_cX9_findChainOf rfl rfl
theorem dX9_findChainOf_61 : decode cX9_findChainOf 61 = .ok (.getfield 131, 3) := qr_o180 0 131 hN_cX9_findChainOf hn_cX9_findChainOf rfl rfl rfl rfl
theorem dX9_findChainOf_64 : decode cX9_findChainOf 64 = .ok (.iload_n 3, 1) := qr_o29 hN_cX9_findChainOf hn_cX9_findChainOf rfl rfl
theorem dX9_findChainOf_65 : decode cX9_findChainOf 65 = .ok (.iload 5, 2) := qr_o21 5 hN_cX9_findChainOf hn_cX9_findChainOf rfl rfl rfl
theorem dX9_findChainOf_67 : decode cX9_findChainOf 67 = .ok (.iastore, 1) := qr_o79 hN_cX9_findChainOf hn_cX9_findChainOf rfl rfl
theorem dX9_findChainOf_68 : decode cX9_findChainOf 68 = .ok (.iinc 3 1, 3) := qr_o132 3 1 rfl hN_cX9_findChainOf hn_cX9_findChainOf rfl rfl rfl rfl
theorem dX9_findChainOf_71 : decode cX9_findChainOf 71 = .ok (.iload_n 3, 1) := qr_o29 hN_cX9_findChainOf hn_cX9_findChainOf rfl rfl
theorem dX9_findChainOf_72 : decode cX9_findChainOf 72 = .ok (.iload_n 2, 1) := qr_o28 hN_cX9_findChainOf hn_cX9_findChainOf rfl rfl
theorem dX9_findChainOf_73 : decode cX9_findChainOf 73 = .ok (.if_icmp .ge 23, 3) := qr_o162 0 23 rfl hN_cX9_findChainOf hn_cX9_findChainOf rfl rfl rfl rfl
theorem dX9_findChainOf_76 : decode cX9_findChainOf 76 = .ok (.aload_n 0, 1) := qr_o42 hN_cX9_findChainOf hn_cX9_findChainOf rfl rfl
theorem dX9_findChainOf_77 : decode cX9_findChainOf 77 = .ok (.getfield 128, 3) := qr_o180 0 128 hN_cX9_findChainOf hn_cX9_findChainOf rfl rfl rfl rfl
theorem dX9_findChainOf_80 : decode cX9_findChainOf 80 = .ok (.iload_n 3, 1) := qr_o29 hN_cX9_findChainOf hn_cX9_findChainOf rfl rfl
theorem dX9_findChainOf_81 : decode cX9_findChainOf 81 = .ok (.aload_n 0, 1) := qr_o42 hN_cX9_findChainOf hn_cX9_findChainOf rfl rfl
theorem dX9_findChainOf_82 : decode cX9_findChainOf 82 = .ok (.iload 5, 2) := qr_o21 5 hN_cX9_findChainOf hn_cX9_findChainOf rfl rfl rfl
theorem dX9_findChainOf_84 : decode cX9_findChainOf 84 = .ok (.aload_n 0, 1) := qr_o42 hN_cX9_findChainOf hn_cX9_findChainOf rfl rfl
theorem dX9_findChainOf_85 : decode cX9_findChainOf 85 = .ok (.getfield 128, 3) := qr_o180 0 128 hN_cX9_findChainOf hn_cX9_findChainOf rfl rfl rfl rfl
theorem dX9_findChainOf_88 : decode cX9_findChainOf 88 = .ok (.iload_n 3, 1) := qr_o29 hN_cX9_findChainOf hn_cX9_findChainOf rfl rfl
theorem dX9_findChainOf_89 : decode cX9_findChainOf 89 = .ok (.iconst 1, 1) := qr_o4 hN_cX9_findChainOf hn_cX9_findChainOf rfl rfl
theorem dX9_findChainOf_90 : decode cX9_findChainOf 90 = .ok (.isub, 1) := qr_o100 hN_cX9_findChainOf hn_cX9_findChainOf rfl rfl
theorem dX9_findChainOf_91 : decode cX9_findChainOf 91 = .ok (.iaload, 1) := qr_o46 hN_cX9_findChainOf hn_cX9_findChainOf rfl rfl
theorem dX9_findChainOf_92 : decode cX9_findChainOf 92 = .ok (.invokevirtual 300, 3) := qr_o182 1 44 hN_cX9_findChainOf hn_cX9_findChainOf rfl rfl rfl rfl
theorem dX9_findChainOf_95 : decode cX9_findChainOf 95 = .ok (.iastore, 1) := qr_o79 hN_cX9_findChainOf hn_cX9_findChainOf rfl rfl
theorem dX9_findChainOf_96 : decode cX9_findChainOf 96 = .ok (.iconst 0, 1) := qr_o3 hN_cX9_findChainOf hn_cX9_findChainOf rfl rfl
theorem dX9_findChainOf_97 : decode cX9_findChainOf 97 = .ok (.istore 4, 2) := qr_o54 4 hN_cX9_findChainOf hn_cX9_findChainOf rfl rfl rfl
theorem dX9_findChainOf_99 : decode cX9_findChainOf 99 = .ok (.goto 24, 3) := qr_o167 0 24 rfl hN_cX9_findChainOf hn_cX9_findChainOf rfl rfl rfl rfl
theorem dX9_findChainOf_102 : decode cX9_findChainOf 102 = .ok (.iinc 3 (-1), 3) := qr_w132 3 255 1 rfl rfl hN_cX9_findChainOf hn_cX9_findChainOf rfl rfl rfl rfl
theorem dX9_findChainOf_105 : decode cX9_findChainOf 105 = .ok (.iload_n 3, 1) := qr_o29 hN_cX9_findChainOf hn_cX9_findChainOf rfl rfl
theorem dX9_findChainOf_106 : decode cX9_findChainOf 106 = .ok (.ifCond .lt 14, 3) := qr_o155 0 14 rfl hN_cX9_findChainOf hn_cX9_findChainOf rfl rfl rfl rfl
theorem dX9_findChainOf_109 : decode cX9_findChainOf 109 = .ok (.aload_n 0, 1) := qr_o42 hN_cX9_findChainOf hn_cX9_findChainOf rfl rfl
theorem dX9_findChainOf_110 : decode cX9_findChainOf 110 = .ok (.getfield 131, 3) := qr_o180 0 131 hN_cX9_findChainOf hn_cX9_findChainOf rfl rfl rfl rfl
theorem dX9_findChainOf_113 : decode cX9_findChainOf 113 = .ok (.iload_n 3, 1) := qr_o29 hN_cX9_findChainOf hn_cX9_findChainOf rfl rfl
theorem dX9_findChainOf_114 : decode cX9_findChainOf 114 = .ok (.iaload, 1) := qr_o46 hN_cX9_findChainOf hn_cX9_findChainOf rfl rfl
theorem dX9_findChainOf_115 : decode cX9_findChainOf 115 = .ok (.iconst 1, 1) := qr_o4 hN_cX9_findChainOf hn_cX9_findChainOf rfl rfl
theorem dX9_findChainOf_116 : decode cX9_findChainOf 116 = .ok (.iadd, 1) := qr_o96 hN_cX9_findChainOf hn_cX9_findChainOf rfl rfl
theorem dX9_findChainOf_117 : decode cX9_findChainOf 117 = .ok (.goto 4, 3) := qr_o167 0 4 rfl hN_cX9_findChainOf hn_cX9_findChainOf rfl rfl rfl rfl
theorem dX9_findChainOf_120 : decode cX9_findChainOf 120 = .ok (.iconst 0, 1) := qr_o3 hN_cX9_findChainOf hn_cX9_findChainOf rfl rfl
theorem dX9_findChainOf_121 : decode cX9_findChainOf 121 = .ok (.istore 4, 2) := qr_o54 4 hN_cX9_findChainOf hn_cX9_findChainOf rfl rfl rfl
theorem dX9_findChainOf_123 : decode cX9_findChainOf 123 = .ok (.goto (-111), 3) := qr_w167 255 145 111 rfl rfl hN_cX9_findChainOf hn_cX9_findChainOf rfl rfl rfl rfl
theorem dX9_findChainOf_126 : decode cX9_findChainOf 126 = .ok (.iload_n 3, 1) := qr_o29 hN_cX9_findChainOf hn_cX9_findChainOf rfl rfl
theorem dX9_findChainOf_127 : decode cX9_findChainOf 127 = .ok (.iload_n 2, 1) := qr_o28 hN_cX9_findChainOf hn_cX9_findChainOf rfl rfl
theorem dX9_findChainOf_128 : decode cX9_findChainOf 128 = .ok (.if_icmp .ne 7, 3) := qr_o160 0 7 rfl hN_cX9_findChainOf hn_cX9_findChainOf rfl rfl rfl rfl
theorem dX9_findChainOf_131 : decode cX9_findChainOf 131 = .ok (.iconst 1, 1) := qr_o4 hN_cX9_findChainOf hn_cX9_findChainOf rfl rfl
theorem dX9_findChainOf_132 : decode cX9_findChainOf 132 = .ok (.goto 4, 3) := qr_o167 0 4 rfl hN_cX9_findChainOf hn_cX9_findChainOf rfl rfl rfl rfl
theorem dX9_findChainOf_135 : decode cX9_findChainOf 135 = .ok (.iconst 0, 1) := qr_o3 hN_cX9_findChainOf hn_cX9_findChainOf rfl rfl
theorem dX9_findChainOf_136 : decode cX9_findChainOf 136 = .ok (.ireturn, 1) := qr_o172 hN_cX9_findChainOf hn_cX9_findChainOf rfl rfl
def nN_cX9_findChain : Nat := 0xacfc10dbffa7010284ac1c0500993b01b61c1b2a0e00a31c2e1b7d00b42a1e00a360042e07101000b42a1c3d043801b62aeb00b62a
theorem hN_cX9_findChain : qr_n cX9_findChain.data.toList = nN_cX9_findChain := by decide +kernel
theorem hn_cX9_findChain : cX9_findChain.size = 53 := by decide +kernel
theorem dX9_findChain_0 : decode cX9_findChain 0 = .ok (.aload_n 0, 1) := qr_o42 hN_cX9_findChain hn_cX9_findChain rfl rfl
theorem dX9_findChain_1 : decode cX9_findChain 1 = .ok (.invokevirtual 235, 3) := qr_o182 0 235 hN_cX9_findChain hn_cX9_findChain rfl rfl rfl rfl
theorem dX9_findChain_4 : decode cX9_findChain 4 = .ok (.aload_n 0, 1) := qr_o42 hN_cX9_findChain hn_cX9_findChain rfl rfl
theorem dX9_findChain_5 : decode cX9_findChain 5 = .ok (.invokevirtual 312, 3) := qr_o182 1 56 hN_cX9_findChain hn_cX9_findChain rfl rfl rfl rfl
theorem dX9_findChain_8 : decode cX9_findChain 8 = .ok (.iconst 1, 1) := qr_o4 hN_cX9_findChain hn_cX9_findChain rfl rfl
theorem dX9_findChain_9 : decode cX9_findChain 9 = .ok (.istore_n 2, 1) := qr_o61 hN_cX9_findChain hn_cX9_findChain rfl rfl
theorem dX9_findChain_10 : decode cX9_findChain 10 = .ok (.iload_n 2, 1) := qr_o28 hN_cX9_findChain hn_cX9_findChain rfl rfl
theorem dX9_findChain_11 : decode cX9_findChain 11 = .ok (.aload_n 0, 1) := qr_o42 hN_cX9_findChain hn_cX9_findChain rfl rfl
theorem dX9_findChain_12 : decode cX9_findChain 12 = .ok (.getfield 16, 3) := qr_o180 0 16 hN_cX9_findChain hn_cX9_findChain rfl rfl rfl rfl
theorem dX9_findChain_15 : decode cX9_findChain 15 = .ok (.bipush 7, 2) := qr_o16 7 rfl hN_cX9_findChain hn_cX9_findChain rfl rfl rfl
theorem dX9_findChain_17 : decode cX9_findChain 17 = .ok (.iaload, 1) := qr_o46 hN_cX9_findChain hn_cX9_findChain rfl rfl
theorem dX9_findChain_18 : decode cX9_findChain 18 = .ok (.iconst 1, 1) := qr_o4 hN_cX9_findChain hn_cX9_findChain rfl rfl
theorem dX9_findChain_19 : decode cX9_findChain 19 = .ok (.iadd, 1) := qr_o96 hN_cX9_findChain hn_cX9_findChain rfl rfl
theorem dX9_findChain_20 : decode cX9_findChain 20 = .ok (.if_icmp .gt 30, 3) := qr_o163 0 30 rfl hN_cX9_findChain hn_cX9_findChain rfl rfl rfl rfl
theorem dX9_findChain_23 : decode cX9_findChain 23 = .ok (.aload_n 0, 1) := qr_o42 hN_cX9_findChain hn_cX9_findChain rfl rfl
theorem dX9_findChain_24 : decode cX9_findChain 24 = .ok (.getfield 125, 3) := qr_o180 0 125 hN_cX9_findChain hn_cX9_findChain rfl rfl rfl rfl
theorem dX9_findChain_27 : decode cX9_findChain 27 = .ok (.iload_n 1, 1) := qr_o27 hN_cX9_findChain hn_cX9_findChain rfl rfl
theorem dX9_findChain_28 : decode cX9_findChain 28 = .ok (.iaload, 1) := qr_o46 hN_cX9_findChain hn_cX9_findChain rfl rfl
theorem dX9_findChain_29 : decode cX9_findChain 29 = .ok (.iload_n 2, 1) := qr_o28 hN_cX9_findChain hn_cX9_findChain rfl rfl
theorem dX9_findChain_30 : decode cX9_findChain 30 = .ok (.if_icmp .gt 14, 3) := qr_o163 0 14 rfl hN_cX9_findChain hn_cX9_findChain rfl rfl rfl rfl
theorem dX9_findChain_33 : decode cX9_findChain 33 = .ok (.aload_n 0, 1) := qr_o42 hN_cX9_findChain hn_cX9_findChain rfl rfl
theorem dX9_findChain_34 : decode cX9_findChain 34 = .ok (.iload_n 1, 1) := qr_o27 hN_cX9_findChain hn_cX9_findChain rfl rfl
theorem dX9_findChain_35 : decode cX9_findChain 35 = .ok (.iload_n 2, 1) := qr_o28 hN_cX9_findChain hn_cX9_findChain rfl rfl
theorem dX9_findChain_36 : decode cX9_findChain 36 = .ok (.invokevirtual 315, 3) := qr_o182 1 59 hN_cX9_findChain hn_cX9_findChain rfl rfl rfl rfl
theorem dX9_findChain_39 : decode cX9_findChain 39 = .ok (.ifCond .eq 5, 3) := qr_o153 0 5 rfl hN_cX9_findChain hn_cX9_findChain rfl rfl rfl rfl
theorem dX9_findChain_42 : decode cX9_findChain 42 = .ok (.iload_n 2, 1) := qr_o28 hN_cX9_findChain hn_cX9_findChain rfl rfl
theorem dX9_findChain_43 : decode cX9_findChain 43 = .ok (.ireturn, 1) := qr_o172 hN_cX9_findChain hn_cX9_findChain rfl rfl
theorem dX9_findChain_44 : decode cX9_findChain 44 = .ok (.iinc 2 1, 3) := qr_o132 2 1 rfl hN_cX9_findChain hn_cX9_findChain rfl rfl rfl rfl
theorem dX9_findChain_47 : decode cX9_findChain 47 = .ok (.goto (-37), 3) := qr_w167 255 219 37 rfl rfl hN_cX9_findChain hn_cX9_findChain rfl rfl rfl rfl
theorem dX9_findChain_50 : decode cX9_findChain 50 = .ok (.bipush (-4), 2) := qr_w16 252 4 rfl rfl hN_cX9_findChain hn_cX9_findChain rfl rfl rfl
theorem dX9_findChain_52 : decode cX9_findChain 52 = .ok (.ireturn, 1) := qr_o172 hN_cX9_findChain hn_cX9_findChain rfl rfl
def nN_cX9_chain : Nat := 0xac3e01b61b2a0800a7fe1008009a2601b61b2a1500a70207009a0c01b61b2a
theorem hN_cX9_chain : qr_n cX9_chain.data.toList = nN_cX9_chain := by decide +kernel
theorem hn_cX9_chain : cX9_chain.size = 31 := by decide +kernel
theorem dX9_chain_0 : decode cX9_chain 0 = .ok (.aload_n 0, 1) := qr_o42 hN_cX9_chain hn_cX9_chain rfl rfl
theorem dX9_chain_1 : decode cX9_chain 1 = .ok (.iload_n 1, 1) := qr_o27 hN_cX9_chain hn_cX9_chain rfl rfl
theorem dX9_chain_2 : decode cX9_chain 2 = .ok (.invokevirtual 268, 3) := qr_o182 1 12 hN_cX9_chain hn_cX9_chain rfl rfl rfl rfl
theorem dX9_chain_5 : decode cX9_chain 5 = .ok (.ifCond .ne 7, 3) := qr_o154 0 7 rfl hN_cX9_chain hn_cX9_chain rfl rfl rfl rfl
theorem dX9_chain_8 : decode cX9_chain 8 = .ok (.iconst (-1), 1) := qr_o2 hN_cX9_chain hn_cX9_chain rfl rfl
theorem dX9_chain_9 : decode cX9_chain 9 = .ok (.goto 21, 3) := qr_o167 0 21 rfl hN_cX9_chain hn_cX9_chain rfl rfl rfl rfl
theorem dX9_chain_12 : decode cX9_chain 12 = .ok (.aload_n 0, 1) := qr_o42 hN_cX9_chain hn_cX9_chain rfl rfl
theorem dX9_chain_13 : decode cX9_chain 13 = .ok (.iload_n 1, 1) := qr_o27 hN_cX9_chain hn_cX9_chain rfl rfl
theorem dX9_chain_14 : decode cX9_chain 14 = .ok (.invokevirtual 294, 3) := qr_o182 1 38 hN_cX9_chain hn_cX9_chain rfl rfl rfl rfl
theorem dX9_chain_17 : decode cX9_chain 17 = .ok (.ifCond .ne 8, 3) := qr_o154 0 8 rfl hN_cX9_chain hn_cX9_chain rfl rfl rfl rfl
theorem dX9_chain_20 : decode cX9_chain 20 = .ok (.bipush (-2), 2) := qr_w16 254 2 rfl rfl hN_cX9_chain hn_cX9_chain rfl rfl rfl
theorem dX9_chain_22 : decode cX9_chain 22 = .ok (.goto 8, 3) := qr_o167 0 8 rfl hN_cX9_chain hn_cX9_chain rfl rfl rfl rfl
theorem dX9_chain_25 : decode cX9_chain 25 = .ok (.aload_n 0, 1) := qr_o42 hN_cX9_chain hn_cX9_chain rfl rfl
theorem dX9_chain_26 : decode cX9_chain 26 = .ok (.iload_n 1, 1) := qr_o27 hN_cX9_chain hn_cX9_chain rfl rfl
theorem dX9_chain_27 : decode cX9_chain 27 = .ok (.invokevirtual 318, 3) := qr_o182 1 62 hN_cX9_chain hn_cX9_chain rfl rfl rfl rfl
theorem dX9_chain_30 : decode cX9_chain 30 = .ok (.ireturn, 1) := qr_o172 hN_cX9_chain hn_cX9_chain rfl rfl
def nN_cX9_link : Nat := 0xac2e1c8300b42a0900a72e1c8000b42a0c009a1d1600a7020700a104151c2000a7fc1008009c041504363e01b61b2aacfe1006009a2601b61b2aac0205009a9400b80a09851d0d009b1c1100990c01b61b2a
theorem hN_cX9_link : qr_n cX9_link.data.toList = nN_cX9_link := by decide +kernel
theorem hn_cX9_link : cX9_link.size = 82 := by decide +kernel
theorem dX9_link_0 : decode cX9_link 0 = .ok (.aload_n 0, 1) := qr_o42 hN_cX9_link hn_cX9_link rfl rfl
theorem dX9_link_1 : decode cX9_link 1 = .ok (.iload_n 1, 1) := qr_o27 hN_cX9_link hn_cX9_link rfl rfl
theorem dX9_link_2 : decode cX9_link 2 = .ok (.invokevirtual 268, 3) := qr_o182 1 12 hN_cX9_link hn_cX9_link rfl rfl rfl rfl
theorem dX9_link_5 : decode cX9_link 5 = .ok (.ifCond .eq 17, 3) := qr_o153 0 17 rfl hN_cX9_link hn_cX9_link rfl rfl rfl rfl
theorem dX9_link_8 : decode cX9_link 8 = .ok (.iload_n 2, 1) := qr_o28 hN_cX9_link hn_cX9_link rfl rfl
theorem dX9_link_9 : decode cX9_link 9 = .ok (.ifCond .lt 13, 3) := qr_o155 0 13 rfl hN_cX9_link hn_cX9_link rfl rfl rfl rfl
theorem dX9_link_12 : decode cX9_link 12 = .ok (.iload_n 3, 1) := qr_o29 hN_cX9_link hn_cX9_link rfl rfl
theorem dX9_link_13 : decode cX9_link 13 = .ok (.i2l, 1) := qr_o133 hN_cX9_link hn_cX9_link rfl rfl
theorem dX9_link_14 : decode cX9_link 14 = .ok (.lconst 0, 1) := qr_o9 hN_cX9_link hn_cX9_link rfl rfl
theorem dX9_link_15 : decode cX9_link 15 = .ok (.lconst 1, 1) := qr_o10 hN_cX9_link hn_cX9_link rfl rfl
theorem dX9_link_16 : decode cX9_link 16 = .ok (.invokestatic 148, 3) := qr_o184 0 148 hN_cX9_link hn_cX9_link rfl rfl rfl rfl
theorem dX9_link_19 : decode cX9_link 19 = .ok (.ifCond .ne 5, 3) := qr_o154 0 5 rfl hN_cX9_link hn_cX9_link rfl rfl rfl rfl
theorem dX9_link_22 : decode cX9_link 22 = .ok (.iconst (-1), 1) := qr_o2 hN_cX9_link hn_cX9_link rfl rfl
theorem dX9_link_23 : decode cX9_link 23 = .ok (.ireturn, 1) := qr_o172 hN_cX9_link hn_cX9_link rfl rfl
theorem dX9_link_24 : decode cX9_link 24 = .ok (.aload_n 0, 1) := qr_o42 hN_cX9_link hn_cX9_link rfl rfl
theorem dX9_link_25 : decode cX9_link 25 = .ok (.iload_n 1, 1) := qr_o27 hN_cX9_link hn_cX9_link rfl rfl
theorem dX9_link_26 : decode cX9_link 26 = .ok (.invokevirtual 294, 3) := qr_o182 1 38 hN_cX9_link hn_cX9_link rfl rfl rfl rfl
theorem dX9_link_29 : decode cX9_link 29 = .ok (.ifCond .ne 6, 3) := qr_o154 0 6 rfl hN_cX9_link hn_cX9_link rfl rfl rfl rfl
theorem dX9_link_32 : decode cX9_link 32 = .ok (.bipush (-2), 2) := qr_w16 254 2 rfl rfl hN_cX9_link hn_cX9_link rfl rfl rfl
theorem dX9_link_34 : decode cX9_link 34 = .ok (.ireturn, 1) := qr_o172 hN_cX9_link hn_cX9_link rfl rfl
theorem dX9_link_35 : decode cX9_link 35 = .ok (.aload_n 0, 1) := qr_o42 hN_cX9_link hn_cX9_link rfl rfl
theorem dX9_link_36 : decode cX9_link 36 = .ok (.iload_n 1, 1) := qr_o27 hN_cX9_link hn_cX9_link rfl rfl
theorem dX9_link_37 : decode cX9_link 37 = .ok (.invokevirtual 318, 3) := qr_o182 1 62 hN_cX9_link hn_cX9_link rfl rfl rfl rfl
theorem dX9_link_40 : decode cX9_link 40 = .ok (.istore 4, 2) := qr_o54 4 hN_cX9_link hn_cX9_link rfl rfl rfl
theorem dX9_link_42 : decode cX9_link 42 = .ok (.iload 4, 2) := qr_o21 4 hN_cX9_link hn_cX9_link rfl rfl rfl
theorem dX9_link_44 : decode cX9_link 44 = .ok (.ifCond .ge 8, 3) := qr_o156 0 8 rfl hN_cX9_link hn_cX9_link rfl rfl rfl rfl
theorem dX9_link_47 : decode cX9_link 47 = .ok (.bipush (-4), 2) := qr_w16 252 4 rfl rfl hN_cX9_link hn_cX9_link rfl rfl rfl
theorem dX9_link_49 : decode cX9_link 49 = .ok (.goto 32, 3) := qr_o167 0 32 rfl hN_cX9_link hn_cX9_link rfl rfl rfl rfl
theorem dX9_link_52 : decode cX9_link 52 = .ok (.iload_n 2, 1) := qr_o28 hN_cX9_link hn_cX9_link rfl rfl
theorem dX9_link_53 : decode cX9_link 53 = .ok (.iload 4, 2) := qr_o21 4 hN_cX9_link hn_cX9_link rfl rfl rfl
theorem dX9_link_55 : decode cX9_link 55 = .ok (.if_icmp .lt 7, 3) := qr_o161 0 7 rfl hN_cX9_link hn_cX9_link rfl rfl rfl rfl
theorem dX9_link_58 : decode cX9_link 58 = .ok (.iconst (-1), 1) := qr_o2 hN_cX9_link hn_cX9_link rfl rfl
theorem dX9_link_59 : decode cX9_link 59 = .ok (.goto 22, 3) := qr_o167 0 22 rfl hN_cX9_link hn_cX9_link rfl rfl rfl rfl
theorem dX9_link_62 : decode cX9_link 62 = .ok (.iload_n 3, 1) := qr_o29 hN_cX9_link hn_cX9_link rfl rfl
theorem dX9_link_63 : decode cX9_link 63 = .ok (.ifCond .ne 12, 3) := qr_o154 0 12 rfl hN_cX9_link hn_cX9_link rfl rfl rfl rfl
theorem dX9_link_66 : decode cX9_link 66 = .ok (.aload_n 0, 1) := qr_o42 hN_cX9_link hn_cX9_link rfl rfl
theorem dX9_link_67 : decode cX9_link 67 = .ok (.getfield 128, 3) := qr_o180 0 128 hN_cX9_link hn_cX9_link rfl rfl rfl rfl
theorem dX9_link_70 : decode cX9_link 70 = .ok (.iload_n 2, 1) := qr_o28 hN_cX9_link hn_cX9_link rfl rfl
theorem dX9_link_71 : decode cX9_link 71 = .ok (.iaload, 1) := qr_o46 hN_cX9_link hn_cX9_link rfl rfl
theorem dX9_link_72 : decode cX9_link 72 = .ok (.goto 9, 3) := qr_o167 0 9 rfl hN_cX9_link hn_cX9_link rfl rfl rfl rfl
theorem dX9_link_75 : decode cX9_link 75 = .ok (.aload_n 0, 1) := qr_o42 hN_cX9_link hn_cX9_link rfl rfl
theorem dX9_link_76 : decode cX9_link 76 = .ok (.getfield 131, 3) := qr_o180 0 131 hN_cX9_link hn_cX9_link rfl rfl rfl rfl
theorem dX9_link_79 : decode cX9_link 79 = .ok (.iload_n 2, 1) := qr_o28 hN_cX9_link hn_cX9_link rfl rfl
theorem dX9_link_80 : decode cX9_link 80 = .ok (.iaload, 1) := qr_o46 hN_cX9_link hn_cX9_link rfl rfl
theorem dX9_link_81 : decode cX9_link 81 = .ok (.ireturn, 1) := qr_o172 hN_cX9_link hn_cX9_link rfl rfl
def nN_cX9_swap : Nat := 0xac1ce7ffa70103844f2e1d8300b42a2e1d8000b42a6800b42a1a00a21c1d3e033d3e01b61b2aacfe1006009a2601b61b2aac0205009a0c01b61b2a
theorem hN_cX9_swap : qr_n cX9_swap.data.toList = nN_cX9_swap := by decide +kernel
theorem hn_cX9_swap : cX9_swap.size = 59 := by decide +kernel
theorem dX9_swap_0 : decode cX9_swap 0 = .ok (.aload_n 0, 1) := qr_o42 hN_cX9_swap hn_cX9_swap rfl rfl
theorem dX9_swap_1 : decode cX9_swap 1 = .ok (.iload_n 1, 1) := qr_o27 hN_cX9_swap hn_cX9_swap rfl rfl
theorem dX9_swap_2 : decode cX9_swap 2 = .ok (.invokevirtual 268, 3) := qr_o182 1 12 hN_cX9_swap hn_cX9_swap rfl rfl rfl rfl
theorem dX9_swap_5 : decode cX9_swap 5 = .ok (.ifCond .ne 5, 3) := qr_o154 0 5 rfl hN_cX9_swap hn_cX9_swap rfl rfl rfl rfl
theorem dX9_swap_8 : decode cX9_swap 8 = .ok (.iconst (-1), 1) := qr_o2 hN_cX9_swap hn_cX9_swap rfl rfl
theorem dX9_swap_9 : decode cX9_swap 9 = .ok (.ireturn, 1) := qr_o172 hN_cX9_swap hn_cX9_swap rfl rfl
theorem dX9_swap_10 : decode cX9_swap 10 = .ok (.aload_n 0, 1) := qr_o42 hN_cX9_swap hn_cX9_swap rfl rfl
theorem dX9_swap_11 : decode cX9_swap 11 = .ok (.iload_n 1, 1) := qr_o27 hN_cX9_swap hn_cX9_swap rfl rfl
theorem dX9_swap_12 : decode cX9_swap 12 = .ok (.invokevirtual 294, 3) := qr_o182 1 38 hN_cX9_swap hn_cX9_swap rfl rfl rfl rfl
theorem dX9_swap_15 : decode cX9_swap 15 = .ok (.ifCond .ne 6, 3) := qr_o154 0 6 rfl hN_cX9_swap hn_cX9_swap rfl rfl rfl rfl
theorem dX9_swap_18 : decode cX9_swap 18 = .ok (.bipush (-2), 2) := qr_w16 254 2 rfl rfl hN_cX9_swap hn_cX9_swap rfl rfl rfl
theorem dX9_swap_20 : decode cX9_swap 20 = .ok (.ireturn, 1) := qr_o172 hN_cX9_swap hn_cX9_swap rfl rfl
theorem dX9_swap_21 : decode cX9_swap 21 = .ok (.aload_n 0, 1) := qr_o42 hN_cX9_swap hn_cX9_swap rfl rfl
theorem dX9_swap_22 : decode cX9_swap 22 = .ok (.iload_n 1, 1) := qr_o27 hN_cX9_swap hn_cX9_swap rfl rfl
theorem dX9_swap_23 : decode cX9_swap 23 = .ok (.invokevirtual 318, 3) := qr_o182 1 62 hN_cX9_swap hn_cX9_swap rfl rfl rfl rfl
theorem dX9_swap_26 : decode cX9_swap 26 = .ok (.istore_n 2, 1) := qr_o61 hN_cX9_swap hn_cX9_swap rfl rfl
theorem dX9_swap_27 : decode cX9_swap 27 = .ok (.iconst 0, 1) := qr_o3 hN_cX9_swap hn_cX9_swap rfl rfl
theorem dX9_swap_28 : decode cX9_swap 28 = .ok (.istore_n 3, 1) := qr_o62 hN_cX9_swap hn_cX9_swap rfl rfl
theorem dX9_swap_29 : decode cX9_swap 29 = .ok (.iload_n 3, 1) := qr_o29 hN_cX9_swap hn_cX9_swap rfl rfl
theorem dX9_swap_30 : decode cX9_swap 30 = .ok (.iload_n 2, 1) := qr_o28 hN_cX9_swap hn_cX9_swap rfl rfl
theorem dX9_swap_31 : decode cX9_swap 31 = .ok (.if_icmp .ge 26, 3) := qr_o162 0 26 rfl hN_cX9_swap hn_cX9_swap rfl rfl rfl rfl
theorem dX9_swap_34 : decode cX9_swap 34 = .ok (.aload_n 0, 1) := qr_o42 hN_cX9_swap hn_cX9_swap rfl rfl
theorem dX9_swap_35 : decode cX9_swap 35 = .ok (.getfield 104, 3) := qr_o180 0 104 hN_cX9_swap hn_cX9_swap rfl rfl rfl rfl
theorem dX9_swap_38 : decode cX9_swap 38 = .ok (.aload_n 0, 1) := qr_o42 hN_cX9_swap hn_cX9_swap rfl rfl
theorem dX9_swap_39 : decode cX9_swap 39 = .ok (.getfield 128, 3) := qr_o180 0 128 hN_cX9_swap hn_cX9_swap rfl rfl rfl rfl
theorem dX9_swap_42 : decode cX9_swap 42 = .ok (.iload_n 3, 1) := qr_o29 hN_cX9_swap hn_cX9_swap rfl rfl
theorem dX9_swap_43 : decode cX9_swap 43 = .ok (.iaload, 1) := qr_o46 hN_cX9_swap hn_cX9_swap rfl rfl
theorem dX9_swap_44 : decode cX9_swap 44 = .ok (.aload_n 0, 1) := qr_o42 hN_cX9_swap hn_cX9_swap rfl rfl
theorem dX9_swap_45 : decode cX9_swap 45 = .ok (.getfield 131, 3) := qr_o180 0 131 hN_cX9_swap hn_cX9_swap rfl rfl rfl rfl
theorem dX9_swap_48 : decode cX9_swap 48 = .ok (.iload_n 3, 1) := qr_o29 hN_cX9_swap hn_cX9_swap rfl rfl
theorem dX9_swap_49 : decode cX9_swap 49 = .ok (.iaload, 1) := qr_o46 hN_cX9_swap hn_cX9_swap rfl rfl
theorem dX9_swap_50 : decode cX9_swap 50 = .ok (.iastore, 1) := qr_o79 hN_cX9_swap hn_cX9_swap rfl rfl
theorem dX9_swap_51 : decode cX9_swap 51 = .ok (.iinc 3 1, 3) := qr_o132 3 1 rfl hN_cX9_swap hn_cX9_swap rfl rfl rfl rfl
theorem dX9_swap_54 : decode cX9_swap 54 = .ok (.goto (-25), 3) := qr_w167 255 231 25 rfl rfl hN_cX9_swap hn_cX9_swap rfl rfl rfl rfl
theorem dX9_swap_57 : decode cX9_swap 57 = .ok (.iload_n 2, 1) := qr_o28 hN_cX9_swap hn_cX9_swap rfl rfl
theorem dX9_swap_58 : decode cX9_swap 58 = .ok (.ireturn, 1) := qr_o172 hN_cX9_swap hn_cX9_swap rfl rfl
def nN_cX9_matchOf : Nat := 0xac1de6ffa70104844f2e04158600b42a04156800b42a1700a20101b42a041504360398ffa70104843e60030400a7040700a01c2e2e04156800b42a2500b42a17009b2e04156800b42a1d4f05150500a70207009c051504156800b42a05362901b61c04152a1e009c2e04156800b42a4a009c2e04156500b42a5400a01b2e04156200b42a6500a20101b42a04150436033e03e9ffa70103844f2e1d6800b42a1d8600b42a1500a20101b42a1d3e03
theorem hN_cX9_matchOf : qr_n cX9_matchOf.data.toList = nN_cX9_matchOf := by decide +kernel
theorem hn_cX9_matchOf : cX9_matchOf.size = 174 := by decide +kernel
theorem dX9_matchOf_0 : decode cX9_matchOf 0 = .ok (.iconst 0, 1) := qr_o3 hN_cX9_matchOf hn_cX9_matchOf rfl rfl
theorem dX9_matchOf_1 : decode cX9_matchOf 1 = .ok (.istore_n 3, 1) := qr_o62 hN_cX9_matchOf hn_cX9_matchOf rfl rfl
theorem dX9_matchOf_2 : decode cX9_matchOf 2 = .ok (.iload_n 3, 1) := qr_o29 hN_cX9_matchOf hn_cX9_matchOf rfl rfl
theorem dX9_matchOf_3 : decode cX9_matchOf 3 = .ok (.aload_n 0, 1) := qr_o42 hN_cX9_matchOf hn_cX9_matchOf rfl rfl
theorem dX9_matchOf_4 : decode cX9_matchOf 4 = .ok (.getfield 257, 3) := qr_o180 1 1 hN_cX9_matchOf hn_cX9_matchOf rfl rfl rfl rfl
theorem dX9_matchOf_7 : decode cX9_matchOf 7 = .ok (.if_icmp .ge 21, 3) := qr_o162 0 21 rfl hN_cX9_matchOf hn_cX9_matchOf rfl rfl rfl rfl
theorem dX9_matchOf_10 : decode cX9_matchOf 10 = .ok (.aload_n 0, 1) := qr_o42 hN_cX9_matchOf hn_cX9_matchOf rfl rfl
theorem dX9_matchOf_11 : decode cX9_matchOf 11 = .ok (.getfield 134, 3) := qr_o180 0 134 hN_cX9_matchOf hn_cX9_matchOf rfl rfl rfl rfl
theorem dX9_matchOf_14 : decode cX9_matchOf 14 = .ok (.iload_n 3, 1) := qr_o29 hN_cX9_matchOf hn_cX9_matchOf rfl rfl
theorem dX9_matchOf_15 : decode cX9_matchOf 15 = .ok (.aload_n 0, 1) := qr_o42 hN_cX9_matchOf hn_cX9_matchOf rfl rfl
theorem dX9_matchOf_16 : decode cX9_matchOf 16 = .ok (.getfield 104, 3) := qr_o180 0 104 hN_cX9_matchOf hn_cX9_matchOf rfl rfl rfl rfl
theorem dX9_matchOf_19 : decode cX9_matchOf 19 = .ok (.iload_n 3, 1) := qr_o29 hN_cX9_matchOf hn_cX9_matchOf rfl rfl
theorem dX9_matchOf_20 : decode cX9_matchOf 20 = .ok (.iaload, 1) := qr_o46 hN_cX9_matchOf hn_cX9_matchOf rfl rfl
theorem dX9_matchOf_21 : decode cX9_matchOf 21 = .ok (.iastore, 1) := qr_o79 hN_cX9_matchOf hn_cX9_matchOf rfl rfl
theorem dX9_matchOf_22 : decode cX9_matchOf 22 = .ok (.iinc 3 1, 3) := qr_o132 3 1 rfl hN_cX9_matchOf hn_cX9_matchOf rfl rfl rfl rfl
theorem dX9_matchOf_25 : decode cX9_matchOf 25 = .ok (.goto (-23), 3) := qr_w167 255 233 23 rfl rfl hN_cX9_matchOf hn_cX9_matchOf rfl rfl rfl rfl
theorem dX9_matchOf_28 : decode cX9_matchOf 28 = .ok (.iconst 0, 1) := qr_o3 hN_cX9_matchOf hn_cX9_matchOf rfl rfl
theorem dX9_matchOf_29 : decode cX9_matchOf 29 = .ok (.istore_n 3, 1) := qr_o62 hN_cX9_matchOf hn_cX9_matchOf rfl rfl
theorem dX9_matchOf_30 : decode cX9_matchOf 30 = .ok (.iconst 0, 1) := qr_o3 hN_cX9_matchOf hn_cX9_matchOf rfl rfl
theorem dX9_matchOf_31 : decode cX9_matchOf 31 = .ok (.istore 4, 2) := qr_o54 4 hN_cX9_matchOf hn_cX9_matchOf rfl rfl rfl
theorem dX9_matchOf_33 : decode cX9_matchOf 33 = .ok (.iload 4, 2) := qr_o21 4 hN_cX9_matchOf hn_cX9_matchOf rfl rfl rfl
theorem dX9_matchOf_35 : decode cX9_matchOf 35 = .ok (.aload_n 0, 1) := qr_o42 hN_cX9_matchOf hn_cX9_matchOf rfl rfl
theorem dX9_matchOf_36 : decode cX9_matchOf 36 = .ok (.getfield 257, 3) := qr_o180 1 1 hN_cX9_matchOf hn_cX9_matchOf rfl rfl rfl rfl
theorem dX9_matchOf_39 : decode cX9_matchOf 39 = .ok (.if_icmp .ge 101, 3) := qr_o162 0 101 rfl hN_cX9_matchOf hn_cX9_matchOf rfl rfl rfl rfl
theorem dX9_matchOf_42 : decode cX9_matchOf 42 = .ok (.aload_n 0, 1) := qr_o42 hN_cX9_matchOf hn_cX9_matchOf rfl rfl
theorem dX9_matchOf_43 : decode cX9_matchOf 43 = .ok (.getfield 98, 3) := qr_o180 0 98 hN_cX9_matchOf hn_cX9_matchOf rfl rfl rfl rfl
theorem dX9_matchOf_46 : decode cX9_matchOf 46 = .ok (.iload 4, 2) := qr_o21 4 hN_cX9_matchOf hn_cX9_matchOf rfl rfl rfl
theorem dX9_matchOf_48 : decode cX9_matchOf 48 = .ok (.iaload, 1) := qr_o46 hN_cX9_matchOf hn_cX9_matchOf rfl rfl
theorem dX9_matchOf_49 : decode cX9_matchOf 49 = .ok (.iload_n 1, 1) := qr_o27 hN_cX9_matchOf hn_cX9_matchOf rfl rfl
theorem dX9_matchOf_50 : decode cX9_matchOf 50 = .ok (.if_icmp .ne 84, 3) := qr_o160 0 84 rfl hN_cX9_matchOf hn_cX9_matchOf rfl rfl rfl rfl
theorem dX9_matchOf_53 : decode cX9_matchOf 53 = .ok (.aload_n 0, 1) := qr_o42 hN_cX9_matchOf hn_cX9_matchOf rfl rfl
theorem dX9_matchOf_54 : decode cX9_matchOf 54 = .ok (.getfield 101, 3) := qr_o180 0 101 hN_cX9_matchOf hn_cX9_matchOf rfl rfl rfl rfl
theorem dX9_matchOf_57 : decode cX9_matchOf 57 = .ok (.iload 4, 2) := qr_o21 4 hN_cX9_matchOf hn_cX9_matchOf rfl rfl rfl
theorem dX9_matchOf_59 : decode cX9_matchOf 59 = .ok (.iaload, 1) := qr_o46 hN_cX9_matchOf hn_cX9_matchOf rfl rfl
theorem dX9_matchOf_60 : decode cX9_matchOf 60 = .ok (.ifCond .ge 74, 3) := qr_o156 0 74 rfl hN_cX9_matchOf hn_cX9_matchOf rfl rfl rfl rfl
theorem dX9_matchOf_63 : decode cX9_matchOf 63 = .ok (.aload_n 0, 1) := qr_o42 hN_cX9_matchOf hn_cX9_matchOf rfl rfl
theorem dX9_matchOf_64 : decode cX9_matchOf 64 = .ok (.getfield 104, 3) := qr_o180 0 104 hN_cX9_matchOf hn_cX9_matchOf rfl rfl rfl rfl
theorem dX9_matchOf_67 : decode cX9_matchOf 67 = .ok (.iload 4, 2) := qr_o21 4 hN_cX9_matchOf hn_cX9_matchOf rfl rfl rfl
theorem dX9_matchOf_69 : decode cX9_matchOf 69 = .ok (.iaload, 1) := qr_o46 hN_cX9_matchOf hn_cX9_matchOf rfl rfl
theorem dX9_matchOf_70 : decode cX9_matchOf 70 = .ok (.ifCond .ge 30, 3) := qr_o156 0 30 rfl hN_cX9_matchOf hn_cX9_matchOf rfl rfl rfl rfl
theorem dX9_matchOf_73 : decode cX9_matchOf 73 = .ok (.aload_n 0, 1) := qr_o42 hN_cX9_matchOf hn_cX9_matchOf rfl rfl
theorem dX9_matchOf_74 : decode cX9_matchOf 74 = .ok (.iload 4, 2) := qr_o21 4 hN_cX9_matchOf hn_cX9_matchOf rfl rfl rfl
theorem dX9_matchOf_76 : decode cX9_matchOf 76 = .ok (.iload_n 2, 1) := qr_o28 hN_cX9_matchOf hn_cX9_matchOf rfl rfl
theorem dX9_matchOf_77 : decode cX9_matchOf 77 = .ok (.invokevirtual 297, 3) := qr_o182 1 41 hN_cX9_matchOf hn_cX9_matchOf rfl rfl rfl rfl
theorem dX9_matchOf_80 : decode cX9_matchOf 80 = .ok (.istore 5, 2) := qr_o54 5 hN_cX9_matchOf hn_cX9_matchOf rfl rfl rfl
theorem dX9_matchOf_82 : decode cX9_matchOf 82 = .ok (.aload_n 0, 1) := qr_o42 hN_cX9_matchOf hn_cX9_matchOf rfl rfl
theorem dX9_matchOf_83 : decode cX9_matchOf 83 = .ok (.getfield 104, 3) := qr_o180 0 104 hN_cX9_matchOf hn_cX9_matchOf rfl rfl rfl rfl
theorem dX9_matchOf_86 : decode cX9_matchOf 86 = .ok (.iload 4, 2) := qr_o21 4 hN_cX9_matchOf hn_cX9_matchOf rfl rfl rfl
theorem dX9_matchOf_88 : decode cX9_matchOf 88 = .ok (.iload 5, 2) := qr_o21 5 hN_cX9_matchOf hn_cX9_matchOf rfl rfl rfl
theorem dX9_matchOf_90 : decode cX9_matchOf 90 = .ok (.ifCond .ge 7, 3) := qr_o156 0 7 rfl hN_cX9_matchOf hn_cX9_matchOf rfl rfl rfl rfl
theorem dX9_matchOf_93 : decode cX9_matchOf 93 = .ok (.iconst (-1), 1) := qr_o2 hN_cX9_matchOf hn_cX9_matchOf rfl rfl
theorem dX9_matchOf_94 : decode cX9_matchOf 94 = .ok (.goto 5, 3) := qr_o167 0 5 rfl hN_cX9_matchOf hn_cX9_matchOf rfl rfl rfl rfl
theorem dX9_matchOf_97 : decode cX9_matchOf 97 = .ok (.iload 5, 2) := qr_o21 5 hN_cX9_matchOf hn_cX9_matchOf rfl rfl rfl
theorem dX9_matchOf_99 : decode cX9_matchOf 99 = .ok (.iastore, 1) := qr_o79 hN_cX9_matchOf hn_cX9_matchOf rfl rfl
theorem dX9_matchOf_100 : decode cX9_matchOf 100 = .ok (.iload_n 3, 1) := qr_o29 hN_cX9_matchOf hn_cX9_matchOf rfl rfl
theorem dX9_matchOf_101 : decode cX9_matchOf 101 = .ok (.aload_n 0, 1) := qr_o42 hN_cX9_matchOf hn_cX9_matchOf rfl rfl
theorem dX9_matchOf_102 : decode cX9_matchOf 102 = .ok (.getfield 104, 3) := qr_o180 0 104 hN_cX9_matchOf hn_cX9_matchOf rfl rfl rfl rfl
theorem dX9_matchOf_105 : decode cX9_matchOf 105 = .ok (.iload 4, 2) := qr_o21 4 hN_cX9_matchOf hn_cX9_matchOf rfl rfl rfl
theorem dX9_matchOf_107 : decode cX9_matchOf 107 = .ok (.iaload, 1) := qr_o46 hN_cX9_matchOf hn_cX9_matchOf rfl rfl
theorem dX9_matchOf_108 : decode cX9_matchOf 108 = .ok (.ifCond .lt 23, 3) := qr_o155 0 23 rfl hN_cX9_matchOf hn_cX9_matchOf rfl rfl rfl rfl
theorem dX9_matchOf_111 : decode cX9_matchOf 111 = .ok (.aload_n 0, 1) := qr_o42 hN_cX9_matchOf hn_cX9_matchOf rfl rfl
theorem dX9_matchOf_112 : decode cX9_matchOf 112 = .ok (.getfield 37, 3) := qr_o180 0 37 hN_cX9_matchOf hn_cX9_matchOf rfl rfl rfl rfl
theorem dX9_matchOf_115 : decode cX9_matchOf 115 = .ok (.aload_n 0, 1) := qr_o42 hN_cX9_matchOf hn_cX9_matchOf rfl rfl
theorem dX9_matchOf_116 : decode cX9_matchOf 116 = .ok (.getfield 104, 3) := qr_o180 0 104 hN_cX9_matchOf hn_cX9_matchOf rfl rfl rfl rfl
theorem dX9_matchOf_119 : decode cX9_matchOf 119 = .ok (.iload 4, 2) := qr_o21 4 hN_cX9_matchOf hn_cX9_matchOf rfl rfl rfl
theorem dX9_matchOf_121 : decode cX9_matchOf 121 = .ok (.iaload, 1) := qr_o46 hN_cX9_matchOf hn_cX9_matchOf rfl rfl
theorem dX9_matchOf_122 : decode cX9_matchOf 122 = .ok (.iaload, 1) := qr_o46 hN_cX9_matchOf hn_cX9_matchOf rfl rfl
theorem dX9_matchOf_123 : decode cX9_matchOf 123 = .ok (.iload_n 2, 1) := qr_o28 hN_cX9_matchOf hn_cX9_matchOf rfl rfl
theorem dX9_matchOf_124 : decode cX9_matchOf 124 = .ok (.if_icmp .ne 7, 3) := qr_o160 0 7 rfl hN_cX9_matchOf hn_cX9_matchOf rfl rfl rfl rfl
theorem dX9_matchOf_127 : decode cX9_matchOf 127 = .ok (.iconst 1, 1) := qr_o4 hN_cX9_matchOf hn_cX9_matchOf rfl rfl
theorem dX9_matchOf_128 : decode cX9_matchOf 128 = .ok (.goto 4, 3) := qr_o167 0 4 rfl hN_cX9_matchOf hn_cX9_matchOf rfl rfl rfl rfl
theorem dX9_matchOf_131 : decode cX9_matchOf 131 = .ok (.iconst 0, 1) := qr_o3 hN_cX9_matchOf hn_cX9_matchOf rfl rfl
theorem dX9_matchOf_132 : decode cX9_matchOf 132 = .ok (.iadd, 1) := qr_o96 hN_cX9_matchOf hn_cX9_matchOf rfl rfl
theorem dX9_matchOf_133 : decode cX9_matchOf 133 = .ok (.istore_n 3, 1) := qr_o62 hN_cX9_matchOf hn_cX9_matchOf rfl rfl
theorem dX9_matchOf_134 : decode cX9_matchOf 134 = .ok (.iinc 4 1, 3) := qr_o132 4 1 rfl hN_cX9_matchOf hn_cX9_matchOf rfl rfl rfl rfl
theorem dX9_matchOf_137 : decode cX9_matchOf 137 = .ok (.goto (-104), 3) := qr_w167 255 152 104 rfl rfl hN_cX9_matchOf hn_cX9_matchOf rfl rfl rfl rfl
theorem dX9_matchOf_140 : decode cX9_matchOf 140 = .ok (.iconst 0, 1) := qr_o3 hN_cX9_matchOf hn_cX9_matchOf rfl rfl
theorem dX9_matchOf_141 : decode cX9_matchOf 141 = .ok (.istore 4, 2) := qr_o54 4 hN_cX9_matchOf hn_cX9_matchOf rfl rfl rfl
theorem dX9_matchOf_143 : decode cX9_matchOf 143 = .ok (.iload 4, 2) := qr_o21 4 hN_cX9_matchOf hn_cX9_matchOf rfl rfl rfl
theorem dX9_matchOf_145 : decode cX9_matchOf 145 = .ok (.aload_n 0, 1) := qr_o42 hN_cX9_matchOf hn_cX9_matchOf rfl rfl
theorem dX9_matchOf_146 : decode cX9_matchOf 146 = .ok (.getfield 257, 3) := qr_o180 1 1 hN_cX9_matchOf hn_cX9_matchOf rfl rfl rfl rfl
theorem dX9_matchOf_149 : decode cX9_matchOf 149 = .ok (.if_icmp .ge 23, 3) := qr_o162 0 23 rfl hN_cX9_matchOf hn_cX9_matchOf rfl rfl rfl rfl
theorem dX9_matchOf_152 : decode cX9_matchOf 152 = .ok (.aload_n 0, 1) := qr_o42 hN_cX9_matchOf hn_cX9_matchOf rfl rfl
theorem dX9_matchOf_153 : decode cX9_matchOf 153 = .ok (.getfield 104, 3) := qr_o180 0 104 hN_cX9_matchOf hn_cX9_matchOf rfl rfl rfl rfl
theorem dX9_matchOf_156 : decode cX9_matchOf 156 = .ok (.iload 4, 2) := qr_o21 4 hN_cX9_matchOf hn_cX9_matchOf rfl rfl rfl
theorem dX9_matchOf_158 : decode cX9_matchOf 158 = .ok (.aload_n 0, 1) := qr_o42 hN_cX9_matchOf hn_cX9_matchOf rfl rfl
theorem dX9_matchOf_159 : decode cX9_matchOf 159 = .ok (.getfield 134, 3) := qr_o180 0 134 hN_cX9_matchOf hn_cX9_matchOf rfl rfl rfl rfl
theorem dX9_matchOf_162 : decode cX9_matchOf 162 = .ok (.iload 4, 2) := qr_o21 4 hN_cX9_matchOf hn_cX9_matchOf rfl rfl rfl
theorem dX9_matchOf_164 : decode cX9_matchOf 164 = .ok (.iaload, 1) := qr_o46 hN_cX9_matchOf hn_cX9_matchOf rfl rfl
theorem dX9_matchOf_165 : decode cX9_matchOf 165 = .ok (.iastore, 1) := qr_o79 hN_cX9_matchOf hn_cX9_matchOf rfl rfl
theorem dX9_matchOf_166 : decode cX9_matchOf 166 = .ok (.iinc 4 1, 3) := qr_o132 4 1 rfl hN_cX9_matchOf hn_cX9_matchOf rfl rfl rfl rfl
theorem dX9_matchOf_169 : decode cX9_matchOf 169 = .ok (.goto (-26), 3) := qr_w167 255 230 26 rfl rfl hN_cX9_matchOf hn_cX9_matchOf rfl rfl rfl rfl
theorem dX9_matchOf_172 : decode cX9_matchOf 172 = .ok (.iload_n 3, 1) := qr_o29 hN_cX9_matchOf hn_cX9_matchOf rfl rfl
theorem dX9_matchOf_173 : decode cX9_matchOf 173 = .ok (.ireturn, 1) := qr_o172 hN_cX9_matchOf hn_cX9_matchOf rfl rfl
def nN_cX9_match : Nat := 0xac1d0400a705150800a0041c0e00a7041508009a1cdeffa701068404360615053607150b00a40515071507364101b606151b2a2100a20a100615063603053602043603eb00b62aacfc1006009a1dd7ffa70104843e60030400a70407009c2e04156500b42a1100a01b2e04156200b42a1d2600a20101b42a04150436033e03ac0205009a9400b8f1001409851c0f00999400b8ff001409851b
theorem hN_cX9_match : qr_n cX9_match.data.toList = nN_cX9_match := by decide +kernel
theorem hn_cX9_match : cX9_match.size = 153 := by decide +kernel
theorem dX9_match_0 : decode cX9_match 0 = .ok (.iload_n 1, 1) := qr_o27 hN_cX9_match hn_cX9_match rfl rfl
theorem dX9_match_1 : decode cX9_match 1 = .ok (.i2l, 1) := qr_o133 hN_cX9_match hn_cX9_match rfl rfl
theorem dX9_match_2 : decode cX9_match 2 = .ok (.lconst 0, 1) := qr_o9 hN_cX9_match hn_cX9_match rfl rfl
theorem dX9_match_3 : decode cX9_match 3 = .ok (.ldc2_w 255, 3) := qr_o20 0 255 hN_cX9_match hn_cX9_match rfl rfl rfl rfl
theorem dX9_match_6 : decode cX9_match 6 = .ok (.invokestatic 148, 3) := qr_o184 0 148 hN_cX9_match hn_cX9_match rfl rfl rfl rfl
theorem dX9_match_9 : decode cX9_match 9 = .ok (.ifCond .eq 15, 3) := qr_o153 0 15 rfl hN_cX9_match hn_cX9_match rfl rfl rfl rfl
theorem dX9_match_12 : decode cX9_match 12 = .ok (.iload_n 2, 1) := qr_o28 hN_cX9_match hn_cX9_match rfl rfl
theorem dX9_match_13 : decode cX9_match 13 = .ok (.i2l, 1) := qr_o133 hN_cX9_match hn_cX9_match rfl rfl
theorem dX9_match_14 : decode cX9_match 14 = .ok (.lconst 0, 1) := qr_o9 hN_cX9_match hn_cX9_match rfl rfl
theorem dX9_match_15 : decode cX9_match 15 = .ok (.ldc2_w 241, 3) := qr_o20 0 241 hN_cX9_match hn_cX9_match rfl rfl rfl rfl
theorem dX9_match_18 : decode cX9_match 18 = .ok (.invokestatic 148, 3) := qr_o184 0 148 hN_cX9_match hn_cX9_match rfl rfl rfl rfl
theorem dX9_match_21 : decode cX9_match 21 = .ok (.ifCond .ne 5, 3) := qr_o154 0 5 rfl hN_cX9_match hn_cX9_match rfl rfl rfl rfl
theorem dX9_match_24 : decode cX9_match 24 = .ok (.iconst (-1), 1) := qr_o2 hN_cX9_match hn_cX9_match rfl rfl
theorem dX9_match_25 : decode cX9_match 25 = .ok (.ireturn, 1) := qr_o172 hN_cX9_match hn_cX9_match rfl rfl
theorem dX9_match_26 : decode cX9_match 26 = .ok (.iconst 0, 1) := qr_o3 hN_cX9_match hn_cX9_match rfl rfl
theorem dX9_match_27 : decode cX9_match 27 = .ok (.istore_n 3, 1) := qr_o62 hN_cX9_match hn_cX9_match rfl rfl
theorem dX9_match_28 : decode cX9_match 28 = .ok (.iconst 0, 1) := qr_o3 hN_cX9_match hn_cX9_match rfl rfl
theorem dX9_match_29 : decode cX9_match 29 = .ok (.istore 4, 2) := qr_o54 4 hN_cX9_match hn_cX9_match rfl rfl rfl
theorem dX9_match_31 : decode cX9_match 31 = .ok (.iload 4, 2) := qr_o21 4 hN_cX9_match hn_cX9_match rfl rfl rfl
theorem dX9_match_33 : decode cX9_match 33 = .ok (.aload_n 0, 1) := qr_o42 hN_cX9_match hn_cX9_match rfl rfl
theorem dX9_match_34 : decode cX9_match 34 = .ok (.getfield 257, 3) := qr_o180 1 1 hN_cX9_match hn_cX9_match rfl rfl rfl rfl
theorem dX9_match_37 : decode cX9_match 37 = .ok (.if_icmp .ge 38, 3) := qr_o162 0 38 rfl hN_cX9_match hn_cX9_match rfl rfl rfl rfl
theorem dX9_match_40 : decode cX9_match 40 = .ok (.iload_n 3, 1) := qr_o29 hN_cX9_match hn_cX9_match rfl rfl
theorem dX9_match_41 : decode cX9_match 41 = .ok (.aload_n 0, 1) := qr_o42 hN_cX9_match hn_cX9_match rfl rfl
theorem dX9_match_42 : decode cX9_match 42 = .ok (.getfield 98, 3) := qr_o180 0 98 hN_cX9_match hn_cX9_match rfl rfl rfl rfl
theorem dX9_match_45 : decode cX9_match 45 = .ok (.iload 4, 2) := qr_o21 4 hN_cX9_match hn_cX9_match rfl rfl rfl
theorem dX9_match_47 : decode cX9_match 47 = .ok (.iaload, 1) := qr_o46 hN_cX9_match hn_cX9_match rfl rfl
theorem dX9_match_48 : decode cX9_match 48 = .ok (.iload_n 1, 1) := qr_o27 hN_cX9_match hn_cX9_match rfl rfl
theorem dX9_match_49 : decode cX9_match 49 = .ok (.if_icmp .ne 17, 3) := qr_o160 0 17 rfl hN_cX9_match hn_cX9_match rfl rfl rfl rfl
theorem dX9_match_52 : decode cX9_match 52 = .ok (.aload_n 0, 1) := qr_o42 hN_cX9_match hn_cX9_match rfl rfl
theorem dX9_match_53 : decode cX9_match 53 = .ok (.getfield 101, 3) := qr_o180 0 101 hN_cX9_match hn_cX9_match rfl rfl rfl rfl
theorem dX9_match_56 : decode cX9_match 56 = .ok (.iload 4, 2) := qr_o21 4 hN_cX9_match hn_cX9_match rfl rfl rfl
theorem dX9_match_58 : decode cX9_match 58 = .ok (.iaload, 1) := qr_o46 hN_cX9_match hn_cX9_match rfl rfl
theorem dX9_match_59 : decode cX9_match 59 = .ok (.ifCond .ge 7, 3) := qr_o156 0 7 rfl hN_cX9_match hn_cX9_match rfl rfl rfl rfl
theorem dX9_match_62 : decode cX9_match 62 = .ok (.iconst 1, 1) := qr_o4 hN_cX9_match hn_cX9_match rfl rfl
theorem dX9_match_63 : decode cX9_match 63 = .ok (.goto 4, 3) := qr_o167 0 4 rfl hN_cX9_match hn_cX9_match rfl rfl rfl rfl
theorem dX9_match_66 : decode cX9_match 66 = .ok (.iconst 0, 1) := qr_o3 hN_cX9_match hn_cX9_match rfl rfl
theorem dX9_match_67 : decode cX9_match 67 = .ok (.iadd, 1) := qr_o96 hN_cX9_match hn_cX9_match rfl rfl
theorem dX9_match_68 : decode cX9_match 68 = .ok (.istore_n 3, 1) := qr_o62 hN_cX9_match hn_cX9_match rfl rfl
theorem dX9_match_69 : decode cX9_match 69 = .ok (.iinc 4 1, 3) := qr_o132 4 1 rfl hN_cX9_match hn_cX9_match rfl rfl rfl rfl
theorem dX9_match_72 : decode cX9_match 72 = .ok (.goto (-41), 3) := qr_w167 255 215 41 rfl rfl hN_cX9_match hn_cX9_match rfl rfl rfl rfl
theorem dX9_match_75 : decode cX9_match 75 = .ok (.iload_n 3, 1) := qr_o29 hN_cX9_match hn_cX9_match rfl rfl
theorem dX9_match_76 : decode cX9_match 76 = .ok (.ifCond .ne 6, 3) := qr_o154 0 6 rfl hN_cX9_match hn_cX9_match rfl rfl rfl rfl
theorem dX9_match_79 : decode cX9_match 79 = .ok (.bipush (-4), 2) := qr_w16 252 4 rfl rfl hN_cX9_match hn_cX9_match rfl rfl rfl
theorem dX9_match_81 : decode cX9_match 81 = .ok (.ireturn, 1) := qr_o172 hN_cX9_match hn_cX9_match rfl rfl
theorem dX9_match_82 : decode cX9_match 82 = .ok (.aload_n 0, 1) := qr_o42 hN_cX9_match hn_cX9_match rfl rfl
theorem dX9_match_83 : decode cX9_match 83 = .ok (.invokevirtual 235, 3) := qr_o182 0 235 hN_cX9_match hn_cX9_match rfl rfl rfl rfl
theorem dX9_match_86 : decode cX9_match 86 = .ok (.iconst 0, 1) := qr_o3 hN_cX9_match hn_cX9_match rfl rfl
theorem dX9_match_87 : decode cX9_match 87 = .ok (.istore 4, 2) := qr_o54 4 hN_cX9_match hn_cX9_match rfl rfl rfl
theorem dX9_match_89 : decode cX9_match 89 = .ok (.iconst (-1), 1) := qr_o2 hN_cX9_match hn_cX9_match rfl rfl
theorem dX9_match_90 : decode cX9_match 90 = .ok (.istore 5, 2) := qr_o54 5 hN_cX9_match hn_cX9_match rfl rfl rfl
theorem dX9_match_92 : decode cX9_match 92 = .ok (.iconst 0, 1) := qr_o3 hN_cX9_match hn_cX9_match rfl rfl
theorem dX9_match_93 : decode cX9_match 93 = .ok (.istore 6, 2) := qr_o54 6 hN_cX9_match hn_cX9_match rfl rfl rfl
theorem dX9_match_95 : decode cX9_match 95 = .ok (.iload 6, 2) := qr_o21 6 hN_cX9_match hn_cX9_match rfl rfl rfl
theorem dX9_match_97 : decode cX9_match 97 = .ok (.bipush 10, 2) := qr_o16 10 rfl hN_cX9_match hn_cX9_match rfl rfl rfl
theorem dX9_match_99 : decode cX9_match 99 = .ok (.if_icmp .ge 33, 3) := qr_o162 0 33 rfl hN_cX9_match hn_cX9_match rfl rfl rfl rfl
theorem dX9_match_102 : decode cX9_match 102 = .ok (.aload_n 0, 1) := qr_o42 hN_cX9_match hn_cX9_match rfl rfl
theorem dX9_match_103 : decode cX9_match 103 = .ok (.iload_n 1, 1) := qr_o27 hN_cX9_match hn_cX9_match rfl rfl
theorem dX9_match_104 : decode cX9_match 104 = .ok (.iload 6, 2) := qr_o21 6 hN_cX9_match hn_cX9_match rfl rfl rfl
theorem dX9_match_106 : decode cX9_match 106 = .ok (.invokevirtual 321, 3) := qr_o182 1 65 hN_cX9_match hn_cX9_match rfl rfl rfl rfl
theorem dX9_match_109 : decode cX9_match 109 = .ok (.istore 7, 2) := qr_o54 7 hN_cX9_match hn_cX9_match rfl rfl rfl
theorem dX9_match_111 : decode cX9_match 111 = .ok (.iload 7, 2) := qr_o21 7 hN_cX9_match hn_cX9_match rfl rfl rfl
theorem dX9_match_113 : decode cX9_match 113 = .ok (.iload 5, 2) := qr_o21 5 hN_cX9_match hn_cX9_match rfl rfl rfl
theorem dX9_match_115 : decode cX9_match 115 = .ok (.if_icmp .le 11, 3) := qr_o164 0 11 rfl hN_cX9_match hn_cX9_match rfl rfl rfl rfl
theorem dX9_match_118 : decode cX9_match 118 = .ok (.iload 7, 2) := qr_o21 7 hN_cX9_match hn_cX9_match rfl rfl rfl
theorem dX9_match_120 : decode cX9_match 120 = .ok (.istore 5, 2) := qr_o54 5 hN_cX9_match hn_cX9_match rfl rfl rfl
theorem dX9_match_122 : decode cX9_match 122 = .ok (.iload 6, 2) := qr_o21 6 hN_cX9_match hn_cX9_match rfl rfl rfl
theorem dX9_match_124 : decode cX9_match 124 = .ok (.istore 4, 2) := qr_o54 4 hN_cX9_match hn_cX9_match rfl rfl rfl
theorem dX9_match_126 : decode cX9_match 126 = .ok (.iinc 6 1, 3) := qr_o132 6 1 rfl hN_cX9_match hn_cX9_match rfl rfl rfl rfl
theorem dX9_match_129 : decode cX9_match 129 = .ok (.goto (-34), 3) := qr_w167 255 222 34 rfl rfl hN_cX9_match hn_cX9_match rfl rfl rfl rfl
theorem dX9_match_132 : decode cX9_match 132 = .ok (.iload_n 2, 1) := qr_o28 hN_cX9_match hn_cX9_match rfl rfl
theorem dX9_match_133 : decode cX9_match 133 = .ok (.ifCond .ne 8, 3) := qr_o154 0 8 rfl hN_cX9_match hn_cX9_match rfl rfl rfl rfl
theorem dX9_match_136 : decode cX9_match 136 = .ok (.iload 4, 2) := qr_o21 4 hN_cX9_match hn_cX9_match rfl rfl rfl
theorem dX9_match_138 : decode cX9_match 138 = .ok (.goto 14, 3) := qr_o167 0 14 rfl hN_cX9_match hn_cX9_match rfl rfl rfl rfl
theorem dX9_match_141 : decode cX9_match 141 = .ok (.iload_n 2, 1) := qr_o28 hN_cX9_match hn_cX9_match rfl rfl
theorem dX9_match_142 : decode cX9_match 142 = .ok (.iconst 1, 1) := qr_o4 hN_cX9_match hn_cX9_match rfl rfl
theorem dX9_match_143 : decode cX9_match 143 = .ok (.if_icmp .ne 8, 3) := qr_o160 0 8 rfl hN_cX9_match hn_cX9_match rfl rfl rfl rfl
theorem dX9_match_146 : decode cX9_match 146 = .ok (.iload 5, 2) := qr_o21 5 hN_cX9_match hn_cX9_match rfl rfl rfl
theorem dX9_match_148 : decode cX9_match 148 = .ok (.goto 4, 3) := qr_o167 0 4 rfl hN_cX9_match hn_cX9_match rfl rfl rfl rfl
theorem dX9_match_151 : decode cX9_match 151 = .ok (.iload_n 3, 1) := qr_o29 hN_cX9_match hn_cX9_match rfl rfl
theorem dX9_match_152 : decode cX9_match 152 = .ok (.ireturn, 1) := qr_o172 hN_cX9_match hn_cX9_match rfl rfl
def nN_cX9_asOf : Nat := 0xac0515a7ffa7010684053660030400a7040700999400b8850415851d852e06155900b42a1600991c1e0099071505150736030400a7040700a41b2e06156500b42a0e009b2e06156500b42a1c00a31b2e06155f00b42a5600a20101b42a0615063603053603ac0205009a9400b80a09851c0d00999400b8fb001409851b
theorem hN_cX9_asOf : qr_n cX9_asOf.data.toList = nN_cX9_asOf := by decide +kernel
theorem hn_cX9_asOf : cX9_asOf.size = 125 := by decide +kernel
theorem dX9_asOf_0 : decode cX9_asOf 0 = .ok (.iload_n 1, 1) := qr_o27 hN_cX9_asOf hn_cX9_asOf rfl rfl
theorem dX9_asOf_1 : decode cX9_asOf 1 = .ok (.i2l, 1) := qr_o133 hN_cX9_asOf hn_cX9_asOf rfl rfl
theorem dX9_asOf_2 : decode cX9_asOf 2 = .ok (.lconst 0, 1) := qr_o9 hN_cX9_asOf hn_cX9_asOf rfl rfl
theorem dX9_asOf_3 : decode cX9_asOf 3 = .ok (.ldc2_w 251, 3) := qr_o20 0 251 hN_cX9_asOf hn_cX9_asOf rfl rfl rfl rfl
theorem dX9_asOf_6 : decode cX9_asOf 6 = .ok (.invokestatic 148, 3) := qr_o184 0 148 hN_cX9_asOf hn_cX9_asOf rfl rfl rfl rfl
theorem dX9_asOf_9 : decode cX9_asOf 9 = .ok (.ifCond .eq 13, 3) := qr_o153 0 13 rfl hN_cX9_asOf hn_cX9_asOf rfl rfl rfl rfl
theorem dX9_asOf_12 : decode cX9_asOf 12 = .ok (.iload_n 2, 1) := qr_o28 hN_cX9_asOf hn_cX9_asOf rfl rfl
theorem dX9_asOf_13 : decode cX9_asOf 13 = .ok (.i2l, 1) := qr_o133 hN_cX9_asOf hn_cX9_asOf rfl rfl
theorem dX9_asOf_14 : decode cX9_asOf 14 = .ok (.lconst 0, 1) := qr_o9 hN_cX9_asOf hn_cX9_asOf rfl rfl
theorem dX9_asOf_15 : decode cX9_asOf 15 = .ok (.lconst 1, 1) := qr_o10 hN_cX9_asOf hn_cX9_asOf rfl rfl
theorem dX9_asOf_16 : decode cX9_asOf 16 = .ok (.invokestatic 148, 3) := qr_o184 0 148 hN_cX9_asOf hn_cX9_asOf rfl rfl rfl rfl
theorem dX9_asOf_19 : decode cX9_asOf 19 = .ok (.ifCond .ne 5, 3) := qr_o154 0 5 rfl hN_cX9_asOf hn_cX9_asOf rfl rfl rfl rfl
theorem dX9_asOf_22 : decode cX9_asOf 22 = .ok (.iconst (-1), 1) := qr_o2 hN_cX9_asOf hn_cX9_asOf rfl rfl
theorem dX9_asOf_23 : decode cX9_asOf 23 = .ok (.ireturn, 1) := qr_o172 hN_cX9_asOf hn_cX9_asOf rfl rfl
theorem dX9_asOf_24 : decode cX9_asOf 24 = .ok (.iconst 0, 1) := qr_o3 hN_cX9_asOf hn_cX9_asOf rfl rfl
theorem dX9_asOf_25 : decode cX9_asOf 25 = .ok (.istore 5, 2) := qr_o54 5 hN_cX9_asOf hn_cX9_asOf rfl rfl rfl
theorem dX9_asOf_27 : decode cX9_asOf 27 = .ok (.iconst 0, 1) := qr_o3 hN_cX9_asOf hn_cX9_asOf rfl rfl
theorem dX9_asOf_28 : decode cX9_asOf 28 = .ok (.istore 6, 2) := qr_o54 6 hN_cX9_asOf hn_cX9_asOf rfl rfl rfl
theorem dX9_asOf_30 : decode cX9_asOf 30 = .ok (.iload 6, 2) := qr_o21 6 hN_cX9_asOf hn_cX9_asOf rfl rfl rfl
theorem dX9_asOf_32 : decode cX9_asOf 32 = .ok (.aload_n 0, 1) := qr_o42 hN_cX9_asOf hn_cX9_asOf rfl rfl
theorem dX9_asOf_33 : decode cX9_asOf 33 = .ok (.getfield 257, 3) := qr_o180 1 1 hN_cX9_asOf hn_cX9_asOf rfl rfl rfl rfl
theorem dX9_asOf_36 : decode cX9_asOf 36 = .ok (.if_icmp .ge 86, 3) := qr_o162 0 86 rfl hN_cX9_asOf hn_cX9_asOf rfl rfl rfl rfl
theorem dX9_asOf_39 : decode cX9_asOf 39 = .ok (.aload_n 0, 1) := qr_o42 hN_cX9_asOf hn_cX9_asOf rfl rfl
theorem dX9_asOf_40 : decode cX9_asOf 40 = .ok (.getfield 95, 3) := qr_o180 0 95 hN_cX9_asOf hn_cX9_asOf rfl rfl rfl rfl
theorem dX9_asOf_43 : decode cX9_asOf 43 = .ok (.iload 6, 2) := qr_o21 6 hN_cX9_asOf hn_cX9_asOf rfl rfl rfl
theorem dX9_asOf_45 : decode cX9_asOf 45 = .ok (.iaload, 1) := qr_o46 hN_cX9_asOf hn_cX9_asOf rfl rfl
theorem dX9_asOf_46 : decode cX9_asOf 46 = .ok (.iload_n 1, 1) := qr_o27 hN_cX9_asOf hn_cX9_asOf rfl rfl
theorem dX9_asOf_47 : decode cX9_asOf 47 = .ok (.if_icmp .gt 28, 3) := qr_o163 0 28 rfl hN_cX9_asOf hn_cX9_asOf rfl rfl rfl rfl
theorem dX9_asOf_50 : decode cX9_asOf 50 = .ok (.aload_n 0, 1) := qr_o42 hN_cX9_asOf hn_cX9_asOf rfl rfl
theorem dX9_asOf_51 : decode cX9_asOf 51 = .ok (.getfield 101, 3) := qr_o180 0 101 hN_cX9_asOf hn_cX9_asOf rfl rfl rfl rfl
theorem dX9_asOf_54 : decode cX9_asOf 54 = .ok (.iload 6, 2) := qr_o21 6 hN_cX9_asOf hn_cX9_asOf rfl rfl rfl
theorem dX9_asOf_56 : decode cX9_asOf 56 = .ok (.iaload, 1) := qr_o46 hN_cX9_asOf hn_cX9_asOf rfl rfl
theorem dX9_asOf_57 : decode cX9_asOf 57 = .ok (.ifCond .lt 14, 3) := qr_o155 0 14 rfl hN_cX9_asOf hn_cX9_asOf rfl rfl rfl rfl
theorem dX9_asOf_60 : decode cX9_asOf 60 = .ok (.aload_n 0, 1) := qr_o42 hN_cX9_asOf hn_cX9_asOf rfl rfl
theorem dX9_asOf_61 : decode cX9_asOf 61 = .ok (.getfield 101, 3) := qr_o180 0 101 hN_cX9_asOf hn_cX9_asOf rfl rfl rfl rfl
theorem dX9_asOf_64 : decode cX9_asOf 64 = .ok (.iload 6, 2) := qr_o21 6 hN_cX9_asOf hn_cX9_asOf rfl rfl rfl
theorem dX9_asOf_66 : decode cX9_asOf 66 = .ok (.iaload, 1) := qr_o46 hN_cX9_asOf hn_cX9_asOf rfl rfl
theorem dX9_asOf_67 : decode cX9_asOf 67 = .ok (.iload_n 1, 1) := qr_o27 hN_cX9_asOf hn_cX9_asOf rfl rfl
theorem dX9_asOf_68 : decode cX9_asOf 68 = .ok (.if_icmp .le 7, 3) := qr_o164 0 7 rfl hN_cX9_asOf hn_cX9_asOf rfl rfl rfl rfl
theorem dX9_asOf_71 : decode cX9_asOf 71 = .ok (.iconst 1, 1) := qr_o4 hN_cX9_asOf hn_cX9_asOf rfl rfl
theorem dX9_asOf_72 : decode cX9_asOf 72 = .ok (.goto 4, 3) := qr_o167 0 4 rfl hN_cX9_asOf hn_cX9_asOf rfl rfl rfl rfl
theorem dX9_asOf_75 : decode cX9_asOf 75 = .ok (.iconst 0, 1) := qr_o3 hN_cX9_asOf hn_cX9_asOf rfl rfl
theorem dX9_asOf_76 : decode cX9_asOf 76 = .ok (.istore 7, 2) := qr_o54 7 hN_cX9_asOf hn_cX9_asOf rfl rfl rfl
theorem dX9_asOf_78 : decode cX9_asOf 78 = .ok (.iload 5, 2) := qr_o21 5 hN_cX9_asOf hn_cX9_asOf rfl rfl rfl
theorem dX9_asOf_80 : decode cX9_asOf 80 = .ok (.iload 7, 2) := qr_o21 7 hN_cX9_asOf hn_cX9_asOf rfl rfl rfl
theorem dX9_asOf_82 : decode cX9_asOf 82 = .ok (.ifCond .eq 30, 3) := qr_o153 0 30 rfl hN_cX9_asOf hn_cX9_asOf rfl rfl rfl rfl
theorem dX9_asOf_85 : decode cX9_asOf 85 = .ok (.iload_n 2, 1) := qr_o28 hN_cX9_asOf hn_cX9_asOf rfl rfl
theorem dX9_asOf_86 : decode cX9_asOf 86 = .ok (.ifCond .eq 22, 3) := qr_o153 0 22 rfl hN_cX9_asOf hn_cX9_asOf rfl rfl rfl rfl
theorem dX9_asOf_89 : decode cX9_asOf 89 = .ok (.aload_n 0, 1) := qr_o42 hN_cX9_asOf hn_cX9_asOf rfl rfl
theorem dX9_asOf_90 : decode cX9_asOf 90 = .ok (.getfield 89, 3) := qr_o180 0 89 hN_cX9_asOf hn_cX9_asOf rfl rfl rfl rfl
theorem dX9_asOf_93 : decode cX9_asOf 93 = .ok (.iload 6, 2) := qr_o21 6 hN_cX9_asOf hn_cX9_asOf rfl rfl rfl
theorem dX9_asOf_95 : decode cX9_asOf 95 = .ok (.iaload, 1) := qr_o46 hN_cX9_asOf hn_cX9_asOf rfl rfl
theorem dX9_asOf_96 : decode cX9_asOf 96 = .ok (.i2l, 1) := qr_o133 hN_cX9_asOf hn_cX9_asOf rfl rfl
theorem dX9_asOf_97 : decode cX9_asOf 97 = .ok (.iload_n 3, 1) := qr_o29 hN_cX9_asOf hn_cX9_asOf rfl rfl
theorem dX9_asOf_98 : decode cX9_asOf 98 = .ok (.i2l, 1) := qr_o133 hN_cX9_asOf hn_cX9_asOf rfl rfl
theorem dX9_asOf_99 : decode cX9_asOf 99 = .ok (.iload 4, 2) := qr_o21 4 hN_cX9_asOf hn_cX9_asOf rfl rfl rfl
theorem dX9_asOf_101 : decode cX9_asOf 101 = .ok (.i2l, 1) := qr_o133 hN_cX9_asOf hn_cX9_asOf rfl rfl
theorem dX9_asOf_102 : decode cX9_asOf 102 = .ok (.invokestatic 148, 3) := qr_o184 0 148 hN_cX9_asOf hn_cX9_asOf rfl rfl rfl rfl
theorem dX9_asOf_105 : decode cX9_asOf 105 = .ok (.ifCond .eq 7, 3) := qr_o153 0 7 rfl hN_cX9_asOf hn_cX9_asOf rfl rfl rfl rfl
theorem dX9_asOf_108 : decode cX9_asOf 108 = .ok (.iconst 1, 1) := qr_o4 hN_cX9_asOf hn_cX9_asOf rfl rfl
theorem dX9_asOf_109 : decode cX9_asOf 109 = .ok (.goto 4, 3) := qr_o167 0 4 rfl hN_cX9_asOf hn_cX9_asOf rfl rfl rfl rfl
theorem dX9_asOf_112 : decode cX9_asOf 112 = .ok (.iconst 0, 1) := qr_o3 hN_cX9_asOf hn_cX9_asOf rfl rfl
theorem dX9_asOf_113 : decode cX9_asOf 113 = .ok (.iadd, 1) := qr_o96 hN_cX9_asOf hn_cX9_asOf rfl rfl
theorem dX9_asOf_114 : decode cX9_asOf 114 = .ok (.istore 5, 2) := qr_o54 5 hN_cX9_asOf hn_cX9_asOf rfl rfl rfl
theorem dX9_asOf_116 : decode cX9_asOf 116 = .ok (.iinc 6 1, 3) := qr_o132 6 1 rfl hN_cX9_asOf hn_cX9_asOf rfl rfl rfl rfl
theorem dX9_asOf_119 : decode cX9_asOf 119 = .ok (.goto (-89), 3) := qr_w167 255 167 89 rfl rfl hN_cX9_asOf hn_cX9_asOf rfl rfl rfl rfl
theorem dX9_asOf_122 : decode cX9_asOf 122 = .ok (.iload 5, 2) := qr_o21 5 hN_cX9_asOf hn_cX9_asOf rfl rfl rfl
theorem dX9_asOf_124 : decode cX9_asOf 124 = .ok (.ireturn, 1) := qr_o172 hN_cX9_asOf hn_cX9_asOf rfl rfl
def nN_cX9_ones : Nat := 0xac1bf3ffa73d7e64041c1c0101840f00991c3d1a3c03
theorem hN_cX9_ones : qr_n cX9_ones.data.toList = nN_cX9_ones := by decide +kernel
theorem hn_cX9_ones : cX9_ones.size = 22 := by decide +kernel
theorem dX9_ones_0 : decode cX9_ones 0 = .ok (.iconst 0, 1) := qr_o3 hN_cX9_ones hn_cX9_ones rfl rfl
theorem dX9_ones_1 : decode cX9_ones 1 = .ok (.istore_n 1, 1) := qr_o60 hN_cX9_ones hn_cX9_ones rfl rfl
theorem dX9_ones_2 : decode cX9_ones 2 = .ok (.iload_n 0, 1) := qr_o26 hN_cX9_ones hn_cX9_ones rfl rfl
theorem dX9_ones_3 : decode cX9_ones 3 = .ok (.istore_n 2, 1) := qr_o61 hN_cX9_ones hn_cX9_ones rfl rfl
theorem dX9_ones_4 : decode cX9_ones 4 = .ok (.iload_n 2, 1) := qr_o28 hN_cX9_ones hn_cX9_ones rfl rfl
theorem dX9_ones_5 : decode cX9_ones 5 = .ok (.ifCond .eq 15, 3) := qr_o153 0 15 rfl hN_cX9_ones hn_cX9_ones rfl rfl rfl rfl
theorem dX9_ones_8 : decode cX9_ones 8 = .ok (.iinc 1 1, 3) := qr_o132 1 1 rfl hN_cX9_ones hn_cX9_ones rfl rfl rfl rfl
theorem dX9_ones_11 : decode cX9_ones 11 = .ok (.iload_n 2, 1) := qr_o28 hN_cX9_ones hn_cX9_ones rfl rfl
theorem dX9_ones_12 : decode cX9_ones 12 = .ok (.iload_n 2, 1) := qr_o28 hN_cX9_ones hn_cX9_ones rfl rfl
theorem dX9_ones_13 : decode cX9_ones 13 = .ok (.iconst 1, 1) := qr_o4 hN_cX9_ones hn_cX9_ones rfl rfl
theorem dX9_ones_14 : decode cX9_ones 14 = .ok (.isub, 1) := qr_o100 hN_cX9_ones hn_cX9_ones rfl rfl
theorem dX9_ones_15 : decode cX9_ones 15 = .ok (.iand, 1) := qr_o126 hN_cX9_ones hn_cX9_ones rfl rfl
theorem dX9_ones_16 : decode cX9_ones 16 = .ok (.istore_n 2, 1) := qr_o61 hN_cX9_ones hn_cX9_ones rfl rfl
theorem dX9_ones_17 : decode cX9_ones 17 = .ok (.goto (-13), 3) := qr_w167 255 243 13 rfl rfl hN_cX9_ones hn_cX9_ones rfl rfl rfl rfl
theorem dX9_ones_20 : decode cX9_ones 20 = .ok (.iload_n 1, 1) := qr_o27 hN_cX9_ones hn_cX9_ones rfl rfl
theorem dX9_ones_21 : decode cX9_ones 21 = .ok (.ireturn, 1) := qr_o172 hN_cX9_ones hn_cX9_ones rfl rfl
def nN_cX9_out : Nat := 0xac2e1b7100b42a4f6c6410682e061000b42a2e2e1b6800b42a2b00b42a1b7100b42a4f1c1b6e00b42a4f041b6b00b42aacfe1006009e2e1b6b00b42a0c009b2e1b6800b42aac0205009a9400b844011409851c0f00990c01b61b2a
theorem hN_cX9_out : qr_n cX9_out.data.toList = nN_cX9_out := by decide +kernel
theorem hn_cX9_out : cX9_out.size = 91 := by decide +kernel
theorem dX9_out_0 : decode cX9_out 0 = .ok (.aload_n 0, 1) := qr_o42 hN_cX9_out hn_cX9_out rfl rfl
theorem dX9_out_1 : decode cX9_out 1 = .ok (.iload_n 1, 1) := qr_o27 hN_cX9_out hn_cX9_out rfl rfl
theorem dX9_out_2 : decode cX9_out 2 = .ok (.invokevirtual 268, 3) := qr_o182 1 12 hN_cX9_out hn_cX9_out rfl rfl rfl rfl
theorem dX9_out_5 : decode cX9_out 5 = .ok (.ifCond .eq 15, 3) := qr_o153 0 15 rfl hN_cX9_out hn_cX9_out rfl rfl rfl rfl
theorem dX9_out_8 : decode cX9_out 8 = .ok (.iload_n 2, 1) := qr_o28 hN_cX9_out hn_cX9_out rfl rfl
theorem dX9_out_9 : decode cX9_out 9 = .ok (.i2l, 1) := qr_o133 hN_cX9_out hn_cX9_out rfl rfl
theorem dX9_out_10 : decode cX9_out 10 = .ok (.lconst 0, 1) := qr_o9 hN_cX9_out hn_cX9_out rfl rfl
theorem dX9_out_11 : decode cX9_out 11 = .ok (.ldc2_w 324, 3) := qr_o20 1 68 hN_cX9_out hn_cX9_out rfl rfl rfl rfl
theorem dX9_out_14 : decode cX9_out 14 = .ok (.invokestatic 148, 3) := qr_o184 0 148 hN_cX9_out hn_cX9_out rfl rfl rfl rfl
theorem dX9_out_17 : decode cX9_out 17 = .ok (.ifCond .ne 5, 3) := qr_o154 0 5 rfl hN_cX9_out hn_cX9_out rfl rfl rfl rfl
theorem dX9_out_20 : decode cX9_out 20 = .ok (.iconst (-1), 1) := qr_o2 hN_cX9_out hn_cX9_out rfl rfl
theorem dX9_out_21 : decode cX9_out 21 = .ok (.ireturn, 1) := qr_o172 hN_cX9_out hn_cX9_out rfl rfl
theorem dX9_out_22 : decode cX9_out 22 = .ok (.aload_n 0, 1) := qr_o42 hN_cX9_out hn_cX9_out rfl rfl
theorem dX9_out_23 : decode cX9_out 23 = .ok (.getfield 104, 3) := qr_o180 0 104 hN_cX9_out hn_cX9_out rfl rfl rfl rfl
theorem dX9_out_26 : decode cX9_out 26 = .ok (.iload_n 1, 1) := qr_o27 hN_cX9_out hn_cX9_out rfl rfl
theorem dX9_out_27 : decode cX9_out 27 = .ok (.iaload, 1) := qr_o46 hN_cX9_out hn_cX9_out rfl rfl
theorem dX9_out_28 : decode cX9_out 28 = .ok (.ifCond .lt 12, 3) := qr_o155 0 12 rfl hN_cX9_out hn_cX9_out rfl rfl rfl rfl
theorem dX9_out_31 : decode cX9_out 31 = .ok (.aload_n 0, 1) := qr_o42 hN_cX9_out hn_cX9_out rfl rfl
theorem dX9_out_32 : decode cX9_out 32 = .ok (.getfield 107, 3) := qr_o180 0 107 hN_cX9_out hn_cX9_out rfl rfl rfl rfl
theorem dX9_out_35 : decode cX9_out 35 = .ok (.iload_n 1, 1) := qr_o27 hN_cX9_out hn_cX9_out rfl rfl
theorem dX9_out_36 : decode cX9_out 36 = .ok (.iaload, 1) := qr_o46 hN_cX9_out hn_cX9_out rfl rfl
theorem dX9_out_37 : decode cX9_out 37 = .ok (.ifCond .le 6, 3) := qr_o158 0 6 rfl hN_cX9_out hn_cX9_out rfl rfl rfl rfl
theorem dX9_out_40 : decode cX9_out 40 = .ok (.bipush (-2), 2) := qr_w16 254 2 rfl rfl hN_cX9_out hn_cX9_out rfl rfl rfl
theorem dX9_out_42 : decode cX9_out 42 = .ok (.ireturn, 1) := qr_o172 hN_cX9_out hn_cX9_out rfl rfl
theorem dX9_out_43 : decode cX9_out 43 = .ok (.aload_n 0, 1) := qr_o42 hN_cX9_out hn_cX9_out rfl rfl
theorem dX9_out_44 : decode cX9_out 44 = .ok (.getfield 107, 3) := qr_o180 0 107 hN_cX9_out hn_cX9_out rfl rfl rfl rfl
theorem dX9_out_47 : decode cX9_out 47 = .ok (.iload_n 1, 1) := qr_o27 hN_cX9_out hn_cX9_out rfl rfl
theorem dX9_out_48 : decode cX9_out 48 = .ok (.iconst 1, 1) := qr_o4 hN_cX9_out hn_cX9_out rfl rfl
theorem dX9_out_49 : decode cX9_out 49 = .ok (.iastore, 1) := qr_o79 hN_cX9_out hn_cX9_out rfl rfl
theorem dX9_out_50 : decode cX9_out 50 = .ok (.aload_n 0, 1) := qr_o42 hN_cX9_out hn_cX9_out rfl rfl
theorem dX9_out_51 : decode cX9_out 51 = .ok (.getfield 110, 3) := qr_o180 0 110 hN_cX9_out hn_cX9_out rfl rfl rfl rfl
theorem dX9_out_54 : decode cX9_out 54 = .ok (.iload_n 1, 1) := qr_o27 hN_cX9_out hn_cX9_out rfl rfl
theorem dX9_out_55 : decode cX9_out 55 = .ok (.iload_n 2, 1) := qr_o28 hN_cX9_out hn_cX9_out rfl rfl
theorem dX9_out_56 : decode cX9_out 56 = .ok (.iastore, 1) := qr_o79 hN_cX9_out hn_cX9_out rfl rfl
theorem dX9_out_57 : decode cX9_out 57 = .ok (.aload_n 0, 1) := qr_o42 hN_cX9_out hn_cX9_out rfl rfl
theorem dX9_out_58 : decode cX9_out 58 = .ok (.getfield 113, 3) := qr_o180 0 113 hN_cX9_out hn_cX9_out rfl rfl rfl rfl
theorem dX9_out_61 : decode cX9_out 61 = .ok (.iload_n 1, 1) := qr_o27 hN_cX9_out hn_cX9_out rfl rfl
theorem dX9_out_62 : decode cX9_out 62 = .ok (.aload_n 0, 1) := qr_o42 hN_cX9_out hn_cX9_out rfl rfl
theorem dX9_out_63 : decode cX9_out 63 = .ok (.getfield 43, 3) := qr_o180 0 43 hN_cX9_out hn_cX9_out rfl rfl rfl rfl
theorem dX9_out_66 : decode cX9_out 66 = .ok (.aload_n 0, 1) := qr_o42 hN_cX9_out hn_cX9_out rfl rfl
theorem dX9_out_67 : decode cX9_out 67 = .ok (.getfield 104, 3) := qr_o180 0 104 hN_cX9_out hn_cX9_out rfl rfl rfl rfl
theorem dX9_out_70 : decode cX9_out 70 = .ok (.iload_n 1, 1) := qr_o27 hN_cX9_out hn_cX9_out rfl rfl
theorem dX9_out_71 : decode cX9_out 71 = .ok (.iaload, 1) := qr_o46 hN_cX9_out hn_cX9_out rfl rfl
theorem dX9_out_72 : decode cX9_out 72 = .ok (.iaload, 1) := qr_o46 hN_cX9_out hn_cX9_out rfl rfl
theorem dX9_out_73 : decode cX9_out 73 = .ok (.aload_n 0, 1) := qr_o42 hN_cX9_out hn_cX9_out rfl rfl
theorem dX9_out_74 : decode cX9_out 74 = .ok (.getfield 16, 3) := qr_o180 0 16 hN_cX9_out hn_cX9_out rfl rfl rfl rfl
theorem dX9_out_77 : decode cX9_out 77 = .ok (.iconst 3, 1) := qr_o6 hN_cX9_out hn_cX9_out rfl rfl
theorem dX9_out_78 : decode cX9_out 78 = .ok (.iaload, 1) := qr_o46 hN_cX9_out hn_cX9_out rfl rfl
theorem dX9_out_79 : decode cX9_out 79 = .ok (.imul, 1) := qr_o104 hN_cX9_out hn_cX9_out rfl rfl
theorem dX9_out_80 : decode cX9_out 80 = .ok (.bipush 100, 2) := qr_o16 100 rfl hN_cX9_out hn_cX9_out rfl rfl rfl
theorem dX9_out_82 : decode cX9_out 82 = .ok (.idiv, 1) := qr_o108 hN_cX9_out hn_cX9_out rfl rfl
theorem dX9_out_83 : decode cX9_out 83 = .ok (.iastore, 1) := qr_o79 hN_cX9_out hn_cX9_out rfl rfl
theorem dX9_out_84 : decode cX9_out 84 = .ok (.aload_n 0, 1) := qr_o42 hN_cX9_out hn_cX9_out rfl rfl
theorem dX9_out_85 : decode cX9_out 85 = .ok (.getfield 113, 3) := qr_o180 0 113 hN_cX9_out hn_cX9_out rfl rfl rfl rfl
theorem dX9_out_88 : decode cX9_out 88 = .ok (.iload_n 1, 1) := qr_o27 hN_cX9_out hn_cX9_out rfl rfl
theorem dX9_out_89 : decode cX9_out 89 = .ok (.iaload, 1) := qr_o46 hN_cX9_out hn_cX9_out rfl rfl
theorem dX9_out_90 : decode cX9_out 90 = .ok (.ireturn, 1) := qr_o172 hN_cX9_out hn_cX9_out rfl rfl
def nN_cX9_home : Nat := 0xac642e1b7100b42a2e1b7a00b42a4f602e1b7700b42a0900a70307009c1d682e1b7400b42a2e051000b42a1b7a00b42a4f60682e06101000b42a4801b87a08100615682e081000b42a4801b87eff001106152400a7fc1008009c1d1b7700b42a06367e82022e1b6e00b42a1d0d00a70307009c1d4f030400a76405151c0a00a405151c1b7400b42a0536600f01b61b04152a2e1b5900b42a4f60042e5c04153400b42a4f051b6b00b42aac47011307009f042e1b6b00b42aac4601130700a21301b61b04152a1c12009b041504362e1b6800b42aac46011307009a9400b8440114fd0014851d1100999400b8fb001409851c1d00990c01b61b2a
theorem hN_cX9_home : qr_n cX9_home.data.toList = nN_cX9_home := by decide +kernel
theorem hn_cX9_home : cX9_home.size = 250 := by decide +kernel
theorem dX9_home_0 : decode cX9_home 0 = .ok (.aload_n 0, 1) := qr_o42 hN_cX9_home hn_cX9_home rfl rfl
theorem dX9_home_1 : decode cX9_home 1 = .ok (.iload_n 1, 1) := qr_o27 hN_cX9_home hn_cX9_home rfl rfl
theorem dX9_home_2 : decode cX9_home 2 = .ok (.invokevirtual 268, 3) := qr_o182 1 12 hN_cX9_home hn_cX9_home rfl rfl rfl rfl
theorem dX9_home_5 : decode cX9_home 5 = .ok (.ifCond .eq 29, 3) := qr_o153 0 29 rfl hN_cX9_home hn_cX9_home rfl rfl rfl rfl
theorem dX9_home_8 : decode cX9_home 8 = .ok (.iload_n 2, 1) := qr_o28 hN_cX9_home hn_cX9_home rfl rfl
theorem dX9_home_9 : decode cX9_home 9 = .ok (.i2l, 1) := qr_o133 hN_cX9_home hn_cX9_home rfl rfl
theorem dX9_home_10 : decode cX9_home 10 = .ok (.lconst 0, 1) := qr_o9 hN_cX9_home hn_cX9_home rfl rfl
theorem dX9_home_11 : decode cX9_home 11 = .ok (.ldc2_w 251, 3) := qr_o20 0 251 hN_cX9_home hn_cX9_home rfl rfl rfl rfl
theorem dX9_home_14 : decode cX9_home 14 = .ok (.invokestatic 148, 3) := qr_o184 0 148 hN_cX9_home hn_cX9_home rfl rfl rfl rfl
theorem dX9_home_17 : decode cX9_home 17 = .ok (.ifCond .eq 17, 3) := qr_o153 0 17 rfl hN_cX9_home hn_cX9_home rfl rfl rfl rfl
theorem dX9_home_20 : decode cX9_home 20 = .ok (.iload_n 3, 1) := qr_o29 hN_cX9_home hn_cX9_home rfl rfl
theorem dX9_home_21 : decode cX9_home 21 = .ok (.i2l, 1) := qr_o133 hN_cX9_home hn_cX9_home rfl rfl
theorem dX9_home_22 : decode cX9_home 22 = .ok (.ldc2_w 253, 3) := qr_o20 0 253 hN_cX9_home hn_cX9_home rfl rfl rfl rfl
theorem dX9_home_25 : decode cX9_home 25 = .ok (.ldc2_w 324, 3) := qr_o20 1 68 hN_cX9_home hn_cX9_home rfl rfl rfl rfl
theorem dX9_home_28 : decode cX9_home 28 = .ok (.invokestatic 148, 3) := qr_o184 0 148 hN_cX9_home hn_cX9_home rfl rfl rfl rfl
theorem dX9_home_31 : decode cX9_home 31 = .ok (.ifCond .ne 7, 3) := qr_o154 0 7 rfl hN_cX9_home hn_cX9_home rfl rfl rfl rfl
theorem dX9_home_34 : decode cX9_home 34 = .ok (.ldc_w 326, 3) := qr_o19 1 70 hN_cX9_home hn_cX9_home rfl rfl rfl rfl
theorem dX9_home_37 : decode cX9_home 37 = .ok (.ireturn, 1) := qr_o172 hN_cX9_home hn_cX9_home rfl rfl
theorem dX9_home_38 : decode cX9_home 38 = .ok (.aload_n 0, 1) := qr_o42 hN_cX9_home hn_cX9_home rfl rfl
theorem dX9_home_39 : decode cX9_home 39 = .ok (.getfield 104, 3) := qr_o180 0 104 hN_cX9_home hn_cX9_home rfl rfl rfl rfl
theorem dX9_home_42 : decode cX9_home 42 = .ok (.iload_n 1, 1) := qr_o27 hN_cX9_home hn_cX9_home rfl rfl
theorem dX9_home_43 : decode cX9_home 43 = .ok (.iaload, 1) := qr_o46 hN_cX9_home hn_cX9_home rfl rfl
theorem dX9_home_44 : decode cX9_home 44 = .ok (.istore 4, 2) := qr_o54 4 hN_cX9_home hn_cX9_home rfl rfl rfl
theorem dX9_home_46 : decode cX9_home 46 = .ok (.iload 4, 2) := qr_o21 4 hN_cX9_home hn_cX9_home rfl rfl rfl
theorem dX9_home_48 : decode cX9_home 48 = .ok (.ifCond .lt 18, 3) := qr_o155 0 18 rfl hN_cX9_home hn_cX9_home rfl rfl rfl rfl
theorem dX9_home_51 : decode cX9_home 51 = .ok (.iload_n 2, 1) := qr_o28 hN_cX9_home hn_cX9_home rfl rfl
theorem dX9_home_52 : decode cX9_home 52 = .ok (.aload_n 0, 1) := qr_o42 hN_cX9_home hn_cX9_home rfl rfl
theorem dX9_home_53 : decode cX9_home 53 = .ok (.iload 4, 2) := qr_o21 4 hN_cX9_home hn_cX9_home rfl rfl rfl
theorem dX9_home_55 : decode cX9_home 55 = .ok (.iload_n 1, 1) := qr_o27 hN_cX9_home hn_cX9_home rfl rfl
theorem dX9_home_56 : decode cX9_home 56 = .ok (.invokevirtual 275, 3) := qr_o182 1 19 hN_cX9_home hn_cX9_home rfl rfl rfl rfl
theorem dX9_home_59 : decode cX9_home 59 = .ok (.if_icmp .ge 7, 3) := qr_o162 0 7 rfl hN_cX9_home hn_cX9_home rfl rfl rfl rfl
theorem dX9_home_62 : decode cX9_home 62 = .ok (.ldc_w 326, 3) := qr_o19 1 70 hN_cX9_home hn_cX9_home rfl rfl rfl rfl
theorem dX9_home_65 : decode cX9_home 65 = .ok (.ireturn, 1) := qr_o172 hN_cX9_home hn_cX9_home rfl rfl
theorem dX9_home_66 : decode cX9_home 66 = .ok (.aload_n 0, 1) := qr_o42 hN_cX9_home hn_cX9_home rfl rfl
theorem dX9_home_67 : decode cX9_home 67 = .ok (.getfield 107, 3) := qr_o180 0 107 hN_cX9_home hn_cX9_home rfl rfl rfl rfl
theorem dX9_home_70 : decode cX9_home 70 = .ok (.iload_n 1, 1) := qr_o27 hN_cX9_home hn_cX9_home rfl rfl
theorem dX9_home_71 : decode cX9_home 71 = .ok (.iaload, 1) := qr_o46 hN_cX9_home hn_cX9_home rfl rfl
theorem dX9_home_72 : decode cX9_home 72 = .ok (.iconst 1, 1) := qr_o4 hN_cX9_home hn_cX9_home rfl rfl
theorem dX9_home_73 : decode cX9_home 73 = .ok (.if_icmp .eq 7, 3) := qr_o159 0 7 rfl hN_cX9_home hn_cX9_home rfl rfl rfl rfl
theorem dX9_home_76 : decode cX9_home 76 = .ok (.ldc_w 327, 3) := qr_o19 1 71 hN_cX9_home hn_cX9_home rfl rfl rfl rfl
theorem dX9_home_79 : decode cX9_home 79 = .ok (.ireturn, 1) := qr_o172 hN_cX9_home hn_cX9_home rfl rfl
theorem dX9_home_80 : decode cX9_home 80 = .ok (.aload_n 0, 1) := qr_o42 hN_cX9_home hn_cX9_home rfl rfl
theorem dX9_home_81 : decode cX9_home 81 = .ok (.getfield 107, 3) := qr_o180 0 107 hN_cX9_home hn_cX9_home rfl rfl rfl rfl
theorem dX9_home_84 : decode cX9_home 84 = .ok (.iload_n 1, 1) := qr_o27 hN_cX9_home hn_cX9_home rfl rfl
theorem dX9_home_85 : decode cX9_home 85 = .ok (.iconst 2, 1) := qr_o5 hN_cX9_home hn_cX9_home rfl rfl
theorem dX9_home_86 : decode cX9_home 86 = .ok (.iastore, 1) := qr_o79 hN_cX9_home hn_cX9_home rfl rfl
theorem dX9_home_87 : decode cX9_home 87 = .ok (.aload_n 0, 1) := qr_o42 hN_cX9_home hn_cX9_home rfl rfl
theorem dX9_home_88 : decode cX9_home 88 = .ok (.getfield 52, 3) := qr_o180 0 52 hN_cX9_home hn_cX9_home rfl rfl rfl rfl
theorem dX9_home_91 : decode cX9_home 91 = .ok (.iload 4, 2) := qr_o21 4 hN_cX9_home hn_cX9_home rfl rfl rfl
theorem dX9_home_93 : decode cX9_home 93 = .ok (.dup2, 1) := qr_o92 hN_cX9_home hn_cX9_home rfl rfl
theorem dX9_home_94 : decode cX9_home 94 = .ok (.iaload, 1) := qr_o46 hN_cX9_home hn_cX9_home rfl rfl
theorem dX9_home_95 : decode cX9_home 95 = .ok (.iconst 1, 1) := qr_o4 hN_cX9_home hn_cX9_home rfl rfl
theorem dX9_home_96 : decode cX9_home 96 = .ok (.iadd, 1) := qr_o96 hN_cX9_home hn_cX9_home rfl rfl
theorem dX9_home_97 : decode cX9_home 97 = .ok (.iastore, 1) := qr_o79 hN_cX9_home hn_cX9_home rfl rfl
theorem dX9_home_98 : decode cX9_home 98 = .ok (.aload_n 0, 1) := qr_o42 hN_cX9_home hn_cX9_home rfl rfl
theorem dX9_home_99 : decode cX9_home 99 = .ok (.getfield 89, 3) := qr_o180 0 89 hN_cX9_home hn_cX9_home rfl rfl rfl rfl
theorem dX9_home_102 : decode cX9_home 102 = .ok (.iload_n 1, 1) := qr_o27 hN_cX9_home hn_cX9_home rfl rfl
theorem dX9_home_103 : decode cX9_home 103 = .ok (.iaload, 1) := qr_o46 hN_cX9_home hn_cX9_home rfl rfl
theorem dX9_home_104 : decode cX9_home 104 = .ok (.aload_n 0, 1) := qr_o42 hN_cX9_home hn_cX9_home rfl rfl
theorem dX9_home_105 : decode cX9_home 105 = .ok (.iload 4, 2) := qr_o21 4 hN_cX9_home hn_cX9_home rfl rfl rfl
theorem dX9_home_107 : decode cX9_home 107 = .ok (.iload_n 1, 1) := qr_o27 hN_cX9_home hn_cX9_home rfl rfl
theorem dX9_home_108 : decode cX9_home 108 = .ok (.invokevirtual 271, 3) := qr_o182 1 15 hN_cX9_home hn_cX9_home rfl rfl rfl rfl
theorem dX9_home_111 : decode cX9_home 111 = .ok (.iadd, 1) := qr_o96 hN_cX9_home hn_cX9_home rfl rfl
theorem dX9_home_112 : decode cX9_home 112 = .ok (.istore 5, 2) := qr_o54 5 hN_cX9_home hn_cX9_home rfl rfl rfl
theorem dX9_home_114 : decode cX9_home 114 = .ok (.aload_n 0, 1) := qr_o42 hN_cX9_home hn_cX9_home rfl rfl
theorem dX9_home_115 : decode cX9_home 115 = .ok (.getfield 116, 3) := qr_o180 0 116 hN_cX9_home hn_cX9_home rfl rfl rfl rfl
theorem dX9_home_118 : decode cX9_home 118 = .ok (.iload_n 1, 1) := qr_o27 hN_cX9_home hn_cX9_home rfl rfl
theorem dX9_home_119 : decode cX9_home 119 = .ok (.iload_n 2, 1) := qr_o28 hN_cX9_home hn_cX9_home rfl rfl
theorem dX9_home_120 : decode cX9_home 120 = .ok (.iload 5, 2) := qr_o21 5 hN_cX9_home hn_cX9_home rfl rfl rfl
theorem dX9_home_122 : decode cX9_home 122 = .ok (.if_icmp .le 10, 3) := qr_o164 0 10 rfl hN_cX9_home hn_cX9_home rfl rfl rfl rfl
theorem dX9_home_125 : decode cX9_home 125 = .ok (.iload_n 2, 1) := qr_o28 hN_cX9_home hn_cX9_home rfl rfl
theorem dX9_home_126 : decode cX9_home 126 = .ok (.iload 5, 2) := qr_o21 5 hN_cX9_home hn_cX9_home rfl rfl rfl
theorem dX9_home_128 : decode cX9_home 128 = .ok (.isub, 1) := qr_o100 hN_cX9_home hn_cX9_home rfl rfl
theorem dX9_home_129 : decode cX9_home 129 = .ok (.goto 4, 3) := qr_o167 0 4 rfl hN_cX9_home hn_cX9_home rfl rfl rfl rfl
theorem dX9_home_132 : decode cX9_home 132 = .ok (.iconst 0, 1) := qr_o3 hN_cX9_home hn_cX9_home rfl rfl
theorem dX9_home_133 : decode cX9_home 133 = .ok (.iastore, 1) := qr_o79 hN_cX9_home hn_cX9_home rfl rfl
theorem dX9_home_134 : decode cX9_home 134 = .ok (.iload_n 3, 1) := qr_o29 hN_cX9_home hn_cX9_home rfl rfl
theorem dX9_home_135 : decode cX9_home 135 = .ok (.ifCond .ge 7, 3) := qr_o156 0 7 rfl hN_cX9_home hn_cX9_home rfl rfl rfl rfl
theorem dX9_home_138 : decode cX9_home 138 = .ok (.iconst 0, 1) := qr_o3 hN_cX9_home hn_cX9_home rfl rfl
theorem dX9_home_139 : decode cX9_home 139 = .ok (.goto 13, 3) := qr_o167 0 13 rfl hN_cX9_home hn_cX9_home rfl rfl rfl rfl
theorem dX9_home_142 : decode cX9_home 142 = .ok (.iload_n 3, 1) := qr_o29 hN_cX9_home hn_cX9_home rfl rfl
theorem dX9_home_143 : decode cX9_home 143 = .ok (.aload_n 0, 1) := qr_o42 hN_cX9_home hn_cX9_home rfl rfl
theorem dX9_home_144 : decode cX9_home 144 = .ok (.getfield 110, 3) := qr_o180 0 110 hN_cX9_home hn_cX9_home rfl rfl rfl rfl
theorem dX9_home_147 : decode cX9_home 147 = .ok (.iload_n 1, 1) := qr_o27 hN_cX9_home hn_cX9_home rfl rfl
theorem dX9_home_148 : decode cX9_home 148 = .ok (.iaload, 1) := qr_o46 hN_cX9_home hn_cX9_home rfl rfl
theorem dX9_home_149 : decode cX9_home 149 = .ok (.iconst (-1), 1) := qr_o2 hN_cX9_home hn_cX9_home rfl rfl
theorem dX9_home_150 : decode cX9_home 150 = .ok (.ixor, 1) := qr_o130 hN_cX9_home hn_cX9_home rfl rfl
theorem dX9_home_151 : decode cX9_home 151 = .ok (.iand, 1) := qr_o126 hN_cX9_home hn_cX9_home rfl rfl
theorem dX9_home_152 : decode cX9_home 152 = .ok (.istore 6, 2) := qr_o54 6 hN_cX9_home hn_cX9_home rfl rfl rfl
theorem dX9_home_154 : decode cX9_home 154 = .ok (.aload_n 0, 1) := qr_o42 hN_cX9_home hn_cX9_home rfl rfl
theorem dX9_home_155 : decode cX9_home 155 = .ok (.getfield 119, 3) := qr_o180 0 119 hN_cX9_home hn_cX9_home rfl rfl rfl rfl
theorem dX9_home_158 : decode cX9_home 158 = .ok (.iload_n 1, 1) := qr_o27 hN_cX9_home hn_cX9_home rfl rfl
theorem dX9_home_159 : decode cX9_home 159 = .ok (.iload_n 3, 1) := qr_o29 hN_cX9_home hn_cX9_home rfl rfl
theorem dX9_home_160 : decode cX9_home 160 = .ok (.ifCond .ge 8, 3) := qr_o156 0 8 rfl hN_cX9_home hn_cX9_home rfl rfl rfl rfl
theorem dX9_home_163 : decode cX9_home 163 = .ok (.bipush (-4), 2) := qr_w16 252 4 rfl rfl hN_cX9_home hn_cX9_home rfl rfl rfl
theorem dX9_home_165 : decode cX9_home 165 = .ok (.goto 36, 3) := qr_o167 0 36 rfl hN_cX9_home hn_cX9_home rfl rfl rfl rfl
theorem dX9_home_168 : decode cX9_home 168 = .ok (.iload 6, 2) := qr_o21 6 hN_cX9_home hn_cX9_home rfl rfl rfl
theorem dX9_home_170 : decode cX9_home 170 = .ok (.sipush 255, 3) := qr_o17 0 255 rfl hN_cX9_home hn_cX9_home rfl rfl rfl rfl
theorem dX9_home_173 : decode cX9_home 173 = .ok (.iand, 1) := qr_o126 hN_cX9_home hn_cX9_home rfl rfl
theorem dX9_home_174 : decode cX9_home 174 = .ok (.invokestatic 328, 3) := qr_o184 1 72 hN_cX9_home hn_cX9_home rfl rfl rfl rfl
theorem dX9_home_177 : decode cX9_home 177 = .ok (.aload_n 0, 1) := qr_o42 hN_cX9_home hn_cX9_home rfl rfl
theorem dX9_home_178 : decode cX9_home 178 = .ok (.getfield 16, 3) := qr_o180 0 16 hN_cX9_home hn_cX9_home rfl rfl rfl rfl
theorem dX9_home_181 : decode cX9_home 181 = .ok (.iconst 5, 1) := qr_o8 hN_cX9_home hn_cX9_home rfl rfl
theorem dX9_home_182 : decode cX9_home 182 = .ok (.iaload, 1) := qr_o46 hN_cX9_home hn_cX9_home rfl rfl
theorem dX9_home_183 : decode cX9_home 183 = .ok (.imul, 1) := qr_o104 hN_cX9_home hn_cX9_home rfl rfl
theorem dX9_home_184 : decode cX9_home 184 = .ok (.iload 6, 2) := qr_o21 6 hN_cX9_home hn_cX9_home rfl rfl rfl
theorem dX9_home_186 : decode cX9_home 186 = .ok (.bipush 8, 2) := qr_o16 8 rfl hN_cX9_home hn_cX9_home rfl rfl rfl
theorem dX9_home_188 : decode cX9_home 188 = .ok (.ishr, 1) := qr_o122 hN_cX9_home hn_cX9_home rfl rfl
theorem dX9_home_189 : decode cX9_home 189 = .ok (.invokestatic 328, 3) := qr_o184 1 72 hN_cX9_home hn_cX9_home rfl rfl rfl rfl
theorem dX9_home_192 : decode cX9_home 192 = .ok (.aload_n 0, 1) := qr_o42 hN_cX9_home hn_cX9_home rfl rfl
theorem dX9_home_193 : decode cX9_home 193 = .ok (.getfield 16, 3) := qr_o180 0 16 hN_cX9_home hn_cX9_home rfl rfl rfl rfl
theorem dX9_home_196 : decode cX9_home 196 = .ok (.bipush 6, 2) := qr_o16 6 rfl hN_cX9_home hn_cX9_home rfl rfl rfl
theorem dX9_home_198 : decode cX9_home 198 = .ok (.iaload, 1) := qr_o46 hN_cX9_home hn_cX9_home rfl rfl
theorem dX9_home_199 : decode cX9_home 199 = .ok (.imul, 1) := qr_o104 hN_cX9_home hn_cX9_home rfl rfl
theorem dX9_home_200 : decode cX9_home 200 = .ok (.iadd, 1) := qr_o96 hN_cX9_home hn_cX9_home rfl rfl
theorem dX9_home_201 : decode cX9_home 201 = .ok (.iastore, 1) := qr_o79 hN_cX9_home hn_cX9_home rfl rfl
theorem dX9_home_202 : decode cX9_home 202 = .ok (.aload_n 0, 1) := qr_o42 hN_cX9_home hn_cX9_home rfl rfl
theorem dX9_home_203 : decode cX9_home 203 = .ok (.getfield 122, 3) := qr_o180 0 122 hN_cX9_home hn_cX9_home rfl rfl rfl rfl
theorem dX9_home_206 : decode cX9_home 206 = .ok (.iload_n 1, 1) := qr_o27 hN_cX9_home hn_cX9_home rfl rfl
theorem dX9_home_207 : decode cX9_home 207 = .ok (.aload_n 0, 1) := qr_o42 hN_cX9_home hn_cX9_home rfl rfl
theorem dX9_home_208 : decode cX9_home 208 = .ok (.getfield 16, 3) := qr_o180 0 16 hN_cX9_home hn_cX9_home rfl rfl rfl rfl
theorem dX9_home_211 : decode cX9_home 211 = .ok (.iconst 2, 1) := qr_o5 hN_cX9_home hn_cX9_home rfl rfl
theorem dX9_home_212 : decode cX9_home 212 = .ok (.iaload, 1) := qr_o46 hN_cX9_home hn_cX9_home rfl rfl
theorem dX9_home_213 : decode cX9_home 213 = .ok (.aload_n 0, 1) := qr_o42 hN_cX9_home hn_cX9_home rfl rfl
theorem dX9_home_214 : decode cX9_home 214 = .ok (.getfield 116, 3) := qr_o180 0 116 hN_cX9_home hn_cX9_home rfl rfl rfl rfl
theorem dX9_home_217 : decode cX9_home 217 = .ok (.iload_n 1, 1) := qr_o27 hN_cX9_home hn_cX9_home rfl rfl
theorem dX9_home_218 : decode cX9_home 218 = .ok (.iaload, 1) := qr_o46 hN_cX9_home hn_cX9_home rfl rfl
theorem dX9_home_219 : decode cX9_home 219 = .ok (.imul, 1) := qr_o104 hN_cX9_home hn_cX9_home rfl rfl
theorem dX9_home_220 : decode cX9_home 220 = .ok (.iload_n 3, 1) := qr_o29 hN_cX9_home hn_cX9_home rfl rfl
theorem dX9_home_221 : decode cX9_home 221 = .ok (.ifCond .ge 7, 3) := qr_o156 0 7 rfl hN_cX9_home hn_cX9_home rfl rfl rfl rfl
theorem dX9_home_224 : decode cX9_home 224 = .ok (.iconst 0, 1) := qr_o3 hN_cX9_home hn_cX9_home rfl rfl
theorem dX9_home_225 : decode cX9_home 225 = .ok (.goto 9, 3) := qr_o167 0 9 rfl hN_cX9_home hn_cX9_home rfl rfl rfl rfl
theorem dX9_home_228 : decode cX9_home 228 = .ok (.aload_n 0, 1) := qr_o42 hN_cX9_home hn_cX9_home rfl rfl
theorem dX9_home_229 : decode cX9_home 229 = .ok (.getfield 119, 3) := qr_o180 0 119 hN_cX9_home hn_cX9_home rfl rfl rfl rfl
theorem dX9_home_232 : decode cX9_home 232 = .ok (.iload_n 1, 1) := qr_o27 hN_cX9_home hn_cX9_home rfl rfl
theorem dX9_home_233 : decode cX9_home 233 = .ok (.iaload, 1) := qr_o46 hN_cX9_home hn_cX9_home rfl rfl
theorem dX9_home_234 : decode cX9_home 234 = .ok (.iadd, 1) := qr_o96 hN_cX9_home hn_cX9_home rfl rfl
theorem dX9_home_235 : decode cX9_home 235 = .ok (.iastore, 1) := qr_o79 hN_cX9_home hn_cX9_home rfl rfl
theorem dX9_home_236 : decode cX9_home 236 = .ok (.aload_n 0, 1) := qr_o42 hN_cX9_home hn_cX9_home rfl rfl
theorem dX9_home_237 : decode cX9_home 237 = .ok (.getfield 122, 3) := qr_o180 0 122 hN_cX9_home hn_cX9_home rfl rfl rfl rfl
theorem dX9_home_240 : decode cX9_home 240 = .ok (.iload_n 1, 1) := qr_o27 hN_cX9_home hn_cX9_home rfl rfl
theorem dX9_home_241 : decode cX9_home 241 = .ok (.iaload, 1) := qr_o46 hN_cX9_home hn_cX9_home rfl rfl
theorem dX9_home_242 : decode cX9_home 242 = .ok (.aload_n 0, 1) := qr_o42 hN_cX9_home hn_cX9_home rfl rfl
theorem dX9_home_243 : decode cX9_home 243 = .ok (.getfield 113, 3) := qr_o180 0 113 hN_cX9_home hn_cX9_home rfl rfl rfl rfl
theorem dX9_home_246 : decode cX9_home 246 = .ok (.iload_n 1, 1) := qr_o27 hN_cX9_home hn_cX9_home rfl rfl
theorem dX9_home_247 : decode cX9_home 247 = .ok (.iaload, 1) := qr_o46 hN_cX9_home hn_cX9_home rfl rfl
theorem dX9_home_248 : decode cX9_home 248 = .ok (.isub, 1) := qr_o100 hN_cX9_home hn_cX9_home rfl rfl
theorem dX9_home_249 : decode cX9_home 249 = .ok (.ireturn, 1) := qr_o172 hN_cX9_home hn_cX9_home rfl rfl
def nN_cX9_about : Nat := 0xac2e1b7a00b42a0900a72e1b7700b42a0c00a0061c1700a72e1b7400b42a0c00a0051c2500a72e1b7100b42a0c00a0041c3300a72e1b6b00b42a0c009a1cac020500a2052e1b6b00b42a0f00a4041c1200992e1b6b00b42a0c009e1c1f00999400b8ff001409851c2b00990c01b61b2a
theorem hN_cX9_about : qr_n cX9_about.data.toList = nN_cX9_about := by decide +kernel
theorem hn_cX9_about : cX9_about.size = 112 := by decide +kernel
theorem dX9_about_0 : decode cX9_about 0 = .ok (.aload_n 0, 1) := qr_o42 hN_cX9_about hn_cX9_about rfl rfl
theorem dX9_about_1 : decode cX9_about 1 = .ok (.iload_n 1, 1) := qr_o27 hN_cX9_about hn_cX9_about rfl rfl
theorem dX9_about_2 : decode cX9_about 2 = .ok (.invokevirtual 268, 3) := qr_o182 1 12 hN_cX9_about hn_cX9_about rfl rfl rfl rfl
theorem dX9_about_5 : decode cX9_about 5 = .ok (.ifCond .eq 43, 3) := qr_o153 0 43 rfl hN_cX9_about hn_cX9_about rfl rfl rfl rfl
theorem dX9_about_8 : decode cX9_about 8 = .ok (.iload_n 2, 1) := qr_o28 hN_cX9_about hn_cX9_about rfl rfl
theorem dX9_about_9 : decode cX9_about 9 = .ok (.i2l, 1) := qr_o133 hN_cX9_about hn_cX9_about rfl rfl
theorem dX9_about_10 : decode cX9_about 10 = .ok (.lconst 0, 1) := qr_o9 hN_cX9_about hn_cX9_about rfl rfl
theorem dX9_about_11 : decode cX9_about 11 = .ok (.ldc2_w 255, 3) := qr_o20 0 255 hN_cX9_about hn_cX9_about rfl rfl rfl rfl
theorem dX9_about_14 : decode cX9_about 14 = .ok (.invokestatic 148, 3) := qr_o184 0 148 hN_cX9_about hn_cX9_about rfl rfl rfl rfl
theorem dX9_about_17 : decode cX9_about 17 = .ok (.ifCond .eq 31, 3) := qr_o153 0 31 rfl hN_cX9_about hn_cX9_about rfl rfl rfl rfl
theorem dX9_about_20 : decode cX9_about 20 = .ok (.iload_n 2, 1) := qr_o28 hN_cX9_about hn_cX9_about rfl rfl
theorem dX9_about_21 : decode cX9_about 21 = .ok (.ifCond .le 12, 3) := qr_o158 0 12 rfl hN_cX9_about hn_cX9_about rfl rfl rfl rfl
theorem dX9_about_24 : decode cX9_about 24 = .ok (.aload_n 0, 1) := qr_o42 hN_cX9_about hn_cX9_about rfl rfl
theorem dX9_about_25 : decode cX9_about 25 = .ok (.getfield 107, 3) := qr_o180 0 107 hN_cX9_about hn_cX9_about rfl rfl rfl rfl
theorem dX9_about_28 : decode cX9_about 28 = .ok (.iload_n 1, 1) := qr_o27 hN_cX9_about hn_cX9_about rfl rfl
theorem dX9_about_29 : decode cX9_about 29 = .ok (.iaload, 1) := qr_o46 hN_cX9_about hn_cX9_about rfl rfl
theorem dX9_about_30 : decode cX9_about 30 = .ok (.ifCond .eq 18, 3) := qr_o153 0 18 rfl hN_cX9_about hn_cX9_about rfl rfl rfl rfl
theorem dX9_about_33 : decode cX9_about 33 = .ok (.iload_n 2, 1) := qr_o28 hN_cX9_about hn_cX9_about rfl rfl
theorem dX9_about_34 : decode cX9_about 34 = .ok (.iconst 1, 1) := qr_o4 hN_cX9_about hn_cX9_about rfl rfl
theorem dX9_about_35 : decode cX9_about 35 = .ok (.if_icmp .le 15, 3) := qr_o164 0 15 rfl hN_cX9_about hn_cX9_about rfl rfl rfl rfl
theorem dX9_about_38 : decode cX9_about 38 = .ok (.aload_n 0, 1) := qr_o42 hN_cX9_about hn_cX9_about rfl rfl
theorem dX9_about_39 : decode cX9_about 39 = .ok (.getfield 107, 3) := qr_o180 0 107 hN_cX9_about hn_cX9_about rfl rfl rfl rfl
theorem dX9_about_42 : decode cX9_about 42 = .ok (.iload_n 1, 1) := qr_o27 hN_cX9_about hn_cX9_about rfl rfl
theorem dX9_about_43 : decode cX9_about 43 = .ok (.iaload, 1) := qr_o46 hN_cX9_about hn_cX9_about rfl rfl
theorem dX9_about_44 : decode cX9_about 44 = .ok (.iconst 2, 1) := qr_o5 hN_cX9_about hn_cX9_about rfl rfl
theorem dX9_about_45 : decode cX9_about 45 = .ok (.if_icmp .ge 5, 3) := qr_o162 0 5 rfl hN_cX9_about hn_cX9_about rfl rfl rfl rfl
theorem dX9_about_48 : decode cX9_about 48 = .ok (.iconst (-1), 1) := qr_o2 hN_cX9_about hn_cX9_about rfl rfl
theorem dX9_about_49 : decode cX9_about 49 = .ok (.ireturn, 1) := qr_o172 hN_cX9_about hn_cX9_about rfl rfl
theorem dX9_about_50 : decode cX9_about 50 = .ok (.iload_n 2, 1) := qr_o28 hN_cX9_about hn_cX9_about rfl rfl
theorem dX9_about_51 : decode cX9_about 51 = .ok (.ifCond .ne 12, 3) := qr_o154 0 12 rfl hN_cX9_about hn_cX9_about rfl rfl rfl rfl
theorem dX9_about_54 : decode cX9_about 54 = .ok (.aload_n 0, 1) := qr_o42 hN_cX9_about hn_cX9_about rfl rfl
theorem dX9_about_55 : decode cX9_about 55 = .ok (.getfield 107, 3) := qr_o180 0 107 hN_cX9_about hn_cX9_about rfl rfl rfl rfl
theorem dX9_about_58 : decode cX9_about 58 = .ok (.iload_n 1, 1) := qr_o27 hN_cX9_about hn_cX9_about rfl rfl
theorem dX9_about_59 : decode cX9_about 59 = .ok (.iaload, 1) := qr_o46 hN_cX9_about hn_cX9_about rfl rfl
theorem dX9_about_60 : decode cX9_about 60 = .ok (.goto 51, 3) := qr_o167 0 51 rfl hN_cX9_about hn_cX9_about rfl rfl rfl rfl
theorem dX9_about_63 : decode cX9_about 63 = .ok (.iload_n 2, 1) := qr_o28 hN_cX9_about hn_cX9_about rfl rfl
theorem dX9_about_64 : decode cX9_about 64 = .ok (.iconst 1, 1) := qr_o4 hN_cX9_about hn_cX9_about rfl rfl
theorem dX9_about_65 : decode cX9_about 65 = .ok (.if_icmp .ne 12, 3) := qr_o160 0 12 rfl hN_cX9_about hn_cX9_about rfl rfl rfl rfl
theorem dX9_about_68 : decode cX9_about 68 = .ok (.aload_n 0, 1) := qr_o42 hN_cX9_about hn_cX9_about rfl rfl
theorem dX9_about_69 : decode cX9_about 69 = .ok (.getfield 113, 3) := qr_o180 0 113 hN_cX9_about hn_cX9_about rfl rfl rfl rfl
theorem dX9_about_72 : decode cX9_about 72 = .ok (.iload_n 1, 1) := qr_o27 hN_cX9_about hn_cX9_about rfl rfl
theorem dX9_about_73 : decode cX9_about 73 = .ok (.iaload, 1) := qr_o46 hN_cX9_about hn_cX9_about rfl rfl
theorem dX9_about_74 : decode cX9_about 74 = .ok (.goto 37, 3) := qr_o167 0 37 rfl hN_cX9_about hn_cX9_about rfl rfl rfl rfl
theorem dX9_about_77 : decode cX9_about 77 = .ok (.iload_n 2, 1) := qr_o28 hN_cX9_about hn_cX9_about rfl rfl
theorem dX9_about_78 : decode cX9_about 78 = .ok (.iconst 2, 1) := qr_o5 hN_cX9_about hn_cX9_about rfl rfl
theorem dX9_about_79 : decode cX9_about 79 = .ok (.if_icmp .ne 12, 3) := qr_o160 0 12 rfl hN_cX9_about hn_cX9_about rfl rfl rfl rfl
theorem dX9_about_82 : decode cX9_about 82 = .ok (.aload_n 0, 1) := qr_o42 hN_cX9_about hn_cX9_about rfl rfl
theorem dX9_about_83 : decode cX9_about 83 = .ok (.getfield 116, 3) := qr_o180 0 116 hN_cX9_about hn_cX9_about rfl rfl rfl rfl
theorem dX9_about_86 : decode cX9_about 86 = .ok (.iload_n 1, 1) := qr_o27 hN_cX9_about hn_cX9_about rfl rfl
theorem dX9_about_87 : decode cX9_about 87 = .ok (.iaload, 1) := qr_o46 hN_cX9_about hn_cX9_about rfl rfl
theorem dX9_about_88 : decode cX9_about 88 = .ok (.goto 23, 3) := qr_o167 0 23 rfl hN_cX9_about hn_cX9_about rfl rfl rfl rfl
theorem dX9_about_91 : decode cX9_about 91 = .ok (.iload_n 2, 1) := qr_o28 hN_cX9_about hn_cX9_about rfl rfl
theorem dX9_about_92 : decode cX9_about 92 = .ok (.iconst 3, 1) := qr_o6 hN_cX9_about hn_cX9_about rfl rfl
theorem dX9_about_93 : decode cX9_about 93 = .ok (.if_icmp .ne 12, 3) := qr_o160 0 12 rfl hN_cX9_about hn_cX9_about rfl rfl rfl rfl
theorem dX9_about_96 : decode cX9_about 96 = .ok (.aload_n 0, 1) := qr_o42 hN_cX9_about hn_cX9_about rfl rfl
theorem dX9_about_97 : decode cX9_about 97 = .ok (.getfield 119, 3) := qr_o180 0 119 hN_cX9_about hn_cX9_about rfl rfl rfl rfl
theorem dX9_about_100 : decode cX9_about 100 = .ok (.iload_n 1, 1) := qr_o27 hN_cX9_about hn_cX9_about rfl rfl
theorem dX9_about_101 : decode cX9_about 101 = .ok (.iaload, 1) := qr_o46 hN_cX9_about hn_cX9_about rfl rfl
theorem dX9_about_102 : decode cX9_about 102 = .ok (.goto 9, 3) := qr_o167 0 9 rfl hN_cX9_about hn_cX9_about rfl rfl rfl rfl
theorem dX9_about_105 : decode cX9_about 105 = .ok (.aload_n 0, 1) := qr_o42 hN_cX9_about hn_cX9_about rfl rfl
theorem dX9_about_106 : decode cX9_about 106 = .ok (.getfield 122, 3) := qr_o180 0 122 hN_cX9_about hn_cX9_about rfl rfl rfl rfl
theorem dX9_about_109 : decode cX9_about 109 = .ok (.iload_n 1, 1) := qr_o27 hN_cX9_about hn_cX9_about rfl rfl
theorem dX9_about_110 : decode cX9_about 110 = .ok (.iaload, 1) := qr_o46 hN_cX9_about hn_cX9_about rfl rfl
theorem dX9_about_111 : decode cX9_about 111 = .ok (.ireturn, 1) := qr_o172 hN_cX9_about hn_cX9_about rfl rfl
def nN_cX9_retire : Nat := 0xacd700b61b2a54041b3700b42aacfe10060099da00b61b2aac0205009ad200b61b2a
theorem hN_cX9_retire : qr_n cX9_retire.data.toList = nN_cX9_retire := by decide +kernel
theorem hn_cX9_retire : cX9_retire.size = 34 := by decide +kernel
theorem dX9_retire_0 : decode cX9_retire 0 = .ok (.aload_n 0, 1) := qr_o42 hN_cX9_retire hn_cX9_retire rfl rfl
theorem dX9_retire_1 : decode cX9_retire 1 = .ok (.iload_n 1, 1) := qr_o27 hN_cX9_retire hn_cX9_retire rfl rfl
theorem dX9_retire_2 : decode cX9_retire 2 = .ok (.invokevirtual 210, 3) := qr_o182 0 210 hN_cX9_retire hn_cX9_retire rfl rfl rfl rfl
theorem dX9_retire_5 : decode cX9_retire 5 = .ok (.ifCond .ne 5, 3) := qr_o154 0 5 rfl hN_cX9_retire hn_cX9_retire rfl rfl rfl rfl
theorem dX9_retire_8 : decode cX9_retire 8 = .ok (.iconst (-1), 1) := qr_o2 hN_cX9_retire hn_cX9_retire rfl rfl
theorem dX9_retire_9 : decode cX9_retire 9 = .ok (.ireturn, 1) := qr_o172 hN_cX9_retire hn_cX9_retire rfl rfl
theorem dX9_retire_10 : decode cX9_retire 10 = .ok (.aload_n 0, 1) := qr_o42 hN_cX9_retire hn_cX9_retire rfl rfl
theorem dX9_retire_11 : decode cX9_retire 11 = .ok (.iload_n 1, 1) := qr_o27 hN_cX9_retire hn_cX9_retire rfl rfl
theorem dX9_retire_12 : decode cX9_retire 12 = .ok (.invokevirtual 218, 3) := qr_o182 0 218 hN_cX9_retire hn_cX9_retire rfl rfl rfl rfl
theorem dX9_retire_15 : decode cX9_retire 15 = .ok (.ifCond .eq 6, 3) := qr_o153 0 6 rfl hN_cX9_retire hn_cX9_retire rfl rfl rfl rfl
theorem dX9_retire_18 : decode cX9_retire 18 = .ok (.bipush (-2), 2) := qr_w16 254 2 rfl rfl hN_cX9_retire hn_cX9_retire rfl rfl rfl
theorem dX9_retire_20 : decode cX9_retire 20 = .ok (.ireturn, 1) := qr_o172 hN_cX9_retire hn_cX9_retire rfl rfl
theorem dX9_retire_21 : decode cX9_retire 21 = .ok (.aload_n 0, 1) := qr_o42 hN_cX9_retire hn_cX9_retire rfl rfl
theorem dX9_retire_22 : decode cX9_retire 22 = .ok (.getfield 55, 3) := qr_o180 0 55 hN_cX9_retire hn_cX9_retire rfl rfl rfl rfl
theorem dX9_retire_25 : decode cX9_retire 25 = .ok (.iload_n 1, 1) := qr_o27 hN_cX9_retire hn_cX9_retire rfl rfl
theorem dX9_retire_26 : decode cX9_retire 26 = .ok (.iconst 1, 1) := qr_o4 hN_cX9_retire hn_cX9_retire rfl rfl
theorem dX9_retire_27 : decode cX9_retire 27 = .ok (.bastore, 1) := qr_o84 hN_cX9_retire hn_cX9_retire rfl rfl
theorem dX9_retire_28 : decode cX9_retire 28 = .ok (.aload_n 0, 1) := qr_o42 hN_cX9_retire hn_cX9_retire rfl rfl
theorem dX9_retire_29 : decode cX9_retire 29 = .ok (.iload_n 1, 1) := qr_o27 hN_cX9_retire hn_cX9_retire rfl rfl
theorem dX9_retire_30 : decode cX9_retire 30 = .ok (.invokevirtual 215, 3) := qr_o182 0 215 hN_cX9_retire hn_cX9_retire rfl rfl rfl rfl
theorem dX9_retire_33 : decode cX9_retire 33 = .ok (.ireturn, 1) := qr_o172 hN_cX9_retire hn_cX9_retire rfl rfl
def nN_cX9_count : Nat := 0xac02ac1cd3ffa70103843d60030400a70407009b2e1d6800b42a0c00a713009b2e1d6500b42a0f00a0081b1c2b00a20101b42a1d3e03ac0101b42aacdd00b42aac1cc5ffa70103843d60030400a704070099331d3b00b42a0c00a7130099da00b61d2a0e00a0041b2100a72e1d3400b42a0c00a007101b1c3900a2cb00b42a1d3e03accb00b42a320000007e0000007e000000790000007400000032000000320000002d0000000700000000000000b2000000aa1b3d03
theorem hN_cX9_count : qr_n cX9_count.data.toList = nN_cX9_count := by decide +kernel
theorem hn_cX9_count : cX9_count.size = 183 := by decide +kernel
theorem dX9_count_0 : decode cX9_count 0 = .ok (.iconst 0, 1) := qr_o3 hN_cX9_count hn_cX9_count rfl rfl
theorem dX9_count_1 : decode cX9_count 1 = .ok (.istore_n 2, 1) := qr_o61 hN_cX9_count hn_cX9_count rfl rfl
theorem dX9_count_2 : decode cX9_count 2 = .ok (.iload_n 1, 1) := qr_o27 hN_cX9_count hn_cX9_count rfl rfl
theorem dX9_count_3 : decode cX9_count 3 = .ok (.tableswitch 178 0 7 #[45, 50, 50, 116, 121, 126, 126, 50], 45) := by decide +kernel
theorem dX9_count_48 : decode cX9_count 48 = .ok (.aload_n 0, 1) := qr_o42 hN_cX9_count hn_cX9_count rfl rfl
theorem dX9_count_49 : decode cX9_count 49 = .ok (.getfield 203, 3) := qr_o180 0 203 hN_cX9_count hn_cX9_count rfl rfl rfl rfl
theorem dX9_count_52 : decode cX9_count 52 = .ok (.ireturn, 1) := qr_o172 hN_cX9_count hn_cX9_count rfl rfl
theorem dX9_count_53 : decode cX9_count 53 = .ok (.iconst 0, 1) := qr_o3 hN_cX9_count hn_cX9_count rfl rfl
theorem dX9_count_54 : decode cX9_count 54 = .ok (.istore_n 3, 1) := qr_o62 hN_cX9_count hn_cX9_count rfl rfl
theorem dX9_count_55 : decode cX9_count 55 = .ok (.iload_n 3, 1) := qr_o29 hN_cX9_count hn_cX9_count rfl rfl
theorem dX9_count_56 : decode cX9_count 56 = .ok (.aload_n 0, 1) := qr_o42 hN_cX9_count hn_cX9_count rfl rfl
theorem dX9_count_57 : decode cX9_count 57 = .ok (.getfield 203, 3) := qr_o180 0 203 hN_cX9_count hn_cX9_count rfl rfl rfl rfl
theorem dX9_count_60 : decode cX9_count 60 = .ok (.if_icmp .ge 57, 3) := qr_o162 0 57 rfl hN_cX9_count hn_cX9_count rfl rfl rfl rfl
theorem dX9_count_63 : decode cX9_count 63 = .ok (.iload_n 2, 1) := qr_o28 hN_cX9_count hn_cX9_count rfl rfl
theorem dX9_count_64 : decode cX9_count 64 = .ok (.iload_n 1, 1) := qr_o27 hN_cX9_count hn_cX9_count rfl rfl
theorem dX9_count_65 : decode cX9_count 65 = .ok (.bipush 7, 2) := qr_o16 7 rfl hN_cX9_count hn_cX9_count rfl rfl rfl
theorem dX9_count_67 : decode cX9_count 67 = .ok (.if_icmp .ne 12, 3) := qr_o160 0 12 rfl hN_cX9_count hn_cX9_count rfl rfl rfl rfl
theorem dX9_count_70 : decode cX9_count 70 = .ok (.aload_n 0, 1) := qr_o42 hN_cX9_count hn_cX9_count rfl rfl
theorem dX9_count_71 : decode cX9_count 71 = .ok (.getfield 52, 3) := qr_o180 0 52 hN_cX9_count hn_cX9_count rfl rfl rfl rfl
theorem dX9_count_74 : decode cX9_count 74 = .ok (.iload_n 3, 1) := qr_o29 hN_cX9_count hn_cX9_count rfl rfl
theorem dX9_count_75 : decode cX9_count 75 = .ok (.iaload, 1) := qr_o46 hN_cX9_count hn_cX9_count rfl rfl
theorem dX9_count_76 : decode cX9_count 76 = .ok (.goto 33, 3) := qr_o167 0 33 rfl hN_cX9_count hn_cX9_count rfl rfl rfl rfl
theorem dX9_count_79 : decode cX9_count 79 = .ok (.iload_n 1, 1) := qr_o27 hN_cX9_count hn_cX9_count rfl rfl
theorem dX9_count_80 : decode cX9_count 80 = .ok (.iconst 1, 1) := qr_o4 hN_cX9_count hn_cX9_count rfl rfl
theorem dX9_count_81 : decode cX9_count 81 = .ok (.if_icmp .ne 14, 3) := qr_o160 0 14 rfl hN_cX9_count hn_cX9_count rfl rfl rfl rfl
theorem dX9_count_84 : decode cX9_count 84 = .ok (.aload_n 0, 1) := qr_o42 hN_cX9_count hn_cX9_count rfl rfl
theorem dX9_count_85 : decode cX9_count 85 = .ok (.iload_n 3, 1) := qr_o29 hN_cX9_count hn_cX9_count rfl rfl
theorem dX9_count_86 : decode cX9_count 86 = .ok (.invokevirtual 218, 3) := qr_o182 0 218 hN_cX9_count hn_cX9_count rfl rfl rfl rfl
theorem dX9_count_89 : decode cX9_count 89 = .ok (.ifCond .eq 19, 3) := qr_o153 0 19 rfl hN_cX9_count hn_cX9_count rfl rfl rfl rfl
theorem dX9_count_92 : decode cX9_count 92 = .ok (.goto 12, 3) := qr_o167 0 12 rfl hN_cX9_count hn_cX9_count rfl rfl rfl rfl
theorem dX9_count_95 : decode cX9_count 95 = .ok (.aload_n 0, 1) := qr_o42 hN_cX9_count hn_cX9_count rfl rfl
theorem dX9_count_96 : decode cX9_count 96 = .ok (.getfield 59, 3) := qr_o180 0 59 hN_cX9_count hn_cX9_count rfl rfl rfl rfl
theorem dX9_count_99 : decode cX9_count 99 = .ok (.iload_n 3, 1) := qr_o29 hN_cX9_count hn_cX9_count rfl rfl
theorem dX9_count_100 : decode cX9_count 100 = .ok (.baload, 1) := qr_o51 hN_cX9_count hn_cX9_count rfl rfl
theorem dX9_count_101 : decode cX9_count 101 = .ok (.ifCond .eq 7, 3) := qr_o153 0 7 rfl hN_cX9_count hn_cX9_count rfl rfl rfl rfl
theorem dX9_count_104 : decode cX9_count 104 = .ok (.iconst 1, 1) := qr_o4 hN_cX9_count hn_cX9_count rfl rfl
theorem dX9_count_105 : decode cX9_count 105 = .ok (.goto 4, 3) := qr_o167 0 4 rfl hN_cX9_count hn_cX9_count rfl rfl rfl rfl
theorem dX9_count_108 : decode cX9_count 108 = .ok (.iconst 0, 1) := qr_o3 hN_cX9_count hn_cX9_count rfl rfl
theorem dX9_count_109 : decode cX9_count 109 = .ok (.iadd, 1) := qr_o96 hN_cX9_count hn_cX9_count rfl rfl
theorem dX9_count_110 : decode cX9_count 110 = .ok (.istore_n 2, 1) := qr_o61 hN_cX9_count hn_cX9_count rfl rfl
theorem dX9_count_111 : decode cX9_count 111 = .ok (.iinc 3 1, 3) := qr_o132 3 1 rfl hN_cX9_count hn_cX9_count rfl rfl rfl rfl
theorem dX9_count_114 : decode cX9_count 114 = .ok (.goto (-59), 3) := qr_w167 255 197 59 rfl rfl hN_cX9_count hn_cX9_count rfl rfl rfl rfl
theorem dX9_count_117 : decode cX9_count 117 = .ok (.iload_n 2, 1) := qr_o28 hN_cX9_count hn_cX9_count rfl rfl
theorem dX9_count_118 : decode cX9_count 118 = .ok (.ireturn, 1) := qr_o172 hN_cX9_count hn_cX9_count rfl rfl
theorem dX9_count_119 : decode cX9_count 119 = .ok (.aload_n 0, 1) := qr_o42 hN_cX9_count hn_cX9_count rfl rfl
theorem dX9_count_120 : decode cX9_count 120 = .ok (.getfield 221, 3) := qr_o180 0 221 hN_cX9_count hn_cX9_count rfl rfl rfl rfl
theorem dX9_count_123 : decode cX9_count 123 = .ok (.ireturn, 1) := qr_o172 hN_cX9_count hn_cX9_count rfl rfl
theorem dX9_count_124 : decode cX9_count 124 = .ok (.aload_n 0, 1) := qr_o42 hN_cX9_count hn_cX9_count rfl rfl
theorem dX9_count_125 : decode cX9_count 125 = .ok (.getfield 257, 3) := qr_o180 1 1 hN_cX9_count hn_cX9_count rfl rfl rfl rfl
theorem dX9_count_128 : decode cX9_count 128 = .ok (.ireturn, 1) := qr_o172 hN_cX9_count hn_cX9_count rfl rfl
theorem dX9_count_129 : decode cX9_count 129 = .ok (.iconst 0, 1) := qr_o3 hN_cX9_count hn_cX9_count rfl rfl
theorem dX9_count_130 : decode cX9_count 130 = .ok (.istore_n 3, 1) := qr_o62 hN_cX9_count hn_cX9_count rfl rfl
theorem dX9_count_131 : decode cX9_count 131 = .ok (.iload_n 3, 1) := qr_o29 hN_cX9_count hn_cX9_count rfl rfl
theorem dX9_count_132 : decode cX9_count 132 = .ok (.aload_n 0, 1) := qr_o42 hN_cX9_count hn_cX9_count rfl rfl
theorem dX9_count_133 : decode cX9_count 133 = .ok (.getfield 257, 3) := qr_o180 1 1 hN_cX9_count hn_cX9_count rfl rfl rfl rfl
theorem dX9_count_136 : decode cX9_count 136 = .ok (.if_icmp .ge 43, 3) := qr_o162 0 43 rfl hN_cX9_count hn_cX9_count rfl rfl rfl rfl
theorem dX9_count_139 : decode cX9_count 139 = .ok (.iload_n 2, 1) := qr_o28 hN_cX9_count hn_cX9_count rfl rfl
theorem dX9_count_140 : decode cX9_count 140 = .ok (.iload_n 1, 1) := qr_o27 hN_cX9_count hn_cX9_count rfl rfl
theorem dX9_count_141 : decode cX9_count 141 = .ok (.iconst 5, 1) := qr_o8 hN_cX9_count hn_cX9_count rfl rfl
theorem dX9_count_142 : decode cX9_count 142 = .ok (.if_icmp .ne 15, 3) := qr_o160 0 15 rfl hN_cX9_count hn_cX9_count rfl rfl rfl rfl
theorem dX9_count_145 : decode cX9_count 145 = .ok (.aload_n 0, 1) := qr_o42 hN_cX9_count hn_cX9_count rfl rfl
theorem dX9_count_146 : decode cX9_count 146 = .ok (.getfield 101, 3) := qr_o180 0 101 hN_cX9_count hn_cX9_count rfl rfl rfl rfl
theorem dX9_count_149 : decode cX9_count 149 = .ok (.iload_n 3, 1) := qr_o29 hN_cX9_count hn_cX9_count rfl rfl
theorem dX9_count_150 : decode cX9_count 150 = .ok (.iaload, 1) := qr_o46 hN_cX9_count hn_cX9_count rfl rfl
theorem dX9_count_151 : decode cX9_count 151 = .ok (.ifCond .lt 19, 3) := qr_o155 0 19 rfl hN_cX9_count hn_cX9_count rfl rfl rfl rfl
theorem dX9_count_154 : decode cX9_count 154 = .ok (.goto 12, 3) := qr_o167 0 12 rfl hN_cX9_count hn_cX9_count rfl rfl rfl rfl
theorem dX9_count_157 : decode cX9_count 157 = .ok (.aload_n 0, 1) := qr_o42 hN_cX9_count hn_cX9_count rfl rfl
theorem dX9_count_158 : decode cX9_count 158 = .ok (.getfield 104, 3) := qr_o180 0 104 hN_cX9_count hn_cX9_count rfl rfl rfl rfl
theorem dX9_count_161 : decode cX9_count 161 = .ok (.iload_n 3, 1) := qr_o29 hN_cX9_count hn_cX9_count rfl rfl
theorem dX9_count_162 : decode cX9_count 162 = .ok (.iaload, 1) := qr_o46 hN_cX9_count hn_cX9_count rfl rfl
theorem dX9_count_163 : decode cX9_count 163 = .ok (.ifCond .lt 7, 3) := qr_o155 0 7 rfl hN_cX9_count hn_cX9_count rfl rfl rfl rfl
theorem dX9_count_166 : decode cX9_count 166 = .ok (.iconst 1, 1) := qr_o4 hN_cX9_count hn_cX9_count rfl rfl
theorem dX9_count_167 : decode cX9_count 167 = .ok (.goto 4, 3) := qr_o167 0 4 rfl hN_cX9_count hn_cX9_count rfl rfl rfl rfl
theorem dX9_count_170 : decode cX9_count 170 = .ok (.iconst 0, 1) := qr_o3 hN_cX9_count hn_cX9_count rfl rfl
theorem dX9_count_171 : decode cX9_count 171 = .ok (.iadd, 1) := qr_o96 hN_cX9_count hn_cX9_count rfl rfl
theorem dX9_count_172 : decode cX9_count 172 = .ok (.istore_n 2, 1) := qr_o61 hN_cX9_count hn_cX9_count rfl rfl
theorem dX9_count_173 : decode cX9_count 173 = .ok (.iinc 3 1, 3) := qr_o132 3 1 rfl hN_cX9_count hn_cX9_count rfl rfl rfl rfl
theorem dX9_count_176 : decode cX9_count 176 = .ok (.goto (-45), 3) := qr_w167 255 211 45 rfl rfl hN_cX9_count hn_cX9_count rfl rfl rfl rfl
theorem dX9_count_179 : decode cX9_count 179 = .ok (.iload_n 2, 1) := qr_o28 hN_cX9_count hn_cX9_count rfl rfl
theorem dX9_count_180 : decode cX9_count 180 = .ok (.ireturn, 1) := qr_o172 hN_cX9_count hn_cX9_count rfl rfl
theorem dX9_count_181 : decode cX9_count 181 = .ok (.iconst (-1), 1) := qr_o2 hN_cX9_count hn_cX9_count rfl rfl
theorem dX9_count_182 : decode cX9_count 182 = .ok (.ireturn, 1) := qr_o172 hN_cX9_count hn_cX9_count rfl rfl
def nN_cX9_isSheet : Nat := 0xac030400a7040700999400b8f1001409851b1300999400b8d5001409851a
theorem hN_cX9_isSheet : qr_n cX9_isSheet.data.toList = nN_cX9_isSheet := by decide +kernel
theorem hn_cX9_isSheet : cX9_isSheet.size = 30 := by decide +kernel
theorem dX9_isSheet_0 : decode cX9_isSheet 0 = .ok (.iload_n 0, 1) := qr_o26 hN_cX9_isSheet hn_cX9_isSheet rfl rfl
theorem dX9_isSheet_1 : decode cX9_isSheet 1 = .ok (.i2l, 1) := qr_o133 hN_cX9_isSheet hn_cX9_isSheet rfl rfl
theorem dX9_isSheet_2 : decode cX9_isSheet 2 = .ok (.lconst 0, 1) := qr_o9 hN_cX9_isSheet hn_cX9_isSheet rfl rfl
theorem dX9_isSheet_3 : decode cX9_isSheet 3 = .ok (.ldc2_w 213, 3) := qr_o20 0 213 hN_cX9_isSheet hn_cX9_isSheet rfl rfl rfl rfl
theorem dX9_isSheet_6 : decode cX9_isSheet 6 = .ok (.invokestatic 148, 3) := qr_o184 0 148 hN_cX9_isSheet hn_cX9_isSheet rfl rfl rfl rfl
theorem dX9_isSheet_9 : decode cX9_isSheet 9 = .ok (.ifCond .eq 19, 3) := qr_o153 0 19 rfl hN_cX9_isSheet hn_cX9_isSheet rfl rfl rfl rfl
theorem dX9_isSheet_12 : decode cX9_isSheet 12 = .ok (.iload_n 1, 1) := qr_o27 hN_cX9_isSheet hn_cX9_isSheet rfl rfl
theorem dX9_isSheet_13 : decode cX9_isSheet 13 = .ok (.i2l, 1) := qr_o133 hN_cX9_isSheet hn_cX9_isSheet rfl rfl
theorem dX9_isSheet_14 : decode cX9_isSheet 14 = .ok (.lconst 0, 1) := qr_o9 hN_cX9_isSheet hn_cX9_isSheet rfl rfl
theorem dX9_isSheet_15 : decode cX9_isSheet 15 = .ok (.ldc2_w 241, 3) := qr_o20 0 241 hN_cX9_isSheet hn_cX9_isSheet rfl rfl rfl rfl
theorem dX9_isSheet_18 : decode cX9_isSheet 18 = .ok (.invokestatic 148, 3) := qr_o184 0 148 hN_cX9_isSheet hn_cX9_isSheet rfl rfl rfl rfl
