theorem dX8_isLane_1 : decode cX8_isLane 1 = .ok (.iconst 0, 1) := by decide +kernel
theorem dX8_isLane_2 : decode cX8_isLane 2 = .ok (.iconst 2, 1) := by decide +kernel
theorem dX8_isLane_3 : decode cX8_isLane 3 = .ok (.invokestatic 39, 3) := by decide +kernel
theorem dX8_isLane_6 : decode cX8_isLane 6 = .ok (.ireturn, 1) := by decide +kernel
theorem dX8_byteOf_0 : decode cX8_byteOf 0 = .ok (.lload_n 0, 1) := by decide +kernel
theorem dX8_byteOf_1 : decode cX8_byteOf 1 = .ok (.bipush 8, 2) := by decide +kernel
theorem dX8_byteOf_3 : decode cX8_byteOf 3 = .ok (.iload_n 2, 1) := by decide +kernel
theorem dX8_byteOf_4 : decode cX8_byteOf 4 = .ok (.imul, 1) := by decide +kernel
theorem dX8_byteOf_5 : decode cX8_byteOf 5 = .ok (.lushr, 1) := by decide +kernel
theorem dX8_byteOf_6 : decode cX8_byteOf 6 = .ok (.l2i, 1) := by decide +kernel
theorem dX8_byteOf_7 : decode cX8_byteOf 7 = .ok (.sipush 255, 3) := by decide +kernel
theorem dX8_byteOf_10 : decode cX8_byteOf 10 = .ok (.iand, 1) := by decide +kernel
theorem dX8_byteOf_11 : decode cX8_byteOf 11 = .ok (.ireturn, 1) := by decide +kernel
theorem dX8_addPiece_0 : decode cX8_addPiece 0 = .ok (.iload_n 2, 1) := by decide +kernel
theorem dX8_addPiece_1 : decode cX8_addPiece 1 = .ok (.invokestatic 109, 3) := by decide +kernel
theorem dX8_addPiece_4 : decode cX8_addPiece 4 = .ok (.ifCond .eq 52, 3) := by decide +kernel
theorem dX8_addPiece_7 : decode cX8_addPiece 7 = .ok (.iload_n 3, 1) := by decide +kernel
theorem dX8_addPiece_8 : decode cX8_addPiece 8 = .ok (.invokestatic 112, 3) := by decide +kernel
theorem dX8_addPiece_11 : decode cX8_addPiece 11 = .ok (.ifCond .eq 45, 3) := by decide +kernel
theorem dX8_addPiece_14 : decode cX8_addPiece 14 = .ok (.iload 4, 2) := by decide +kernel
theorem dX8_addPiece_16 : decode cX8_addPiece 16 = .ok (.iconst 0, 1) := by decide +kernel
theorem dX8_addPiece_17 : decode cX8_addPiece 17 = .ok (.bipush 9, 2) := by decide +kernel
theorem dX8_addPiece_19 : decode cX8_addPiece 19 = .ok (.invokestatic 39, 3) := by decide +kernel
theorem dX8_addPiece_22 : decode cX8_addPiece 22 = .ok (.ifCond .eq 34, 3) := by decide +kernel
theorem dX8_addPiece_25 : decode cX8_addPiece 25 = .ok (.iload 5, 2) := by decide +kernel
theorem dX8_addPiece_27 : decode cX8_addPiece 27 = .ok (.invokestatic 79, 3) := by decide +kernel
theorem dX8_addPiece_30 : decode cX8_addPiece 30 = .ok (.ifCond .eq 26, 3) := by decide +kernel
theorem dX8_addPiece_33 : decode cX8_addPiece 33 = .ok (.iload 6, 2) := by decide +kernel
theorem dX8_addPiece_35 : decode cX8_addPiece 35 = .ok (.iconst 1, 1) := by decide +kernel
theorem dX8_addPiece_36 : decode cX8_addPiece 36 = .ok (.sipush 9999, 3) := by decide +kernel
theorem dX8_addPiece_39 : decode cX8_addPiece 39 = .ok (.invokestatic 39, 3) := by decide +kernel
theorem dX8_addPiece_42 : decode cX8_addPiece 42 = .ok (.ifCond .eq 14, 3) := by decide +kernel
theorem dX8_addPiece_45 : decode cX8_addPiece 45 = .ok (.iload 7, 2) := by decide +kernel
theorem dX8_addPiece_47 : decode cX8_addPiece 47 = .ok (.iconst 1, 1) := by decide +kernel
theorem dX8_addPiece_48 : decode cX8_addPiece 48 = .ok (.bipush 99, 2) := by decide +kernel
theorem dX8_addPiece_50 : decode cX8_addPiece 50 = .ok (.invokestatic 39, 3) := by decide +kernel
theorem dX8_addPiece_53 : decode cX8_addPiece 53 = .ok (.ifCond .ne 5, 3) := by decide +kernel
theorem dX8_addPiece_56 : decode cX8_addPiece 56 = .ok (.iconst (-1), 1) := by decide +kernel
theorem dX8_addPiece_57 : decode cX8_addPiece 57 = .ok (.ireturn, 1) := by decide +kernel
theorem dX8_addPiece_58 : decode cX8_addPiece 58 = .ok (.aload_n 0, 1) := by decide +kernel
theorem dX8_addPiece_59 : decode cX8_addPiece 59 = .ok (.getfield 19, 3) := by decide +kernel
theorem dX8_addPiece_62 : decode cX8_addPiece 62 = .ok (.getfield 282, 3) := by decide +kernel
theorem dX8_addPiece_65 : decode cX8_addPiece 65 = .ok (.bipush 24, 2) := by decide +kernel
theorem dX8_addPiece_67 : decode cX8_addPiece 67 = .ok (.if_icmp .lt 6, 3) := by decide +kernel
theorem dX8_addPiece_70 : decode cX8_addPiece 70 = .ok (.bipush (-3), 2) := by decide +kernel
theorem dX8_addPiece_72 : decode cX8_addPiece 72 = .ok (.ireturn, 1) := by decide +kernel
theorem dX8_addPiece_73 : decode cX8_addPiece 73 = .ok (.aload_n 0, 1) := by decide +kernel
theorem dX8_addPiece_74 : decode cX8_addPiece 74 = .ok (.getfield 19, 3) := by decide +kernel
theorem dX8_addPiece_77 : decode cX8_addPiece 77 = .ok (.new 90, 3) := by decide +kernel
theorem dX8_addPiece_80 : decode cX8_addPiece 80 = .ok (.dup, 1) := by decide +kernel
theorem dX8_addPiece_81 : decode cX8_addPiece 81 = .ok (.iload_n 1, 1) := by decide +kernel
theorem dX8_addPiece_82 : decode cX8_addPiece 82 = .ok (.iload_n 2, 1) := by decide +kernel
theorem dX8_addPiece_83 : decode cX8_addPiece 83 = .ok (.iload_n 3, 1) := by decide +kernel
theorem dX8_addPiece_84 : decode cX8_addPiece 84 = .ok (.iload 4, 2) := by decide +kernel
theorem dX8_addPiece_86 : decode cX8_addPiece 86 = .ok (.iload 5, 2) := by decide +kernel
theorem dX8_addPiece_88 : decode cX8_addPiece 88 = .ok (.iload 6, 2) := by decide +kernel
theorem dX8_addPiece_90 : decode cX8_addPiece 90 = .ok (.iload 7, 2) := by decide +kernel
theorem dX8_addPiece_92 : decode cX8_addPiece 92 = .ok (.invokespecial 322, 3) := by decide +kernel
theorem dX8_addPiece_95 : decode cX8_addPiece 95 = .ok (.invokevirtual 325, 3) := by decide +kernel
theorem dX8_addPiece_98 : decode cX8_addPiece 98 = .ok (.ireturn, 1) := by decide +kernel
theorem dX8_isBookingAsTold_0 : decode cX8_isBookingAsTold 0 = .ok (.iload_n 0, 1) := by decide +kernel
theorem dX8_isBookingAsTold_1 : decode cX8_isBookingAsTold 1 = .ok (.invokestatic 112, 3) := by decide +kernel
theorem dX8_isBookingAsTold_4 : decode cX8_isBookingAsTold 4 = .ok (.ifCond .eq 53, 3) := by decide +kernel
theorem dX8_isBookingAsTold_7 : decode cX8_isBookingAsTold 7 = .ok (.iload_n 1, 1) := by decide +kernel
theorem dX8_isBookingAsTold_8 : decode cX8_isBookingAsTold 8 = .ok (.iconst 0, 1) := by decide +kernel
theorem dX8_isBookingAsTold_9 : decode cX8_isBookingAsTold 9 = .ok (.iconst 2, 1) := by decide +kernel
theorem dX8_isBookingAsTold_10 : decode cX8_isBookingAsTold 10 = .ok (.invokestatic 39, 3) := by decide +kernel
theorem dX8_isBookingAsTold_13 : decode cX8_isBookingAsTold 13 = .ok (.ifCond .eq 44, 3) := by decide +kernel
theorem dX8_isBookingAsTold_16 : decode cX8_isBookingAsTold 16 = .ok (.iload_n 2, 1) := by decide +kernel
theorem dX8_isBookingAsTold_17 : decode cX8_isBookingAsTold 17 = .ok (.bipush 20, 2) := by decide +kernel
theorem dX8_isBookingAsTold_19 : decode cX8_isBookingAsTold 19 = .ok (.sipush 380, 3) := by decide +kernel
theorem dX8_isBookingAsTold_22 : decode cX8_isBookingAsTold 22 = .ok (.invokestatic 39, 3) := by decide +kernel
theorem dX8_isBookingAsTold_25 : decode cX8_isBookingAsTold 25 = .ok (.ifCond .eq 32, 3) := by decide +kernel
theorem dX8_isBookingAsTold_28 : decode cX8_isBookingAsTold 28 = .ok (.iload_n 3, 1) := by decide +kernel
theorem dX8_isBookingAsTold_29 : decode cX8_isBookingAsTold 29 = .ok (.invokestatic 79, 3) := by decide +kernel
theorem dX8_isBookingAsTold_32 : decode cX8_isBookingAsTold 32 = .ok (.ifCond .eq 25, 3) := by decide +kernel
theorem dX8_isBookingAsTold_35 : decode cX8_isBookingAsTold 35 = .ok (.iload 4, 2) := by decide +kernel
theorem dX8_isBookingAsTold_37 : decode cX8_isBookingAsTold 37 = .ok (.invokestatic 160, 3) := by decide +kernel
theorem dX8_isBookingAsTold_40 : decode cX8_isBookingAsTold 40 = .ok (.ifCond .eq 17, 3) := by decide +kernel
theorem dX8_isBookingAsTold_43 : decode cX8_isBookingAsTold 43 = .ok (.iload 5, 2) := by decide +kernel
theorem dX8_isBookingAsTold_45 : decode cX8_isBookingAsTold 45 = .ok (.iconst (-1), 1) := by decide +kernel
theorem dX8_isBookingAsTold_46 : decode cX8_isBookingAsTold 46 = .ok (.iconst 4, 1) := by decide +kernel
theorem dX8_isBookingAsTold_47 : decode cX8_isBookingAsTold 47 = .ok (.invokestatic 39, 3) := by decide +kernel
theorem dX8_isBookingAsTold_50 : decode cX8_isBookingAsTold 50 = .ok (.ifCond .eq 7, 3) := by decide +kernel
theorem dX8_isBookingAsTold_53 : decode cX8_isBookingAsTold 53 = .ok (.iconst 1, 1) := by decide +kernel
theorem dX8_isBookingAsTold_54 : decode cX8_isBookingAsTold 54 = .ok (.goto 4, 3) := by decide +kernel
theorem dX8_isBookingAsTold_57 : decode cX8_isBookingAsTold 57 = .ok (.iconst 0, 1) := by decide +kernel
theorem dX8_isBookingAsTold_58 : decode cX8_isBookingAsTold 58 = .ok (.ireturn, 1) := by decide +kernel
theorem dX8_isBookingOnSheet_0 : decode cX8_isBookingOnSheet 0 = .ok (.aload_n 0, 1) := by decide +kernel
theorem dX8_isBookingOnSheet_1 : decode cX8_isBookingOnSheet 1 = .ok (.iload_n 1, 1) := by decide +kernel
theorem dX8_isBookingOnSheet_2 : decode cX8_isBookingOnSheet 2 = .ok (.invokevirtual 328, 3) := by decide +kernel
theorem dX8_isBookingOnSheet_5 : decode cX8_isBookingOnSheet 5 = .ok (.aload_n 0, 1) := by decide +kernel
theorem dX8_isBookingOnSheet_6 : decode cX8_isBookingOnSheet 6 = .ok (.iload_n 1, 1) := by decide +kernel
theorem dX8_isBookingOnSheet_7 : decode cX8_isBookingOnSheet 7 = .ok (.iconst 1, 1) := by decide +kernel
theorem dX8_isBookingOnSheet_8 : decode cX8_isBookingOnSheet 8 = .ok (.iadd, 1) := by decide +kernel
theorem dX8_isBookingOnSheet_9 : decode cX8_isBookingOnSheet 9 = .ok (.invokevirtual 328, 3) := by decide +kernel
theorem dX8_isBookingOnSheet_12 : decode cX8_isBookingOnSheet 12 = .ok (.aload_n 0, 1) := by decide +kernel
theorem dX8_isBookingOnSheet_13 : decode cX8_isBookingOnSheet 13 = .ok (.iload_n 1, 1) := by decide +kernel
theorem dX8_isBookingOnSheet_14 : decode cX8_isBookingOnSheet 14 = .ok (.iconst 2, 1) := by decide +kernel
theorem dX8_isBookingOnSheet_15 : decode cX8_isBookingOnSheet 15 = .ok (.iadd, 1) := by decide +kernel
theorem dX8_isBookingOnSheet_16 : decode cX8_isBookingOnSheet 16 = .ok (.invokevirtual 328, 3) := by decide +kernel
theorem dX8_isBookingOnSheet_19 : decode cX8_isBookingOnSheet 19 = .ok (.aload_n 0, 1) := by decide +kernel
theorem dX8_isBookingOnSheet_20 : decode cX8_isBookingOnSheet 20 = .ok (.iload_n 1, 1) := by decide +kernel
theorem dX8_isBookingOnSheet_21 : decode cX8_isBookingOnSheet 21 = .ok (.iconst 3, 1) := by decide +kernel
theorem dX8_isBookingOnSheet_22 : decode cX8_isBookingOnSheet 22 = .ok (.iadd, 1) := by decide +kernel
theorem dX8_isBookingOnSheet_23 : decode cX8_isBookingOnSheet 23 = .ok (.invokevirtual 328, 3) := by decide +kernel
theorem dX8_isBookingOnSheet_26 : decode cX8_isBookingOnSheet 26 = .ok (.aload_n 0, 1) := by decide +kernel
theorem dX8_isBookingOnSheet_27 : decode cX8_isBookingOnSheet 27 = .ok (.iload_n 1, 1) := by decide +kernel
theorem dX8_isBookingOnSheet_28 : decode cX8_isBookingOnSheet 28 = .ok (.iconst 4, 1) := by decide +kernel
theorem dX8_isBookingOnSheet_29 : decode cX8_isBookingOnSheet 29 = .ok (.iadd, 1) := by decide +kernel
theorem dX8_isBookingOnSheet_30 : decode cX8_isBookingOnSheet 30 = .ok (.invokevirtual 328, 3) := by decide +kernel
theorem dX8_isBookingOnSheet_33 : decode cX8_isBookingOnSheet 33 = .ok (.aload_n 0, 1) := by decide +kernel
theorem dX8_isBookingOnSheet_34 : decode cX8_isBookingOnSheet 34 = .ok (.iload_n 1, 1) := by decide +kernel
theorem dX8_isBookingOnSheet_35 : decode cX8_isBookingOnSheet 35 = .ok (.iconst 5, 1) := by decide +kernel
theorem dX8_isBookingOnSheet_36 : decode cX8_isBookingOnSheet 36 = .ok (.iadd, 1) := by decide +kernel
theorem dX8_isBookingOnSheet_37 : decode cX8_isBookingOnSheet 37 = .ok (.invokevirtual 328, 3) := by decide +kernel
theorem dX8_isBookingOnSheet_40 : decode cX8_isBookingOnSheet 40 = .ok (.invokestatic 142, 3) := by decide +kernel
theorem dX8_isBookingOnSheet_43 : decode cX8_isBookingOnSheet 43 = .ok (.ireturn, 1) := by decide +kernel
theorem dX8_addBookingOnSheet_0 : decode cX8_addBookingOnSheet 0 = .ok (.aload_n 0, 1) := by decide +kernel
theorem dX8_addBookingOnSheet_1 : decode cX8_addBookingOnSheet 1 = .ok (.getfield 19, 3) := by decide +kernel
theorem dX8_addBookingOnSheet_4 : decode cX8_addBookingOnSheet 4 = .ok (.aload_n 1, 1) := by decide +kernel
theorem dX8_addBookingOnSheet_5 : decode cX8_addBookingOnSheet 5 = .ok (.iload_n 2, 1) := by decide +kernel
theorem dX8_addBookingOnSheet_6 : decode cX8_addBookingOnSheet 6 = .ok (.invokevirtual 328, 3) := by decide +kernel
theorem dX8_addBookingOnSheet_9 : decode cX8_addBookingOnSheet 9 = .ok (.aload_n 1, 1) := by decide +kernel
theorem dX8_addBookingOnSheet_10 : decode cX8_addBookingOnSheet 10 = .ok (.iload_n 2, 1) := by decide +kernel
theorem dX8_addBookingOnSheet_11 : decode cX8_addBookingOnSheet 11 = .ok (.iconst 1, 1) := by decide +kernel
theorem dX8_addBookingOnSheet_12 : decode cX8_addBookingOnSheet 12 = .ok (.iadd, 1) := by decide +kernel
theorem dX8_addBookingOnSheet_13 : decode cX8_addBookingOnSheet 13 = .ok (.invokevirtual 328, 3) := by decide +kernel
theorem dX8_addBookingOnSheet_16 : decode cX8_addBookingOnSheet 16 = .ok (.aload_n 1, 1) := by decide +kernel
theorem dX8_addBookingOnSheet_17 : decode cX8_addBookingOnSheet 17 = .ok (.iload_n 2, 1) := by decide +kernel
theorem dX8_addBookingOnSheet_18 : decode cX8_addBookingOnSheet 18 = .ok (.iconst 2, 1) := by decide +kernel
theorem dX8_addBookingOnSheet_19 : decode cX8_addBookingOnSheet 19 = .ok (.iadd, 1) := by decide +kernel
theorem dX8_addBookingOnSheet_20 : decode cX8_addBookingOnSheet 20 = .ok (.invokevirtual 328, 3) := by decide +kernel
theorem dX8_addBookingOnSheet_23 : decode cX8_addBookingOnSheet 23 = .ok (.aload_n 1, 1) := by decide +kernel
theorem dX8_addBookingOnSheet_24 : decode cX8_addBookingOnSheet 24 = .ok (.iload_n 2, 1) := by decide +kernel
theorem dX8_addBookingOnSheet_25 : decode cX8_addBookingOnSheet 25 = .ok (.iconst 3, 1) := by decide +kernel
theorem dX8_addBookingOnSheet_26 : decode cX8_addBookingOnSheet 26 = .ok (.iadd, 1) := by decide +kernel
theorem dX8_addBookingOnSheet_27 : decode cX8_addBookingOnSheet 27 = .ok (.invokevirtual 328, 3) := by decide +kernel
theorem dX8_addBookingOnSheet_30 : decode cX8_addBookingOnSheet 30 = .ok (.aload_n 1, 1) := by decide +kernel
theorem dX8_addBookingOnSheet_31 : decode cX8_addBookingOnSheet 31 = .ok (.iload_n 2, 1) := by decide +kernel
theorem dX8_addBookingOnSheet_32 : decode cX8_addBookingOnSheet 32 = .ok (.iconst 4, 1) := by decide +kernel
theorem dX8_addBookingOnSheet_33 : decode cX8_addBookingOnSheet 33 = .ok (.iadd, 1) := by decide +kernel
theorem dX8_addBookingOnSheet_34 : decode cX8_addBookingOnSheet 34 = .ok (.invokevirtual 328, 3) := by decide +kernel
theorem dX8_addBookingOnSheet_37 : decode cX8_addBookingOnSheet 37 = .ok (.aload_n 1, 1) := by decide +kernel
theorem dX8_addBookingOnSheet_38 : decode cX8_addBookingOnSheet 38 = .ok (.iload_n 2, 1) := by decide +kernel
theorem dX8_addBookingOnSheet_39 : decode cX8_addBookingOnSheet 39 = .ok (.iconst 5, 1) := by decide +kernel
theorem dX8_addBookingOnSheet_40 : decode cX8_addBookingOnSheet 40 = .ok (.iadd, 1) := by decide +kernel
theorem dX8_addBookingOnSheet_41 : decode cX8_addBookingOnSheet 41 = .ok (.invokevirtual 328, 3) := by decide +kernel
theorem dX8_addBookingOnSheet_44 : decode cX8_addBookingOnSheet 44 = .ok (.invokevirtual 149, 3) := by decide +kernel
theorem dX8_addBookingOnSheet_47 : decode cX8_addBookingOnSheet 47 = .ok (.return_, 1) := by decide +kernel
theorem dX9_in_0 : decode cX9_in 0 = .ok (.lload_n 0, 1) := by decide +kernel
theorem dX9_in_1 : decode cX9_in 1 = .ok (.lload_n 2, 1) := by decide +kernel
theorem dX9_in_2 : decode cX9_in 2 = .ok (.lcmp, 1) := by decide +kernel
theorem dX9_in_3 : decode cX9_in 3 = .ok (.ifCond .lt 14, 3) := by decide +kernel
theorem dX9_in_6 : decode cX9_in 6 = .ok (.lload_n 0, 1) := by decide +kernel
theorem dX9_in_7 : decode cX9_in 7 = .ok (.lload 4, 2) := by decide +kernel
theorem dX9_in_9 : decode cX9_in 9 = .ok (.lcmp, 1) := by decide +kernel
theorem dX9_in_10 : decode cX9_in 10 = .ok (.ifCond .gt 7, 3) := by decide +kernel
theorem dX9_in_13 : decode cX9_in 13 = .ok (.iconst 1, 1) := by decide +kernel
theorem dX9_in_14 : decode cX9_in 14 = .ok (.goto 4, 3) := by decide +kernel
theorem dX9_in_17 : decode cX9_in 17 = .ok (.iconst 0, 1) := by decide +kernel
theorem dX9_in_18 : decode cX9_in 18 = .ok (.ireturn, 1) := by decide +kernel
theorem dX9_init_0 : decode cX9_init 0 = .ok (.aload_n 0, 1) := by decide +kernel
theorem dX9_init_1 : decode cX9_init 1 = .ok (.invokespecial 1, 3) := by decide +kernel
theorem dX9_init_4 : decode cX9_init 4 = .ok (.aload_n 0, 1) := by decide +kernel
theorem dX9_init_5 : decode cX9_init 5 = .ok (.bipush 8, 2) := by decide +kernel
theorem dX9_init_7 : decode cX9_init 7 = .ok (.newarray .int, 2) := by decide +kernel
theorem dX9_init_9 : decode cX9_init 9 = .ok (.dup, 1) := by decide +kernel
theorem dX9_init_10 : decode cX9_init 10 = .ok (.iconst 0, 1) := by decide +kernel
theorem dX9_init_11 : decode cX9_init 11 = .ok (.bipush 104, 2) := by decide +kernel
theorem dX9_init_13 : decode cX9_init 13 = .ok (.iastore, 1) := by decide +kernel
theorem dX9_init_14 : decode cX9_init 14 = .ok (.dup, 1) := by decide +kernel
theorem dX9_init_15 : decode cX9_init 15 = .ok (.iconst 1, 1) := by decide +kernel
theorem dX9_init_16 : decode cX9_init 16 = .ok (.bipush 99, 2) := by decide +kernel
theorem dX9_init_18 : decode cX9_init 18 = .ok (.iastore, 1) := by decide +kernel
theorem dX9_init_19 : decode cX9_init 19 = .ok (.dup, 1) := by decide +kernel
theorem dX9_init_20 : decode cX9_init 20 = .ok (.iconst 2, 1) := by decide +kernel
theorem dX9_init_21 : decode cX9_init 21 = .ok (.bipush 108, 2) := by decide +kernel
theorem dX9_init_23 : decode cX9_init 23 = .ok (.iastore, 1) := by decide +kernel
theorem dX9_init_24 : decode cX9_init 24 = .ok (.dup, 1) := by decide +kernel
theorem dX9_init_25 : decode cX9_init 25 = .ok (.iconst 3, 1) := by decide +kernel
theorem dX9_init_26 : decode cX9_init 26 = .ok (.bipush 100, 2) := by decide +kernel
theorem dX9_init_28 : decode cX9_init 28 = .ok (.iastore, 1) := by decide +kernel
theorem dX9_init_29 : decode cX9_init 29 = .ok (.dup, 1) := by decide +kernel
theorem dX9_init_30 : decode cX9_init 30 = .ok (.iconst 4, 1) := by decide +kernel
theorem dX9_init_31 : decode cX9_init 31 = .ok (.bipush 101, 2) := by decide +kernel
theorem dX9_init_33 : decode cX9_init 33 = .ok (.iastore, 1) := by decide +kernel
theorem dX9_init_34 : decode cX9_init 34 = .ok (.dup, 1) := by decide +kernel
theorem dX9_init_35 : decode cX9_init 35 = .ok (.iconst 5, 1) := by decide +kernel
theorem dX9_init_36 : decode cX9_init 36 = .ok (.bipush 115, 2) := by decide +kernel
theorem dX9_init_38 : decode cX9_init 38 = .ok (.iastore, 1) := by decide +kernel
theorem dX9_init_39 : decode cX9_init 39 = .ok (.dup, 1) := by decide +kernel
theorem dX9_init_40 : decode cX9_init 40 = .ok (.bipush 6, 2) := by decide +kernel
theorem dX9_init_42 : decode cX9_init 42 = .ok (.bipush 116, 2) := by decide +kernel
theorem dX9_init_44 : decode cX9_init 44 = .ok (.iastore, 1) := by decide +kernel
theorem dX9_init_45 : decode cX9_init 45 = .ok (.dup, 1) := by decide +kernel
theorem dX9_init_46 : decode cX9_init 46 = .ok (.bipush 7, 2) := by decide +kernel
theorem dX9_init_48 : decode cX9_init 48 = .ok (.bipush 119, 2) := by decide +kernel
theorem dX9_init_50 : decode cX9_init 50 = .ok (.iastore, 1) := by decide +kernel
theorem dX9_init_51 : decode cX9_init 51 = .ok (.putfield 7, 3) := by decide +kernel
theorem dX9_init_54 : decode cX9_init 54 = .ok (.aload_n 0, 1) := by decide +kernel
theorem dX9_init_55 : decode cX9_init 55 = .ok (.bipush 8, 2) := by decide +kernel
theorem dX9_init_57 : decode cX9_init 57 = .ok (.newarray .int, 2) := by decide +kernel
theorem dX9_init_59 : decode cX9_init 59 = .ok (.dup, 1) := by decide +kernel
theorem dX9_init_60 : decode cX9_init 60 = .ok (.iconst 0, 1) := by decide +kernel
theorem dX9_init_61 : decode cX9_init 61 = .ok (.bipush 9, 2) := by decide +kernel
theorem dX9_init_63 : decode cX9_init 63 = .ok (.iastore, 1) := by decide +kernel
theorem dX9_init_64 : decode cX9_init 64 = .ok (.dup, 1) := by decide +kernel
theorem dX9_init_65 : decode cX9_init 65 = .ok (.iconst 1, 1) := by decide +kernel
theorem dX9_init_66 : decode cX9_init 66 = .ok (.bipush 9, 2) := by decide +kernel
theorem dX9_init_68 : decode cX9_init 68 = .ok (.iastore, 1) := by decide +kernel
theorem dX9_init_69 : decode cX9_init 69 = .ok (.dup, 1) := by decide +kernel
theorem dX9_init_70 : decode cX9_init 70 = .ok (.iconst 2, 1) := by decide +kernel
theorem dX9_init_71 : decode cX9_init 71 = .ok (.sipush 999, 3) := by decide +kernel
theorem dX9_init_74 : decode cX9_init 74 = .ok (.iastore, 1) := by decide +kernel
theorem dX9_init_75 : decode cX9_init 75 = .ok (.dup, 1) := by decide +kernel
theorem dX9_init_76 : decode cX9_init 76 = .ok (.iconst 3, 1) := by decide +kernel
theorem dX9_init_77 : decode cX9_init 77 = .ok (.bipush 100, 2) := by decide +kernel
theorem dX9_init_79 : decode cX9_init 79 = .ok (.iastore, 1) := by decide +kernel
theorem dX9_init_80 : decode cX9_init 80 = .ok (.dup, 1) := by decide +kernel
theorem dX9_init_81 : decode cX9_init 81 = .ok (.iconst 4, 1) := by decide +kernel
theorem dX9_init_82 : decode cX9_init 82 = .ok (.bipush 9, 2) := by decide +kernel
theorem dX9_init_84 : decode cX9_init 84 = .ok (.iastore, 1) := by decide +kernel
theorem dX9_init_85 : decode cX9_init 85 = .ok (.dup, 1) := by decide +kernel
theorem dX9_init_86 : decode cX9_init 86 = .ok (.iconst 5, 1) := by decide +kernel
theorem dX9_init_87 : decode cX9_init 87 = .ok (.sipush 999, 3) := by decide +kernel
theorem dX9_init_90 : decode cX9_init 90 = .ok (.iastore, 1) := by decide +kernel
theorem dX9_init_91 : decode cX9_init 91 = .ok (.dup, 1) := by decide +kernel
theorem dX9_init_92 : decode cX9_init 92 = .ok (.bipush 6, 2) := by decide +kernel
theorem dX9_init_94 : decode cX9_init 94 = .ok (.sipush 999, 3) := by decide +kernel
theorem dX9_init_97 : decode cX9_init 97 = .ok (.iastore, 1) := by decide +kernel
theorem dX9_init_98 : decode cX9_init 98 = .ok (.dup, 1) := by decide +kernel
theorem dX9_init_99 : decode cX9_init 99 = .ok (.bipush 7, 2) := by decide +kernel
theorem dX9_init_101 : decode cX9_init 101 = .ok (.iconst 3, 1) := by decide +kernel
theorem dX9_init_102 : decode cX9_init 102 = .ok (.iastore, 1) := by decide +kernel
theorem dX9_init_103 : decode cX9_init 103 = .ok (.putfield 13, 3) := by decide +kernel
theorem dX9_init_106 : decode cX9_init 106 = .ok (.aload_n 0, 1) := by decide +kernel
theorem dX9_init_107 : decode cX9_init 107 = .ok (.bipush 8, 2) := by decide +kernel
theorem dX9_init_109 : decode cX9_init 109 = .ok (.newarray .int, 2) := by decide +kernel
theorem dX9_init_111 : decode cX9_init 111 = .ok (.dup, 1) := by decide +kernel
theorem dX9_init_112 : decode cX9_init 112 = .ok (.iconst 0, 1) := by decide +kernel
theorem dX9_init_113 : decode cX9_init 113 = .ok (.iconst 1, 1) := by decide +kernel
theorem dX9_init_114 : decode cX9_init 114 = .ok (.iastore, 1) := by decide +kernel
theorem dX9_init_115 : decode cX9_init 115 = .ok (.dup, 1) := by decide +kernel
theorem dX9_init_116 : decode cX9_init 116 = .ok (.iconst 1, 1) := by decide +kernel
theorem dX9_init_117 : decode cX9_init 117 = .ok (.iconst 2, 1) := by decide +kernel
theorem dX9_init_118 : decode cX9_init 118 = .ok (.iastore, 1) := by decide +kernel
theorem dX9_init_119 : decode cX9_init 119 = .ok (.dup, 1) := by decide +kernel
theorem dX9_init_120 : decode cX9_init 120 = .ok (.iconst 2, 1) := by decide +kernel
theorem dX9_init_121 : decode cX9_init 121 = .ok (.bipush 50, 2) := by decide +kernel
theorem dX9_init_123 : decode cX9_init 123 = .ok (.iastore, 1) := by decide +kernel
theorem dX9_init_124 : decode cX9_init 124 = .ok (.dup, 1) := by decide +kernel
theorem dX9_init_125 : decode cX9_init 125 = .ok (.iconst 3, 1) := by decide +kernel
theorem dX9_init_126 : decode cX9_init 126 = .ok (.bipush 30, 2) := by decide +kernel
theorem dX9_init_128 : decode cX9_init 128 = .ok (.iastore, 1) := by decide +kernel
theorem dX9_init_129 : decode cX9_init 129 = .ok (.dup, 1) := by decide +kernel
theorem dX9_init_130 : decode cX9_init 130 = .ok (.iconst 4, 1) := by decide +kernel
theorem dX9_init_131 : decode cX9_init 131 = .ok (.iconst 1, 1) := by decide +kernel
theorem dX9_init_132 : decode cX9_init 132 = .ok (.iastore, 1) := by decide +kernel
theorem dX9_init_133 : decode cX9_init 133 = .ok (.dup, 1) := by decide +kernel
theorem dX9_init_134 : decode cX9_init 134 = .ok (.iconst 5, 1) := by decide +kernel
theorem dX9_init_135 : decode cX9_init 135 = .ok (.sipush 200, 3) := by decide +kernel
theorem dX9_init_138 : decode cX9_init 138 = .ok (.iastore, 1) := by decide +kernel
theorem dX9_init_139 : decode cX9_init 139 = .ok (.dup, 1) := by decide +kernel
theorem dX9_init_140 : decode cX9_init 140 = .ok (.bipush 6, 2) := by decide +kernel
theorem dX9_init_142 : decode cX9_init 142 = .ok (.sipush 900, 3) := by decide +kernel
theorem dX9_init_145 : decode cX9_init 145 = .ok (.iastore, 1) := by decide +kernel
theorem dX9_init_146 : decode cX9_init 146 = .ok (.dup, 1) := by decide +kernel
theorem dX9_init_147 : decode cX9_init 147 = .ok (.bipush 7, 2) := by decide +kernel
theorem dX9_init_149 : decode cX9_init 149 = .ok (.iconst 3, 1) := by decide +kernel
theorem dX9_init_150 : decode cX9_init 150 = .ok (.iastore, 1) := by decide +kernel
theorem dX9_init_151 : decode cX9_init 151 = .ok (.putfield 16, 3) := by decide +kernel
theorem dX9_init_154 : decode cX9_init 154 = .ok (.aload_n 0, 1) := by decide +kernel
theorem dX9_init_155 : decode cX9_init 155 = .ok (.bipush 8, 2) := by decide +kernel
theorem dX9_init_157 : decode cX9_init 157 = .ok (.newarray .int, 2) := by decide +kernel
theorem dX9_init_159 : decode cX9_init 159 = .ok (.putfield 19, 3) := by decide +kernel
theorem dX9_init_162 : decode cX9_init 162 = .ok (.aload_n 0, 1) := by decide +kernel
theorem dX9_init_163 : decode cX9_init 163 = .ok (.bipush 60, 2) := by decide +kernel
theorem dX9_init_165 : decode cX9_init 165 = .ok (.newarray .int, 2) := by decide +kernel
theorem dX9_init_167 : decode cX9_init 167 = .ok (.putfield 22, 3) := by decide +kernel
theorem dX9_init_170 : decode cX9_init 170 = .ok (.aload_n 0, 1) := by decide +kernel
theorem dX9_init_171 : decode cX9_init 171 = .ok (.bipush 81, 2) := by decide +kernel
theorem dX9_init_173 : decode cX9_init 173 = .ok (.newarray .int, 2) := by decide +kernel
theorem dX9_init_175 : decode cX9_init 175 = .ok (.putfield 25, 3) := by decide +kernel
theorem dX9_init_178 : decode cX9_init 178 = .ok (.aload_n 0, 1) := by decide +kernel
theorem dX9_init_179 : decode cX9_init 179 = .ok (.bipush 24, 2) := by decide +kernel
theorem dX9_init_181 : decode cX9_init 181 = .ok (.newarray .int, 2) := by decide +kernel
theorem dX9_init_183 : decode cX9_init 183 = .ok (.putfield 28, 3) := by decide +kernel
theorem dX9_init_186 : decode cX9_init 186 = .ok (.aload_n 0, 1) := by decide +kernel
theorem dX9_init_187 : decode cX9_init 187 = .ok (.bipush 24, 2) := by decide +kernel
theorem dX9_init_189 : decode cX9_init 189 = .ok (.newarray .int, 2) := by decide +kernel
theorem dX9_init_191 : decode cX9_init 191 = .ok (.putfield 31, 3) := by decide +kernel
theorem dX9_init_194 : decode cX9_init 194 = .ok (.aload_n 0, 1) := by decide +kernel
theorem dX9_init_195 : decode cX9_init 195 = .ok (.bipush 24, 2) := by decide +kernel
theorem dX9_init_197 : decode cX9_init 197 = .ok (.newarray .int, 2) := by decide +kernel
theorem dX9_init_199 : decode cX9_init 199 = .ok (.putfield 34, 3) := by decide +kernel
theorem dX9_init_202 : decode cX9_init 202 = .ok (.aload_n 0, 1) := by decide +kernel
theorem dX9_init_203 : decode cX9_init 203 = .ok (.bipush 24, 2) := by decide +kernel
theorem dX9_init_205 : decode cX9_init 205 = .ok (.newarray .int, 2) := by decide +kernel
theorem dX9_init_207 : decode cX9_init 207 = .ok (.putfield 37, 3) := by decide +kernel
theorem dX9_init_210 : decode cX9_init 210 = .ok (.aload_n 0, 1) := by decide +kernel
theorem dX9_init_211 : decode cX9_init 211 = .ok (.bipush 24, 2) := by decide +kernel
theorem dX9_init_213 : decode cX9_init 213 = .ok (.newarray .int, 2) := by decide +kernel
theorem dX9_init_215 : decode cX9_init 215 = .ok (.putfield 40, 3) := by decide +kernel
theorem dX9_init_218 : decode cX9_init 218 = .ok (.aload_n 0, 1) := by decide +kernel
theorem dX9_init_219 : decode cX9_init 219 = .ok (.bipush 24, 2) := by decide +kernel
theorem dX9_init_221 : decode cX9_init 221 = .ok (.newarray .int, 2) := by decide +kernel
theorem dX9_init_223 : decode cX9_init 223 = .ok (.putfield 43, 3) := by decide +kernel
theorem dX9_init_226 : decode cX9_init 226 = .ok (.aload_n 0, 1) := by decide +kernel
theorem dX9_init_227 : decode cX9_init 227 = .ok (.bipush 24, 2) := by decide +kernel
theorem dX9_init_229 : decode cX9_init 229 = .ok (.newarray .int, 2) := by decide +kernel
theorem dX9_init_231 : decode cX9_init 231 = .ok (.putfield 46, 3) := by decide +kernel
theorem dX9_init_234 : decode cX9_init 234 = .ok (.aload_n 0, 1) := by decide +kernel
theorem dX9_init_235 : decode cX9_init 235 = .ok (.bipush 24, 2) := by decide +kernel
theorem dX9_init_237 : decode cX9_init 237 = .ok (.newarray .int, 2) := by decide +kernel
theorem dX9_init_239 : decode cX9_init 239 = .ok (.putfield 49, 3) := by decide +kernel
theorem dX9_init_242 : decode cX9_init 242 = .ok (.aload_n 0, 1) := by decide +kernel
theorem dX9_init_243 : decode cX9_init 243 = .ok (.bipush 24, 2) := by decide +kernel
theorem dX9_init_245 : decode cX9_init 245 = .ok (.newarray .int, 2) := by decide +kernel
theorem dX9_init_247 : decode cX9_init 247 = .ok (.putfield 52, 3) := by decide +kernel
theorem dX9_init_250 : decode cX9_init 250 = .ok (.aload_n 0, 1) := by decide +kernel
theorem dX9_init_251 : decode cX9_init 251 = .ok (.bipush 24, 2) := by decide +kernel
theorem dX9_init_253 : decode cX9_init 253 = .ok (.newarray .boolean, 2) := by decide +kernel
theorem dX9_init_255 : decode cX9_init 255 = .ok (.putfield 55, 3) := by decide +kernel
theorem dX9_init_258 : decode cX9_init 258 = .ok (.aload_n 0, 1) := by decide +kernel
theorem dX9_init_259 : decode cX9_init 259 = .ok (.bipush 24, 2) := by decide +kernel
theorem dX9_init_261 : decode cX9_init 261 = .ok (.newarray .boolean, 2) := by decide +kernel
theorem dX9_init_263 : decode cX9_init 263 = .ok (.putfield 59, 3) := by decide +kernel
theorem dX9_init_266 : decode cX9_init 266 = .ok (.aload_n 0, 1) := by decide +kernel
theorem dX9_init_267 : decode cX9_init 267 = .ok (.bipush 24, 2) := by decide +kernel
theorem dX9_init_269 : decode cX9_init 269 = .ok (.newarray .int, 2) := by decide +kernel
theorem dX9_init_271 : decode cX9_init 271 = .ok (.putfield 62, 3) := by decide +kernel
theorem dX9_init_274 : decode cX9_init 274 = .ok (.aload_n 0, 1) := by decide +kernel
theorem dX9_init_275 : decode cX9_init 275 = .ok (.bipush 20, 2) := by decide +kernel
theorem dX9_init_277 : decode cX9_init 277 = .ok (.newarray .int, 2) := by decide +kernel
theorem dX9_init_279 : decode cX9_init 279 = .ok (.putfield 65, 3) := by decide +kernel
theorem dX9_init_282 : decode cX9_init 282 = .ok (.aload_n 0, 1) := by decide +kernel
theorem dX9_init_283 : decode cX9_init 283 = .ok (.bipush 20, 2) := by decide +kernel
theorem dX9_init_285 : decode cX9_init 285 = .ok (.newarray .int, 2) := by decide +kernel
theorem dX9_init_287 : decode cX9_init 287 = .ok (.putfield 68, 3) := by decide +kernel
theorem dX9_init_290 : decode cX9_init 290 = .ok (.aload_n 0, 1) := by decide +kernel
theorem dX9_init_291 : decode cX9_init 291 = .ok (.bipush 20, 2) := by decide +kernel
theorem dX9_init_293 : decode cX9_init 293 = .ok (.newarray .int, 2) := by decide +kernel
theorem dX9_init_295 : decode cX9_init 295 = .ok (.putfield 71, 3) := by decide +kernel
theorem dX9_init_298 : decode cX9_init 298 = .ok (.aload_n 0, 1) := by decide +kernel
theorem dX9_init_299 : decode cX9_init 299 = .ok (.bipush 20, 2) := by decide +kernel
theorem dX9_init_301 : decode cX9_init 301 = .ok (.newarray .int, 2) := by decide +kernel
theorem dX9_init_303 : decode cX9_init 303 = .ok (.putfield 74, 3) := by decide +kernel
theorem dX9_init_306 : decode cX9_init 306 = .ok (.aload_n 0, 1) := by decide +kernel
theorem dX9_init_307 : decode cX9_init 307 = .ok (.bipush 6, 2) := by decide +kernel
theorem dX9_init_309 : decode cX9_init 309 = .ok (.newarray .int, 2) := by decide +kernel
theorem dX9_init_311 : decode cX9_init 311 = .ok (.putfield 77, 3) := by decide +kernel
theorem dX9_init_314 : decode cX9_init 314 = .ok (.aload_n 0, 1) := by decide +kernel
theorem dX9_init_315 : decode cX9_init 315 = .ok (.bipush 6, 2) := by decide +kernel
theorem dX9_init_317 : decode cX9_init 317 = .ok (.newarray .int, 2) := by decide +kernel
theorem dX9_init_319 : decode cX9_init 319 = .ok (.putfield 80, 3) := by decide +kernel
theorem dX9_init_322 : decode cX9_init 322 = .ok (.aload_n 0, 1) := by decide +kernel
theorem dX9_init_323 : decode cX9_init 323 = .ok (.bipush 30, 2) := by decide +kernel
theorem dX9_init_325 : decode cX9_init 325 = .ok (.newarray .int, 2) := by decide +kernel
theorem dX9_init_327 : decode cX9_init 327 = .ok (.putfield 83, 3) := by decide +kernel
theorem dX9_init_330 : decode cX9_init 330 = .ok (.aload_n 0, 1) := by decide +kernel
theorem dX9_init_331 : decode cX9_init 331 = .ok (.bipush 30, 2) := by decide +kernel
theorem dX9_init_333 : decode cX9_init 333 = .ok (.newarray .int, 2) := by decide +kernel
theorem dX9_init_335 : decode cX9_init 335 = .ok (.putfield 86, 3) := by decide +kernel
theorem dX9_init_338 : decode cX9_init 338 = .ok (.aload_n 0, 1) := by decide +kernel
theorem dX9_init_339 : decode cX9_init 339 = .ok (.bipush 30, 2) := by decide +kernel
theorem dX9_init_341 : decode cX9_init 341 = .ok (.newarray .int, 2) := by decide +kernel
theorem dX9_init_343 : decode cX9_init 343 = .ok (.putfield 89, 3) := by decide +kernel
theorem dX9_init_346 : decode cX9_init 346 = .ok (.aload_n 0, 1) := by decide +kernel
theorem dX9_init_347 : decode cX9_init 347 = .ok (.bipush 30, 2) := by decide +kernel
theorem dX9_init_349 : decode cX9_init 349 = .ok (.newarray .int, 2) := by decide +kernel
theorem dX9_init_351 : decode cX9_init 351 = .ok (.putfield 92, 3) := by decide +kernel
theorem dX9_init_354 : decode cX9_init 354 = .ok (.aload_n 0, 1) := by decide +kernel
theorem dX9_init_355 : decode cX9_init 355 = .ok (.bipush 30, 2) := by decide +kernel
theorem dX9_init_357 : decode cX9_init 357 = .ok (.newarray .int, 2) := by decide +kernel
theorem dX9_init_359 : decode cX9_init 359 = .ok (.putfield 95, 3) := by decide +kernel
theorem dX9_init_362 : decode cX9_init 362 = .ok (.aload_n 0, 1) := by decide +kernel
theorem dX9_init_363 : decode cX9_init 363 = .ok (.bipush 30, 2) := by decide +kernel
theorem dX9_init_365 : decode cX9_init 365 = .ok (.newarray .int, 2) := by decide +kernel
theorem dX9_init_367 : decode cX9_init 367 = .ok (.putfield 98, 3) := by decide +kernel
theorem dX9_init_370 : decode cX9_init 370 = .ok (.aload_n 0, 1) := by decide +kernel
theorem dX9_init_371 : decode cX9_init 371 = .ok (.bipush 30, 2) := by decide +kernel
theorem dX9_init_373 : decode cX9_init 373 = .ok (.newarray .int, 2) := by decide +kernel
theorem dX9_init_375 : decode cX9_init 375 = .ok (.putfield 101, 3) := by decide +kernel
theorem dX9_init_378 : decode cX9_init 378 = .ok (.aload_n 0, 1) := by decide +kernel
theorem dX9_init_379 : decode cX9_init 379 = .ok (.bipush 30, 2) := by decide +kernel
theorem dX9_init_381 : decode cX9_init 381 = .ok (.newarray .int, 2) := by decide +kernel
theorem dX9_init_383 : decode cX9_init 383 = .ok (.putfield 104, 3) := by decide +kernel
theorem dX9_init_386 : decode cX9_init 386 = .ok (.aload_n 0, 1) := by decide +kernel
theorem dX9_init_387 : decode cX9_init 387 = .ok (.bipush 30, 2) := by decide +kernel
theorem dX9_init_389 : decode cX9_init 389 = .ok (.newarray .int, 2) := by decide +kernel
theorem dX9_init_391 : decode cX9_init 391 = .ok (.putfield 107, 3) := by decide +kernel
theorem dX9_init_394 : decode cX9_init 394 = .ok (.aload_n 0, 1) := by decide +kernel
theorem dX9_init_395 : decode cX9_init 395 = .ok (.bipush 30, 2) := by decide +kernel
theorem dX9_init_397 : decode cX9_init 397 = .ok (.newarray .int, 2) := by decide +kernel
theorem dX9_init_399 : decode cX9_init 399 = .ok (.putfield 110, 3) := by decide +kernel
theorem dX9_init_402 : decode cX9_init 402 = .ok (.aload_n 0, 1) := by decide +kernel
theorem dX9_init_403 : decode cX9_init 403 = .ok (.bipush 30, 2) := by decide +kernel
theorem dX9_init_405 : decode cX9_init 405 = .ok (.newarray .int, 2) := by decide +kernel
theorem dX9_init_407 : decode cX9_init 407 = .ok (.putfield 113, 3) := by decide +kernel
theorem dX9_init_410 : decode cX9_init 410 = .ok (.aload_n 0, 1) := by decide +kernel
theorem dX9_init_411 : decode cX9_init 411 = .ok (.bipush 30, 2) := by decide +kernel
theorem dX9_init_413 : decode cX9_init 413 = .ok (.newarray .int, 2) := by decide +kernel
theorem dX9_init_415 : decode cX9_init 415 = .ok (.putfield 116, 3) := by decide +kernel
theorem dX9_init_418 : decode cX9_init 418 = .ok (.aload_n 0, 1) := by decide +kernel
theorem dX9_init_419 : decode cX9_init 419 = .ok (.bipush 30, 2) := by decide +kernel
theorem dX9_init_421 : decode cX9_init 421 = .ok (.newarray .int, 2) := by decide +kernel
theorem dX9_init_423 : decode cX9_init 423 = .ok (.putfield 119, 3) := by decide +kernel
theorem dX9_init_426 : decode cX9_init 426 = .ok (.aload_n 0, 1) := by decide +kernel
theorem dX9_init_427 : decode cX9_init 427 = .ok (.bipush 30, 2) := by decide +kernel
theorem dX9_init_429 : decode cX9_init 429 = .ok (.newarray .int, 2) := by decide +kernel
theorem dX9_init_431 : decode cX9_init 431 = .ok (.putfield 122, 3) := by decide +kernel
theorem dX9_init_434 : decode cX9_init 434 = .ok (.aload_n 0, 1) := by decide +kernel
theorem dX9_init_435 : decode cX9_init 435 = .ok (.bipush 30, 2) := by decide +kernel
theorem dX9_init_437 : decode cX9_init 437 = .ok (.newarray .int, 2) := by decide +kernel
theorem dX9_init_439 : decode cX9_init 439 = .ok (.putfield 125, 3) := by decide +kernel
theorem dX9_init_442 : decode cX9_init 442 = .ok (.aload_n 0, 1) := by decide +kernel
theorem dX9_init_443 : decode cX9_init 443 = .ok (.bipush 8, 2) := by decide +kernel
theorem dX9_init_445 : decode cX9_init 445 = .ok (.newarray .int, 2) := by decide +kernel
theorem dX9_init_447 : decode cX9_init 447 = .ok (.putfield 128, 3) := by decide +kernel
theorem dX9_init_450 : decode cX9_init 450 = .ok (.aload_n 0, 1) := by decide +kernel
theorem dX9_init_451 : decode cX9_init 451 = .ok (.bipush 8, 2) := by decide +kernel
theorem dX9_init_453 : decode cX9_init 453 = .ok (.newarray .int, 2) := by decide +kernel
theorem dX9_init_455 : decode cX9_init 455 = .ok (.putfield 131, 3) := by decide +kernel
theorem dX9_init_458 : decode cX9_init 458 = .ok (.aload_n 0, 1) := by decide +kernel
theorem dX9_init_459 : decode cX9_init 459 = .ok (.bipush 30, 2) := by decide +kernel
theorem dX9_init_461 : decode cX9_init 461 = .ok (.newarray .int, 2) := by decide +kernel
theorem dX9_init_463 : decode cX9_init 463 = .ok (.putfield 134, 3) := by decide +kernel
theorem dX9_init_466 : decode cX9_init 466 = .ok (.aload_n 0, 1) := by decide +kernel
theorem dX9_init_467 : decode cX9_init 467 = .ok (.iconst 4, 1) := by decide +kernel
theorem dX9_init_468 : decode cX9_init 468 = .ok (.newarray .int, 2) := by decide +kernel
theorem dX9_init_470 : decode cX9_init 470 = .ok (.putfield 137, 3) := by decide +kernel
theorem dX9_init_473 : decode cX9_init 473 = .ok (.aload_n 0, 1) := by decide +kernel
theorem dX9_init_474 : decode cX9_init 474 = .ok (.iconst 4, 1) := by decide +kernel
theorem dX9_init_475 : decode cX9_init 475 = .ok (.newarray .int, 2) := by decide +kernel
theorem dX9_init_477 : decode cX9_init 477 = .ok (.putfield 140, 3) := by decide +kernel
theorem dX9_init_480 : decode cX9_init 480 = .ok (.aload_n 0, 1) := by decide +kernel
theorem dX9_init_481 : decode cX9_init 481 = .ok (.sipush 144, 3) := by decide +kernel
theorem dX9_init_484 : decode cX9_init 484 = .ok (.newarray .int, 2) := by decide +kernel
theorem dX9_init_486 : decode cX9_init 486 = .ok (.putfield 143, 3) := by decide +kernel
theorem dX9_init_489 : decode cX9_init 489 = .ok (.iconst 0, 1) := by decide +kernel
theorem dX9_init_490 : decode cX9_init 490 = .ok (.istore_n 1, 1) := by decide +kernel
theorem dX9_init_491 : decode cX9_init 491 = .ok (.iload_n 1, 1) := by decide +kernel
theorem dX9_init_492 : decode cX9_init 492 = .ok (.bipush 9, 2) := by decide +kernel
theorem dX9_init_494 : decode cX9_init 494 = .ok (.if_icmp .ge 44, 3) := by decide +kernel
theorem dX9_init_497 : decode cX9_init 497 = .ok (.iconst 0, 1) := by decide +kernel
theorem dX9_init_498 : decode cX9_init 498 = .ok (.istore_n 2, 1) := by decide +kernel
theorem dX9_init_499 : decode cX9_init 499 = .ok (.iload_n 2, 1) := by decide +kernel
theorem dX9_init_500 : decode cX9_init 500 = .ok (.bipush 9, 2) := by decide +kernel
theorem dX9_init_502 : decode cX9_init 502 = .ok (.if_icmp .ge 30, 3) := by decide +kernel
theorem dX9_init_505 : decode cX9_init 505 = .ok (.aload_n 0, 1) := by decide +kernel
theorem dX9_init_506 : decode cX9_init 506 = .ok (.getfield 25, 3) := by decide +kernel
theorem dX9_init_509 : decode cX9_init 509 = .ok (.bipush 9, 2) := by decide +kernel
theorem dX9_init_511 : decode cX9_init 511 = .ok (.iload_n 1, 1) := by decide +kernel
theorem dX9_init_512 : decode cX9_init 512 = .ok (.imul, 1) := by decide +kernel
theorem dX9_init_513 : decode cX9_init 513 = .ok (.iload_n 2, 1) := by decide +kernel
theorem dX9_init_514 : decode cX9_init 514 = .ok (.iadd, 1) := by decide +kernel
theorem dX9_init_515 : decode cX9_init 515 = .ok (.iload_n 1, 1) := by decide +kernel
theorem dX9_init_516 : decode cX9_init 516 = .ok (.iload_n 2, 1) := by decide +kernel
theorem dX9_init_517 : decode cX9_init 517 = .ok (.if_icmp .ne 7, 3) := by decide +kernel
theorem dX9_init_520 : decode cX9_init 520 = .ok (.iconst 0, 1) := by decide +kernel
theorem dX9_init_521 : decode cX9_init 521 = .ok (.goto 4, 3) := by decide +kernel
theorem dX9_init_524 : decode cX9_init 524 = .ok (.iconst 1, 1) := by decide +kernel
theorem dX9_init_525 : decode cX9_init 525 = .ok (.iastore, 1) := by decide +kernel
theorem dX9_init_526 : decode cX9_init 526 = .ok (.iinc 2 1, 3) := by decide +kernel
theorem dX9_init_529 : decode cX9_init 529 = .ok (.goto (-30), 3) := by decide +kernel
theorem dX9_init_532 : decode cX9_init 532 = .ok (.iinc 1 1, 3) := by decide +kernel
theorem dX9_init_535 : decode cX9_init 535 = .ok (.goto (-44), 3) := by decide +kernel
theorem dX9_init_538 : decode cX9_init 538 = .ok (.iconst 0, 1) := by decide +kernel
theorem dX9_init_539 : decode cX9_init 539 = .ok (.istore_n 1, 1) := by decide +kernel
theorem dX9_init_540 : decode cX9_init 540 = .ok (.iload_n 1, 1) := by decide +kernel
theorem dX9_init_541 : decode cX9_init 541 = .ok (.iconst 4, 1) := by decide +kernel
theorem dX9_init_542 : decode cX9_init 542 = .ok (.if_icmp .ge 16, 3) := by decide +kernel
theorem dX9_init_545 : decode cX9_init 545 = .ok (.aload_n 0, 1) := by decide +kernel
theorem dX9_init_546 : decode cX9_init 546 = .ok (.getfield 137, 3) := by decide +kernel
theorem dX9_init_549 : decode cX9_init 549 = .ok (.iload_n 1, 1) := by decide +kernel
theorem dX9_init_550 : decode cX9_init 550 = .ok (.iconst (-1), 1) := by decide +kernel
theorem dX9_init_551 : decode cX9_init 551 = .ok (.iastore, 1) := by decide +kernel
theorem dX9_init_552 : decode cX9_init 552 = .ok (.iinc 1 1, 3) := by decide +kernel
theorem dX9_init_555 : decode cX9_init 555 = .ok (.goto (-15), 3) := by decide +kernel
theorem dX9_init_558 : decode cX9_init 558 = .ok (.return_, 1) := by decide +kernel
theorem dX9_type_0 : decode cX9_type 0 = .ok (.iload_n 3, 1) := by decide +kernel
theorem dX9_type_1 : decode cX9_type 1 = .ok (.i2l, 1) := by decide +kernel
theorem dX9_type_2 : decode cX9_type 2 = .ok (.lconst 1, 1) := by decide +kernel
theorem dX9_type_3 : decode cX9_type 3 = .ok (.ldc2_w 146, 3) := by decide +kernel
theorem dX9_type_6 : decode cX9_type 6 = .ok (.invokestatic 148, 3) := by decide +kernel
theorem dX9_type_9 : decode cX9_type 9 = .ok (.ifCond .ne 5, 3) := by decide +kernel
theorem dX9_type_12 : decode cX9_type 12 = .ok (.iconst (-1), 1) := by decide +kernel
theorem dX9_type_13 : decode cX9_type 13 = .ok (.ireturn, 1) := by decide +kernel
theorem dX9_type_14 : decode cX9_type 14 = .ok (.iload_n 3, 1) := by decide +kernel
theorem dX9_type_15 : decode cX9_type 15 = .ok (.iconst 1, 1) := by decide +kernel
theorem dX9_type_16 : decode cX9_type 16 = .ok (.isub, 1) := by decide +kernel
theorem dX9_type_17 : decode cX9_type 17 = .ok (.istore 4, 2) := by decide +kernel
theorem dX9_type_19 : decode cX9_type 19 = .ok (.iload 4, 2) := by decide +kernel
theorem dX9_type_21 : decode cX9_type 21 = .ok (.ifCond .lt 34, 3) := by decide +kernel
theorem dX9_type_24 : decode cX9_type 24 = .ok (.lload_n 1, 1) := by decide +kernel
theorem dX9_type_25 : decode cX9_type 25 = .ok (.bipush 8, 2) := by decide +kernel
theorem dX9_type_27 : decode cX9_type 27 = .ok (.iload 4, 2) := by decide +kernel
theorem dX9_type_29 : decode cX9_type 29 = .ok (.imul, 1) := by decide +kernel
theorem dX9_type_30 : decode cX9_type 30 = .ok (.lshr, 1) := by decide +kernel
theorem dX9_type_31 : decode cX9_type 31 = .ok (.ldc2_w 152, 3) := by decide +kernel
theorem dX9_type_34 : decode cX9_type 34 = .ok (.land, 1) := by decide +kernel
theorem dX9_type_35 : decode cX9_type 35 = .ok (.ldc2_w 154, 3) := by decide +kernel
theorem dX9_type_38 : decode cX9_type 38 = .ok (.ldc2_w 156, 3) := by decide +kernel
theorem dX9_type_41 : decode cX9_type 41 = .ok (.invokestatic 148, 3) := by decide +kernel
theorem dX9_type_44 : decode cX9_type 44 = .ok (.ifCond .ne 5, 3) := by decide +kernel
theorem dX9_type_47 : decode cX9_type 47 = .ok (.iconst (-1), 1) := by decide +kernel
theorem dX9_type_48 : decode cX9_type 48 = .ok (.ireturn, 1) := by decide +kernel
theorem dX9_type_49 : decode cX9_type 49 = .ok (.iinc 4 (-1), 3) := by decide +kernel
theorem dX9_type_52 : decode cX9_type 52 = .ok (.goto (-33), 3) := by decide +kernel
theorem dX9_type_55 : decode cX9_type 55 = .ok (.aload_n 0, 1) := by decide +kernel
theorem dX9_type_56 : decode cX9_type 56 = .ok (.getfield 158, 3) := by decide +kernel
theorem dX9_type_59 : decode cX9_type 59 = .ok (.iload_n 3, 1) := by decide +kernel
theorem dX9_type_60 : decode cX9_type 60 = .ok (.iadd, 1) := by decide +kernel
theorem dX9_type_61 : decode cX9_type 61 = .ok (.bipush 60, 2) := by decide +kernel
theorem dX9_type_63 : decode cX9_type 63 = .ok (.if_icmp .le 6, 3) := by decide +kernel
theorem dX9_type_66 : decode cX9_type 66 = .ok (.bipush (-3), 2) := by decide +kernel
theorem dX9_type_68 : decode cX9_type 68 = .ok (.ireturn, 1) := by decide +kernel
theorem dX9_type_69 : decode cX9_type 69 = .ok (.iload_n 3, 1) := by decide +kernel
theorem dX9_type_70 : decode cX9_type 70 = .ok (.iconst 1, 1) := by decide +kernel
theorem dX9_type_71 : decode cX9_type 71 = .ok (.isub, 1) := by decide +kernel
theorem dX9_type_72 : decode cX9_type 72 = .ok (.istore 4, 2) := by decide +kernel
theorem dX9_type_74 : decode cX9_type 74 = .ok (.iload 4, 2) := by decide +kernel
theorem dX9_type_76 : decode cX9_type 76 = .ok (.ifCond .lt 40, 3) := by decide +kernel
theorem dX9_type_79 : decode cX9_type 79 = .ok (.aload_n 0, 1) := by decide +kernel
theorem dX9_type_80 : decode cX9_type 80 = .ok (.getfield 22, 3) := by decide +kernel
theorem dX9_type_83 : decode cX9_type 83 = .ok (.aload_n 0, 1) := by decide +kernel
theorem dX9_type_84 : decode cX9_type 84 = .ok (.getfield 158, 3) := by decide +kernel
theorem dX9_type_87 : decode cX9_type 87 = .ok (.lload_n 1, 1) := by decide +kernel
theorem dX9_type_88 : decode cX9_type 88 = .ok (.bipush 8, 2) := by decide +kernel
theorem dX9_type_90 : decode cX9_type 90 = .ok (.iload 4, 2) := by decide +kernel
theorem dX9_type_92 : decode cX9_type 92 = .ok (.imul, 1) := by decide +kernel
theorem dX9_type_93 : decode cX9_type 93 = .ok (.lshr, 1) := by decide +kernel
theorem dX9_type_94 : decode cX9_type 94 = .ok (.ldc2_w 152, 3) := by decide +kernel
theorem dX9_type_97 : decode cX9_type 97 = .ok (.land, 1) := by decide +kernel
theorem dX9_type_98 : decode cX9_type 98 = .ok (.l2i, 1) := by decide +kernel
theorem dX9_type_99 : decode cX9_type 99 = .ok (.iastore, 1) := by decide +kernel
theorem dX9_type_100 : decode cX9_type 100 = .ok (.aload_n 0, 1) := by decide +kernel
theorem dX9_type_101 : decode cX9_type 101 = .ok (.dup, 1) := by decide +kernel
theorem dX9_type_102 : decode cX9_type 102 = .ok (.getfield 158, 3) := by decide +kernel
theorem dX9_type_105 : decode cX9_type 105 = .ok (.iconst 1, 1) := by decide +kernel
theorem dX9_type_106 : decode cX9_type 106 = .ok (.iadd, 1) := by decide +kernel
theorem dX9_type_107 : decode cX9_type 107 = .ok (.putfield 158, 3) := by decide +kernel
theorem dX9_type_110 : decode cX9_type 110 = .ok (.iinc 4 (-1), 3) := by decide +kernel
theorem dX9_type_113 : decode cX9_type 113 = .ok (.goto (-39), 3) := by decide +kernel
theorem dX9_type_116 : decode cX9_type 116 = .ok (.aload_n 0, 1) := by decide +kernel
theorem dX9_type_117 : decode cX9_type 117 = .ok (.getfield 158, 3) := by decide +kernel
theorem dX9_type_120 : decode cX9_type 120 = .ok (.ireturn, 1) := by decide +kernel
theorem dX9_next_0 : decode cX9_next 0 = .ok (.aload_n 0, 1) := by decide +kernel
theorem dX9_next_1 : decode cX9_next 1 = .ok (.getfield 162, 3) := by decide +kernel
theorem dX9_next_4 : decode cX9_next 4 = .ok (.aload_n 0, 1) := by decide +kernel
theorem dX9_next_5 : decode cX9_next 5 = .ok (.getfield 158, 3) := by decide +kernel
theorem dX9_next_8 : decode cX9_next 8 = .ok (.if_icmp .ge 30, 3) := by decide +kernel
theorem dX9_next_11 : decode cX9_next 11 = .ok (.aload_n 0, 1) := by decide +kernel
theorem dX9_next_12 : decode cX9_next 12 = .ok (.getfield 22, 3) := by decide +kernel
theorem dX9_next_15 : decode cX9_next 15 = .ok (.aload_n 0, 1) := by decide +kernel
theorem dX9_next_16 : decode cX9_next 16 = .ok (.getfield 162, 3) := by decide +kernel
theorem dX9_next_19 : decode cX9_next 19 = .ok (.iaload, 1) := by decide +kernel
theorem dX9_next_20 : decode cX9_next 20 = .ok (.bipush 32, 2) := by decide +kernel
theorem dX9_next_22 : decode cX9_next 22 = .ok (.if_icmp .ne 16, 3) := by decide +kernel
theorem dX9_next_25 : decode cX9_next 25 = .ok (.aload_n 0, 1) := by decide +kernel
theorem dX9_next_26 : decode cX9_next 26 = .ok (.dup, 1) := by decide +kernel
theorem dX9_next_27 : decode cX9_next 27 = .ok (.getfield 162, 3) := by decide +kernel
theorem dX9_next_30 : decode cX9_next 30 = .ok (.iconst 1, 1) := by decide +kernel
theorem dX9_next_31 : decode cX9_next 31 = .ok (.iadd, 1) := by decide +kernel
theorem dX9_next_32 : decode cX9_next 32 = .ok (.putfield 162, 3) := by decide +kernel
theorem dX9_next_35 : decode cX9_next 35 = .ok (.goto (-35), 3) := by decide +kernel
theorem dX9_next_38 : decode cX9_next 38 = .ok (.aload_n 0, 1) := by decide +kernel
theorem dX9_next_39 : decode cX9_next 39 = .ok (.getfield 162, 3) := by decide +kernel
theorem dX9_next_42 : decode cX9_next 42 = .ok (.aload_n 0, 1) := by decide +kernel
theorem dX9_next_43 : decode cX9_next 43 = .ok (.getfield 158, 3) := by decide +kernel
theorem dX9_next_46 : decode cX9_next 46 = .ok (.if_icmp .ge 15, 3) := by decide +kernel
theorem dX9_next_49 : decode cX9_next 49 = .ok (.aload_n 0, 1) := by decide +kernel
theorem dX9_next_50 : decode cX9_next 50 = .ok (.getfield 22, 3) := by decide +kernel
theorem dX9_next_53 : decode cX9_next 53 = .ok (.aload_n 0, 1) := by decide +kernel
theorem dX9_next_54 : decode cX9_next 54 = .ok (.getfield 162, 3) := by decide +kernel
theorem dX9_next_57 : decode cX9_next 57 = .ok (.iaload, 1) := by decide +kernel
theorem dX9_next_58 : decode cX9_next 58 = .ok (.goto 4, 3) := by decide +kernel
theorem dX9_next_61 : decode cX9_next 61 = .ok (.iconst (-1), 1) := by decide +kernel
theorem dX9_next_62 : decode cX9_next 62 = .ok (.ireturn, 1) := by decide +kernel
theorem dX9_termOf_0 : decode cX9_termOf 0 = .ok (.iconst 0, 1) := by decide +kernel
theorem dX9_termOf_1 : decode cX9_termOf 1 = .ok (.istore_n 2, 1) := by decide +kernel
theorem dX9_termOf_2 : decode cX9_termOf 2 = .ok (.iload_n 2, 1) := by decide +kernel
theorem dX9_termOf_3 : decode cX9_termOf 3 = .ok (.bipush 8, 2) := by decide +kernel
theorem dX9_termOf_5 : decode cX9_termOf 5 = .ok (.if_icmp .ge 21, 3) := by decide +kernel
theorem dX9_termOf_8 : decode cX9_termOf 8 = .ok (.aload_n 0, 1) := by decide +kernel
theorem dX9_termOf_9 : decode cX9_termOf 9 = .ok (.getfield 7, 3) := by decide +kernel
theorem dX9_termOf_12 : decode cX9_termOf 12 = .ok (.iload_n 2, 1) := by decide +kernel
theorem dX9_termOf_13 : decode cX9_termOf 13 = .ok (.iaload, 1) := by decide +kernel
theorem dX9_termOf_14 : decode cX9_termOf 14 = .ok (.iload_n 1, 1) := by decide +kernel
theorem dX9_termOf_15 : decode cX9_termOf 15 = .ok (.if_icmp .ne 5, 3) := by decide +kernel
theorem dX9_termOf_18 : decode cX9_termOf 18 = .ok (.iload_n 2, 1) := by decide +kernel
theorem dX9_termOf_19 : decode cX9_termOf 19 = .ok (.ireturn, 1) := by decide +kernel
theorem dX9_termOf_20 : decode cX9_termOf 20 = .ok (.iinc 2 1, 3) := by decide +kernel
theorem dX9_termOf_23 : decode cX9_termOf 23 = .ok (.goto (-21), 3) := by decide +kernel
theorem dX9_termOf_26 : decode cX9_termOf 26 = .ok (.iconst (-1), 1) := by decide +kernel
theorem dX9_termOf_27 : decode cX9_termOf 27 = .ok (.ireturn, 1) := by decide +kernel
theorem dX9_number_0 : decode cX9_number 0 = .ok (.aload_n 0, 1) := by decide +kernel
theorem dX9_number_1 : decode cX9_number 1 = .ok (.invokevirtual 165, 3) := by decide +kernel
theorem dX9_number_4 : decode cX9_number 4 = .ok (.istore_n 2, 1) := by decide +kernel
theorem dX9_number_5 : decode cX9_number 5 = .ok (.aload_n 0, 1) := by decide +kernel
theorem dX9_number_6 : decode cX9_number 6 = .ok (.getfield 162, 3) := by decide +kernel
theorem dX9_number_9 : decode cX9_number 9 = .ok (.istore_n 3, 1) := by decide +kernel
theorem dX9_number_10 : decode cX9_number 10 = .ok (.iconst 0, 1) := by decide +kernel
theorem dX9_number_11 : decode cX9_number 11 = .ok (.istore 4, 2) := by decide +kernel
theorem dX9_number_13 : decode cX9_number 13 = .ok (.aload_n 0, 1) := by decide +kernel
theorem dX9_number_14 : decode cX9_number 14 = .ok (.getfield 162, 3) := by decide +kernel
theorem dX9_number_17 : decode cX9_number 17 = .ok (.aload_n 0, 1) := by decide +kernel
theorem dX9_number_18 : decode cX9_number 18 = .ok (.getfield 158, 3) := by decide +kernel
theorem dX9_number_21 : decode cX9_number 21 = .ok (.if_icmp .ge 69, 3) := by decide +kernel
theorem dX9_number_24 : decode cX9_number 24 = .ok (.aload_n 0, 1) := by decide +kernel
theorem dX9_number_25 : decode cX9_number 25 = .ok (.getfield 22, 3) := by decide +kernel
theorem dX9_number_28 : decode cX9_number 28 = .ok (.aload_n 0, 1) := by decide +kernel
theorem dX9_number_29 : decode cX9_number 29 = .ok (.getfield 162, 3) := by decide +kernel
theorem dX9_number_32 : decode cX9_number 32 = .ok (.iaload, 1) := by decide +kernel
theorem dX9_number_33 : decode cX9_number 33 = .ok (.i2l, 1) := by decide +kernel
theorem dX9_number_34 : decode cX9_number 34 = .ok (.ldc2_w 169, 3) := by decide +kernel
theorem dX9_number_37 : decode cX9_number 37 = .ok (.ldc2_w 171, 3) := by decide +kernel
theorem dX9_number_40 : decode cX9_number 40 = .ok (.invokestatic 148, 3) := by decide +kernel
theorem dX9_number_43 : decode cX9_number 43 = .ok (.ifCond .eq 47, 3) := by decide +kernel
theorem dX9_number_46 : decode cX9_number 46 = .ok (.iload 4, 2) := by decide +kernel
theorem dX9_number_48 : decode cX9_number 48 = .ok (.iload_n 1, 1) := by decide +kernel
theorem dX9_number_49 : decode cX9_number 49 = .ok (.if_icmp .le 8, 3) := by decide +kernel
theorem dX9_number_52 : decode cX9_number 52 = .ok (.iload 4, 2) := by decide +kernel
theorem dX9_number_54 : decode cX9_number 54 = .ok (.goto 21, 3) := by decide +kernel
theorem dX9_number_57 : decode cX9_number 57 = .ok (.bipush 10, 2) := by decide +kernel
theorem dX9_number_59 : decode cX9_number 59 = .ok (.iload 4, 2) := by decide +kernel
theorem dX9_number_61 : decode cX9_number 61 = .ok (.imul, 1) := by decide +kernel
theorem dX9_number_62 : decode cX9_number 62 = .ok (.aload_n 0, 1) := by decide +kernel
theorem dX9_number_63 : decode cX9_number 63 = .ok (.getfield 22, 3) := by decide +kernel
theorem dX9_number_66 : decode cX9_number 66 = .ok (.aload_n 0, 1) := by decide +kernel
theorem dX9_number_67 : decode cX9_number 67 = .ok (.getfield 162, 3) := by decide +kernel
theorem dX9_number_70 : decode cX9_number 70 = .ok (.iaload, 1) := by decide +kernel
theorem dX9_number_71 : decode cX9_number 71 = .ok (.iadd, 1) := by decide +kernel
theorem dX9_number_72 : decode cX9_number 72 = .ok (.bipush 48, 2) := by decide +kernel
theorem dX9_number_74 : decode cX9_number 74 = .ok (.isub, 1) := by decide +kernel
theorem dX9_number_75 : decode cX9_number 75 = .ok (.istore 4, 2) := by decide +kernel
theorem dX9_number_77 : decode cX9_number 77 = .ok (.aload_n 0, 1) := by decide +kernel
theorem dX9_number_78 : decode cX9_number 78 = .ok (.dup, 1) := by decide +kernel
theorem dX9_number_79 : decode cX9_number 79 = .ok (.getfield 162, 3) := by decide +kernel
theorem dX9_number_82 : decode cX9_number 82 = .ok (.iconst 1, 1) := by decide +kernel
theorem dX9_number_83 : decode cX9_number 83 = .ok (.iadd, 1) := by decide +kernel
theorem dX9_number_84 : decode cX9_number 84 = .ok (.putfield 162, 3) := by decide +kernel
theorem dX9_number_87 : decode cX9_number 87 = .ok (.goto (-74), 3) := by decide +kernel
theorem dX9_number_90 : decode cX9_number 90 = .ok (.iload_n 2, 1) := by decide +kernel
theorem dX9_number_91 : decode cX9_number 91 = .ok (.ifCond .lt 17, 3) := by decide +kernel
theorem dX9_number_94 : decode cX9_number 94 = .ok (.aload_n 0, 1) := by decide +kernel
theorem dX9_number_95 : decode cX9_number 95 = .ok (.getfield 162, 3) := by decide +kernel
theorem dX9_number_98 : decode cX9_number 98 = .ok (.iload_n 3, 1) := by decide +kernel
theorem dX9_number_99 : decode cX9_number 99 = .ok (.if_icmp .eq 9, 3) := by decide +kernel
theorem dX9_number_102 : decode cX9_number 102 = .ok (.iload 4, 2) := by decide +kernel
theorem dX9_number_104 : decode cX9_number 104 = .ok (.iload_n 1, 1) := by decide +kernel
theorem dX9_number_105 : decode cX9_number 105 = .ok (.if_icmp .le 10, 3) := by decide +kernel
theorem dX9_number_108 : decode cX9_number 108 = .ok (.aload_n 0, 1) := by decide +kernel
theorem dX9_number_109 : decode cX9_number 109 = .ok (.iload_n 3, 1) := by decide +kernel
theorem dX9_number_110 : decode cX9_number 110 = .ok (.putfield 162, 3) := by decide +kernel
theorem dX9_number_113 : decode cX9_number 113 = .ok (.iconst (-1), 1) := by decide +kernel
theorem dX9_number_114 : decode cX9_number 114 = .ok (.ireturn, 1) := by decide +kernel
theorem dX9_number_115 : decode cX9_number 115 = .ok (.iload 4, 2) := by decide +kernel
theorem dX9_number_117 : decode cX9_number 117 = .ok (.ireturn, 1) := by decide +kernel
theorem dX9_readAll_0 : decode cX9_readAll 0 = .ok (.aload_n 0, 1) := by decide +kernel
theorem dX9_readAll_1 : decode cX9_readAll 1 = .ok (.iconst 0, 1) := by decide +kernel
theorem dX9_readAll_2 : decode cX9_readAll 2 = .ok (.putfield 162, 3) := by decide +kernel
theorem dX9_readAll_5 : decode cX9_readAll 5 = .ok (.iconst 0, 1) := by decide +kernel
theorem dX9_readAll_6 : decode cX9_readAll 6 = .ok (.istore_n 1, 1) := by decide +kernel
theorem dX9_readAll_7 : decode cX9_readAll 7 = .ok (.iconst 0, 1) := by decide +kernel
theorem dX9_readAll_8 : decode cX9_readAll 8 = .ok (.istore_n 2, 1) := by decide +kernel
theorem dX9_readAll_9 : decode cX9_readAll 9 = .ok (.iload_n 2, 1) := by decide +kernel
theorem dX9_readAll_10 : decode cX9_readAll 10 = .ok (.bipush 8, 2) := by decide +kernel
theorem dX9_readAll_12 : decode cX9_readAll 12 = .ok (.if_icmp .ge 21, 3) := by decide +kernel
theorem dX9_readAll_15 : decode cX9_readAll 15 = .ok (.aload_n 0, 1) := by decide +kernel
theorem dX9_readAll_16 : decode cX9_readAll 16 = .ok (.getfield 19, 3) := by decide +kernel
theorem dX9_readAll_19 : decode cX9_readAll 19 = .ok (.iload_n 2, 1) := by decide +kernel
theorem dX9_readAll_20 : decode cX9_readAll 20 = .ok (.aload_n 0, 1) := by decide +kernel
theorem dX9_readAll_21 : decode cX9_readAll 21 = .ok (.getfield 16, 3) := by decide +kernel
theorem dX9_readAll_24 : decode cX9_readAll 24 = .ok (.iload_n 2, 1) := by decide +kernel
theorem dX9_readAll_25 : decode cX9_readAll 25 = .ok (.iaload, 1) := by decide +kernel
theorem dX9_readAll_26 : decode cX9_readAll 26 = .ok (.iastore, 1) := by decide +kernel
theorem dX9_readAll_27 : decode cX9_readAll 27 = .ok (.iinc 2 1, 3) := by decide +kernel
theorem dX9_readAll_30 : decode cX9_readAll 30 = .ok (.goto (-21), 3) := by decide +kernel
theorem dX9_readAll_33 : decode cX9_readAll 33 = .ok (.iconst 1, 1) := by decide +kernel
theorem dX9_readAll_34 : decode cX9_readAll 34 = .ok (.istore_n 2, 1) := by decide +kernel
theorem dX9_readAll_35 : decode cX9_readAll 35 = .ok (.iload_n 2, 1) := by decide +kernel
theorem dX9_readAll_36 : decode cX9_readAll 36 = .ok (.ifCond .eq 116, 3) := by decide +kernel
theorem dX9_readAll_39 : decode cX9_readAll 39 = .ok (.aload_n 0, 1) := by decide +kernel
theorem dX9_readAll_40 : decode cX9_readAll 40 = .ok (.aload_n 0, 1) := by decide +kernel
theorem dX9_readAll_41 : decode cX9_readAll 41 = .ok (.invokevirtual 165, 3) := by decide +kernel
theorem dX9_readAll_44 : decode cX9_readAll 44 = .ok (.invokevirtual 173, 3) := by decide +kernel
theorem dX9_readAll_47 : decode cX9_readAll 47 = .ok (.istore_n 3, 1) := by decide +kernel
theorem dX9_readAll_48 : decode cX9_readAll 48 = .ok (.iload_n 3, 1) := by decide +kernel
theorem dX9_readAll_49 : decode cX9_readAll 49 = .ok (.ifCond .ge 5, 3) := by decide +kernel
theorem dX9_readAll_52 : decode cX9_readAll 52 = .ok (.iconst (-1), 1) := by decide +kernel
theorem dX9_readAll_53 : decode cX9_readAll 53 = .ok (.ireturn, 1) := by decide +kernel
theorem dX9_readAll_54 : decode cX9_readAll 54 = .ok (.aload_n 0, 1) := by decide +kernel
theorem dX9_readAll_55 : decode cX9_readAll 55 = .ok (.dup, 1) := by decide +kernel
theorem dX9_readAll_56 : decode cX9_readAll 56 = .ok (.getfield 162, 3) := by decide +kernel
theorem dX9_readAll_59 : decode cX9_readAll 59 = .ok (.iconst 1, 1) := by decide +kernel
theorem dX9_readAll_60 : decode cX9_readAll 60 = .ok (.iadd, 1) := by decide +kernel
theorem dX9_readAll_61 : decode cX9_readAll 61 = .ok (.putfield 162, 3) := by decide +kernel
theorem dX9_readAll_64 : decode cX9_readAll 64 = .ok (.aload_n 0, 1) := by decide +kernel
theorem dX9_readAll_65 : decode cX9_readAll 65 = .ok (.aload_n 0, 1) := by decide +kernel
theorem dX9_readAll_66 : decode cX9_readAll 66 = .ok (.getfield 13, 3) := by decide +kernel
theorem dX9_readAll_69 : decode cX9_readAll 69 = .ok (.iload_n 3, 1) := by decide +kernel
theorem dX9_readAll_70 : decode cX9_readAll 70 = .ok (.iaload, 1) := by decide +kernel
theorem dX9_readAll_71 : decode cX9_readAll 71 = .ok (.invokevirtual 177, 3) := by decide +kernel
theorem dX9_readAll_74 : decode cX9_readAll 74 = .ok (.istore 4, 2) := by decide +kernel
theorem dX9_readAll_76 : decode cX9_readAll 76 = .ok (.iload 4, 2) := by decide +kernel
theorem dX9_readAll_78 : decode cX9_readAll 78 = .ok (.ifCond .ge 5, 3) := by decide +kernel
theorem dX9_readAll_81 : decode cX9_readAll 81 = .ok (.iconst (-1), 1) := by decide +kernel
theorem dX9_readAll_82 : decode cX9_readAll 82 = .ok (.ireturn, 1) := by decide +kernel
theorem dX9_readAll_83 : decode cX9_readAll 83 = .ok (.aload_n 0, 1) := by decide +kernel
theorem dX9_readAll_84 : decode cX9_readAll 84 = .ok (.getfield 19, 3) := by decide +kernel
theorem dX9_readAll_87 : decode cX9_readAll 87 = .ok (.iload_n 3, 1) := by decide +kernel
theorem dX9_readAll_88 : decode cX9_readAll 88 = .ok (.iload 4, 2) := by decide +kernel
theorem dX9_readAll_90 : decode cX9_readAll 90 = .ok (.iastore, 1) := by decide +kernel
theorem dX9_readAll_91 : decode cX9_readAll 91 = .ok (.iinc 1 1, 3) := by decide +kernel
theorem dX9_readAll_94 : decode cX9_readAll 94 = .ok (.aload_n 0, 1) := by decide +kernel
theorem dX9_readAll_95 : decode cX9_readAll 95 = .ok (.invokevirtual 165, 3) := by decide +kernel
theorem dX9_readAll_98 : decode cX9_readAll 98 = .ok (.istore 5, 2) := by decide +kernel
theorem dX9_readAll_100 : decode cX9_readAll 100 = .ok (.iload 5, 2) := by decide +kernel
theorem dX9_readAll_102 : decode cX9_readAll 102 = .ok (.ifCond .lt 18, 3) := by decide +kernel
theorem dX9_readAll_105 : decode cX9_readAll 105 = .ok (.iload 5, 2) := by decide +kernel
theorem dX9_readAll_107 : decode cX9_readAll 107 = .ok (.bipush 59, 2) := by decide +kernel
theorem dX9_readAll_109 : decode cX9_readAll 109 = .ok (.if_icmp .ne 9, 3) := by decide +kernel
theorem dX9_readAll_112 : decode cX9_readAll 112 = .ok (.iload_n 1, 1) := by decide +kernel
theorem dX9_readAll_113 : decode cX9_readAll 113 = .ok (.bipush 8, 2) := by decide +kernel
theorem dX9_readAll_115 : decode cX9_readAll 115 = .ok (.if_icmp .ne 5, 3) := by decide +kernel
theorem dX9_readAll_118 : decode cX9_readAll 118 = .ok (.iconst (-1), 1) := by decide +kernel
theorem dX9_readAll_119 : decode cX9_readAll 119 = .ok (.ireturn, 1) := by decide +kernel
theorem dX9_readAll_120 : decode cX9_readAll 120 = .ok (.iload 5, 2) := by decide +kernel
theorem dX9_readAll_122 : decode cX9_readAll 122 = .ok (.ifCond .lt 7, 3) := by decide +kernel
theorem dX9_readAll_125 : decode cX9_readAll 125 = .ok (.iconst 1, 1) := by decide +kernel
theorem dX9_readAll_126 : decode cX9_readAll 126 = .ok (.goto 4, 3) := by decide +kernel
theorem dX9_readAll_129 : decode cX9_readAll 129 = .ok (.iconst 0, 1) := by decide +kernel
theorem dX9_readAll_130 : decode cX9_readAll 130 = .ok (.istore_n 2, 1) := by decide +kernel
theorem dX9_readAll_131 : decode cX9_readAll 131 = .ok (.aload_n 0, 1) := by decide +kernel
theorem dX9_readAll_132 : decode cX9_readAll 132 = .ok (.dup, 1) := by decide +kernel
theorem dX9_readAll_133 : decode cX9_readAll 133 = .ok (.getfield 162, 3) := by decide +kernel
theorem dX9_readAll_136 : decode cX9_readAll 136 = .ok (.iload_n 2, 1) := by decide +kernel
theorem dX9_readAll_137 : decode cX9_readAll 137 = .ok (.ifCond .eq 7, 3) := by decide +kernel
theorem dX9_readAll_140 : decode cX9_readAll 140 = .ok (.iconst 1, 1) := by decide +kernel
theorem dX9_readAll_141 : decode cX9_readAll 141 = .ok (.goto 4, 3) := by decide +kernel
theorem dX9_readAll_144 : decode cX9_readAll 144 = .ok (.iconst 0, 1) := by decide +kernel
theorem dX9_readAll_145 : decode cX9_readAll 145 = .ok (.iadd, 1) := by decide +kernel
theorem dX9_readAll_146 : decode cX9_readAll 146 = .ok (.putfield 162, 3) := by decide +kernel
theorem dX9_readAll_149 : decode cX9_readAll 149 = .ok (.goto (-114), 3) := by decide +kernel
theorem dX9_readAll_152 : decode cX9_readAll 152 = .ok (.iload_n 1, 1) := by decide +kernel
theorem dX9_readAll_153 : decode cX9_readAll 153 = .ok (.ireturn, 1) := by decide +kernel
theorem dX9_terms_0 : decode cX9_terms 0 = .ok (.aload_n 0, 1) := by decide +kernel
theorem dX9_terms_1 : decode cX9_terms 1 = .ok (.invokevirtual 180, 3) := by decide +kernel
theorem dX9_terms_4 : decode cX9_terms 4 = .ok (.istore_n 1, 1) := by decide +kernel
theorem dX9_terms_5 : decode cX9_terms 5 = .ok (.aload_n 0, 1) := by decide +kernel
theorem dX9_terms_6 : decode cX9_terms 6 = .ok (.iconst 0, 1) := by decide +kernel
theorem dX9_terms_7 : decode cX9_terms 7 = .ok (.putfield 158, 3) := by decide +kernel
theorem dX9_terms_10 : decode cX9_terms 10 = .ok (.iload_n 1, 1) := by decide +kernel
theorem dX9_terms_11 : decode cX9_terms 11 = .ok (.ifCond .ge 11, 3) := by decide +kernel
theorem dX9_terms_14 : decode cX9_terms 14 = .ok (.bipush (-20), 2) := by decide +kernel
theorem dX9_terms_16 : decode cX9_terms 16 = .ok (.aload_n 0, 1) := by decide +kernel
theorem dX9_terms_17 : decode cX9_terms 17 = .ok (.getfield 162, 3) := by decide +kernel
theorem dX9_terms_20 : decode cX9_terms 20 = .ok (.isub, 1) := by decide +kernel
theorem dX9_terms_21 : decode cX9_terms 21 = .ok (.ireturn, 1) := by decide +kernel
theorem dX9_terms_22 : decode cX9_terms 22 = .ok (.iconst 0, 1) := by decide +kernel
theorem dX9_terms_23 : decode cX9_terms 23 = .ok (.istore_n 2, 1) := by decide +kernel
theorem dX9_terms_24 : decode cX9_terms 24 = .ok (.iload_n 2, 1) := by decide +kernel
theorem dX9_terms_25 : decode cX9_terms 25 = .ok (.bipush 8, 2) := by decide +kernel
theorem dX9_terms_27 : decode cX9_terms 27 = .ok (.if_icmp .ge 21, 3) := by decide +kernel
theorem dX9_terms_30 : decode cX9_terms 30 = .ok (.aload_n 0, 1) := by decide +kernel
theorem dX9_terms_31 : decode cX9_terms 31 = .ok (.getfield 16, 3) := by decide +kernel
theorem dX9_terms_34 : decode cX9_terms 34 = .ok (.iload_n 2, 1) := by decide +kernel
theorem dX9_terms_35 : decode cX9_terms 35 = .ok (.aload_n 0, 1) := by decide +kernel
theorem dX9_terms_36 : decode cX9_terms 36 = .ok (.getfield 19, 3) := by decide +kernel
theorem dX9_terms_39 : decode cX9_terms 39 = .ok (.iload_n 2, 1) := by decide +kernel
theorem dX9_terms_40 : decode cX9_terms 40 = .ok (.iaload, 1) := by decide +kernel
theorem dX9_terms_41 : decode cX9_terms 41 = .ok (.iastore, 1) := by decide +kernel
theorem dX9_terms_42 : decode cX9_terms 42 = .ok (.iinc 2 1, 3) := by decide +kernel
theorem dX9_terms_45 : decode cX9_terms 45 = .ok (.goto (-21), 3) := by decide +kernel
theorem dX9_terms_48 : decode cX9_terms 48 = .ok (.iload_n 1, 1) := by decide +kernel
theorem dX9_terms_49 : decode cX9_terms 49 = .ok (.ireturn, 1) := by decide +kernel
theorem dX9_term_0 : decode cX9_term 0 = .ok (.aload_n 0, 1) := by decide +kernel
theorem dX9_term_1 : decode cX9_term 1 = .ok (.iload_n 1, 1) := by decide +kernel
theorem dX9_term_2 : decode cX9_term 2 = .ok (.invokevirtual 173, 3) := by decide +kernel
theorem dX9_term_5 : decode cX9_term 5 = .ok (.istore_n 2, 1) := by decide +kernel
theorem dX9_term_6 : decode cX9_term 6 = .ok (.iload_n 2, 1) := by decide +kernel
theorem dX9_term_7 : decode cX9_term 7 = .ok (.ifCond .ge 7, 3) := by decide +kernel
theorem dX9_term_10 : decode cX9_term 10 = .ok (.iconst (-1), 1) := by decide +kernel
theorem dX9_term_11 : decode cX9_term 11 = .ok (.goto 9, 3) := by decide +kernel
theorem dX9_term_14 : decode cX9_term 14 = .ok (.aload_n 0, 1) := by decide +kernel
theorem dX9_term_15 : decode cX9_term 15 = .ok (.getfield 16, 3) := by decide +kernel
theorem dX9_term_18 : decode cX9_term 18 = .ok (.iload_n 2, 1) := by decide +kernel
theorem dX9_term_19 : decode cX9_term 19 = .ok (.iaload, 1) := by decide +kernel
theorem dX9_term_20 : decode cX9_term 20 = .ok (.ireturn, 1) := by decide +kernel
theorem dX9_isTown_0 : decode cX9_isTown 0 = .ok (.iload_n 0, 1) := by decide +kernel
theorem dX9_isTown_1 : decode cX9_isTown 1 = .ok (.i2l, 1) := by decide +kernel
theorem dX9_isTown_2 : decode cX9_isTown 2 = .ok (.lconst 0, 1) := by decide +kernel
theorem dX9_isTown_3 : decode cX9_isTown 3 = .ok (.ldc2_w 146, 3) := by decide +kernel
theorem dX9_isTown_6 : decode cX9_isTown 6 = .ok (.invokestatic 148, 3) := by decide +kernel
theorem dX9_isTown_9 : decode cX9_isTown 9 = .ok (.ireturn, 1) := by decide +kernel
theorem dX9_post_0 : decode cX9_post 0 = .ok (.iload_n 1, 1) := by decide +kernel
theorem dX9_post_1 : decode cX9_post 1 = .ok (.invokestatic 183, 3) := by decide +kernel
theorem dX9_post_4 : decode cX9_post 4 = .ok (.ifCond .eq 27, 3) := by decide +kernel
theorem dX9_post_7 : decode cX9_post 7 = .ok (.iload_n 2, 1) := by decide +kernel
theorem dX9_post_8 : decode cX9_post 8 = .ok (.invokestatic 183, 3) := by decide +kernel
theorem dX9_post_11 : decode cX9_post 11 = .ok (.ifCond .eq 20, 3) := by decide +kernel
theorem dX9_post_14 : decode cX9_post 14 = .ok (.iload_n 1, 1) := by decide +kernel
theorem dX9_post_15 : decode cX9_post 15 = .ok (.iload_n 2, 1) := by decide +kernel
theorem dX9_post_16 : decode cX9_post 16 = .ok (.if_icmp .eq 15, 3) := by decide +kernel
theorem dX9_post_19 : decode cX9_post 19 = .ok (.iload_n 3, 1) := by decide +kernel
theorem dX9_post_20 : decode cX9_post 20 = .ok (.i2l, 1) := by decide +kernel
theorem dX9_post_21 : decode cX9_post 21 = .ok (.lconst 0, 1) := by decide +kernel
theorem dX9_post_22 : decode cX9_post 22 = .ok (.ldc2_w 187, 3) := by decide +kernel
theorem dX9_post_25 : decode cX9_post 25 = .ok (.invokestatic 148, 3) := by decide +kernel
theorem dX9_post_28 : decode cX9_post 28 = .ok (.ifCond .ne 5, 3) := by decide +kernel
theorem dX9_post_31 : decode cX9_post 31 = .ok (.iconst (-1), 1) := by decide +kernel
theorem dX9_post_32 : decode cX9_post 32 = .ok (.ireturn, 1) := by decide +kernel
theorem dX9_post_33 : decode cX9_post 33 = .ok (.aload_n 0, 1) := by decide +kernel
theorem dX9_post_34 : decode cX9_post 34 = .ok (.getfield 25, 3) := by decide +kernel
theorem dX9_post_37 : decode cX9_post 37 = .ok (.bipush 9, 2) := by decide +kernel
theorem dX9_post_39 : decode cX9_post 39 = .ok (.iload_n 1, 1) := by decide +kernel
theorem dX9_post_40 : decode cX9_post 40 = .ok (.imul, 1) := by decide +kernel
theorem dX9_post_41 : decode cX9_post 41 = .ok (.iload_n 2, 1) := by decide +kernel
theorem dX9_post_42 : decode cX9_post 42 = .ok (.iadd, 1) := by decide +kernel
theorem dX9_post_43 : decode cX9_post 43 = .ok (.iaload, 1) := by decide +kernel
theorem dX9_post_44 : decode cX9_post 44 = .ok (.istore 4, 2) := by decide +kernel
theorem dX9_post_46 : decode cX9_post 46 = .ok (.aload_n 0, 1) := by decide +kernel
theorem dX9_post_47 : decode cX9_post 47 = .ok (.getfield 25, 3) := by decide +kernel
theorem dX9_post_50 : decode cX9_post 50 = .ok (.bipush 9, 2) := by decide +kernel
theorem dX9_post_52 : decode cX9_post 52 = .ok (.iload_n 1, 1) := by decide +kernel
theorem dX9_post_53 : decode cX9_post 53 = .ok (.imul, 1) := by decide +kernel
theorem dX9_post_54 : decode cX9_post 54 = .ok (.iload_n 2, 1) := by decide +kernel
theorem dX9_post_55 : decode cX9_post 55 = .ok (.iadd, 1) := by decide +kernel
theorem dX9_post_56 : decode cX9_post 56 = .ok (.iload_n 3, 1) := by decide +kernel
theorem dX9_post_57 : decode cX9_post 57 = .ok (.iastore, 1) := by decide +kernel
theorem dX9_post_58 : decode cX9_post 58 = .ok (.aload_n 0, 1) := by decide +kernel
theorem dX9_post_59 : decode cX9_post 59 = .ok (.getfield 25, 3) := by decide +kernel
theorem dX9_post_62 : decode cX9_post 62 = .ok (.bipush 9, 2) := by decide +kernel
theorem dX9_post_64 : decode cX9_post 64 = .ok (.iload_n 2, 1) := by decide +kernel
theorem dX9_post_65 : decode cX9_post 65 = .ok (.imul, 1) := by decide +kernel
theorem dX9_post_66 : decode cX9_post 66 = .ok (.iload_n 1, 1) := by decide +kernel
theorem dX9_post_67 : decode cX9_post 67 = .ok (.iadd, 1) := by decide +kernel
theorem dX9_post_68 : decode cX9_post 68 = .ok (.iload_n 3, 1) := by decide +kernel
theorem dX9_post_69 : decode cX9_post 69 = .ok (.iastore, 1) := by decide +kernel
theorem dX9_post_70 : decode cX9_post 70 = .ok (.iload 4, 2) := by decide +kernel
theorem dX9_post_72 : decode cX9_post 72 = .ok (.ireturn, 1) := by decide +kernel
theorem dX9_isMaker_0 : decode cX9_isMaker 0 = .ok (.iload_n 0, 1) := by decide +kernel
theorem dX9_isMaker_1 : decode cX9_isMaker 1 = .ok (.i2l, 1) := by decide +kernel
theorem dX9_isMaker_2 : decode cX9_isMaker 2 = .ok (.lconst 0, 1) := by decide +kernel
theorem dX9_isMaker_3 : decode cX9_isMaker 3 = .ok (.ldc2_w 189, 3) := by decide +kernel
theorem dX9_isMaker_6 : decode cX9_isMaker 6 = .ok (.invokestatic 148, 3) := by decide +kernel
theorem dX9_isMaker_9 : decode cX9_isMaker 9 = .ok (.ireturn, 1) := by decide +kernel
theorem dX9_isLabel_0 : decode cX9_isLabel 0 = .ok (.iload_n 0, 1) := by decide +kernel
theorem dX9_isLabel_1 : decode cX9_isLabel 1 = .ok (.i2l, 1) := by decide +kernel
theorem dX9_isLabel_2 : decode cX9_isLabel 2 = .ok (.lconst 1, 1) := by decide +kernel
theorem dX9_isLabel_3 : decode cX9_isLabel 3 = .ok (.ldc2_w 191, 3) := by decide +kernel
theorem dX9_isLabel_6 : decode cX9_isLabel 6 = .ok (.invokestatic 148, 3) := by decide +kernel
theorem dX9_isLabel_9 : decode cX9_isLabel 9 = .ok (.ireturn, 1) := by decide +kernel
theorem dX9_add_0 : decode cX9_add 0 = .ok (.iload_n 2, 1) := by decide +kernel
theorem dX9_add_1 : decode cX9_add 1 = .ok (.invokestatic 193, 3) := by decide +kernel
theorem dX9_add_4 : decode cX9_add 4 = .ok (.ifCond .eq 57, 3) := by decide +kernel
theorem dX9_add_7 : decode cX9_add 7 = .ok (.iload_n 3, 1) := by decide +kernel
theorem dX9_add_8 : decode cX9_add 8 = .ok (.invokestatic 196, 3) := by decide +kernel
theorem dX9_add_11 : decode cX9_add 11 = .ok (.ifCond .eq 50, 3) := by decide +kernel
theorem dX9_add_14 : decode cX9_add 14 = .ok (.iload 4, 2) := by decide +kernel
theorem dX9_add_16 : decode cX9_add 16 = .ok (.i2l, 1) := by decide +kernel
theorem dX9_add_17 : decode cX9_add 17 = .ok (.lconst 0, 1) := by decide +kernel
theorem dX9_add_18 : decode cX9_add 18 = .ok (.ldc2_w 187, 3) := by decide +kernel
theorem dX9_add_21 : decode cX9_add 21 = .ok (.invokestatic 148, 3) := by decide +kernel
theorem dX9_add_24 : decode cX9_add 24 = .ok (.ifCond .eq 37, 3) := by decide +kernel
theorem dX9_add_27 : decode cX9_add 27 = .ok (.iload 5, 2) := by decide +kernel
theorem dX9_add_29 : decode cX9_add 29 = .ok (.invokestatic 183, 3) := by decide +kernel
theorem dX9_add_32 : decode cX9_add 32 = .ok (.ifCond .eq 29, 3) := by decide +kernel
theorem dX9_add_35 : decode cX9_add 35 = .ok (.iload 6, 2) := by decide +kernel
theorem dX9_add_37 : decode cX9_add 37 = .ok (.i2l, 1) := by decide +kernel
theorem dX9_add_38 : decode cX9_add 38 = .ok (.lconst 1, 1) := by decide +kernel
theorem dX9_add_39 : decode cX9_add 39 = .ok (.ldc2_w 199, 3) := by decide +kernel
theorem dX9_add_42 : decode cX9_add 42 = .ok (.invokestatic 148, 3) := by decide +kernel
theorem dX9_add_45 : decode cX9_add 45 = .ok (.ifCond .eq 16, 3) := by decide +kernel
theorem dX9_add_48 : decode cX9_add 48 = .ok (.iload 7, 2) := by decide +kernel
theorem dX9_add_50 : decode cX9_add 50 = .ok (.i2l, 1) := by decide +kernel
theorem dX9_add_51 : decode cX9_add 51 = .ok (.lconst 1, 1) := by decide +kernel
theorem dX9_add_52 : decode cX9_add 52 = .ok (.ldc2_w 201, 3) := by decide +kernel
theorem dX9_add_55 : decode cX9_add 55 = .ok (.invokestatic 148, 3) := by decide +kernel
theorem dX9_add_58 : decode cX9_add 58 = .ok (.ifCond .ne 5, 3) := by decide +kernel
theorem dX9_add_61 : decode cX9_add 61 = .ok (.iconst (-1), 1) := by decide +kernel
theorem dX9_add_62 : decode cX9_add 62 = .ok (.ireturn, 1) := by decide +kernel
theorem dX9_add_63 : decode cX9_add 63 = .ok (.aload_n 0, 1) := by decide +kernel
theorem dX9_add_64 : decode cX9_add 64 = .ok (.getfield 203, 3) := by decide +kernel
theorem dX9_add_67 : decode cX9_add 67 = .ok (.bipush 24, 2) := by decide +kernel
theorem dX9_add_69 : decode cX9_add 69 = .ok (.if_icmp .ne 6, 3) := by decide +kernel
theorem dX9_add_72 : decode cX9_add 72 = .ok (.bipush (-3), 2) := by decide +kernel
theorem dX9_add_74 : decode cX9_add 74 = .ok (.ireturn, 1) := by decide +kernel
theorem dX9_add_75 : decode cX9_add 75 = .ok (.aload_n 0, 1) := by decide +kernel
theorem dX9_add_76 : decode cX9_add 76 = .ok (.getfield 28, 3) := by decide +kernel
theorem dX9_add_79 : decode cX9_add 79 = .ok (.aload_n 0, 1) := by decide +kernel
theorem dX9_add_80 : decode cX9_add 80 = .ok (.getfield 203, 3) := by decide +kernel
theorem dX9_add_83 : decode cX9_add 83 = .ok (.iload_n 1, 1) := by decide +kernel
theorem dX9_add_84 : decode cX9_add 84 = .ok (.iastore, 1) := by decide +kernel
theorem dX9_add_85 : decode cX9_add 85 = .ok (.aload_n 0, 1) := by decide +kernel
theorem dX9_add_86 : decode cX9_add 86 = .ok (.getfield 31, 3) := by decide +kernel
theorem dX9_add_89 : decode cX9_add 89 = .ok (.aload_n 0, 1) := by decide +kernel
theorem dX9_add_90 : decode cX9_add 90 = .ok (.getfield 203, 3) := by decide +kernel
theorem dX9_add_93 : decode cX9_add 93 = .ok (.iload_n 2, 1) := by decide +kernel
theorem dX9_add_94 : decode cX9_add 94 = .ok (.iastore, 1) := by decide +kernel
theorem dX9_add_95 : decode cX9_add 95 = .ok (.aload_n 0, 1) := by decide +kernel
theorem dX9_add_96 : decode cX9_add 96 = .ok (.getfield 34, 3) := by decide +kernel
theorem dX9_add_99 : decode cX9_add 99 = .ok (.aload_n 0, 1) := by decide +kernel
theorem dX9_add_100 : decode cX9_add 100 = .ok (.getfield 203, 3) := by decide +kernel
theorem dX9_add_103 : decode cX9_add 103 = .ok (.iload_n 3, 1) := by decide +kernel
theorem dX9_add_104 : decode cX9_add 104 = .ok (.iastore, 1) := by decide +kernel
theorem dX9_add_105 : decode cX9_add 105 = .ok (.aload_n 0, 1) := by decide +kernel
theorem dX9_add_106 : decode cX9_add 106 = .ok (.getfield 37, 3) := by decide +kernel
theorem dX9_add_109 : decode cX9_add 109 = .ok (.aload_n 0, 1) := by decide +kernel
theorem dX9_add_110 : decode cX9_add 110 = .ok (.getfield 203, 3) := by decide +kernel
theorem dX9_add_113 : decode cX9_add 113 = .ok (.iload 4, 2) := by decide +kernel
theorem dX9_add_115 : decode cX9_add 115 = .ok (.iastore, 1) := by decide +kernel
theorem dX9_add_116 : decode cX9_add 116 = .ok (.aload_n 0, 1) := by decide +kernel
theorem dX9_add_117 : decode cX9_add 117 = .ok (.getfield 40, 3) := by decide +kernel
theorem dX9_add_120 : decode cX9_add 120 = .ok (.aload_n 0, 1) := by decide +kernel
theorem dX9_add_121 : decode cX9_add 121 = .ok (.getfield 203, 3) := by decide +kernel
theorem dX9_add_124 : decode cX9_add 124 = .ok (.iload 5, 2) := by decide +kernel
theorem dX9_add_126 : decode cX9_add 126 = .ok (.iastore, 1) := by decide +kernel
theorem dX9_add_127 : decode cX9_add 127 = .ok (.aload_n 0, 1) := by decide +kernel
theorem dX9_add_128 : decode cX9_add 128 = .ok (.getfield 43, 3) := by decide +kernel
theorem dX9_add_131 : decode cX9_add 131 = .ok (.aload_n 0, 1) := by decide +kernel
theorem dX9_add_132 : decode cX9_add 132 = .ok (.getfield 203, 3) := by decide +kernel
theorem dX9_add_135 : decode cX9_add 135 = .ok (.iload 6, 2) := by decide +kernel
theorem dX9_add_137 : decode cX9_add 137 = .ok (.iastore, 1) := by decide +kernel
theorem dX9_add_138 : decode cX9_add 138 = .ok (.aload_n 0, 1) := by decide +kernel
theorem dX9_add_139 : decode cX9_add 139 = .ok (.getfield 46, 3) := by decide +kernel
theorem dX9_add_142 : decode cX9_add 142 = .ok (.aload_n 0, 1) := by decide +kernel
theorem dX9_add_143 : decode cX9_add 143 = .ok (.getfield 203, 3) := by decide +kernel
theorem dX9_add_146 : decode cX9_add 146 = .ok (.iload 7, 2) := by decide +kernel
theorem dX9_add_148 : decode cX9_add 148 = .ok (.iastore, 1) := by decide +kernel
theorem dX9_add_149 : decode cX9_add 149 = .ok (.aload_n 0, 1) := by decide +kernel
theorem dX9_add_150 : decode cX9_add 150 = .ok (.dup, 1) := by decide +kernel
theorem dX9_add_151 : decode cX9_add 151 = .ok (.getfield 203, 3) := by decide +kernel
theorem dX9_add_154 : decode cX9_add 154 = .ok (.iconst 1, 1) := by decide +kernel
theorem dX9_add_155 : decode cX9_add 155 = .ok (.iadd, 1) := by decide +kernel
theorem dX9_add_156 : decode cX9_add 156 = .ok (.putfield 203, 3) := by decide +kernel
theorem dX9_add_159 : decode cX9_add 159 = .ok (.aload_n 0, 1) := by decide +kernel
theorem dX9_add_160 : decode cX9_add 160 = .ok (.getfield 203, 3) := by decide +kernel
theorem dX9_add_163 : decode cX9_add 163 = .ok (.iconst 1, 1) := by decide +kernel
theorem dX9_add_164 : decode cX9_add 164 = .ok (.isub, 1) := by decide +kernel
theorem dX9_add_165 : decode cX9_add 165 = .ok (.ireturn, 1) := by decide +kernel
theorem dX9_gown_0 : decode cX9_gown 0 = .ok (.aload_n 0, 1) := by decide +kernel
theorem dX9_gown_1 : decode cX9_gown 1 = .ok (.iconst 0, 1) := by decide +kernel
theorem dX9_gown_2 : decode cX9_gown 2 = .ok (.iload_n 1, 1) := by decide +kernel
theorem dX9_gown_3 : decode cX9_gown 3 = .ok (.iload_n 2, 1) := by decide +kernel
theorem dX9_gown_4 : decode cX9_gown 4 = .ok (.iload_n 3, 1) := by decide +kernel
theorem dX9_gown_5 : decode cX9_gown 5 = .ok (.iload 4, 2) := by decide +kernel
theorem dX9_gown_7 : decode cX9_gown 7 = .ok (.iload 5, 2) := by decide +kernel
theorem dX9_gown_9 : decode cX9_gown 9 = .ok (.iload 6, 2) := by decide +kernel
theorem dX9_gown_11 : decode cX9_gown 11 = .ok (.invokevirtual 206, 3) := by decide +kernel
theorem dX9_gown_14 : decode cX9_gown 14 = .ok (.ireturn, 1) := by decide +kernel
theorem dX9_longGown_0 : decode cX9_longGown 0 = .ok (.aload_n 0, 1) := by decide +kernel
theorem dX9_longGown_1 : decode cX9_longGown 1 = .ok (.iconst 1, 1) := by decide +kernel
theorem dX9_longGown_2 : decode cX9_longGown 2 = .ok (.iload_n 1, 1) := by decide +kernel
theorem dX9_longGown_3 : decode cX9_longGown 3 = .ok (.iload_n 2, 1) := by decide +kernel
theorem dX9_longGown_4 : decode cX9_longGown 4 = .ok (.iload_n 3, 1) := by decide +kernel
theorem dX9_longGown_5 : decode cX9_longGown 5 = .ok (.iload 4, 2) := by decide +kernel
theorem dX9_longGown_7 : decode cX9_longGown 7 = .ok (.iload 5, 2) := by decide +kernel
theorem dX9_longGown_9 : decode cX9_longGown 9 = .ok (.iload 6, 2) := by decide +kernel
theorem dX9_longGown_11 : decode cX9_longGown 11 = .ok (.invokevirtual 206, 3) := by decide +kernel
theorem dX9_longGown_14 : decode cX9_longGown 14 = .ok (.ireturn, 1) := by decide +kernel
theorem dX9_suit_0 : decode cX9_suit 0 = .ok (.aload_n 0, 1) := by decide +kernel
theorem dX9_suit_1 : decode cX9_suit 1 = .ok (.iconst 2, 1) := by decide +kernel
theorem dX9_suit_2 : decode cX9_suit 2 = .ok (.iload_n 1, 1) := by decide +kernel
theorem dX9_suit_3 : decode cX9_suit 3 = .ok (.iload_n 2, 1) := by decide +kernel
theorem dX9_suit_4 : decode cX9_suit 4 = .ok (.iload_n 3, 1) := by decide +kernel
theorem dX9_suit_5 : decode cX9_suit 5 = .ok (.iload 4, 2) := by decide +kernel
theorem dX9_suit_7 : decode cX9_suit 7 = .ok (.iload 5, 2) := by decide +kernel
theorem dX9_suit_9 : decode cX9_suit 9 = .ok (.iload 6, 2) := by decide +kernel
theorem dX9_suit_11 : decode cX9_suit 11 = .ok (.invokevirtual 206, 3) := by decide +kernel
theorem dX9_suit_14 : decode cX9_suit 14 = .ok (.ireturn, 1) := by decide +kernel
theorem dX9_isPiece_0 : decode cX9_isPiece 0 = .ok (.iload_n 1, 1) := by decide +kernel
theorem dX9_isPiece_1 : decode cX9_isPiece 1 = .ok (.i2l, 1) := by decide +kernel
theorem dX9_isPiece_2 : decode cX9_isPiece 2 = .ok (.lconst 0, 1) := by decide +kernel
theorem dX9_isPiece_3 : decode cX9_isPiece 3 = .ok (.aload_n 0, 1) := by decide +kernel
theorem dX9_isPiece_4 : decode cX9_isPiece 4 = .ok (.getfield 203, 3) := by decide +kernel
theorem dX9_isPiece_7 : decode cX9_isPiece 7 = .ok (.iconst 1, 1) := by decide +kernel
theorem dX9_isPiece_8 : decode cX9_isPiece 8 = .ok (.isub, 1) := by decide +kernel
theorem dX9_isPiece_9 : decode cX9_isPiece 9 = .ok (.i2l, 1) := by decide +kernel
theorem dX9_isPiece_10 : decode cX9_isPiece 10 = .ok (.invokestatic 148, 3) := by decide +kernel
theorem dX9_isPiece_13 : decode cX9_isPiece 13 = .ok (.ireturn, 1) := by decide +kernel
theorem dX9_hem_0 : decode cX9_hem 0 = .ok (.aload_n 0, 1) := by decide +kernel
theorem dX9_hem_1 : decode cX9_hem 1 = .ok (.iload_n 1, 1) := by decide +kernel
theorem dX9_hem_2 : decode cX9_hem 2 = .ok (.invokevirtual 210, 3) := by decide +kernel
theorem dX9_hem_5 : decode cX9_hem 5 = .ok (.ifCond .eq 15, 3) := by decide +kernel
theorem dX9_hem_8 : decode cX9_hem 8 = .ok (.iload_n 2, 1) := by decide +kernel
theorem dX9_hem_9 : decode cX9_hem 9 = .ok (.i2l, 1) := by decide +kernel
theorem dX9_hem_10 : decode cX9_hem 10 = .ok (.lconst 1, 1) := by decide +kernel
theorem dX9_hem_11 : decode cX9_hem 11 = .ok (.ldc2_w 213, 3) := by decide +kernel
theorem dX9_hem_14 : decode cX9_hem 14 = .ok (.invokestatic 148, 3) := by decide +kernel
theorem dX9_hem_17 : decode cX9_hem 17 = .ok (.ifCond .ne 5, 3) := by decide +kernel
theorem dX9_hem_20 : decode cX9_hem 20 = .ok (.iconst (-1), 1) := by decide +kernel
theorem dX9_hem_21 : decode cX9_hem 21 = .ok (.ireturn, 1) := by decide +kernel
theorem dX9_hem_22 : decode cX9_hem 22 = .ok (.aload_n 0, 1) := by decide +kernel
theorem dX9_hem_23 : decode cX9_hem 23 = .ok (.getfield 28, 3) := by decide +kernel
theorem dX9_hem_26 : decode cX9_hem 26 = .ok (.iload_n 1, 1) := by decide +kernel
theorem dX9_hem_27 : decode cX9_hem 27 = .ok (.iaload, 1) := by decide +kernel
theorem dX9_hem_28 : decode cX9_hem 28 = .ok (.iconst 1, 1) := by decide +kernel
theorem dX9_hem_29 : decode cX9_hem 29 = .ok (.if_icmp .eq 6, 3) := by decide +kernel
theorem dX9_hem_32 : decode cX9_hem 32 = .ok (.bipush (-12), 2) := by decide +kernel
theorem dX9_hem_34 : decode cX9_hem 34 = .ok (.ireturn, 1) := by decide +kernel
theorem dX9_hem_35 : decode cX9_hem 35 = .ok (.aload_n 0, 1) := by decide +kernel
theorem dX9_hem_36 : decode cX9_hem 36 = .ok (.getfield 49, 3) := by decide +kernel
theorem dX9_hem_39 : decode cX9_hem 39 = .ok (.iload_n 1, 1) := by decide +kernel
theorem dX9_hem_40 : decode cX9_hem 40 = .ok (.iaload, 1) := by decide +kernel
theorem dX9_hem_41 : decode cX9_hem 41 = .ok (.ifCond .le 6, 3) := by decide +kernel
theorem dX9_hem_44 : decode cX9_hem 44 = .ok (.bipush (-2), 2) := by decide +kernel
theorem dX9_hem_46 : decode cX9_hem 46 = .ok (.ireturn, 1) := by decide +kernel
theorem dX9_hem_47 : decode cX9_hem 47 = .ok (.aload_n 0, 1) := by decide +kernel
theorem dX9_hem_48 : decode cX9_hem 48 = .ok (.getfield 49, 3) := by decide +kernel
theorem dX9_hem_51 : decode cX9_hem 51 = .ok (.iload_n 1, 1) := by decide +kernel
theorem dX9_hem_52 : decode cX9_hem 52 = .ok (.iload_n 2, 1) := by decide +kernel
theorem dX9_hem_53 : decode cX9_hem 53 = .ok (.iastore, 1) := by decide +kernel
theorem dX9_hem_54 : decode cX9_hem 54 = .ok (.iconst 1, 1) := by decide +kernel
theorem dX9_hem_55 : decode cX9_hem 55 = .ok (.ireturn, 1) := by decide +kernel
theorem dX9_isRetired_0 : decode cX9_isRetired 0 = .ok (.aload_n 0, 1) := by decide +kernel
theorem dX9_isRetired_1 : decode cX9_isRetired 1 = .ok (.getfield 55, 3) := by decide +kernel
theorem dX9_isRetired_4 : decode cX9_isRetired 4 = .ok (.iload_n 1, 1) := by decide +kernel
theorem dX9_isRetired_5 : decode cX9_isRetired 5 = .ok (.baload, 1) := by decide +kernel
theorem dX9_isRetired_6 : decode cX9_isRetired 6 = .ok (.ifCond .ne 18, 3) := by decide +kernel
theorem dX9_isRetired_9 : decode cX9_isRetired 9 = .ok (.aload_n 0, 1) := by decide +kernel
theorem dX9_isRetired_10 : decode cX9_isRetired 10 = .ok (.getfield 52, 3) := by decide +kernel
theorem dX9_isRetired_13 : decode cX9_isRetired 13 = .ok (.iload_n 1, 1) := by decide +kernel
theorem dX9_isRetired_14 : decode cX9_isRetired 14 = .ok (.iaload, 1) := by decide +kernel
theorem dX9_isRetired_15 : decode cX9_isRetired 15 = .ok (.aload_n 0, 1) := by decide +kernel
theorem dX9_isRetired_16 : decode cX9_isRetired 16 = .ok (.getfield 46, 3) := by decide +kernel
theorem dX9_isRetired_19 : decode cX9_isRetired 19 = .ok (.iload_n 1, 1) := by decide +kernel
theorem dX9_isRetired_20 : decode cX9_isRetired 20 = .ok (.iaload, 1) := by decide +kernel
theorem dX9_isRetired_21 : decode cX9_isRetired 21 = .ok (.if_icmp .lt 7, 3) := by decide +kernel
theorem dX9_isRetired_24 : decode cX9_isRetired 24 = .ok (.iconst 1, 1) := by decide +kernel
theorem dX9_isRetired_25 : decode cX9_isRetired 25 = .ok (.goto 4, 3) := by decide +kernel
theorem dX9_isRetired_28 : decode cX9_isRetired 28 = .ok (.iconst 0, 1) := by decide +kernel
theorem dX9_isRetired_29 : decode cX9_isRetired 29 = .ok (.ireturn, 1) := by decide +kernel
theorem dX9_worthOf_0 : decode cX9_worthOf 0 = .ok (.aload_n 0, 1) := by decide +kernel
theorem dX9_worthOf_1 : decode cX9_worthOf 1 = .ok (.getfield 46, 3) := by decide +kernel
theorem dX9_worthOf_4 : decode cX9_worthOf 4 = .ok (.iload_n 1, 1) := by decide +kernel
theorem dX9_worthOf_5 : decode cX9_worthOf 5 = .ok (.iaload, 1) := by decide +kernel
theorem dX9_worthOf_6 : decode cX9_worthOf 6 = .ok (.aload_n 0, 1) := by decide +kernel
theorem dX9_worthOf_7 : decode cX9_worthOf 7 = .ok (.getfield 52, 3) := by decide +kernel
theorem dX9_worthOf_10 : decode cX9_worthOf 10 = .ok (.iload_n 1, 1) := by decide +kernel
theorem dX9_worthOf_11 : decode cX9_worthOf 11 = .ok (.iaload, 1) := by decide +kernel
theorem dX9_worthOf_12 : decode cX9_worthOf 12 = .ok (.if_icmp .le 19, 3) := by decide +kernel
theorem dX9_worthOf_15 : decode cX9_worthOf 15 = .ok (.aload_n 0, 1) := by decide +kernel
theorem dX9_worthOf_16 : decode cX9_worthOf 16 = .ok (.getfield 46, 3) := by decide +kernel
theorem dX9_worthOf_19 : decode cX9_worthOf 19 = .ok (.iload_n 1, 1) := by decide +kernel
theorem dX9_worthOf_20 : decode cX9_worthOf 20 = .ok (.iaload, 1) := by decide +kernel
theorem dX9_worthOf_21 : decode cX9_worthOf 21 = .ok (.aload_n 0, 1) := by decide +kernel
theorem dX9_worthOf_22 : decode cX9_worthOf 22 = .ok (.getfield 52, 3) := by decide +kernel
theorem dX9_worthOf_25 : decode cX9_worthOf 25 = .ok (.iload_n 1, 1) := by decide +kernel
theorem dX9_worthOf_26 : decode cX9_worthOf 26 = .ok (.iaload, 1) := by decide +kernel
theorem dX9_worthOf_27 : decode cX9_worthOf 27 = .ok (.isub, 1) := by decide +kernel
theorem dX9_worthOf_28 : decode cX9_worthOf 28 = .ok (.goto 4, 3) := by decide +kernel
theorem dX9_worthOf_31 : decode cX9_worthOf 31 = .ok (.iconst 0, 1) := by decide +kernel
theorem dX9_worthOf_32 : decode cX9_worthOf 32 = .ok (.istore_n 2, 1) := by decide +kernel
theorem dX9_worthOf_33 : decode cX9_worthOf 33 = .ok (.aload_n 0, 1) := by decide +kernel
theorem dX9_worthOf_34 : decode cX9_worthOf 34 = .ok (.getfield 43, 3) := by decide +kernel
theorem dX9_worthOf_37 : decode cX9_worthOf 37 = .ok (.iload_n 1, 1) := by decide +kernel
theorem dX9_worthOf_38 : decode cX9_worthOf 38 = .ok (.iaload, 1) := by decide +kernel
theorem dX9_worthOf_39 : decode cX9_worthOf 39 = .ok (.iload_n 2, 1) := by decide +kernel
theorem dX9_worthOf_40 : decode cX9_worthOf 40 = .ok (.imul, 1) := by decide +kernel
theorem dX9_worthOf_41 : decode cX9_worthOf 41 = .ok (.aload_n 0, 1) := by decide +kernel
theorem dX9_worthOf_42 : decode cX9_worthOf 42 = .ok (.getfield 46, 3) := by decide +kernel
theorem dX9_worthOf_45 : decode cX9_worthOf 45 = .ok (.iload_n 1, 1) := by decide +kernel
theorem dX9_worthOf_46 : decode cX9_worthOf 46 = .ok (.iaload, 1) := by decide +kernel
theorem dX9_worthOf_47 : decode cX9_worthOf 47 = .ok (.idiv, 1) := by decide +kernel
theorem dX9_worthOf_48 : decode cX9_worthOf 48 = .ok (.ireturn, 1) := by decide +kernel
theorem dX9_told_0 : decode cX9_told 0 = .ok (.aload_n 0, 1) := by decide +kernel
theorem dX9_told_1 : decode cX9_told 1 = .ok (.iload_n 1, 1) := by decide +kernel
theorem dX9_told_2 : decode cX9_told 2 = .ok (.invokevirtual 210, 3) := by decide +kernel
theorem dX9_told_5 : decode cX9_told 5 = .ok (.ifCond .ne 5, 3) := by decide +kernel
theorem dX9_told_8 : decode cX9_told 8 = .ok (.iconst (-1), 1) := by decide +kernel
theorem dX9_told_9 : decode cX9_told 9 = .ok (.ireturn, 1) := by decide +kernel
theorem dX9_told_10 : decode cX9_told 10 = .ok (.iload_n 2, 1) := by decide +kernel
theorem dX9_told_11 : decode cX9_told 11 = .ok (.tableswitch 143 0 9 #[53, 60, 67, 74, 81, 88, 95, 102, 108, 122], 53) := by decide +kernel
theorem dX9_told_64 : decode cX9_told 64 = .ok (.aload_n 0, 1) := by decide +kernel
theorem dX9_told_65 : decode cX9_told 65 = .ok (.getfield 28, 3) := by decide +kernel
theorem dX9_told_68 : decode cX9_told 68 = .ok (.iload_n 1, 1) := by decide +kernel
theorem dX9_told_69 : decode cX9_told 69 = .ok (.iaload, 1) := by decide +kernel
theorem dX9_told_70 : decode cX9_told 70 = .ok (.ireturn, 1) := by decide +kernel
theorem dX9_told_71 : decode cX9_told 71 = .ok (.aload_n 0, 1) := by decide +kernel
theorem dX9_told_72 : decode cX9_told 72 = .ok (.getfield 31, 3) := by decide +kernel
theorem dX9_told_75 : decode cX9_told 75 = .ok (.iload_n 1, 1) := by decide +kernel
theorem dX9_told_76 : decode cX9_told 76 = .ok (.iaload, 1) := by decide +kernel
theorem dX9_told_77 : decode cX9_told 77 = .ok (.ireturn, 1) := by decide +kernel
theorem dX9_told_78 : decode cX9_told 78 = .ok (.aload_n 0, 1) := by decide +kernel
theorem dX9_told_79 : decode cX9_told 79 = .ok (.getfield 34, 3) := by decide +kernel
theorem dX9_told_82 : decode cX9_told 82 = .ok (.iload_n 1, 1) := by decide +kernel
theorem dX9_told_83 : decode cX9_told 83 = .ok (.iaload, 1) := by decide +kernel
theorem dX9_told_84 : decode cX9_told 84 = .ok (.ireturn, 1) := by decide +kernel
theorem dX9_told_85 : decode cX9_told 85 = .ok (.aload_n 0, 1) := by decide +kernel
theorem dX9_told_86 : decode cX9_told 86 = .ok (.getfield 37, 3) := by decide +kernel
theorem dX9_told_89 : decode cX9_told 89 = .ok (.iload_n 1, 1) := by decide +kernel
theorem dX9_told_90 : decode cX9_told 90 = .ok (.iaload, 1) := by decide +kernel
theorem dX9_told_91 : decode cX9_told 91 = .ok (.ireturn, 1) := by decide +kernel
theorem dX9_told_92 : decode cX9_told 92 = .ok (.aload_n 0, 1) := by decide +kernel
theorem dX9_told_93 : decode cX9_told 93 = .ok (.getfield 40, 3) := by decide +kernel
theorem dX9_told_96 : decode cX9_told 96 = .ok (.iload_n 1, 1) := by decide +kernel
theorem dX9_told_97 : decode cX9_told 97 = .ok (.iaload, 1) := by decide +kernel
theorem dX9_told_98 : decode cX9_told 98 = .ok (.ireturn, 1) := by decide +kernel
theorem dX9_told_99 : decode cX9_told 99 = .ok (.aload_n 0, 1) := by decide +kernel
theorem dX9_told_100 : decode cX9_told 100 = .ok (.getfield 43, 3) := by decide +kernel
theorem dX9_told_103 : decode cX9_told 103 = .ok (.iload_n 1, 1) := by decide +kernel
theorem dX9_told_104 : decode cX9_told 104 = .ok (.iaload, 1) := by decide +kernel
theorem dX9_told_105 : decode cX9_told 105 = .ok (.ireturn, 1) := by decide +kernel
theorem dX9_told_106 : decode cX9_told 106 = .ok (.aload_n 0, 1) := by decide +kernel
theorem dX9_told_107 : decode cX9_told 107 = .ok (.getfield 52, 3) := by decide +kernel
theorem dX9_told_110 : decode cX9_told 110 = .ok (.iload_n 1, 1) := by decide +kernel
theorem dX9_told_111 : decode cX9_told 111 = .ok (.iaload, 1) := by decide +kernel
theorem dX9_told_112 : decode cX9_told 112 = .ok (.ireturn, 1) := by decide +kernel
theorem dX9_told_113 : decode cX9_told 113 = .ok (.aload_n 0, 1) := by decide +kernel
theorem dX9_told_114 : decode cX9_told 114 = .ok (.iload_n 1, 1) := by decide +kernel
theorem dX9_told_115 : decode cX9_told 115 = .ok (.invokevirtual 215, 3) := by decide +kernel
theorem dX9_told_118 : decode cX9_told 118 = .ok (.ireturn, 1) := by decide +kernel
theorem dX9_told_119 : decode cX9_told 119 = .ok (.aload_n 0, 1) := by decide +kernel
theorem dX9_told_120 : decode cX9_told 120 = .ok (.iload_n 1, 1) := by decide +kernel
theorem dX9_told_121 : decode cX9_told 121 = .ok (.invokevirtual 218, 3) := by decide +kernel
theorem dX9_told_124 : decode cX9_told 124 = .ok (.ifCond .eq 7, 3) := by decide +kernel
theorem dX9_told_127 : decode cX9_told 127 = .ok (.iconst 1, 1) := by decide +kernel
theorem dX9_told_128 : decode cX9_told 128 = .ok (.goto 4, 3) := by decide +kernel
theorem dX9_told_131 : decode cX9_told 131 = .ok (.iconst 0, 1) := by decide +kernel
theorem dX9_told_132 : decode cX9_told 132 = .ok (.ireturn, 1) := by decide +kernel
theorem dX9_told_133 : decode cX9_told 133 = .ok (.aload_n 0, 1) := by decide +kernel
theorem dX9_told_134 : decode cX9_told 134 = .ok (.getfield 59, 3) := by decide +kernel
theorem dX9_told_137 : decode cX9_told 137 = .ok (.iload_n 1, 1) := by decide +kernel
theorem dX9_told_138 : decode cX9_told 138 = .ok (.baload, 1) := by decide +kernel
theorem dX9_told_139 : decode cX9_told 139 = .ok (.ifCond .eq 12, 3) := by decide +kernel
theorem dX9_told_142 : decode cX9_told 142 = .ok (.aload_n 0, 1) := by decide +kernel
theorem dX9_told_143 : decode cX9_told 143 = .ok (.getfield 62, 3) := by decide +kernel
theorem dX9_told_146 : decode cX9_told 146 = .ok (.iload_n 1, 1) := by decide +kernel
theorem dX9_told_147 : decode cX9_told 147 = .ok (.iaload, 1) := by decide +kernel
theorem dX9_told_148 : decode cX9_told 148 = .ok (.goto 5, 3) := by decide +kernel
theorem dX9_told_151 : decode cX9_told 151 = .ok (.bipush (-4), 2) := by decide +kernel
theorem dX9_told_153 : decode cX9_told 153 = .ok (.ireturn, 1) := by decide +kernel
theorem dX9_told_154 : decode cX9_told 154 = .ok (.iconst (-1), 1) := by decide +kernel
theorem dX9_told_155 : decode cX9_told 155 = .ok (.ireturn, 1) := by decide +kernel
theorem dX9_same_0 : decode cX9_same 0 = .ok (.iload_n 1, 1) := by decide +kernel
theorem dX9_same_1 : decode cX9_same 1 = .ok (.invokestatic 193, 3) := by decide +kernel
theorem dX9_same_4 : decode cX9_same 4 = .ok (.ifCond .eq 30, 3) := by decide +kernel
theorem dX9_same_7 : decode cX9_same 7 = .ok (.iload_n 2, 1) := by decide +kernel
theorem dX9_same_8 : decode cX9_same 8 = .ok (.invokestatic 196, 3) := by decide +kernel
theorem dX9_same_11 : decode cX9_same 11 = .ok (.ifCond .eq 23, 3) := by decide +kernel
theorem dX9_same_14 : decode cX9_same 14 = .ok (.iload_n 3, 1) := by decide +kernel
theorem dX9_same_15 : decode cX9_same 15 = .ok (.invokestatic 193, 3) := by decide +kernel
theorem dX9_same_18 : decode cX9_same 18 = .ok (.ifCond .eq 16, 3) := by decide +kernel
theorem dX9_same_21 : decode cX9_same 21 = .ok (.iload 4, 2) := by decide +kernel
theorem dX9_same_23 : decode cX9_same 23 = .ok (.invokestatic 196, 3) := by decide +kernel
theorem dX9_same_26 : decode cX9_same 26 = .ok (.ifCond .eq 8, 3) := by decide +kernel
theorem dX9_same_29 : decode cX9_same 29 = .ok (.iload_n 1, 1) := by decide +kernel
theorem dX9_same_30 : decode cX9_same 30 = .ok (.iload_n 3, 1) := by decide +kernel
theorem dX9_same_31 : decode cX9_same 31 = .ok (.if_icmp .ne 5, 3) := by decide +kernel
theorem dX9_same_34 : decode cX9_same 34 = .ok (.iconst (-1), 1) := by decide +kernel
theorem dX9_same_35 : decode cX9_same 35 = .ok (.ireturn, 1) := by decide +kernel
theorem dX9_same_36 : decode cX9_same 36 = .ok (.aload_n 0, 1) := by decide +kernel
theorem dX9_same_37 : decode cX9_same 37 = .ok (.getfield 221, 3) := by decide +kernel
theorem dX9_same_40 : decode cX9_same 40 = .ok (.bipush 20, 2) := by decide +kernel
theorem dX9_same_42 : decode cX9_same 42 = .ok (.if_icmp .ne 6, 3) := by decide +kernel
theorem dX9_same_45 : decode cX9_same 45 = .ok (.bipush (-3), 2) := by decide +kernel
theorem dX9_same_47 : decode cX9_same 47 = .ok (.ireturn, 1) := by decide +kernel
theorem dX9_same_48 : decode cX9_same 48 = .ok (.aload_n 0, 1) := by decide +kernel
theorem dX9_same_49 : decode cX9_same 49 = .ok (.getfield 65, 3) := by decide +kernel
theorem dX9_same_52 : decode cX9_same 52 = .ok (.aload_n 0, 1) := by decide +kernel
theorem dX9_same_53 : decode cX9_same 53 = .ok (.getfield 221, 3) := by decide +kernel
theorem dX9_same_56 : decode cX9_same 56 = .ok (.iload_n 1, 1) := by decide +kernel
theorem dX9_same_57 : decode cX9_same 57 = .ok (.iastore, 1) := by decide +kernel
theorem dX9_same_58 : decode cX9_same 58 = .ok (.aload_n 0, 1) := by decide +kernel
theorem dX9_same_59 : decode cX9_same 59 = .ok (.getfield 68, 3) := by decide +kernel
theorem dX9_same_62 : decode cX9_same 62 = .ok (.aload_n 0, 1) := by decide +kernel
theorem dX9_same_63 : decode cX9_same 63 = .ok (.getfield 221, 3) := by decide +kernel
theorem dX9_same_66 : decode cX9_same 66 = .ok (.iload_n 2, 1) := by decide +kernel
theorem dX9_same_67 : decode cX9_same 67 = .ok (.iastore, 1) := by decide +kernel
theorem dX9_same_68 : decode cX9_same 68 = .ok (.aload_n 0, 1) := by decide +kernel
theorem dX9_same_69 : decode cX9_same 69 = .ok (.getfield 71, 3) := by decide +kernel
theorem dX9_same_72 : decode cX9_same 72 = .ok (.aload_n 0, 1) := by decide +kernel
theorem dX9_same_73 : decode cX9_same 73 = .ok (.getfield 221, 3) := by decide +kernel
theorem dX9_same_76 : decode cX9_same 76 = .ok (.iload_n 3, 1) := by decide +kernel
theorem dX9_same_77 : decode cX9_same 77 = .ok (.iastore, 1) := by decide +kernel
theorem dX9_same_78 : decode cX9_same 78 = .ok (.aload_n 0, 1) := by decide +kernel
theorem dX9_same_79 : decode cX9_same 79 = .ok (.getfield 74, 3) := by decide +kernel
theorem dX9_same_82 : decode cX9_same 82 = .ok (.aload_n 0, 1) := by decide +kernel
theorem dX9_same_83 : decode cX9_same 83 = .ok (.getfield 221, 3) := by decide +kernel
theorem dX9_same_86 : decode cX9_same 86 = .ok (.iload 4, 2) := by decide +kernel
theorem dX9_same_88 : decode cX9_same 88 = .ok (.iastore, 1) := by decide +kernel
theorem dX9_same_89 : decode cX9_same 89 = .ok (.aload_n 0, 1) := by decide +kernel
theorem dX9_same_90 : decode cX9_same 90 = .ok (.dup, 1) := by decide +kernel
theorem dX9_same_91 : decode cX9_same 91 = .ok (.getfield 221, 3) := by decide +kernel
theorem dX9_same_94 : decode cX9_same 94 = .ok (.iconst 1, 1) := by decide +kernel
theorem dX9_same_95 : decode cX9_same 95 = .ok (.iadd, 1) := by decide +kernel
theorem dX9_same_96 : decode cX9_same 96 = .ok (.putfield 221, 3) := by decide +kernel
theorem dX9_same_99 : decode cX9_same 99 = .ok (.aload_n 0, 1) := by decide +kernel
theorem dX9_same_100 : decode cX9_same 100 = .ok (.getfield 221, 3) := by decide +kernel
theorem dX9_same_103 : decode cX9_same 103 = .ok (.iconst 1, 1) := by decide +kernel
theorem dX9_same_104 : decode cX9_same 104 = .ok (.isub, 1) := by decide +kernel
theorem dX9_same_105 : decode cX9_same 105 = .ok (.ireturn, 1) := by decide +kernel
theorem dX9_clearLies_0 : decode cX9_clearLies 0 = .ok (.iconst 0, 1) := by decide +kernel
theorem dX9_clearLies_1 : decode cX9_clearLies 1 = .ok (.istore_n 1, 1) := by decide +kernel
theorem dX9_clearLies_2 : decode cX9_clearLies 2 = .ok (.iload_n 1, 1) := by decide +kernel
theorem dX9_clearLies_3 : decode cX9_clearLies 3 = .ok (.bipush 6, 2) := by decide +kernel
theorem dX9_clearLies_5 : decode cX9_clearLies 5 = .ok (.if_icmp .ge 41, 3) := by decide +kernel
theorem dX9_clearLies_8 : decode cX9_clearLies 8 = .ok (.aload_n 0, 1) := by decide +kernel
theorem dX9_clearLies_9 : decode cX9_clearLies 9 = .ok (.getfield 77, 3) := by decide +kernel
theorem dX9_clearLies_12 : decode cX9_clearLies 12 = .ok (.iload_n 1, 1) := by decide +kernel
theorem dX9_clearLies_13 : decode cX9_clearLies 13 = .ok (.iload_n 1, 1) := by decide +kernel
theorem dX9_clearLies_14 : decode cX9_clearLies 14 = .ok (.ifCond .ne 7, 3) := by decide +kernel
theorem dX9_clearLies_17 : decode cX9_clearLies 17 = .ok (.iconst 0, 1) := by decide +kernel
theorem dX9_clearLies_18 : decode cX9_clearLies 18 = .ok (.goto 5, 3) := by decide +kernel
theorem dX9_clearLies_21 : decode cX9_clearLies 21 = .ok (.bipush (-9), 2) := by decide +kernel
theorem dX9_clearLies_23 : decode cX9_clearLies 23 = .ok (.iastore, 1) := by decide +kernel
theorem dX9_clearLies_24 : decode cX9_clearLies 24 = .ok (.aload_n 0, 1) := by decide +kernel
theorem dX9_clearLies_25 : decode cX9_clearLies 25 = .ok (.getfield 80, 3) := by decide +kernel
theorem dX9_clearLies_28 : decode cX9_clearLies 28 = .ok (.iload_n 1, 1) := by decide +kernel
theorem dX9_clearLies_29 : decode cX9_clearLies 29 = .ok (.iload_n 1, 1) := by decide +kernel
theorem dX9_clearLies_30 : decode cX9_clearLies 30 = .ok (.ifCond .ne 7, 3) := by decide +kernel
theorem dX9_clearLies_33 : decode cX9_clearLies 33 = .ok (.iconst 0, 1) := by decide +kernel
theorem dX9_clearLies_34 : decode cX9_clearLies 34 = .ok (.goto 5, 3) := by decide +kernel
theorem dX9_clearLies_37 : decode cX9_clearLies 37 = .ok (.bipush 9, 2) := by decide +kernel
theorem dX9_clearLies_39 : decode cX9_clearLies 39 = .ok (.iastore, 1) := by decide +kernel
theorem dX9_clearLies_40 : decode cX9_clearLies 40 = .ok (.iinc 1 1, 3) := by decide +kernel
theorem dX9_clearLies_43 : decode cX9_clearLies 43 = .ok (.goto (-41), 3) := by decide +kernel
theorem dX9_clearLies_46 : decode cX9_clearLies 46 = .ok (.return_, 1) := by decide +kernel
theorem dX9_bind_0 : decode cX9_bind 0 = .ok (.iconst 0, 1) := by decide +kernel
theorem dX9_bind_1 : decode cX9_bind 1 = .ok (.istore 4, 2) := by decide +kernel
theorem dX9_bind_3 : decode cX9_bind 3 = .ok (.aload_n 0, 1) := by decide +kernel
theorem dX9_bind_4 : decode cX9_bind 4 = .ok (.getfield 77, 3) := by decide +kernel
theorem dX9_bind_7 : decode cX9_bind 7 = .ok (.iload_n 2, 1) := by decide +kernel
theorem dX9_bind_8 : decode cX9_bind 8 = .ok (.iaload, 1) := by decide +kernel
theorem dX9_bind_9 : decode cX9_bind 9 = .ok (.iload_n 3, 1) := by decide +kernel
theorem dX9_bind_10 : decode cX9_bind 10 = .ok (.iadd, 1) := by decide +kernel
theorem dX9_bind_11 : decode cX9_bind 11 = .ok (.iconst 1, 1) := by decide +kernel
theorem dX9_bind_12 : decode cX9_bind 12 = .ok (.isub, 1) := by decide +kernel
theorem dX9_bind_13 : decode cX9_bind 13 = .ok (.aload_n 0, 1) := by decide +kernel
theorem dX9_bind_14 : decode cX9_bind 14 = .ok (.getfield 77, 3) := by decide +kernel
theorem dX9_bind_17 : decode cX9_bind 17 = .ok (.iload_n 1, 1) := by decide +kernel
theorem dX9_bind_18 : decode cX9_bind 18 = .ok (.iaload, 1) := by decide +kernel
theorem dX9_bind_19 : decode cX9_bind 19 = .ok (.if_icmp .le 22, 3) := by decide +kernel
theorem dX9_bind_22 : decode cX9_bind 22 = .ok (.aload_n 0, 1) := by decide +kernel
theorem dX9_bind_23 : decode cX9_bind 23 = .ok (.getfield 77, 3) := by decide +kernel
theorem dX9_bind_26 : decode cX9_bind 26 = .ok (.iload_n 1, 1) := by decide +kernel
theorem dX9_bind_27 : decode cX9_bind 27 = .ok (.aload_n 0, 1) := by decide +kernel
theorem dX9_bind_28 : decode cX9_bind 28 = .ok (.getfield 77, 3) := by decide +kernel
theorem dX9_bind_31 : decode cX9_bind 31 = .ok (.iload_n 2, 1) := by decide +kernel
theorem dX9_bind_32 : decode cX9_bind 32 = .ok (.iaload, 1) := by decide +kernel
theorem dX9_bind_33 : decode cX9_bind 33 = .ok (.iload_n 3, 1) := by decide +kernel
theorem dX9_bind_34 : decode cX9_bind 34 = .ok (.iadd, 1) := by decide +kernel
theorem dX9_bind_35 : decode cX9_bind 35 = .ok (.iconst 1, 1) := by decide +kernel
theorem dX9_bind_36 : decode cX9_bind 36 = .ok (.isub, 1) := by decide +kernel
theorem dX9_bind_37 : decode cX9_bind 37 = .ok (.iastore, 1) := by decide +kernel
theorem dX9_bind_38 : decode cX9_bind 38 = .ok (.iconst 1, 1) := by decide +kernel
theorem dX9_bind_39 : decode cX9_bind 39 = .ok (.istore 4, 2) := by decide +kernel
theorem dX9_bind_41 : decode cX9_bind 41 = .ok (.aload_n 0, 1) := by decide +kernel
theorem dX9_bind_42 : decode cX9_bind 42 = .ok (.getfield 80, 3) := by decide +kernel
theorem dX9_bind_45 : decode cX9_bind 45 = .ok (.iload_n 2, 1) := by decide +kernel
theorem dX9_bind_46 : decode cX9_bind 46 = .ok (.iaload, 1) := by decide +kernel
theorem dX9_bind_47 : decode cX9_bind 47 = .ok (.iload_n 3, 1) := by decide +kernel
theorem dX9_bind_48 : decode cX9_bind 48 = .ok (.iadd, 1) := by decide +kernel
theorem dX9_bind_49 : decode cX9_bind 49 = .ok (.iconst 1, 1) := by decide +kernel
theorem dX9_bind_50 : decode cX9_bind 50 = .ok (.iadd, 1) := by decide +kernel
theorem dX9_bind_51 : decode cX9_bind 51 = .ok (.aload_n 0, 1) := by decide +kernel
theorem dX9_bind_52 : decode cX9_bind 52 = .ok (.getfield 80, 3) := by decide +kernel
theorem dX9_bind_55 : decode cX9_bind 55 = .ok (.iload_n 1, 1) := by decide +kernel
theorem dX9_bind_56 : decode cX9_bind 56 = .ok (.iaload, 1) := by decide +kernel
theorem dX9_bind_57 : decode cX9_bind 57 = .ok (.if_icmp .ge 22, 3) := by decide +kernel
theorem dX9_bind_60 : decode cX9_bind 60 = .ok (.aload_n 0, 1) := by decide +kernel
theorem dX9_bind_61 : decode cX9_bind 61 = .ok (.getfield 80, 3) := by decide +kernel
theorem dX9_bind_64 : decode cX9_bind 64 = .ok (.iload_n 1, 1) := by decide +kernel
theorem dX9_bind_65 : decode cX9_bind 65 = .ok (.aload_n 0, 1) := by decide +kernel
theorem dX9_bind_66 : decode cX9_bind 66 = .ok (.getfield 80, 3) := by decide +kernel
theorem dX9_bind_69 : decode cX9_bind 69 = .ok (.iload_n 2, 1) := by decide +kernel
theorem dX9_bind_70 : decode cX9_bind 70 = .ok (.iaload, 1) := by decide +kernel
theorem dX9_bind_71 : decode cX9_bind 71 = .ok (.iload_n 3, 1) := by decide +kernel
theorem dX9_bind_72 : decode cX9_bind 72 = .ok (.iadd, 1) := by decide +kernel
theorem dX9_bind_73 : decode cX9_bind 73 = .ok (.iconst 1, 1) := by decide +kernel
theorem dX9_bind_74 : decode cX9_bind 74 = .ok (.iadd, 1) := by decide +kernel
theorem dX9_bind_75 : decode cX9_bind 75 = .ok (.iastore, 1) := by decide +kernel
theorem dX9_bind_76 : decode cX9_bind 76 = .ok (.iconst 1, 1) := by decide +kernel
theorem dX9_bind_77 : decode cX9_bind 77 = .ok (.istore 4, 2) := by decide +kernel
theorem dX9_bind_79 : decode cX9_bind 79 = .ok (.iload 4, 2) := by decide +kernel
theorem dX9_bind_81 : decode cX9_bind 81 = .ok (.ireturn, 1) := by decide +kernel
theorem dX9_findLies_0 : decode cX9_findLies 0 = .ok (.aload_n 0, 1) := by decide +kernel
theorem dX9_findLies_1 : decode cX9_findLies 1 = .ok (.invokevirtual 224, 3) := by decide +kernel
theorem dX9_findLies_4 : decode cX9_findLies 4 = .ok (.aload_n 0, 1) := by decide +kernel
theorem dX9_findLies_5 : decode cX9_findLies 5 = .ok (.iconst 0, 1) := by decide +kernel
theorem dX9_findLies_6 : decode cX9_findLies 6 = .ok (.putfield 227, 3) := by decide +kernel
theorem dX9_findLies_9 : decode cX9_findLies 9 = .ok (.iconst 1, 1) := by decide +kernel
theorem dX9_findLies_10 : decode cX9_findLies 10 = .ok (.istore_n 1, 1) := by decide +kernel
theorem dX9_findLies_11 : decode cX9_findLies 11 = .ok (.iload_n 1, 1) := by decide +kernel
theorem dX9_findLies_12 : decode cX9_findLies 12 = .ok (.ifCond .eq 149, 3) := by decide +kernel
theorem dX9_findLies_15 : decode cX9_findLies 15 = .ok (.aload_n 0, 1) := by decide +kernel
theorem dX9_findLies_16 : decode cX9_findLies 16 = .ok (.getfield 227, 3) := by decide +kernel
theorem dX9_findLies_19 : decode cX9_findLies 19 = .ok (.ifCond .ne 142, 3) := by decide +kernel
theorem dX9_findLies_22 : decode cX9_findLies 22 = .ok (.iconst 0, 1) := by decide +kernel
theorem dX9_findLies_23 : decode cX9_findLies 23 = .ok (.istore_n 1, 1) := by decide +kernel
theorem dX9_findLies_24 : decode cX9_findLies 24 = .ok (.iconst 0, 1) := by decide +kernel
theorem dX9_findLies_25 : decode cX9_findLies 25 = .ok (.istore_n 2, 1) := by decide +kernel
theorem dX9_findLies_26 : decode cX9_findLies 26 = .ok (.iload_n 2, 1) := by decide +kernel
theorem dX9_findLies_27 : decode cX9_findLies 27 = .ok (.aload_n 0, 1) := by decide +kernel
theorem dX9_findLies_28 : decode cX9_findLies 28 = .ok (.getfield 221, 3) := by decide +kernel
theorem dX9_findLies_31 : decode cX9_findLies 31 = .ok (.if_icmp .ge 82, 3) := by decide +kernel
theorem dX9_findLies_34 : decode cX9_findLies 34 = .ok (.aload_n 0, 1) := by decide +kernel
theorem dX9_findLies_35 : decode cX9_findLies 35 = .ok (.getfield 74, 3) := by decide +kernel
theorem dX9_findLies_38 : decode cX9_findLies 38 = .ok (.iload_n 2, 1) := by decide +kernel
theorem dX9_findLies_39 : decode cX9_findLies 39 = .ok (.iaload, 1) := by decide +kernel
theorem dX9_findLies_40 : decode cX9_findLies 40 = .ok (.aload_n 0, 1) := by decide +kernel
theorem dX9_findLies_41 : decode cX9_findLies 41 = .ok (.getfield 68, 3) := by decide +kernel
theorem dX9_findLies_44 : decode cX9_findLies 44 = .ok (.iload_n 2, 1) := by decide +kernel
theorem dX9_findLies_45 : decode cX9_findLies 45 = .ok (.iaload, 1) := by decide +kernel
theorem dX9_findLies_46 : decode cX9_findLies 46 = .ok (.isub, 1) := by decide +kernel
theorem dX9_findLies_47 : decode cX9_findLies 47 = .ok (.istore_n 3, 1) := by decide +kernel
theorem dX9_findLies_48 : decode cX9_findLies 48 = .ok (.aload_n 0, 1) := by decide +kernel
theorem dX9_findLies_49 : decode cX9_findLies 49 = .ok (.aload_n 0, 1) := by decide +kernel
theorem dX9_findLies_50 : decode cX9_findLies 50 = .ok (.getfield 65, 3) := by decide +kernel
theorem dX9_findLies_53 : decode cX9_findLies 53 = .ok (.iload_n 2, 1) := by decide +kernel
theorem dX9_findLies_54 : decode cX9_findLies 54 = .ok (.iaload, 1) := by decide +kernel
theorem dX9_findLies_55 : decode cX9_findLies 55 = .ok (.aload_n 0, 1) := by decide +kernel
theorem dX9_findLies_56 : decode cX9_findLies 56 = .ok (.getfield 71, 3) := by decide +kernel
theorem dX9_findLies_59 : decode cX9_findLies 59 = .ok (.iload_n 2, 1) := by decide +kernel
theorem dX9_findLies_60 : decode cX9_findLies 60 = .ok (.iaload, 1) := by decide +kernel
theorem dX9_findLies_61 : decode cX9_findLies 61 = .ok (.iload_n 3, 1) := by decide +kernel
theorem dX9_findLies_62 : decode cX9_findLies 62 = .ok (.invokevirtual 231, 3) := by decide +kernel
theorem dX9_findLies_65 : decode cX9_findLies 65 = .ok (.istore 4, 2) := by decide +kernel
theorem dX9_findLies_67 : decode cX9_findLies 67 = .ok (.aload_n 0, 1) := by decide +kernel
theorem dX9_findLies_68 : decode cX9_findLies 68 = .ok (.aload_n 0, 1) := by decide +kernel
theorem dX9_findLies_69 : decode cX9_findLies 69 = .ok (.getfield 71, 3) := by decide +kernel
theorem dX9_findLies_72 : decode cX9_findLies 72 = .ok (.iload_n 2, 1) := by decide +kernel
theorem dX9_findLies_73 : decode cX9_findLies 73 = .ok (.iaload, 1) := by decide +kernel
theorem dX9_findLies_74 : decode cX9_findLies 74 = .ok (.aload_n 0, 1) := by decide +kernel
theorem dX9_findLies_75 : decode cX9_findLies 75 = .ok (.getfield 65, 3) := by decide +kernel
theorem dX9_findLies_78 : decode cX9_findLies 78 = .ok (.iload_n 2, 1) := by decide +kernel
theorem dX9_findLies_79 : decode cX9_findLies 79 = .ok (.iaload, 1) := by decide +kernel
theorem dX9_findLies_80 : decode cX9_findLies 80 = .ok (.iload_n 3, 1) := by decide +kernel
theorem dX9_findLies_81 : decode cX9_findLies 81 = .ok (.ineg, 1) := by decide +kernel
theorem dX9_findLies_82 : decode cX9_findLies 82 = .ok (.invokevirtual 231, 3) := by decide +kernel
theorem dX9_findLies_85 : decode cX9_findLies 85 = .ok (.istore 5, 2) := by decide +kernel
theorem dX9_findLies_87 : decode cX9_findLies 87 = .ok (.iload_n 1, 1) := by decide +kernel
theorem dX9_findLies_88 : decode cX9_findLies 88 = .ok (.ifCond .ne 13, 3) := by decide +kernel
theorem dX9_findLies_91 : decode cX9_findLies 91 = .ok (.iload 4, 2) := by decide +kernel
theorem dX9_findLies_93 : decode cX9_findLies 93 = .ok (.ifCond .ne 8, 3) := by decide +kernel
theorem dX9_findLies_96 : decode cX9_findLies 96 = .ok (.iload 5, 2) := by decide +kernel
theorem dX9_findLies_98 : decode cX9_findLies 98 = .ok (.ifCond .eq 7, 3) := by decide +kernel
theorem dX9_findLies_101 : decode cX9_findLies 101 = .ok (.iconst 1, 1) := by decide +kernel
theorem dX9_findLies_102 : decode cX9_findLies 102 = .ok (.goto 4, 3) := by decide +kernel
theorem dX9_findLies_105 : decode cX9_findLies 105 = .ok (.iconst 0, 1) := by decide +kernel
theorem dX9_findLies_106 : decode cX9_findLies 106 = .ok (.istore_n 1, 1) := by decide +kernel
theorem dX9_findLies_107 : decode cX9_findLies 107 = .ok (.iinc 2 1, 3) := by decide +kernel
theorem dX9_findLies_110 : decode cX9_findLies 110 = .ok (.goto (-84), 3) := by decide +kernel
theorem dX9_findLies_113 : decode cX9_findLies 113 = .ok (.iconst 0, 1) := by decide +kernel
theorem dX9_findLies_114 : decode cX9_findLies 114 = .ok (.istore_n 2, 1) := by decide +kernel
theorem dX9_findLies_115 : decode cX9_findLies 115 = .ok (.iload_n 2, 1) := by decide +kernel
theorem dX9_findLies_116 : decode cX9_findLies 116 = .ok (.bipush 6, 2) := by decide +kernel
theorem dX9_findLies_118 : decode cX9_findLies 118 = .ok (.if_icmp .ge 40, 3) := by decide +kernel
theorem dX9_findLies_121 : decode cX9_findLies 121 = .ok (.aload_n 0, 1) := by decide +kernel
theorem dX9_findLies_122 : decode cX9_findLies 122 = .ok (.aload_n 0, 1) := by decide +kernel
theorem dX9_findLies_123 : decode cX9_findLies 123 = .ok (.getfield 227, 3) := by decide +kernel
theorem dX9_findLies_126 : decode cX9_findLies 126 = .ok (.ifCond .ne 18, 3) := by decide +kernel
theorem dX9_findLies_129 : decode cX9_findLies 129 = .ok (.aload_n 0, 1) := by decide +kernel
theorem dX9_findLies_130 : decode cX9_findLies 130 = .ok (.getfield 77, 3) := by decide +kernel
theorem dX9_findLies_133 : decode cX9_findLies 133 = .ok (.iload_n 2, 1) := by decide +kernel
theorem dX9_findLies_134 : decode cX9_findLies 134 = .ok (.iaload, 1) := by decide +kernel
theorem dX9_findLies_135 : decode cX9_findLies 135 = .ok (.aload_n 0, 1) := by decide +kernel
theorem dX9_findLies_136 : decode cX9_findLies 136 = .ok (.getfield 80, 3) := by decide +kernel
theorem dX9_findLies_139 : decode cX9_findLies 139 = .ok (.iload_n 2, 1) := by decide +kernel
theorem dX9_findLies_140 : decode cX9_findLies 140 = .ok (.iaload, 1) := by decide +kernel
theorem dX9_findLies_141 : decode cX9_findLies 141 = .ok (.if_icmp .le 7, 3) := by decide +kernel
theorem dX9_findLies_144 : decode cX9_findLies 144 = .ok (.iconst 1, 1) := by decide +kernel
theorem dX9_findLies_145 : decode cX9_findLies 145 = .ok (.goto 4, 3) := by decide +kernel
theorem dX9_findLies_148 : decode cX9_findLies 148 = .ok (.iconst 0, 1) := by decide +kernel
theorem dX9_findLies_149 : decode cX9_findLies 149 = .ok (.putfield 227, 3) := by decide +kernel
theorem dX9_findLies_152 : decode cX9_findLies 152 = .ok (.iinc 2 1, 3) := by decide +kernel
theorem dX9_findLies_155 : decode cX9_findLies 155 = .ok (.goto (-40), 3) := by decide +kernel
theorem dX9_findLies_158 : decode cX9_findLies 158 = .ok (.goto (-147), 3) := by decide +kernel
theorem dX9_findLies_161 : decode cX9_findLies 161 = .ok (.aload_n 0, 1) := by decide +kernel
theorem dX9_findLies_162 : decode cX9_findLies 162 = .ok (.getfield 227, 3) := by decide +kernel
theorem dX9_findLies_165 : decode cX9_findLies 165 = .ok (.ifCond .eq 7, 3) := by decide +kernel
theorem dX9_findLies_168 : decode cX9_findLies 168 = .ok (.aload_n 0, 1) := by decide +kernel
theorem dX9_findLies_169 : decode cX9_findLies 169 = .ok (.invokevirtual 224, 3) := by decide +kernel
theorem dX9_findLies_172 : decode cX9_findLies 172 = .ok (.return_, 1) := by decide +kernel
theorem dX9_lie_0 : decode cX9_lie 0 = .ok (.iload_n 1, 1) := by decide +kernel
theorem dX9_lie_1 : decode cX9_lie 1 = .ok (.invokestatic 193, 3) := by decide +kernel
theorem dX9_lie_4 : decode cX9_lie 4 = .ok (.ifCond .eq 13, 3) := by decide +kernel
theorem dX9_lie_7 : decode cX9_lie 7 = .ok (.iload_n 2, 1) := by decide +kernel
theorem dX9_lie_8 : decode cX9_lie 8 = .ok (.i2l, 1) := by decide +kernel
theorem dX9_lie_9 : decode cX9_lie 9 = .ok (.lconst 0, 1) := by decide +kernel
theorem dX9_lie_10 : decode cX9_lie 10 = .ok (.lconst 1, 1) := by decide +kernel
theorem dX9_lie_11 : decode cX9_lie 11 = .ok (.invokestatic 148, 3) := by decide +kernel
theorem dX9_lie_14 : decode cX9_lie 14 = .ok (.ifCond .ne 6, 3) := by decide +kernel
theorem dX9_lie_17 : decode cX9_lie 17 = .ok (.bipush (-101), 2) := by decide +kernel
theorem dX9_lie_19 : decode cX9_lie 19 = .ok (.ireturn, 1) := by decide +kernel
theorem dX9_lie_20 : decode cX9_lie 20 = .ok (.aload_n 0, 1) := by decide +kernel
theorem dX9_lie_21 : decode cX9_lie 21 = .ok (.invokevirtual 235, 3) := by decide +kernel
theorem dX9_lie_24 : decode cX9_lie 24 = .ok (.iload_n 2, 1) := by decide +kernel
theorem dX9_lie_25 : decode cX9_lie 25 = .ok (.ifCond .ne 12, 3) := by decide +kernel
theorem dX9_lie_28 : decode cX9_lie 28 = .ok (.aload_n 0, 1) := by decide +kernel
theorem dX9_lie_29 : decode cX9_lie 29 = .ok (.getfield 77, 3) := by decide +kernel
theorem dX9_lie_32 : decode cX9_lie 32 = .ok (.iload_n 1, 1) := by decide +kernel
theorem dX9_lie_33 : decode cX9_lie 33 = .ok (.iaload, 1) := by decide +kernel
theorem dX9_lie_34 : decode cX9_lie 34 = .ok (.goto 9, 3) := by decide +kernel
theorem dX9_lie_37 : decode cX9_lie 37 = .ok (.aload_n 0, 1) := by decide +kernel
theorem dX9_lie_38 : decode cX9_lie 38 = .ok (.getfield 80, 3) := by decide +kernel
theorem dX9_lie_41 : decode cX9_lie 41 = .ok (.iload_n 1, 1) := by decide +kernel
theorem dX9_lie_42 : decode cX9_lie 42 = .ok (.iaload, 1) := by decide +kernel
theorem dX9_lie_43 : decode cX9_lie 43 = .ok (.ireturn, 1) := by decide +kernel
theorem dX9_quarrel_0 : decode cX9_quarrel 0 = .ok (.aload_n 0, 1) := by decide +kernel
theorem dX9_quarrel_1 : decode cX9_quarrel 1 = .ok (.invokevirtual 235, 3) := by decide +kernel
theorem dX9_quarrel_4 : decode cX9_quarrel 4 = .ok (.aload_n 0, 1) := by decide +kernel
theorem dX9_quarrel_5 : decode cX9_quarrel 5 = .ok (.getfield 227, 3) := by decide +kernel
theorem dX9_quarrel_8 : decode cX9_quarrel 8 = .ok (.ifCond .eq 7, 3) := by decide +kernel
theorem dX9_quarrel_11 : decode cX9_quarrel 11 = .ok (.iconst 1, 1) := by decide +kernel
theorem dX9_quarrel_12 : decode cX9_quarrel 12 = .ok (.goto 4, 3) := by decide +kernel
theorem dX9_quarrel_15 : decode cX9_quarrel 15 = .ok (.iconst 0, 1) := by decide +kernel
theorem dX9_quarrel_16 : decode cX9_quarrel 16 = .ok (.ireturn, 1) := by decide +kernel
theorem dX9_size_0 : decode cX9_size 0 = .ok (.iload_n 0, 1) := by decide +kernel
theorem dX9_size_1 : decode cX9_size 1 = .ok (.ifCond .ge 8, 3) := by decide +kernel
theorem dX9_size_4 : decode cX9_size 4 = .ok (.iload_n 0, 1) := by decide +kernel
theorem dX9_size_5 : decode cX9_size 5 = .ok (.ineg, 1) := by decide +kernel
theorem dX9_size_6 : decode cX9_size 6 = .ok (.goto 4, 3) := by decide +kernel
theorem dX9_size_9 : decode cX9_size 9 = .ok (.iload_n 0, 1) := by decide +kernel
theorem dX9_size_10 : decode cX9_size 10 = .ok (.ireturn, 1) := by decide +kernel
theorem dX9_fitOf_0 : decode cX9_fitOf 0 = .ok (.iload_n 3, 1) := by decide +kernel
theorem dX9_fitOf_1 : decode cX9_fitOf 1 = .ok (.ifCond .ne 21, 3) := by decide +kernel
theorem dX9_fitOf_4 : decode cX9_fitOf 4 = .ok (.aload_n 0, 1) := by decide +kernel
theorem dX9_fitOf_5 : decode cX9_fitOf 5 = .ok (.getfield 28, 3) := by decide +kernel
theorem dX9_fitOf_8 : decode cX9_fitOf 8 = .ok (.iload_n 1, 1) := by decide +kernel
theorem dX9_fitOf_9 : decode cX9_fitOf 9 = .ok (.iaload, 1) := by decide +kernel
theorem dX9_fitOf_10 : decode cX9_fitOf 10 = .ok (.iconst 2, 1) := by decide +kernel
theorem dX9_fitOf_11 : decode cX9_fitOf 11 = .ok (.if_icmp .ge 7, 3) := by decide +kernel
theorem dX9_fitOf_14 : decode cX9_fitOf 14 = .ok (.iconst 1, 1) := by decide +kernel
theorem dX9_fitOf_15 : decode cX9_fitOf 15 = .ok (.goto 22, 3) := by decide +kernel
theorem dX9_fitOf_18 : decode cX9_fitOf 18 = .ok (.iconst 0, 1) := by decide +kernel
theorem dX9_fitOf_19 : decode cX9_fitOf 19 = .ok (.goto 18, 3) := by decide +kernel
theorem dX9_fitOf_22 : decode cX9_fitOf 22 = .ok (.aload_n 0, 1) := by decide +kernel
theorem dX9_fitOf_23 : decode cX9_fitOf 23 = .ok (.getfield 28, 3) := by decide +kernel
theorem dX9_fitOf_26 : decode cX9_fitOf 26 = .ok (.iload_n 1, 1) := by decide +kernel
theorem dX9_fitOf_27 : decode cX9_fitOf 27 = .ok (.iaload, 1) := by decide +kernel
theorem dX9_fitOf_28 : decode cX9_fitOf 28 = .ok (.iload_n 3, 1) := by decide +kernel
theorem dX9_fitOf_29 : decode cX9_fitOf 29 = .ok (.if_icmp .ne 7, 3) := by decide +kernel
theorem dX9_fitOf_32 : decode cX9_fitOf 32 = .ok (.iconst 1, 1) := by decide +kernel
theorem dX9_fitOf_33 : decode cX9_fitOf 33 = .ok (.goto 4, 3) := by decide +kernel
theorem dX9_fitOf_36 : decode cX9_fitOf 36 = .ok (.iconst 0, 1) := by decide +kernel
theorem dX9_fitOf_37 : decode cX9_fitOf 37 = .ok (.istore 4, 2) := by decide +kernel
theorem dX9_fitOf_39 : decode cX9_fitOf 39 = .ok (.iload 4, 2) := by decide +kernel
theorem dX9_fitOf_41 : decode cX9_fitOf 41 = .ok (.ifCond .ne 5, 3) := by decide +kernel
theorem dX9_fitOf_44 : decode cX9_fitOf 44 = .ok (.iconst 0, 1) := by decide +kernel
theorem dX9_fitOf_45 : decode cX9_fitOf 45 = .ok (.ireturn, 1) := by decide +kernel
theorem dX9_fitOf_46 : decode cX9_fitOf 46 = .ok (.aload_n 0, 1) := by decide +kernel
theorem dX9_fitOf_47 : decode cX9_fitOf 47 = .ok (.getfield 31, 3) := by decide +kernel
theorem dX9_fitOf_50 : decode cX9_fitOf 50 = .ok (.iload_n 1, 1) := by decide +kernel
theorem dX9_fitOf_51 : decode cX9_fitOf 51 = .ok (.iaload, 1) := by decide +kernel
theorem dX9_fitOf_52 : decode cX9_fitOf 52 = .ok (.istore 5, 2) := by decide +kernel
theorem dX9_fitOf_54 : decode cX9_fitOf 54 = .ok (.iconst 0, 1) := by decide +kernel
theorem dX9_fitOf_55 : decode cX9_fitOf 55 = .ok (.istore 6, 2) := by decide +kernel
theorem dX9_fitOf_57 : decode cX9_fitOf 57 = .ok (.aload_n 0, 1) := by decide +kernel
theorem dX9_fitOf_58 : decode cX9_fitOf 58 = .ok (.getfield 77, 3) := by decide +kernel
theorem dX9_fitOf_61 : decode cX9_fitOf 61 = .ok (.iload 5, 2) := by decide +kernel
theorem dX9_fitOf_63 : decode cX9_fitOf 63 = .ok (.iaload, 1) := by decide +kernel
theorem dX9_fitOf_64 : decode cX9_fitOf 64 = .ok (.istore 7, 2) := by decide +kernel
theorem dX9_fitOf_66 : decode cX9_fitOf 66 = .ok (.iload 7, 2) := by decide +kernel
theorem dX9_fitOf_68 : decode cX9_fitOf 68 = .ok (.aload_n 0, 1) := by decide +kernel
theorem dX9_fitOf_69 : decode cX9_fitOf 69 = .ok (.getfield 80, 3) := by decide +kernel
theorem dX9_fitOf_72 : decode cX9_fitOf 72 = .ok (.iload 5, 2) := by decide +kernel
theorem dX9_fitOf_74 : decode cX9_fitOf 74 = .ok (.iaload, 1) := by decide +kernel
theorem dX9_fitOf_75 : decode cX9_fitOf 75 = .ok (.if_icmp .gt 49, 3) := by decide +kernel
theorem dX9_fitOf_78 : decode cX9_fitOf 78 = .ok (.iload 6, 2) := by decide +kernel
theorem dX9_fitOf_80 : decode cX9_fitOf 80 = .ok (.aload_n 0, 1) := by decide +kernel
theorem dX9_fitOf_81 : decode cX9_fitOf 81 = .ok (.getfield 34, 3) := by decide +kernel
theorem dX9_fitOf_84 : decode cX9_fitOf 84 = .ok (.iload_n 1, 1) := by decide +kernel
theorem dX9_fitOf_85 : decode cX9_fitOf 85 = .ok (.iaload, 1) := by decide +kernel
theorem dX9_fitOf_86 : decode cX9_fitOf 86 = .ok (.iload 7, 2) := by decide +kernel
theorem dX9_fitOf_88 : decode cX9_fitOf 88 = .ok (.iadd, 1) := by decide +kernel
theorem dX9_fitOf_89 : decode cX9_fitOf 89 = .ok (.aload_n 0, 1) := by decide +kernel
theorem dX9_fitOf_90 : decode cX9_fitOf 90 = .ok (.getfield 49, 3) := by decide +kernel
theorem dX9_fitOf_93 : decode cX9_fitOf 93 = .ok (.iload_n 1, 1) := by decide +kernel
theorem dX9_fitOf_94 : decode cX9_fitOf 94 = .ok (.iaload, 1) := by decide +kernel
theorem dX9_fitOf_95 : decode cX9_fitOf 95 = .ok (.iadd, 1) := by decide +kernel
theorem dX9_fitOf_96 : decode cX9_fitOf 96 = .ok (.iload_n 2, 1) := by decide +kernel
theorem dX9_fitOf_97 : decode cX9_fitOf 97 = .ok (.isub, 1) := by decide +kernel
theorem dX9_fitOf_98 : decode cX9_fitOf 98 = .ok (.invokestatic 238, 3) := by decide +kernel
theorem dX9_fitOf_101 : decode cX9_fitOf 101 = .ok (.aload_n 0, 1) := by decide +kernel
theorem dX9_fitOf_102 : decode cX9_fitOf 102 = .ok (.getfield 16, 3) := by decide +kernel
theorem dX9_fitOf_105 : decode cX9_fitOf 105 = .ok (.iconst 4, 1) := by decide +kernel
theorem dX9_fitOf_106 : decode cX9_fitOf 106 = .ok (.iaload, 1) := by decide +kernel
theorem dX9_fitOf_107 : decode cX9_fitOf 107 = .ok (.if_icmp .gt 7, 3) := by decide +kernel
theorem dX9_fitOf_110 : decode cX9_fitOf 110 = .ok (.iconst 1, 1) := by decide +kernel
theorem dX9_fitOf_111 : decode cX9_fitOf 111 = .ok (.goto 4, 3) := by decide +kernel
theorem dX9_fitOf_114 : decode cX9_fitOf 114 = .ok (.iconst 0, 1) := by decide +kernel
theorem dX9_fitOf_115 : decode cX9_fitOf 115 = .ok (.iadd, 1) := by decide +kernel
theorem dX9_fitOf_116 : decode cX9_fitOf 116 = .ok (.istore 6, 2) := by decide +kernel
theorem dX9_fitOf_118 : decode cX9_fitOf 118 = .ok (.iinc 7 1, 3) := by decide +kernel
theorem dX9_fitOf_121 : decode cX9_fitOf 121 = .ok (.goto (-55), 3) := by decide +kernel
theorem dX9_fitOf_124 : decode cX9_fitOf 124 = .ok (.iload 6, 2) := by decide +kernel
theorem dX9_fitOf_126 : decode cX9_fitOf 126 = .ok (.aload_n 0, 1) := by decide +kernel
theorem dX9_fitOf_127 : decode cX9_fitOf 127 = .ok (.getfield 80, 3) := by decide +kernel
theorem dX9_fitOf_130 : decode cX9_fitOf 130 = .ok (.iload 5, 2) := by decide +kernel
theorem dX9_fitOf_132 : decode cX9_fitOf 132 = .ok (.iaload, 1) := by decide +kernel
theorem dX9_fitOf_133 : decode cX9_fitOf 133 = .ok (.aload_n 0, 1) := by decide +kernel
theorem dX9_fitOf_134 : decode cX9_fitOf 134 = .ok (.getfield 77, 3) := by decide +kernel
theorem dX9_fitOf_137 : decode cX9_fitOf 137 = .ok (.iload 5, 2) := by decide +kernel
theorem dX9_fitOf_139 : decode cX9_fitOf 139 = .ok (.iaload, 1) := by decide +kernel
theorem dX9_fitOf_140 : decode cX9_fitOf 140 = .ok (.isub, 1) := by decide +kernel
theorem dX9_fitOf_141 : decode cX9_fitOf 141 = .ok (.iconst 1, 1) := by decide +kernel
theorem dX9_fitOf_142 : decode cX9_fitOf 142 = .ok (.iadd, 1) := by decide +kernel
theorem dX9_fitOf_143 : decode cX9_fitOf 143 = .ok (.if_icmp .ne 7, 3) := by decide +kernel
theorem dX9_fitOf_146 : decode cX9_fitOf 146 = .ok (.iconst 2, 1) := by decide +kernel
theorem dX9_fitOf_147 : decode cX9_fitOf 147 = .ok (.goto 13, 3) := by decide +kernel
theorem dX9_fitOf_150 : decode cX9_fitOf 150 = .ok (.iload 6, 2) := by decide +kernel
theorem dX9_fitOf_152 : decode cX9_fitOf 152 = .ok (.ifCond .le 7, 3) := by decide +kernel
theorem dX9_fitOf_155 : decode cX9_fitOf 155 = .ok (.iconst 1, 1) := by decide +kernel
theorem dX9_fitOf_156 : decode cX9_fitOf 156 = .ok (.goto 4, 3) := by decide +kernel
theorem dX9_fitOf_159 : decode cX9_fitOf 159 = .ok (.iconst 0, 1) := by decide +kernel
theorem dX9_fitOf_160 : decode cX9_fitOf 160 = .ok (.ireturn, 1) := by decide +kernel
theorem dX9_fits_0 : decode cX9_fits 0 = .ok (.aload_n 0, 1) := by decide +kernel
theorem dX9_fits_1 : decode cX9_fits 1 = .ok (.iload_n 1, 1) := by decide +kernel
theorem dX9_fits_2 : decode cX9_fits 2 = .ok (.invokevirtual 210, 3) := by decide +kernel
theorem dX9_fits_5 : decode cX9_fits 5 = .ok (.ifCond .eq 27, 3) := by decide +kernel
theorem dX9_fits_8 : decode cX9_fits 8 = .ok (.iload_n 2, 1) := by decide +kernel
theorem dX9_fits_9 : decode cX9_fits 9 = .ok (.i2l, 1) := by decide +kernel
theorem dX9_fits_10 : decode cX9_fits 10 = .ok (.lconst 1, 1) := by decide +kernel
theorem dX9_fits_11 : decode cX9_fits 11 = .ok (.ldc2_w 191, 3) := by decide +kernel
theorem dX9_fits_14 : decode cX9_fits 14 = .ok (.invokestatic 148, 3) := by decide +kernel
theorem dX9_fits_17 : decode cX9_fits 17 = .ok (.ifCond .eq 15, 3) := by decide +kernel
theorem dX9_fits_20 : decode cX9_fits 20 = .ok (.iload_n 3, 1) := by decide +kernel
theorem dX9_fits_21 : decode cX9_fits 21 = .ok (.i2l, 1) := by decide +kernel
theorem dX9_fits_22 : decode cX9_fits 22 = .ok (.lconst 0, 1) := by decide +kernel
theorem dX9_fits_23 : decode cX9_fits 23 = .ok (.ldc2_w 241, 3) := by decide +kernel
theorem dX9_fits_26 : decode cX9_fits 26 = .ok (.invokestatic 148, 3) := by decide +kernel
theorem dX9_fits_29 : decode cX9_fits 29 = .ok (.ifCond .ne 5, 3) := by decide +kernel
theorem dX9_fits_32 : decode cX9_fits 32 = .ok (.iconst (-1), 1) := by decide +kernel
theorem dX9_fits_33 : decode cX9_fits 33 = .ok (.ireturn, 1) := by decide +kernel
theorem dX9_fits_34 : decode cX9_fits 34 = .ok (.aload_n 0, 1) := by decide +kernel
theorem dX9_fits_35 : decode cX9_fits 35 = .ok (.invokevirtual 235, 3) := by decide +kernel
theorem dX9_fits_38 : decode cX9_fits 38 = .ok (.aload_n 0, 1) := by decide +kernel
theorem dX9_fits_39 : decode cX9_fits 39 = .ok (.iload_n 1, 1) := by decide +kernel
theorem dX9_fits_40 : decode cX9_fits 40 = .ok (.iload_n 2, 1) := by decide +kernel
theorem dX9_fits_41 : decode cX9_fits 41 = .ok (.iload_n 3, 1) := by decide +kernel
theorem dX9_fits_42 : decode cX9_fits 42 = .ok (.invokevirtual 243, 3) := by decide +kernel
theorem dX9_fits_45 : decode cX9_fits 45 = .ok (.ireturn, 1) := by decide +kernel
theorem dX9_isBooking_0 : decode cX9_isBooking 0 = .ok (.iload_n 0, 1) := by decide +kernel
theorem dX9_isBooking_1 : decode cX9_isBooking 1 = .ok (.i2l, 1) := by decide +kernel
theorem dX9_isBooking_2 : decode cX9_isBooking 2 = .ok (.lconst 1, 1) := by decide +kernel
theorem dX9_isBooking_3 : decode cX9_isBooking 3 = .ok (.ldc2_w 191, 3) := by decide +kernel
theorem dX9_isBooking_6 : decode cX9_isBooking 6 = .ok (.invokestatic 148, 3) := by decide +kernel
theorem dX9_isBooking_9 : decode cX9_isBooking 9 = .ok (.ifCond .eq 68, 3) := by decide +kernel
theorem dX9_isBooking_12 : decode cX9_isBooking 12 = .ok (.iload_n 1, 1) := by decide +kernel
theorem dX9_isBooking_13 : decode cX9_isBooking 13 = .ok (.i2l, 1) := by decide +kernel
theorem dX9_isBooking_14 : decode cX9_isBooking 14 = .ok (.lconst 0, 1) := by decide +kernel
theorem dX9_isBooking_15 : decode cX9_isBooking 15 = .ok (.ldc2_w 241, 3) := by decide +kernel
theorem dX9_isBooking_18 : decode cX9_isBooking 18 = .ok (.invokestatic 148, 3) := by decide +kernel
theorem dX9_isBooking_21 : decode cX9_isBooking 21 = .ok (.ifCond .eq 56, 3) := by decide +kernel
theorem dX9_isBooking_24 : decode cX9_isBooking 24 = .ok (.iload_n 2, 1) := by decide +kernel
theorem dX9_isBooking_25 : decode cX9_isBooking 25 = .ok (.i2l, 1) := by decide +kernel
theorem dX9_isBooking_26 : decode cX9_isBooking 26 = .ok (.ldc2_w 247, 3) := by decide +kernel
theorem dX9_isBooking_29 : decode cX9_isBooking 29 = .ok (.ldc2_w 249, 3) := by decide +kernel
theorem dX9_isBooking_32 : decode cX9_isBooking 32 = .ok (.invokestatic 148, 3) := by decide +kernel
theorem dX9_isBooking_35 : decode cX9_isBooking 35 = .ok (.ifCond .eq 42, 3) := by decide +kernel
theorem dX9_isBooking_38 : decode cX9_isBooking 38 = .ok (.iload_n 3, 1) := by decide +kernel
theorem dX9_isBooking_39 : decode cX9_isBooking 39 = .ok (.invokestatic 183, 3) := by decide +kernel
theorem dX9_isBooking_42 : decode cX9_isBooking 42 = .ok (.ifCond .eq 35, 3) := by decide +kernel
theorem dX9_isBooking_45 : decode cX9_isBooking 45 = .ok (.iload 4, 2) := by decide +kernel
theorem dX9_isBooking_47 : decode cX9_isBooking 47 = .ok (.i2l, 1) := by decide +kernel
theorem dX9_isBooking_48 : decode cX9_isBooking 48 = .ok (.lconst 0, 1) := by decide +kernel
theorem dX9_isBooking_49 : decode cX9_isBooking 49 = .ok (.ldc2_w 251, 3) := by decide +kernel
theorem dX9_isBooking_52 : decode cX9_isBooking 52 = .ok (.invokestatic 148, 3) := by decide +kernel
theorem dX9_isBooking_55 : decode cX9_isBooking 55 = .ok (.ifCond .eq 22, 3) := by decide +kernel
theorem dX9_isBooking_58 : decode cX9_isBooking 58 = .ok (.iload 5, 2) := by decide +kernel
theorem dX9_isBooking_60 : decode cX9_isBooking 60 = .ok (.i2l, 1) := by decide +kernel
theorem dX9_isBooking_61 : decode cX9_isBooking 61 = .ok (.ldc2_w 253, 3) := by decide +kernel
theorem dX9_isBooking_64 : decode cX9_isBooking 64 = .ok (.ldc2_w 255, 3) := by decide +kernel
theorem dX9_isBooking_67 : decode cX9_isBooking 67 = .ok (.invokestatic 148, 3) := by decide +kernel
theorem dX9_isBooking_70 : decode cX9_isBooking 70 = .ok (.ifCond .eq 7, 3) := by decide +kernel
theorem dX9_isBooking_73 : decode cX9_isBooking 73 = .ok (.iconst 1, 1) := by decide +kernel
theorem dX9_isBooking_74 : decode cX9_isBooking 74 = .ok (.goto 4, 3) := by decide +kernel
theorem dX9_isBooking_77 : decode cX9_isBooking 77 = .ok (.iconst 0, 1) := by decide +kernel
theorem dX9_isBooking_78 : decode cX9_isBooking 78 = .ok (.ireturn, 1) := by decide +kernel
theorem dX9_addBooking_0 : decode cX9_addBooking 0 = .ok (.aload_n 0, 1) := by decide +kernel
theorem dX9_addBooking_1 : decode cX9_addBooking 1 = .ok (.getfield 83, 3) := by decide +kernel
theorem dX9_addBooking_4 : decode cX9_addBooking 4 = .ok (.aload_n 0, 1) := by decide +kernel
theorem dX9_addBooking_5 : decode cX9_addBooking 5 = .ok (.getfield 257, 3) := by decide +kernel
theorem dX9_addBooking_8 : decode cX9_addBooking 8 = .ok (.iload_n 1, 1) := by decide +kernel
theorem dX9_addBooking_9 : decode cX9_addBooking 9 = .ok (.iastore, 1) := by decide +kernel
theorem dX9_addBooking_10 : decode cX9_addBooking 10 = .ok (.aload_n 0, 1) := by decide +kernel
theorem dX9_addBooking_11 : decode cX9_addBooking 11 = .ok (.getfield 86, 3) := by decide +kernel
theorem dX9_addBooking_14 : decode cX9_addBooking 14 = .ok (.aload_n 0, 1) := by decide +kernel
theorem dX9_addBooking_15 : decode cX9_addBooking 15 = .ok (.getfield 257, 3) := by decide +kernel
theorem dX9_addBooking_18 : decode cX9_addBooking 18 = .ok (.iload_n 2, 1) := by decide +kernel
theorem dX9_addBooking_19 : decode cX9_addBooking 19 = .ok (.iastore, 1) := by decide +kernel
theorem dX9_addBooking_20 : decode cX9_addBooking 20 = .ok (.aload_n 0, 1) := by decide +kernel
theorem dX9_addBooking_21 : decode cX9_addBooking 21 = .ok (.getfield 89, 3) := by decide +kernel
theorem dX9_addBooking_24 : decode cX9_addBooking 24 = .ok (.aload_n 0, 1) := by decide +kernel
theorem dX9_addBooking_25 : decode cX9_addBooking 25 = .ok (.getfield 257, 3) := by decide +kernel
theorem dX9_addBooking_28 : decode cX9_addBooking 28 = .ok (.iload_n 3, 1) := by decide +kernel
theorem dX9_addBooking_29 : decode cX9_addBooking 29 = .ok (.iastore, 1) := by decide +kernel
theorem dX9_addBooking_30 : decode cX9_addBooking 30 = .ok (.aload_n 0, 1) := by decide +kernel
theorem dX9_addBooking_31 : decode cX9_addBooking 31 = .ok (.getfield 92, 3) := by decide +kernel
theorem dX9_addBooking_34 : decode cX9_addBooking 34 = .ok (.aload_n 0, 1) := by decide +kernel
theorem dX9_addBooking_35 : decode cX9_addBooking 35 = .ok (.getfield 257, 3) := by decide +kernel
theorem dX9_addBooking_38 : decode cX9_addBooking 38 = .ok (.iload 4, 2) := by decide +kernel
theorem dX9_addBooking_40 : decode cX9_addBooking 40 = .ok (.iastore, 1) := by decide +kernel
theorem dX9_addBooking_41 : decode cX9_addBooking 41 = .ok (.aload_n 0, 1) := by decide +kernel
theorem dX9_addBooking_42 : decode cX9_addBooking 42 = .ok (.getfield 95, 3) := by decide +kernel
theorem dX9_addBooking_45 : decode cX9_addBooking 45 = .ok (.aload_n 0, 1) := by decide +kernel
