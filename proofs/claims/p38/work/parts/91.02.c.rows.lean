theorem dX8_fits_15 : decode cX8_fits 15 = .ok (.iload_n 2, 1) := by decide +kernel
theorem dX8_fits_16 : decode cX8_fits 16 = .ok (.invokestatic 112, 3) := by decide +kernel
theorem dX8_fits_19 : decode cX8_fits 19 = .ok (.ifCond .eq 12, 3) := by decide +kernel
theorem dX8_fits_22 : decode cX8_fits 22 = .ok (.iload_n 3, 1) := by decide +kernel
theorem dX8_fits_23 : decode cX8_fits 23 = .ok (.iconst 0, 1) := by decide +kernel
theorem dX8_fits_24 : decode cX8_fits 24 = .ok (.iconst 2, 1) := by decide +kernel
theorem dX8_fits_25 : decode cX8_fits 25 = .ok (.invokestatic 39, 3) := by decide +kernel
theorem dX8_fits_28 : decode cX8_fits 28 = .ok (.ifCond .ne 5, 3) := by decide +kernel
theorem dX8_fits_31 : decode cX8_fits 31 = .ok (.iconst (-1), 1) := by decide +kernel
theorem dX8_fits_32 : decode cX8_fits 32 = .ok (.ireturn, 1) := by decide +kernel
theorem dX8_fits_33 : decode cX8_fits 33 = .ok (.aload_n 0, 1) := by decide +kernel
theorem dX8_fits_34 : decode cX8_fits 34 = .ok (.getfield 19, 3) := by decide +kernel
theorem dX8_fits_37 : decode cX8_fits 37 = .ok (.aload 4, 2) := by decide +kernel
theorem dX8_fits_39 : decode cX8_fits 39 = .ok (.iload_n 2, 1) := by decide +kernel
theorem dX8_fits_40 : decode cX8_fits 40 = .ok (.iload_n 3, 1) := by decide +kernel
theorem dX8_fits_41 : decode cX8_fits 41 = .ok (.invokevirtual 138, 3) := by decide +kernel
theorem dX8_fits_44 : decode cX8_fits 44 = .ok (.ireturn, 1) := by decide +kernel
theorem dX8_book_0 : decode cX8_book 0 = .ok (.iload_n 1, 1) := by decide +kernel
theorem dX8_book_1 : decode cX8_book 1 = .ok (.iload_n 2, 1) := by decide +kernel
theorem dX8_book_2 : decode cX8_book 2 = .ok (.iload_n 3, 1) := by decide +kernel
theorem dX8_book_3 : decode cX8_book 3 = .ok (.iload 4, 2) := by decide +kernel
theorem dX8_book_5 : decode cX8_book 5 = .ok (.iload 5, 2) := by decide +kernel
theorem dX8_book_7 : decode cX8_book 7 = .ok (.iload 6, 2) := by decide +kernel
theorem dX8_book_9 : decode cX8_book 9 = .ok (.invokestatic 142, 3) := by decide +kernel
theorem dX8_book_12 : decode cX8_book 12 = .ok (.ifCond .ne 5, 3) := by decide +kernel
theorem dX8_book_15 : decode cX8_book 15 = .ok (.iconst (-1), 1) := by decide +kernel
theorem dX8_book_16 : decode cX8_book 16 = .ok (.ireturn, 1) := by decide +kernel
theorem dX8_book_17 : decode cX8_book 17 = .ok (.aload_n 0, 1) := by decide +kernel
theorem dX8_book_18 : decode cX8_book 18 = .ok (.getfield 19, 3) := by decide +kernel
theorem dX8_book_21 : decode cX8_book 21 = .ok (.iconst 1, 1) := by decide +kernel
theorem dX8_book_22 : decode cX8_book 22 = .ok (.invokevirtual 146, 3) := by decide +kernel
theorem dX8_book_25 : decode cX8_book 25 = .ok (.ifCond .ne 6, 3) := by decide +kernel
theorem dX8_book_28 : decode cX8_book 28 = .ok (.bipush (-3), 2) := by decide +kernel
theorem dX8_book_30 : decode cX8_book 30 = .ok (.ireturn, 1) := by decide +kernel
theorem dX8_book_31 : decode cX8_book 31 = .ok (.aload_n 0, 1) := by decide +kernel
theorem dX8_book_32 : decode cX8_book 32 = .ok (.getfield 19, 3) := by decide +kernel
theorem dX8_book_35 : decode cX8_book 35 = .ok (.iload_n 1, 1) := by decide +kernel
theorem dX8_book_36 : decode cX8_book 36 = .ok (.iload_n 2, 1) := by decide +kernel
theorem dX8_book_37 : decode cX8_book 37 = .ok (.iload_n 3, 1) := by decide +kernel
theorem dX8_book_38 : decode cX8_book 38 = .ok (.iload 4, 2) := by decide +kernel
theorem dX8_book_40 : decode cX8_book 40 = .ok (.iload 5, 2) := by decide +kernel
theorem dX8_book_42 : decode cX8_book 42 = .ok (.iload 6, 2) := by decide +kernel
theorem dX8_book_44 : decode cX8_book 44 = .ok (.invokevirtual 149, 3) := by decide +kernel
theorem dX8_book_47 : decode cX8_book 47 = .ok (.aload_n 0, 1) := by decide +kernel
theorem dX8_book_48 : decode cX8_book 48 = .ok (.getfield 19, 3) := by decide +kernel
theorem dX8_book_51 : decode cX8_book 51 = .ok (.getfield 153, 3) := by decide +kernel
theorem dX8_book_54 : decode cX8_book 54 = .ok (.iconst 1, 1) := by decide +kernel
theorem dX8_book_55 : decode cX8_book 55 = .ok (.isub, 1) := by decide +kernel
theorem dX8_book_56 : decode cX8_book 56 = .ok (.ireturn, 1) := by decide +kernel
theorem dX8_give_0 : decode cX8_give 0 = .ok (.aload_n 0, 1) := by decide +kernel
theorem dX8_give_1 : decode cX8_give 1 = .ok (.getfield 19, 3) := by decide +kernel
theorem dX8_give_4 : decode cX8_give 4 = .ok (.iload_n 1, 1) := by decide +kernel
theorem dX8_give_5 : decode cX8_give 5 = .ok (.invokevirtual 156, 3) := by decide +kernel
theorem dX8_give_8 : decode cX8_give 8 = .ok (.astore_n 2, 1) := by decide +kernel
theorem dX8_give_9 : decode cX8_give 9 = .ok (.aload_n 2, 1) := by decide +kernel
theorem dX8_give_10 : decode cX8_give 10 = .ok (.ifnonnull 5, 3) := by decide +kernel
theorem dX8_give_13 : decode cX8_give 13 = .ok (.iconst (-1), 1) := by decide +kernel
theorem dX8_give_14 : decode cX8_give 14 = .ok (.ireturn, 1) := by decide +kernel
theorem dX8_give_15 : decode cX8_give 15 = .ok (.aload_n 2, 1) := by decide +kernel
theorem dX8_give_16 : decode cX8_give 16 = .ok (.invokevirtual 182, 3) := by decide +kernel
theorem dX8_give_19 : decode cX8_give 19 = .ok (.ifCond .ne 6, 3) := by decide +kernel
theorem dX8_give_22 : decode cX8_give 22 = .ok (.bipush (-2), 2) := by decide +kernel
theorem dX8_give_24 : decode cX8_give 24 = .ok (.ireturn, 1) := by decide +kernel
theorem dX8_give_25 : decode cX8_give 25 = .ok (.aload_n 2, 1) := by decide +kernel
theorem dX8_give_26 : decode cX8_give 26 = .ok (.aload_n 0, 1) := by decide +kernel
theorem dX8_give_27 : decode cX8_give 27 = .ok (.getfield 19, 3) := by decide +kernel
theorem dX8_give_30 : decode cX8_give 30 = .ok (.aload_n 2, 1) := by decide +kernel
theorem dX8_give_31 : decode cX8_give 31 = .ok (.iconst (-1), 1) := by decide +kernel
theorem dX8_give_32 : decode cX8_give 32 = .ok (.invokevirtual 185, 3) := by decide +kernel
theorem dX8_give_35 : decode cX8_give 35 = .ok (.putfield 178, 3) := by decide +kernel
theorem dX8_give_38 : decode cX8_give 38 = .ok (.aload_n 2, 1) := by decide +kernel
theorem dX8_give_39 : decode cX8_give 39 = .ok (.invokevirtual 189, 3) := by decide +kernel
theorem dX8_give_42 : decode cX8_give 42 = .ok (.ireturn, 1) := by decide +kernel
theorem dX8_has_0 : decode cX8_has 0 = .ok (.aload_n 0, 1) := by decide +kernel
theorem dX8_has_1 : decode cX8_has 1 = .ok (.getfield 19, 3) := by decide +kernel
theorem dX8_has_4 : decode cX8_has 4 = .ok (.iload_n 1, 1) := by decide +kernel
theorem dX8_has_5 : decode cX8_has 5 = .ok (.invokevirtual 156, 3) := by decide +kernel
theorem dX8_has_8 : decode cX8_has 8 = .ok (.astore_n 2, 1) := by decide +kernel
theorem dX8_has_9 : decode cX8_has 9 = .ok (.aload_n 2, 1) := by decide +kernel
theorem dX8_has_10 : decode cX8_has 10 = .ok (.ifnonnull 7, 3) := by decide +kernel
theorem dX8_has_13 : decode cX8_has 13 = .ok (.iconst (-1), 1) := by decide +kernel
theorem dX8_has_14 : decode cX8_has 14 = .ok (.goto 7, 3) := by decide +kernel
theorem dX8_has_17 : decode cX8_has 17 = .ok (.aload_n 2, 1) := by decide +kernel
theorem dX8_has_18 : decode cX8_has 18 = .ok (.invokevirtual 189, 3) := by decide +kernel
theorem dX8_has_21 : decode cX8_has 21 = .ok (.ireturn, 1) := by decide +kernel
theorem dX8_free_0 : decode cX8_free 0 = .ok (.aload_n 0, 1) := by decide +kernel
theorem dX8_free_1 : decode cX8_free 1 = .ok (.getfield 19, 3) := by decide +kernel
theorem dX8_free_4 : decode cX8_free 4 = .ok (.iload_n 1, 1) := by decide +kernel
theorem dX8_free_5 : decode cX8_free 5 = .ok (.invokevirtual 96, 3) := by decide +kernel
theorem dX8_free_8 : decode cX8_free 8 = .ok (.astore_n 3, 1) := by decide +kernel
theorem dX8_free_9 : decode cX8_free 9 = .ok (.aload_n 0, 1) := by decide +kernel
theorem dX8_free_10 : decode cX8_free 10 = .ok (.getfield 19, 3) := by decide +kernel
theorem dX8_free_13 : decode cX8_free 13 = .ok (.iload_n 2, 1) := by decide +kernel
theorem dX8_free_14 : decode cX8_free 14 = .ok (.invokevirtual 156, 3) := by decide +kernel
theorem dX8_free_17 : decode cX8_free 17 = .ok (.astore 4, 2) := by decide +kernel
theorem dX8_free_19 : decode cX8_free 19 = .ok (.aload_n 3, 1) := by decide +kernel
theorem dX8_free_20 : decode cX8_free 20 = .ok (.ifnull 8, 3) := by decide +kernel
theorem dX8_free_23 : decode cX8_free 23 = .ok (.aload 4, 2) := by decide +kernel
theorem dX8_free_25 : decode cX8_free 25 = .ok (.ifnonnull 5, 3) := by decide +kernel
theorem dX8_free_28 : decode cX8_free 28 = .ok (.iconst (-1), 1) := by decide +kernel
theorem dX8_free_29 : decode cX8_free 29 = .ok (.ireturn, 1) := by decide +kernel
theorem dX8_free_30 : decode cX8_free 30 = .ok (.aload_n 0, 1) := by decide +kernel
theorem dX8_free_31 : decode cX8_free 31 = .ok (.getfield 19, 3) := by decide +kernel
theorem dX8_free_34 : decode cX8_free 34 = .ok (.aload_n 3, 1) := by decide +kernel
theorem dX8_free_35 : decode cX8_free 35 = .ok (.aload 4, 2) := by decide +kernel
theorem dX8_free_37 : decode cX8_free 37 = .ok (.invokevirtual 193, 3) := by decide +kernel
theorem dX8_free_40 : decode cX8_free 40 = .ok (.ifCond .eq 7, 3) := by decide +kernel
theorem dX8_free_43 : decode cX8_free 43 = .ok (.iconst 1, 1) := by decide +kernel
theorem dX8_free_44 : decode cX8_free 44 = .ok (.goto 4, 3) := by decide +kernel
theorem dX8_free_47 : decode cX8_free 47 = .ok (.iconst 0, 1) := by decide +kernel
theorem dX8_free_48 : decode cX8_free 48 = .ok (.ireturn, 1) := by decide +kernel
theorem dX8_away_0 : decode cX8_away 0 = .ok (.aload_n 0, 1) := by decide +kernel
theorem dX8_away_1 : decode cX8_away 1 = .ok (.getfield 19, 3) := by decide +kernel
theorem dX8_away_4 : decode cX8_away 4 = .ok (.iload_n 1, 1) := by decide +kernel
theorem dX8_away_5 : decode cX8_away 5 = .ok (.invokevirtual 96, 3) := by decide +kernel
theorem dX8_away_8 : decode cX8_away 8 = .ok (.astore 4, 2) := by decide +kernel
theorem dX8_away_10 : decode cX8_away 10 = .ok (.aload_n 0, 1) := by decide +kernel
theorem dX8_away_11 : decode cX8_away 11 = .ok (.getfield 19, 3) := by decide +kernel
theorem dX8_away_14 : decode cX8_away 14 = .ok (.iload_n 2, 1) := by decide +kernel
theorem dX8_away_15 : decode cX8_away 15 = .ok (.invokevirtual 156, 3) := by decide +kernel
theorem dX8_away_18 : decode cX8_away 18 = .ok (.astore 5, 2) := by decide +kernel
theorem dX8_away_20 : decode cX8_away 20 = .ok (.aload 4, 2) := by decide +kernel
theorem dX8_away_22 : decode cX8_away 22 = .ok (.ifnull 17, 3) := by decide +kernel
theorem dX8_away_25 : decode cX8_away 25 = .ok (.aload 5, 2) := by decide +kernel
theorem dX8_away_27 : decode cX8_away 27 = .ok (.ifnull 12, 3) := by decide +kernel
theorem dX8_away_30 : decode cX8_away 30 = .ok (.iload_n 3, 1) := by decide +kernel
theorem dX8_away_31 : decode cX8_away 31 = .ok (.iconst 0, 1) := by decide +kernel
theorem dX8_away_32 : decode cX8_away 32 = .ok (.iconst 1, 1) := by decide +kernel
theorem dX8_away_33 : decode cX8_away 33 = .ok (.invokestatic 39, 3) := by decide +kernel
theorem dX8_away_36 : decode cX8_away 36 = .ok (.ifCond .ne 5, 3) := by decide +kernel
theorem dX8_away_39 : decode cX8_away 39 = .ok (.iconst (-1), 1) := by decide +kernel
theorem dX8_away_40 : decode cX8_away 40 = .ok (.ireturn, 1) := by decide +kernel
theorem dX8_away_41 : decode cX8_away 41 = .ok (.iload_n 3, 1) := by decide +kernel
theorem dX8_away_42 : decode cX8_away 42 = .ok (.ifCond .ne 17, 3) := by decide +kernel
theorem dX8_away_45 : decode cX8_away 45 = .ok (.aload_n 0, 1) := by decide +kernel
theorem dX8_away_46 : decode cX8_away 46 = .ok (.getfield 19, 3) := by decide +kernel
theorem dX8_away_49 : decode cX8_away 49 = .ok (.aload 4, 2) := by decide +kernel
theorem dX8_away_51 : decode cX8_away 51 = .ok (.aload 5, 2) := by decide +kernel
theorem dX8_away_53 : decode cX8_away 53 = .ok (.invokevirtual 197, 3) := by decide +kernel
theorem dX8_away_56 : decode cX8_away 56 = .ok (.goto 14, 3) := by decide +kernel
theorem dX8_away_59 : decode cX8_away 59 = .ok (.aload_n 0, 1) := by decide +kernel
theorem dX8_away_60 : decode cX8_away 60 = .ok (.getfield 19, 3) := by decide +kernel
theorem dX8_away_63 : decode cX8_away 63 = .ok (.aload 4, 2) := by decide +kernel
theorem dX8_away_65 : decode cX8_away 65 = .ok (.aload 5, 2) := by decide +kernel
theorem dX8_away_67 : decode cX8_away 67 = .ok (.invokevirtual 201, 3) := by decide +kernel
theorem dX8_away_70 : decode cX8_away 70 = .ok (.ireturn, 1) := by decide +kernel
theorem dX8_tear_0 : decode cX8_tear 0 = .ok (.aload_n 0, 1) := by decide +kernel
theorem dX8_tear_1 : decode cX8_tear 1 = .ok (.getfield 19, 3) := by decide +kernel
theorem dX8_tear_4 : decode cX8_tear 4 = .ok (.iload_n 1, 1) := by decide +kernel
theorem dX8_tear_5 : decode cX8_tear 5 = .ok (.invokevirtual 96, 3) := by decide +kernel
theorem dX8_tear_8 : decode cX8_tear 8 = .ok (.astore_n 3, 1) := by decide +kernel
theorem dX8_tear_9 : decode cX8_tear 9 = .ok (.aload_n 3, 1) := by decide +kernel
theorem dX8_tear_10 : decode cX8_tear 10 = .ok (.ifnull 10, 3) := by decide +kernel
theorem dX8_tear_13 : decode cX8_tear 13 = .ok (.iload_n 2, 1) := by decide +kernel
theorem dX8_tear_14 : decode cX8_tear 14 = .ok (.invokestatic 160, 3) := by decide +kernel
theorem dX8_tear_17 : decode cX8_tear 17 = .ok (.ifCond .ne 5, 3) := by decide +kernel
theorem dX8_tear_20 : decode cX8_tear 20 = .ok (.iconst (-1), 1) := by decide +kernel
theorem dX8_tear_21 : decode cX8_tear 21 = .ok (.ireturn, 1) := by decide +kernel
theorem dX8_tear_22 : decode cX8_tear 22 = .ok (.aload_n 3, 1) := by decide +kernel
theorem dX8_tear_23 : decode cX8_tear 23 = .ok (.iload_n 2, 1) := by decide +kernel
theorem dX8_tear_24 : decode cX8_tear 24 = .ok (.invokevirtual 204, 3) := by decide +kernel
theorem dX8_tear_27 : decode cX8_tear 27 = .ok (.ifCond .eq 6, 3) := by decide +kernel
theorem dX8_tear_30 : decode cX8_tear 30 = .ok (.bipush (-2), 2) := by decide +kernel
theorem dX8_tear_32 : decode cX8_tear 32 = .ok (.ireturn, 1) := by decide +kernel
theorem dX8_tear_33 : decode cX8_tear 33 = .ok (.aload_n 3, 1) := by decide +kernel
theorem dX8_tear_34 : decode cX8_tear 34 = .ok (.iload_n 2, 1) := by decide +kernel
theorem dX8_tear_35 : decode cX8_tear 35 = .ok (.putfield 207, 3) := by decide +kernel
theorem dX8_tear_38 : decode cX8_tear 38 = .ok (.aload_n 0, 1) := by decide +kernel
theorem dX8_tear_39 : decode cX8_tear 39 = .ok (.getfield 19, 3) := by decide +kernel
theorem dX8_tear_42 : decode cX8_tear 42 = .ok (.aload_n 3, 1) := by decide +kernel
theorem dX8_tear_43 : decode cX8_tear 43 = .ok (.iload_n 2, 1) := by decide +kernel
theorem dX8_tear_44 : decode cX8_tear 44 = .ok (.invokevirtual 210, 3) := by decide +kernel
theorem dX8_tear_47 : decode cX8_tear 47 = .ok (.ireturn, 1) := by decide +kernel
theorem dX8_mend_0 : decode cX8_mend 0 = .ok (.aload_n 0, 1) := by decide +kernel
theorem dX8_mend_1 : decode cX8_mend 1 = .ok (.getfield 19, 3) := by decide +kernel
theorem dX8_mend_4 : decode cX8_mend 4 = .ok (.iload_n 1, 1) := by decide +kernel
theorem dX8_mend_5 : decode cX8_mend 5 = .ok (.invokevirtual 96, 3) := by decide +kernel
theorem dX8_mend_8 : decode cX8_mend 8 = .ok (.astore_n 2, 1) := by decide +kernel
theorem dX8_mend_9 : decode cX8_mend 9 = .ok (.aload_n 2, 1) := by decide +kernel
theorem dX8_mend_10 : decode cX8_mend 10 = .ok (.ifnonnull 5, 3) := by decide +kernel
theorem dX8_mend_13 : decode cX8_mend 13 = .ok (.iconst (-1), 1) := by decide +kernel
theorem dX8_mend_14 : decode cX8_mend 14 = .ok (.ireturn, 1) := by decide +kernel
theorem dX8_mend_15 : decode cX8_mend 15 = .ok (.aload_n 2, 1) := by decide +kernel
theorem dX8_mend_16 : decode cX8_mend 16 = .ok (.invokevirtual 214, 3) := by decide +kernel
theorem dX8_mend_19 : decode cX8_mend 19 = .ok (.ifCond .ne 6, 3) := by decide +kernel
theorem dX8_mend_22 : decode cX8_mend 22 = .ok (.bipush (-2), 2) := by decide +kernel
theorem dX8_mend_24 : decode cX8_mend 24 = .ok (.ireturn, 1) := by decide +kernel
theorem dX8_mend_25 : decode cX8_mend 25 = .ok (.aload_n 2, 1) := by decide +kernel
theorem dX8_mend_26 : decode cX8_mend 26 = .ok (.bipush (-4), 2) := by decide +kernel
theorem dX8_mend_28 : decode cX8_mend 28 = .ok (.putfield 207, 3) := by decide +kernel
theorem dX8_mend_31 : decode cX8_mend 31 = .ok (.iconst 1, 1) := by decide +kernel
theorem dX8_mend_32 : decode cX8_mend 32 = .ok (.ireturn, 1) := by decide +kernel
theorem dX8_chain_0 : decode cX8_chain 0 = .ok (.aload_n 0, 1) := by decide +kernel
theorem dX8_chain_1 : decode cX8_chain 1 = .ok (.getfield 19, 3) := by decide +kernel
theorem dX8_chain_4 : decode cX8_chain 4 = .ok (.iload_n 1, 1) := by decide +kernel
theorem dX8_chain_5 : decode cX8_chain 5 = .ok (.invokevirtual 156, 3) := by decide +kernel
theorem dX8_chain_8 : decode cX8_chain 8 = .ok (.astore_n 2, 1) := by decide +kernel
theorem dX8_chain_9 : decode cX8_chain 9 = .ok (.aload_n 2, 1) := by decide +kernel
theorem dX8_chain_10 : decode cX8_chain 10 = .ok (.ifnonnull 5, 3) := by decide +kernel
theorem dX8_chain_13 : decode cX8_chain 13 = .ok (.iconst (-1), 1) := by decide +kernel
theorem dX8_chain_14 : decode cX8_chain 14 = .ok (.ireturn, 1) := by decide +kernel
theorem dX8_chain_15 : decode cX8_chain 15 = .ok (.aload_n 2, 1) := by decide +kernel
theorem dX8_chain_16 : decode cX8_chain 16 = .ok (.invokevirtual 182, 3) := by decide +kernel
theorem dX8_chain_19 : decode cX8_chain 19 = .ok (.ifCond .eq 14, 3) := by decide +kernel
theorem dX8_chain_22 : decode cX8_chain 22 = .ok (.aload_n 0, 1) := by decide +kernel
theorem dX8_chain_23 : decode cX8_chain 23 = .ok (.getfield 28, 3) := by decide +kernel
theorem dX8_chain_26 : decode cX8_chain 26 = .ok (.aload_n 2, 1) := by decide +kernel
theorem dX8_chain_27 : decode cX8_chain 27 = .ok (.invokevirtual 217, 3) := by decide +kernel
theorem dX8_chain_30 : decode cX8_chain 30 = .ok (.goto 5, 3) := by decide +kernel
theorem dX8_chain_33 : decode cX8_chain 33 = .ok (.bipush (-2), 2) := by decide +kernel
theorem dX8_chain_35 : decode cX8_chain 35 = .ok (.ireturn, 1) := by decide +kernel
theorem dX8_swap_0 : decode cX8_swap 0 = .ok (.aload_n 0, 1) := by decide +kernel
theorem dX8_swap_1 : decode cX8_swap 1 = .ok (.iload_n 1, 1) := by decide +kernel
theorem dX8_swap_2 : decode cX8_swap 2 = .ok (.invokevirtual 221, 3) := by decide +kernel
theorem dX8_swap_5 : decode cX8_swap 5 = .ok (.istore_n 2, 1) := by decide +kernel
theorem dX8_swap_6 : decode cX8_swap 6 = .ok (.iload_n 2, 1) := by decide +kernel
theorem dX8_swap_7 : decode cX8_swap 7 = .ok (.ifCond .le 10, 3) := by decide +kernel
theorem dX8_swap_10 : decode cX8_swap 10 = .ok (.aload_n 0, 1) := by decide +kernel
theorem dX8_swap_11 : decode cX8_swap 11 = .ok (.getfield 28, 3) := by decide +kernel
theorem dX8_swap_14 : decode cX8_swap 14 = .ok (.invokevirtual 229, 3) := by decide +kernel
theorem dX8_swap_17 : decode cX8_swap 17 = .ok (.iload_n 2, 1) := by decide +kernel
theorem dX8_swap_18 : decode cX8_swap 18 = .ok (.ireturn, 1) := by decide +kernel
theorem dX8_count_0 : decode cX8_count 0 = .ok (.iload_n 1, 1) := by decide +kernel
theorem dX8_count_1 : decode cX8_count 1 = .ok (.tableswitch 92 0 7 #[47, 55, 55, 64, 75, 83, 83, 55], 47) := by decide +kernel
theorem dX8_count_48 : decode cX8_count 48 = .ok (.aload_n 0, 1) := by decide +kernel
theorem dX8_count_49 : decode cX8_count 49 = .ok (.getfield 19, 3) := by decide +kernel
theorem dX8_count_52 : decode cX8_count 52 = .ok (.getfield 282, 3) := by decide +kernel
theorem dX8_count_55 : decode cX8_count 55 = .ok (.ireturn, 1) := by decide +kernel
theorem dX8_count_56 : decode cX8_count 56 = .ok (.aload_n 0, 1) := by decide +kernel
theorem dX8_count_57 : decode cX8_count 57 = .ok (.getfield 19, 3) := by decide +kernel
theorem dX8_count_60 : decode cX8_count 60 = .ok (.iload_n 1, 1) := by decide +kernel
theorem dX8_count_61 : decode cX8_count 61 = .ok (.invokevirtual 285, 3) := by decide +kernel
theorem dX8_count_64 : decode cX8_count 64 = .ok (.ireturn, 1) := by decide +kernel
theorem dX8_count_65 : decode cX8_count 65 = .ok (.aload_n 0, 1) := by decide +kernel
theorem dX8_count_66 : decode cX8_count 66 = .ok (.getfield 19, 3) := by decide +kernel
theorem dX8_count_69 : decode cX8_count 69 = .ok (.getfield 115, 3) := by decide +kernel
theorem dX8_count_72 : decode cX8_count 72 = .ok (.getfield 119, 3) := by decide +kernel
theorem dX8_count_75 : decode cX8_count 75 = .ok (.ireturn, 1) := by decide +kernel
theorem dX8_count_76 : decode cX8_count 76 = .ok (.aload_n 0, 1) := by decide +kernel
theorem dX8_count_77 : decode cX8_count 77 = .ok (.getfield 19, 3) := by decide +kernel
theorem dX8_count_80 : decode cX8_count 80 = .ok (.getfield 153, 3) := by decide +kernel
theorem dX8_count_83 : decode cX8_count 83 = .ok (.ireturn, 1) := by decide +kernel
theorem dX8_count_84 : decode cX8_count 84 = .ok (.aload_n 0, 1) := by decide +kernel
theorem dX8_count_85 : decode cX8_count 85 = .ok (.getfield 19, 3) := by decide +kernel
theorem dX8_count_88 : decode cX8_count 88 = .ok (.iload_n 1, 1) := by decide +kernel
theorem dX8_count_89 : decode cX8_count 89 = .ok (.invokevirtual 288, 3) := by decide +kernel
theorem dX8_count_92 : decode cX8_count 92 = .ok (.ireturn, 1) := by decide +kernel
theorem dX8_count_93 : decode cX8_count 93 = .ok (.iconst (-1), 1) := by decide +kernel
theorem dX8_count_94 : decode cX8_count 94 = .ok (.ireturn, 1) := by decide +kernel
theorem dX8_isIn_0 : decode cX8_isIn 0 = .ok (.iload_n 0, 1) := by decide +kernel
theorem dX8_isIn_1 : decode cX8_isIn 1 = .ok (.iload_n 1, 1) := by decide +kernel
theorem dX8_isIn_2 : decode cX8_isIn 2 = .ok (.if_icmp .lt 12, 3) := by decide +kernel
theorem dX8_isIn_5 : decode cX8_isIn 5 = .ok (.iload_n 0, 1) := by decide +kernel
theorem dX8_isIn_6 : decode cX8_isIn 6 = .ok (.iload_n 2, 1) := by decide +kernel
theorem dX8_isIn_7 : decode cX8_isIn 7 = .ok (.if_icmp .gt 7, 3) := by decide +kernel
theorem dX8_isIn_10 : decode cX8_isIn 10 = .ok (.iconst 1, 1) := by decide +kernel
theorem dX8_isIn_11 : decode cX8_isIn 11 = .ok (.goto 4, 3) := by decide +kernel
theorem dX8_isIn_14 : decode cX8_isIn 14 = .ok (.iconst 0, 1) := by decide +kernel
theorem dX8_isIn_15 : decode cX8_isIn 15 = .ok (.ireturn, 1) := by decide +kernel
theorem dX8_isTown_0 : decode cX8_isTown 0 = .ok (.iload_n 0, 1) := by decide +kernel
theorem dX8_isTown_1 : decode cX8_isTown 1 = .ok (.iconst 0, 1) := by decide +kernel
theorem dX8_isTown_2 : decode cX8_isTown 2 = .ok (.bipush 8, 2) := by decide +kernel
theorem dX8_isTown_4 : decode cX8_isTown 4 = .ok (.invokestatic 39, 3) := by decide +kernel
theorem dX8_isTown_7 : decode cX8_isTown 7 = .ok (.ireturn, 1) := by decide +kernel
theorem dX8_isMaker_0 : decode cX8_isMaker 0 = .ok (.iload_n 0, 1) := by decide +kernel
theorem dX8_isMaker_1 : decode cX8_isMaker 1 = .ok (.iconst 0, 1) := by decide +kernel
theorem dX8_isMaker_2 : decode cX8_isMaker 2 = .ok (.iconst 5, 1) := by decide +kernel
theorem dX8_isMaker_3 : decode cX8_isMaker 3 = .ok (.invokestatic 39, 3) := by decide +kernel
theorem dX8_isMaker_6 : decode cX8_isMaker 6 = .ok (.ireturn, 1) := by decide +kernel
theorem dX8_isLabel_0 : decode cX8_isLabel 0 = .ok (.iload_n 0, 1) := by decide +kernel
theorem dX8_isLabel_1 : decode cX8_isLabel 1 = .ok (.iconst 1, 1) := by decide +kernel
theorem dX8_isLabel_2 : decode cX8_isLabel 2 = .ok (.bipush 40, 2) := by decide +kernel
theorem dX8_isLabel_4 : decode cX8_isLabel 4 = .ok (.invokestatic 39, 3) := by decide +kernel
theorem dX8_isLabel_7 : decode cX8_isLabel 7 = .ok (.ireturn, 1) := by decide +kernel
theorem dX8_isDay_0 : decode cX8_isDay 0 = .ok (.iload_n 0, 1) := by decide +kernel
theorem dX8_isDay_1 : decode cX8_isDay 1 = .ok (.iconst 0, 1) := by decide +kernel
theorem dX8_isDay_2 : decode cX8_isDay 2 = .ok (.sipush 399, 3) := by decide +kernel
theorem dX8_isDay_5 : decode cX8_isDay 5 = .ok (.invokestatic 39, 3) := by decide +kernel
theorem dX8_isDay_8 : decode cX8_isDay 8 = .ok (.ireturn, 1) := by decide +kernel
theorem dX8_addPiece_0 : decode cX8_addPiece 0 = .ok (.iload_n 2, 1) := by decide +kernel
theorem dX8_addPiece_1 : decode cX8_addPiece 1 = .ok (.invokestatic 109, 3) := by decide +kernel
theorem dX8_addPiece_4 : decode cX8_addPiece 4 = .ok (.ifCond .eq 52, 3) := by decide +kernel
theorem dX8_addPiece_7 : decode cX8_addPiece 7 = .ok (.iload_n 3, 1) := by decide +kernel
theorem dX8_addPiece_8 : decode cX8_addPiece 8 = .ok (.invokestatic 112, 3) := by decide +kernel
theorem dX8_addPiece_11 : decode cX8_addPiece 11 = .ok (.ifCond .eq 45, 3) := by decide +kernel
theorem dX8_addPiece_14 : decode cX8_addPiece 14 = .ok (.iload 4, 2) := by decide +kernel
theorem dX8_addPiece_16 : decode cX8_addPiece 16 = .ok (.iconst 0, 1) := by decide +kernel
theorem dX8_addPiece_17 : decode cX8_addPiece 17 = .ok (.bipush 9, 2) := by decide +kernel
theorem dX8_addPiece_19 : decode cX8_addPiece 19 = .ok (.invokestatic 39, 3) := by decide +kernel
theorem dX8_addPiece_22 : decode cX8_addPiece 22 = .ok (.ifCond .eq 34, 3) := by decide +kernel
theorem dX8_addPiece_25 : decode cX8_addPiece 25 = .ok (.iload 5, 2) := by decide +kernel
theorem dX8_addPiece_27 : decode cX8_addPiece 27 = .ok (.invokestatic 79, 3) := by decide +kernel
theorem dX8_addPiece_30 : decode cX8_addPiece 30 = .ok (.ifCond .eq 26, 3) := by decide +kernel
theorem dX8_addPiece_33 : decode cX8_addPiece 33 = .ok (.iload 6, 2) := by decide +kernel
theorem dX8_addPiece_35 : decode cX8_addPiece 35 = .ok (.iconst 1, 1) := by decide +kernel
theorem dX8_addPiece_36 : decode cX8_addPiece 36 = .ok (.sipush 9999, 3) := by decide +kernel
theorem dX8_addPiece_39 : decode cX8_addPiece 39 = .ok (.invokestatic 39, 3) := by decide +kernel
theorem dX8_addPiece_42 : decode cX8_addPiece 42 = .ok (.ifCond .eq 14, 3) := by decide +kernel
theorem dX8_addPiece_45 : decode cX8_addPiece 45 = .ok (.iload 7, 2) := by decide +kernel
theorem dX8_addPiece_47 : decode cX8_addPiece 47 = .ok (.iconst 1, 1) := by decide +kernel
theorem dX8_addPiece_48 : decode cX8_addPiece 48 = .ok (.bipush 99, 2) := by decide +kernel
theorem dX8_addPiece_50 : decode cX8_addPiece 50 = .ok (.invokestatic 39, 3) := by decide +kernel
theorem dX8_addPiece_53 : decode cX8_addPiece 53 = .ok (.ifCond .ne 5, 3) := by decide +kernel
theorem dX8_addPiece_56 : decode cX8_addPiece 56 = .ok (.iconst (-1), 1) := by decide +kernel
theorem dX8_addPiece_57 : decode cX8_addPiece 57 = .ok (.ireturn, 1) := by decide +kernel
theorem dX8_addPiece_58 : decode cX8_addPiece 58 = .ok (.aload_n 0, 1) := by decide +kernel
theorem dX8_addPiece_59 : decode cX8_addPiece 59 = .ok (.getfield 19, 3) := by decide +kernel
theorem dX8_addPiece_62 : decode cX8_addPiece 62 = .ok (.getfield 282, 3) := by decide +kernel
theorem dX8_addPiece_65 : decode cX8_addPiece 65 = .ok (.bipush 24, 2) := by decide +kernel
theorem dX8_addPiece_67 : decode cX8_addPiece 67 = .ok (.if_icmp .lt 6, 3) := by decide +kernel
theorem dX8_addPiece_70 : decode cX8_addPiece 70 = .ok (.bipush (-3), 2) := by decide +kernel
theorem dX8_addPiece_72 : decode cX8_addPiece 72 = .ok (.ireturn, 1) := by decide +kernel
theorem dX8_addPiece_73 : decode cX8_addPiece 73 = .ok (.aload_n 0, 1) := by decide +kernel
theorem dX8_addPiece_74 : decode cX8_addPiece 74 = .ok (.getfield 19, 3) := by decide +kernel
theorem dX8_addPiece_77 : decode cX8_addPiece 77 = .ok (.new 90, 3) := by decide +kernel
theorem dX8_addPiece_80 : decode cX8_addPiece 80 = .ok (.dup, 1) := by decide +kernel
theorem dX8_addPiece_81 : decode cX8_addPiece 81 = .ok (.iload_n 1, 1) := by decide +kernel
theorem dX8_addPiece_82 : decode cX8_addPiece 82 = .ok (.iload_n 2, 1) := by decide +kernel
theorem dX8_addPiece_83 : decode cX8_addPiece 83 = .ok (.iload_n 3, 1) := by decide +kernel
theorem dX8_addPiece_84 : decode cX8_addPiece 84 = .ok (.iload 4, 2) := by decide +kernel
theorem dX8_addPiece_86 : decode cX8_addPiece 86 = .ok (.iload 5, 2) := by decide +kernel
theorem dX8_addPiece_88 : decode cX8_addPiece 88 = .ok (.iload 6, 2) := by decide +kernel
theorem dX8_addPiece_90 : decode cX8_addPiece 90 = .ok (.iload 7, 2) := by decide +kernel
theorem dX8_addPiece_92 : decode cX8_addPiece 92 = .ok (.invokespecial 322, 3) := by decide +kernel
theorem dX8_addPiece_95 : decode cX8_addPiece 95 = .ok (.invokevirtual 325, 3) := by decide +kernel
theorem dX8_addPiece_98 : decode cX8_addPiece 98 = .ok (.ireturn, 1) := by decide +kernel
theorem dX8_isBookingAsTold_0 : decode cX8_isBookingAsTold 0 = .ok (.iload_n 0, 1) := by decide +kernel
theorem dX8_isBookingAsTold_1 : decode cX8_isBookingAsTold 1 = .ok (.invokestatic 112, 3) := by decide +kernel
theorem dX8_isBookingAsTold_4 : decode cX8_isBookingAsTold 4 = .ok (.ifCond .eq 53, 3) := by decide +kernel
theorem dX8_isBookingAsTold_7 : decode cX8_isBookingAsTold 7 = .ok (.iload_n 1, 1) := by decide +kernel
theorem dX8_isBookingAsTold_8 : decode cX8_isBookingAsTold 8 = .ok (.iconst 0, 1) := by decide +kernel
theorem dX8_isBookingAsTold_9 : decode cX8_isBookingAsTold 9 = .ok (.iconst 2, 1) := by decide +kernel
theorem dX8_isBookingAsTold_10 : decode cX8_isBookingAsTold 10 = .ok (.invokestatic 39, 3) := by decide +kernel
theorem dX8_isBookingAsTold_13 : decode cX8_isBookingAsTold 13 = .ok (.ifCond .eq 44, 3) := by decide +kernel
theorem dX8_isBookingAsTold_16 : decode cX8_isBookingAsTold 16 = .ok (.iload_n 2, 1) := by decide +kernel
theorem dX8_isBookingAsTold_17 : decode cX8_isBookingAsTold 17 = .ok (.bipush 20, 2) := by decide +kernel
theorem dX8_isBookingAsTold_19 : decode cX8_isBookingAsTold 19 = .ok (.sipush 380, 3) := by decide +kernel
theorem dX8_isBookingAsTold_22 : decode cX8_isBookingAsTold 22 = .ok (.invokestatic 39, 3) := by decide +kernel
theorem dX8_isBookingAsTold_25 : decode cX8_isBookingAsTold 25 = .ok (.ifCond .eq 32, 3) := by decide +kernel
theorem dX8_isBookingAsTold_28 : decode cX8_isBookingAsTold 28 = .ok (.iload_n 3, 1) := by decide +kernel
theorem dX8_isBookingAsTold_29 : decode cX8_isBookingAsTold 29 = .ok (.invokestatic 79, 3) := by decide +kernel
theorem dX8_isBookingAsTold_32 : decode cX8_isBookingAsTold 32 = .ok (.ifCond .eq 25, 3) := by decide +kernel
theorem dX8_isBookingAsTold_35 : decode cX8_isBookingAsTold 35 = .ok (.iload 4, 2) := by decide +kernel
theorem dX8_isBookingAsTold_37 : decode cX8_isBookingAsTold 37 = .ok (.invokestatic 160, 3) := by decide +kernel
theorem dX8_isBookingAsTold_40 : decode cX8_isBookingAsTold 40 = .ok (.ifCond .eq 17, 3) := by decide +kernel
theorem dX8_isBookingAsTold_43 : decode cX8_isBookingAsTold 43 = .ok (.iload 5, 2) := by decide +kernel
theorem dX8_isBookingAsTold_45 : decode cX8_isBookingAsTold 45 = .ok (.iconst (-1), 1) := by decide +kernel
theorem dX8_isBookingAsTold_46 : decode cX8_isBookingAsTold 46 = .ok (.iconst 4, 1) := by decide +kernel
theorem dX8_isBookingAsTold_47 : decode cX8_isBookingAsTold 47 = .ok (.invokestatic 39, 3) := by decide +kernel
theorem dX8_isBookingAsTold_50 : decode cX8_isBookingAsTold 50 = .ok (.ifCond .eq 7, 3) := by decide +kernel
theorem dX8_isBookingAsTold_53 : decode cX8_isBookingAsTold 53 = .ok (.iconst 1, 1) := by decide +kernel
theorem dX8_isBookingAsTold_54 : decode cX8_isBookingAsTold 54 = .ok (.goto 4, 3) := by decide +kernel
theorem dX8_isBookingAsTold_57 : decode cX8_isBookingAsTold 57 = .ok (.iconst 0, 1) := by decide +kernel
theorem dX8_isBookingAsTold_58 : decode cX8_isBookingAsTold 58 = .ok (.ireturn, 1) := by decide +kernel
theorem dL_cell_0 : decode cL_cell 0 = .ok (.iload_n 1, 1) := by decide +kernel
theorem dL_cell_1 : decode cL_cell 1 = .ok (.aload_n 0, 1) := by decide +kernel
theorem dL_cell_2 : decode cL_cell 2 = .ok (.arraylength, 1) := by decide +kernel
theorem dL_cell_3 : decode cL_cell 3 = .ok (.if_icmp .ge 9, 3) := by decide +kernel
theorem dL_cell_6 : decode cL_cell 6 = .ok (.aload_n 0, 1) := by decide +kernel
theorem dL_cell_7 : decode cL_cell 7 = .ok (.iload_n 1, 1) := by decide +kernel
theorem dL_cell_8 : decode cL_cell 8 = .ok (.iaload, 1) := by decide +kernel
theorem dL_cell_9 : decode cL_cell 9 = .ok (.goto 9, 3) := by decide +kernel
theorem dL_cell_12 : decode cL_cell 12 = .ok (.ldc 7, 2) := by decide +kernel
theorem dL_cell_14 : decode cL_cell 14 = .ok (.iload_n 1, 1) := by decide +kernel
theorem dL_cell_15 : decode cL_cell 15 = .ok (.iconst 3, 1) := by decide +kernel
theorem dL_cell_16 : decode cL_cell 16 = .ok (.iadd, 1) := by decide +kernel
theorem dL_cell_17 : decode cL_cell 17 = .ok (.imul, 1) := by decide +kernel
theorem dL_cell_18 : decode cL_cell 18 = .ok (.ireturn, 1) := by decide +kernel
theorem dL_some_0 : decode cL_some 0 = .ok (.iload_n 0, 1) := by decide +kernel
theorem dL_some_1 : decode cL_some 1 = .ok (.ldc 8, 2) := by decide +kernel
theorem dL_some_3 : decode cL_some 3 = .ok (.iand, 1) := by decide +kernel
theorem dL_some_4 : decode cL_some 4 = .ok (.iload_n 1, 1) := by decide +kernel
theorem dL_some_5 : decode cL_some 5 = .ok (.irem, 1) := by decide +kernel
theorem dL_some_6 : decode cL_some 6 = .ok (.ireturn, 1) := by decide +kernel
theorem dL_pieces_0 : decode cL_pieces 0 = .ok (.iconst 0, 1) := by decide +kernel
theorem dL_pieces_1 : decode cL_pieces 1 = .ok (.istore 5, 2) := by decide +kernel
theorem dL_pieces_3 : decode cL_pieces 3 = .ok (.iload 5, 2) := by decide +kernel
theorem dL_pieces_5 : decode cL_pieces 5 = .ok (.iload_n 3, 1) := by decide +kernel
theorem dL_pieces_6 : decode cL_pieces 6 = .ok (.if_icmp .ge 264, 3) := by decide +kernel
theorem dL_pieces_9 : decode cL_pieces 9 = .ok (.aload_n 1, 1) := by decide +kernel
theorem dL_pieces_10 : decode cL_pieces 10 = .ok (.iload_n 2, 1) := by decide +kernel
theorem dL_pieces_11 : decode cL_pieces 11 = .ok (.iload 5, 2) := by decide +kernel
theorem dL_pieces_13 : decode cL_pieces 13 = .ok (.iadd, 1) := by decide +kernel
theorem dL_pieces_14 : decode cL_pieces 14 = .ok (.invokestatic 9, 3) := by decide +kernel
theorem dL_pieces_17 : decode cL_pieces 17 = .ok (.istore 6, 2) := by decide +kernel
theorem dL_pieces_19 : decode cL_pieces 19 = .ok (.aload 4, 2) := by decide +kernel
theorem dL_pieces_21 : decode cL_pieces 21 = .ok (.iconst 4, 1) := by decide +kernel
theorem dL_pieces_22 : decode cL_pieces 22 = .ok (.iload 5, 2) := by decide +kernel
theorem dL_pieces_24 : decode cL_pieces 24 = .ok (.imul, 1) := by decide +kernel
theorem dL_pieces_25 : decode cL_pieces 25 = .ok (.iload 6, 2) := by decide +kernel
theorem dL_pieces_27 : decode cL_pieces 27 = .ok (.iconst 3, 1) := by decide +kernel
theorem dL_pieces_28 : decode cL_pieces 28 = .ok (.invokestatic 15, 3) := by decide +kernel
theorem dL_pieces_31 : decode cL_pieces 31 = .ok (.iastore, 1) := by decide +kernel
theorem dL_pieces_32 : decode cL_pieces 32 = .ok (.aload 4, 2) := by decide +kernel
theorem dL_pieces_34 : decode cL_pieces 34 = .ok (.iconst 4, 1) := by decide +kernel
theorem dL_pieces_35 : decode cL_pieces 35 = .ok (.iload 5, 2) := by decide +kernel
theorem dL_pieces_37 : decode cL_pieces 37 = .ok (.imul, 1) := by decide +kernel
theorem dL_pieces_38 : decode cL_pieces 38 = .ok (.iconst 1, 1) := by decide +kernel
theorem dL_pieces_39 : decode cL_pieces 39 = .ok (.iadd, 1) := by decide +kernel
theorem dL_pieces_40 : decode cL_pieces 40 = .ok (.bipush 10, 2) := by decide +kernel
theorem dL_pieces_42 : decode cL_pieces 42 = .ok (.iload 6, 2) := by decide +kernel
theorem dL_pieces_44 : decode cL_pieces 44 = .ok (.iconst 2, 1) := by decide +kernel
theorem dL_pieces_45 : decode cL_pieces 45 = .ok (.ishr, 1) := by decide +kernel
theorem dL_pieces_46 : decode cL_pieces 46 = .ok (.iconst 4, 1) := by decide +kernel
theorem dL_pieces_47 : decode cL_pieces 47 = .ok (.invokestatic 15, 3) := by decide +kernel
theorem dL_pieces_50 : decode cL_pieces 50 = .ok (.iadd, 1) := by decide +kernel
theorem dL_pieces_51 : decode cL_pieces 51 = .ok (.iastore, 1) := by decide +kernel
theorem dL_pieces_52 : decode cL_pieces 52 = .ok (.aload 4, 2) := by decide +kernel
theorem dL_pieces_54 : decode cL_pieces 54 = .ok (.iconst 4, 1) := by decide +kernel
theorem dL_pieces_55 : decode cL_pieces 55 = .ok (.iload 5, 2) := by decide +kernel
theorem dL_pieces_57 : decode cL_pieces 57 = .ok (.imul, 1) := by decide +kernel
theorem dL_pieces_58 : decode cL_pieces 58 = .ok (.iconst 2, 1) := by decide +kernel
theorem dL_pieces_59 : decode cL_pieces 59 = .ok (.iadd, 1) := by decide +kernel
theorem dL_pieces_60 : decode cL_pieces 60 = .ok (.iload 6, 2) := by decide +kernel
theorem dL_pieces_62 : decode cL_pieces 62 = .ok (.iconst 4, 1) := by decide +kernel
theorem dL_pieces_63 : decode cL_pieces 63 = .ok (.ishr, 1) := by decide +kernel
theorem dL_pieces_64 : decode cL_pieces 64 = .ok (.iconst 3, 1) := by decide +kernel
theorem dL_pieces_65 : decode cL_pieces 65 = .ok (.invokestatic 15, 3) := by decide +kernel
theorem dL_pieces_68 : decode cL_pieces 68 = .ok (.iastore, 1) := by decide +kernel
theorem dL_pieces_69 : decode cL_pieces 69 = .ok (.aload 4, 2) := by decide +kernel
theorem dL_pieces_71 : decode cL_pieces 71 = .ok (.iconst 4, 1) := by decide +kernel
theorem dL_pieces_72 : decode cL_pieces 72 = .ok (.iload 5, 2) := by decide +kernel
theorem dL_pieces_74 : decode cL_pieces 74 = .ok (.imul, 1) := by decide +kernel
theorem dL_pieces_75 : decode cL_pieces 75 = .ok (.iconst 3, 1) := by decide +kernel
theorem dL_pieces_76 : decode cL_pieces 76 = .ok (.iadd, 1) := by decide +kernel
theorem dL_pieces_77 : decode cL_pieces 77 = .ok (.iload 6, 2) := by decide +kernel
theorem dL_pieces_79 : decode cL_pieces 79 = .ok (.bipush 6, 2) := by decide +kernel
theorem dL_pieces_81 : decode cL_pieces 81 = .ok (.ishr, 1) := by decide +kernel
theorem dL_pieces_82 : decode cL_pieces 82 = .ok (.iconst 3, 1) := by decide +kernel
theorem dL_pieces_83 : decode cL_pieces 83 = .ok (.invokestatic 15, 3) := by decide +kernel
theorem dL_pieces_86 : decode cL_pieces 86 = .ok (.iastore, 1) := by decide +kernel
theorem dL_pieces_87 : decode cL_pieces 87 = .ok (.sipush 1000, 3) := by decide +kernel
theorem dL_pieces_90 : decode cL_pieces 90 = .ok (.iload 6, 2) := by decide +kernel
theorem dL_pieces_92 : decode cL_pieces 92 = .ok (.bipush 8, 2) := by decide +kernel
theorem dL_pieces_94 : decode cL_pieces 94 = .ok (.ishr, 1) := by decide +kernel
theorem dL_pieces_95 : decode cL_pieces 95 = .ok (.sipush 5000, 3) := by decide +kernel
theorem dL_pieces_98 : decode cL_pieces 98 = .ok (.invokestatic 15, 3) := by decide +kernel
theorem dL_pieces_101 : decode cL_pieces 101 = .ok (.iadd, 1) := by decide +kernel
theorem dL_pieces_102 : decode cL_pieces 102 = .ok (.istore 7, 2) := by decide +kernel
theorem dL_pieces_104 : decode cL_pieces 104 = .ok (.iconst 1, 1) := by decide +kernel
theorem dL_pieces_105 : decode cL_pieces 105 = .ok (.iload 6, 2) := by decide +kernel
theorem dL_pieces_107 : decode cL_pieces 107 = .ok (.bipush 20, 2) := by decide +kernel
theorem dL_pieces_109 : decode cL_pieces 109 = .ok (.ishr, 1) := by decide +kernel
theorem dL_pieces_110 : decode cL_pieces 110 = .ok (.bipush 30, 2) := by decide +kernel
theorem dL_pieces_112 : decode cL_pieces 112 = .ok (.invokestatic 15, 3) := by decide +kernel
theorem dL_pieces_115 : decode cL_pieces 115 = .ok (.iadd, 1) := by decide +kernel
theorem dL_pieces_116 : decode cL_pieces 116 = .ok (.istore 8, 2) := by decide +kernel
theorem dL_pieces_118 : decode cL_pieces 118 = .ok (.aload 4, 2) := by decide +kernel
theorem dL_pieces_120 : decode cL_pieces 120 = .ok (.iconst 4, 1) := by decide +kernel
theorem dL_pieces_121 : decode cL_pieces 121 = .ok (.iload 5, 2) := by decide +kernel
theorem dL_pieces_123 : decode cL_pieces 123 = .ok (.imul, 1) := by decide +kernel
theorem dL_pieces_124 : decode cL_pieces 124 = .ok (.iaload, 1) := by decide +kernel
theorem dL_pieces_125 : decode cL_pieces 125 = .ok (.ifCond .ne 42, 3) := by decide +kernel
theorem dL_pieces_128 : decode cL_pieces 128 = .ok (.aload_n 0, 1) := by decide +kernel
theorem dL_pieces_129 : decode cL_pieces 129 = .ok (.iconst 0, 1) := by decide +kernel
theorem dL_pieces_130 : decode cL_pieces 130 = .ok (.aload 4, 2) := by decide +kernel
theorem dL_pieces_132 : decode cL_pieces 132 = .ok (.iconst 4, 1) := by decide +kernel
theorem dL_pieces_133 : decode cL_pieces 133 = .ok (.iload 5, 2) := by decide +kernel
theorem dL_pieces_135 : decode cL_pieces 135 = .ok (.imul, 1) := by decide +kernel
theorem dL_pieces_136 : decode cL_pieces 136 = .ok (.iconst 1, 1) := by decide +kernel
theorem dL_pieces_137 : decode cL_pieces 137 = .ok (.iadd, 1) := by decide +kernel
theorem dL_pieces_138 : decode cL_pieces 138 = .ok (.iaload, 1) := by decide +kernel
theorem dL_pieces_139 : decode cL_pieces 139 = .ok (.aload 4, 2) := by decide +kernel
theorem dL_pieces_141 : decode cL_pieces 141 = .ok (.iconst 4, 1) := by decide +kernel
theorem dL_pieces_142 : decode cL_pieces 142 = .ok (.iload 5, 2) := by decide +kernel
theorem dL_pieces_144 : decode cL_pieces 144 = .ok (.imul, 1) := by decide +kernel
theorem dL_pieces_145 : decode cL_pieces 145 = .ok (.iconst 2, 1) := by decide +kernel
theorem dL_pieces_146 : decode cL_pieces 146 = .ok (.iadd, 1) := by decide +kernel
theorem dL_pieces_147 : decode cL_pieces 147 = .ok (.iaload, 1) := by decide +kernel
theorem dL_pieces_148 : decode cL_pieces 148 = .ok (.aload 4, 2) := by decide +kernel
theorem dL_pieces_150 : decode cL_pieces 150 = .ok (.iconst 4, 1) := by decide +kernel
theorem dL_pieces_151 : decode cL_pieces 151 = .ok (.iload 5, 2) := by decide +kernel
theorem dL_pieces_153 : decode cL_pieces 153 = .ok (.imul, 1) := by decide +kernel
theorem dL_pieces_154 : decode cL_pieces 154 = .ok (.iconst 3, 1) := by decide +kernel
theorem dL_pieces_155 : decode cL_pieces 155 = .ok (.iadd, 1) := by decide +kernel
theorem dL_pieces_156 : decode cL_pieces 156 = .ok (.iaload, 1) := by decide +kernel
theorem dL_pieces_157 : decode cL_pieces 157 = .ok (.iload 7, 2) := by decide +kernel
theorem dL_pieces_159 : decode cL_pieces 159 = .ok (.iload 8, 2) := by decide +kernel
theorem dL_pieces_161 : decode cL_pieces 161 = .ok (.invokevirtual 19, 3) := by decide +kernel
theorem dL_pieces_164 : decode cL_pieces 164 = .ok (.goto 89, 3) := by decide +kernel
theorem dL_pieces_167 : decode cL_pieces 167 = .ok (.aload 4, 2) := by decide +kernel
theorem dL_pieces_169 : decode cL_pieces 169 = .ok (.iconst 4, 1) := by decide +kernel
theorem dL_pieces_170 : decode cL_pieces 170 = .ok (.iload 5, 2) := by decide +kernel
theorem dL_pieces_172 : decode cL_pieces 172 = .ok (.imul, 1) := by decide +kernel
theorem dL_pieces_173 : decode cL_pieces 173 = .ok (.iaload, 1) := by decide +kernel
theorem dL_pieces_174 : decode cL_pieces 174 = .ok (.iconst 1, 1) := by decide +kernel
theorem dL_pieces_175 : decode cL_pieces 175 = .ok (.if_icmp .ne 42, 3) := by decide +kernel
theorem dL_pieces_178 : decode cL_pieces 178 = .ok (.aload_n 0, 1) := by decide +kernel
theorem dL_pieces_179 : decode cL_pieces 179 = .ok (.iconst 0, 1) := by decide +kernel
theorem dL_pieces_180 : decode cL_pieces 180 = .ok (.aload 4, 2) := by decide +kernel
theorem dL_pieces_182 : decode cL_pieces 182 = .ok (.iconst 4, 1) := by decide +kernel
theorem dL_pieces_183 : decode cL_pieces 183 = .ok (.iload 5, 2) := by decide +kernel
theorem dL_pieces_185 : decode cL_pieces 185 = .ok (.imul, 1) := by decide +kernel
theorem dL_pieces_186 : decode cL_pieces 186 = .ok (.iconst 1, 1) := by decide +kernel
theorem dL_pieces_187 : decode cL_pieces 187 = .ok (.iadd, 1) := by decide +kernel
theorem dL_pieces_188 : decode cL_pieces 188 = .ok (.iaload, 1) := by decide +kernel
theorem dL_pieces_189 : decode cL_pieces 189 = .ok (.aload 4, 2) := by decide +kernel
theorem dL_pieces_191 : decode cL_pieces 191 = .ok (.iconst 4, 1) := by decide +kernel
theorem dL_pieces_192 : decode cL_pieces 192 = .ok (.iload 5, 2) := by decide +kernel
theorem dL_pieces_194 : decode cL_pieces 194 = .ok (.imul, 1) := by decide +kernel
theorem dL_pieces_195 : decode cL_pieces 195 = .ok (.iconst 2, 1) := by decide +kernel
theorem dL_pieces_196 : decode cL_pieces 196 = .ok (.iadd, 1) := by decide +kernel
theorem dL_pieces_197 : decode cL_pieces 197 = .ok (.iaload, 1) := by decide +kernel
theorem dL_pieces_198 : decode cL_pieces 198 = .ok (.aload 4, 2) := by decide +kernel
theorem dL_pieces_200 : decode cL_pieces 200 = .ok (.iconst 4, 1) := by decide +kernel
theorem dL_pieces_201 : decode cL_pieces 201 = .ok (.iload 5, 2) := by decide +kernel
theorem dL_pieces_203 : decode cL_pieces 203 = .ok (.imul, 1) := by decide +kernel
theorem dL_pieces_204 : decode cL_pieces 204 = .ok (.iconst 3, 1) := by decide +kernel
theorem dL_pieces_205 : decode cL_pieces 205 = .ok (.iadd, 1) := by decide +kernel
theorem dL_pieces_206 : decode cL_pieces 206 = .ok (.iaload, 1) := by decide +kernel
theorem dL_pieces_207 : decode cL_pieces 207 = .ok (.iload 7, 2) := by decide +kernel
theorem dL_pieces_209 : decode cL_pieces 209 = .ok (.iload 8, 2) := by decide +kernel
theorem dL_pieces_211 : decode cL_pieces 211 = .ok (.invokevirtual 25, 3) := by decide +kernel
theorem dL_pieces_214 : decode cL_pieces 214 = .ok (.goto 39, 3) := by decide +kernel
theorem dL_pieces_217 : decode cL_pieces 217 = .ok (.aload_n 0, 1) := by decide +kernel
theorem dL_pieces_218 : decode cL_pieces 218 = .ok (.iconst 0, 1) := by decide +kernel
theorem dL_pieces_219 : decode cL_pieces 219 = .ok (.aload 4, 2) := by decide +kernel
theorem dL_pieces_221 : decode cL_pieces 221 = .ok (.iconst 4, 1) := by decide +kernel
theorem dL_pieces_222 : decode cL_pieces 222 = .ok (.iload 5, 2) := by decide +kernel
theorem dL_pieces_224 : decode cL_pieces 224 = .ok (.imul, 1) := by decide +kernel
theorem dL_pieces_225 : decode cL_pieces 225 = .ok (.iconst 1, 1) := by decide +kernel
theorem dL_pieces_226 : decode cL_pieces 226 = .ok (.iadd, 1) := by decide +kernel
theorem dL_pieces_227 : decode cL_pieces 227 = .ok (.iaload, 1) := by decide +kernel
theorem dL_pieces_228 : decode cL_pieces 228 = .ok (.aload 4, 2) := by decide +kernel
theorem dL_pieces_230 : decode cL_pieces 230 = .ok (.iconst 4, 1) := by decide +kernel
theorem dL_pieces_231 : decode cL_pieces 231 = .ok (.iload 5, 2) := by decide +kernel
theorem dL_pieces_233 : decode cL_pieces 233 = .ok (.imul, 1) := by decide +kernel
theorem dL_pieces_234 : decode cL_pieces 234 = .ok (.iconst 2, 1) := by decide +kernel
theorem dL_pieces_235 : decode cL_pieces 235 = .ok (.iadd, 1) := by decide +kernel
theorem dL_pieces_236 : decode cL_pieces 236 = .ok (.iaload, 1) := by decide +kernel
theorem dL_pieces_237 : decode cL_pieces 237 = .ok (.aload 4, 2) := by decide +kernel
theorem dL_pieces_239 : decode cL_pieces 239 = .ok (.iconst 4, 1) := by decide +kernel
theorem dL_pieces_240 : decode cL_pieces 240 = .ok (.iload 5, 2) := by decide +kernel
theorem dL_pieces_242 : decode cL_pieces 242 = .ok (.imul, 1) := by decide +kernel
theorem dL_pieces_243 : decode cL_pieces 243 = .ok (.iconst 3, 1) := by decide +kernel
theorem dL_pieces_244 : decode cL_pieces 244 = .ok (.iadd, 1) := by decide +kernel
theorem dL_pieces_245 : decode cL_pieces 245 = .ok (.iaload, 1) := by decide +kernel
theorem dL_pieces_246 : decode cL_pieces 246 = .ok (.iload 7, 2) := by decide +kernel
theorem dL_pieces_248 : decode cL_pieces 248 = .ok (.iload 8, 2) := by decide +kernel
theorem dL_pieces_250 : decode cL_pieces 250 = .ok (.invokevirtual 28, 3) := by decide +kernel
theorem dL_pieces_253 : decode cL_pieces 253 = .ok (.istore 9, 2) := by decide +kernel
theorem dL_pieces_255 : decode cL_pieces 255 = .ok (.iload 9, 2) := by decide +kernel
theorem dL_pieces_257 : decode cL_pieces 257 = .ok (.iload 5, 2) := by decide +kernel
theorem dL_pieces_259 : decode cL_pieces 259 = .ok (.if_icmp .eq 5, 3) := by decide +kernel
theorem dL_pieces_262 : decode cL_pieces 262 = .ok (.iconst 0, 1) := by decide +kernel
theorem dL_pieces_263 : decode cL_pieces 263 = .ok (.ireturn, 1) := by decide +kernel
theorem dL_pieces_264 : decode cL_pieces 264 = .ok (.iinc 5 1, 3) := by decide +kernel
theorem dL_pieces_267 : decode cL_pieces 267 = .ok (.goto (-264), 3) := by decide +kernel
theorem dL_pieces_270 : decode cL_pieces 270 = .ok (.iconst 1, 1) := by decide +kernel
theorem dL_pieces_271 : decode cL_pieces 271 = .ok (.ireturn, 1) := by decide +kernel
theorem dL_books_0 : decode cL_books 0 = .ok (.iconst 0, 1) := by decide +kernel
theorem dL_books_1 : decode cL_books 1 = .ok (.istore 5, 2) := by decide +kernel
theorem dL_books_3 : decode cL_books 3 = .ok (.iload 5, 2) := by decide +kernel
theorem dL_books_5 : decode cL_books 5 = .ok (.iload_n 3, 1) := by decide +kernel
theorem dL_books_6 : decode cL_books 6 = .ok (.if_icmp .ge 172, 3) := by decide +kernel
theorem dL_books_9 : decode cL_books 9 = .ok (.aload_n 1, 1) := by decide +kernel
theorem dL_books_10 : decode cL_books 10 = .ok (.iload_n 2, 1) := by decide +kernel
theorem dL_books_11 : decode cL_books 11 = .ok (.iload 5, 2) := by decide +kernel
theorem dL_books_13 : decode cL_books 13 = .ok (.iadd, 1) := by decide +kernel
theorem dL_books_14 : decode cL_books 14 = .ok (.invokestatic 9, 3) := by decide +kernel
theorem dL_books_17 : decode cL_books 17 = .ok (.istore 6, 2) := by decide +kernel
theorem dL_books_19 : decode cL_books 19 = .ok (.aload 4, 2) := by decide +kernel
theorem dL_books_21 : decode cL_books 21 = .ok (.iconst 4, 1) := by decide +kernel
theorem dL_books_22 : decode cL_books 22 = .ok (.iload 5, 2) := by decide +kernel
theorem dL_books_24 : decode cL_books 24 = .ok (.imul, 1) := by decide +kernel
theorem dL_books_25 : decode cL_books 25 = .ok (.bipush 10, 2) := by decide +kernel
theorem dL_books_27 : decode cL_books 27 = .ok (.iload 6, 2) := by decide +kernel
theorem dL_books_29 : decode cL_books 29 = .ok (.iconst 4, 1) := by decide +kernel
theorem dL_books_30 : decode cL_books 30 = .ok (.invokestatic 15, 3) := by decide +kernel
theorem dL_books_33 : decode cL_books 33 = .ok (.iadd, 1) := by decide +kernel
theorem dL_books_34 : decode cL_books 34 = .ok (.iastore, 1) := by decide +kernel
theorem dL_books_35 : decode cL_books 35 = .ok (.aload 4, 2) := by decide +kernel
theorem dL_books_37 : decode cL_books 37 = .ok (.iconst 4, 1) := by decide +kernel
theorem dL_books_38 : decode cL_books 38 = .ok (.iload 5, 2) := by decide +kernel
theorem dL_books_40 : decode cL_books 40 = .ok (.imul, 1) := by decide +kernel
theorem dL_books_41 : decode cL_books 41 = .ok (.iconst 1, 1) := by decide +kernel
theorem dL_books_42 : decode cL_books 42 = .ok (.iadd, 1) := by decide +kernel
theorem dL_books_43 : decode cL_books 43 = .ok (.iload 6, 2) := by decide +kernel
theorem dL_books_45 : decode cL_books 45 = .ok (.iconst 2, 1) := by decide +kernel
theorem dL_books_46 : decode cL_books 46 = .ok (.ishr, 1) := by decide +kernel
theorem dL_books_47 : decode cL_books 47 = .ok (.iconst 5, 1) := by decide +kernel
theorem dL_books_48 : decode cL_books 48 = .ok (.invokestatic 15, 3) := by decide +kernel
theorem dL_books_51 : decode cL_books 51 = .ok (.ifCond .ne 7, 3) := by decide +kernel
theorem dL_books_54 : decode cL_books 54 = .ok (.iconst 1, 1) := by decide +kernel
theorem dL_books_55 : decode cL_books 55 = .ok (.goto 20, 3) := by decide +kernel
theorem dL_books_58 : decode cL_books 58 = .ok (.iload 6, 2) := by decide +kernel
theorem dL_books_60 : decode cL_books 60 = .ok (.iconst 2, 1) := by decide +kernel
theorem dL_books_61 : decode cL_books 61 = .ok (.ishr, 1) := by decide +kernel
theorem dL_books_62 : decode cL_books 62 = .ok (.iconst 5, 1) := by decide +kernel
theorem dL_books_63 : decode cL_books 63 = .ok (.invokestatic 15, 3) := by decide +kernel
theorem dL_books_66 : decode cL_books 66 = .ok (.iconst 1, 1) := by decide +kernel
theorem dL_books_67 : decode cL_books 67 = .ok (.if_icmp .ne 7, 3) := by decide +kernel
theorem dL_books_70 : decode cL_books 70 = .ok (.iconst 2, 1) := by decide +kernel
theorem dL_books_71 : decode cL_books 71 = .ok (.goto 4, 3) := by decide +kernel
theorem dL_books_74 : decode cL_books 74 = .ok (.iconst 0, 1) := by decide +kernel
theorem dL_books_75 : decode cL_books 75 = .ok (.iastore, 1) := by decide +kernel
theorem dL_books_76 : decode cL_books 76 = .ok (.aload 4, 2) := by decide +kernel
theorem dL_books_78 : decode cL_books 78 = .ok (.iconst 4, 1) := by decide +kernel
theorem dL_books_79 : decode cL_books 79 = .ok (.iload 5, 2) := by decide +kernel
theorem dL_books_81 : decode cL_books 81 = .ok (.imul, 1) := by decide +kernel
theorem dL_books_82 : decode cL_books 82 = .ok (.iconst 2, 1) := by decide +kernel
theorem dL_books_83 : decode cL_books 83 = .ok (.iadd, 1) := by decide +kernel
theorem dL_books_84 : decode cL_books 84 = .ok (.bipush 100, 2) := by decide +kernel
theorem dL_books_86 : decode cL_books 86 = .ok (.iload 6, 2) := by decide +kernel
theorem dL_books_88 : decode cL_books 88 = .ok (.iconst 5, 1) := by decide +kernel
theorem dL_books_89 : decode cL_books 89 = .ok (.ishr, 1) := by decide +kernel
theorem dL_books_90 : decode cL_books 90 = .ok (.bipush 12, 2) := by decide +kernel
theorem dL_books_92 : decode cL_books 92 = .ok (.invokestatic 15, 3) := by decide +kernel
theorem dL_books_95 : decode cL_books 95 = .ok (.iadd, 1) := by decide +kernel
theorem dL_books_96 : decode cL_books 96 = .ok (.iastore, 1) := by decide +kernel
theorem dL_books_97 : decode cL_books 97 = .ok (.aload 4, 2) := by decide +kernel
theorem dL_books_99 : decode cL_books 99 = .ok (.iconst 4, 1) := by decide +kernel
theorem dL_books_100 : decode cL_books 100 = .ok (.iload 5, 2) := by decide +kernel
theorem dL_books_102 : decode cL_books 102 = .ok (.imul, 1) := by decide +kernel
theorem dL_books_103 : decode cL_books 103 = .ok (.iconst 3, 1) := by decide +kernel
theorem dL_books_104 : decode cL_books 104 = .ok (.iadd, 1) := by decide +kernel
theorem dL_books_105 : decode cL_books 105 = .ok (.iload 6, 2) := by decide +kernel
theorem dL_books_107 : decode cL_books 107 = .ok (.bipush 9, 2) := by decide +kernel
theorem dL_books_109 : decode cL_books 109 = .ok (.ishr, 1) := by decide +kernel
theorem dL_books_110 : decode cL_books 110 = .ok (.iconst 3, 1) := by decide +kernel
theorem dL_books_111 : decode cL_books 111 = .ok (.invokestatic 15, 3) := by decide +kernel
theorem dL_books_114 : decode cL_books 114 = .ok (.iastore, 1) := by decide +kernel
theorem dL_books_115 : decode cL_books 115 = .ok (.aload_n 0, 1) := by decide +kernel
theorem dL_books_116 : decode cL_books 116 = .ok (.aload 4, 2) := by decide +kernel
theorem dL_books_118 : decode cL_books 118 = .ok (.iconst 4, 1) := by decide +kernel
theorem dL_books_119 : decode cL_books 119 = .ok (.iload 5, 2) := by decide +kernel
theorem dL_books_121 : decode cL_books 121 = .ok (.imul, 1) := by decide +kernel
theorem dL_books_122 : decode cL_books 122 = .ok (.iaload, 1) := by decide +kernel
theorem dL_books_123 : decode cL_books 123 = .ok (.aload 4, 2) := by decide +kernel
theorem dL_books_125 : decode cL_books 125 = .ok (.iconst 4, 1) := by decide +kernel
theorem dL_books_126 : decode cL_books 126 = .ok (.iload 5, 2) := by decide +kernel
theorem dL_books_128 : decode cL_books 128 = .ok (.imul, 1) := by decide +kernel
theorem dL_books_129 : decode cL_books 129 = .ok (.iconst 1, 1) := by decide +kernel
theorem dL_books_130 : decode cL_books 130 = .ok (.iadd, 1) := by decide +kernel
theorem dL_books_131 : decode cL_books 131 = .ok (.iaload, 1) := by decide +kernel
theorem dL_books_132 : decode cL_books 132 = .ok (.aload 4, 2) := by decide +kernel
theorem dL_books_134 : decode cL_books 134 = .ok (.iconst 4, 1) := by decide +kernel
theorem dL_books_135 : decode cL_books 135 = .ok (.iload 5, 2) := by decide +kernel
theorem dL_books_137 : decode cL_books 137 = .ok (.imul, 1) := by decide +kernel
theorem dL_books_138 : decode cL_books 138 = .ok (.iconst 2, 1) := by decide +kernel
theorem dL_books_139 : decode cL_books 139 = .ok (.iadd, 1) := by decide +kernel
theorem dL_books_140 : decode cL_books 140 = .ok (.iaload, 1) := by decide +kernel
theorem dL_books_141 : decode cL_books 141 = .ok (.aload 4, 2) := by decide +kernel
theorem dL_books_143 : decode cL_books 143 = .ok (.iconst 4, 1) := by decide +kernel
theorem dL_books_144 : decode cL_books 144 = .ok (.iload 5, 2) := by decide +kernel
theorem dL_books_146 : decode cL_books 146 = .ok (.imul, 1) := by decide +kernel
theorem dL_books_147 : decode cL_books 147 = .ok (.iconst 3, 1) := by decide +kernel
theorem dL_books_148 : decode cL_books 148 = .ok (.iadd, 1) := by decide +kernel
theorem dL_books_149 : decode cL_books 149 = .ok (.iaload, 1) := by decide +kernel
theorem dL_books_150 : decode cL_books 150 = .ok (.iconst 5, 1) := by decide +kernel
theorem dL_books_151 : decode cL_books 151 = .ok (.iload 6, 2) := by decide +kernel
theorem dL_books_153 : decode cL_books 153 = .ok (.bipush 11, 2) := by decide +kernel
theorem dL_books_155 : decode cL_books 155 = .ok (.ishr, 1) := by decide +kernel
theorem dL_books_156 : decode cL_books 156 = .ok (.iconst 3, 1) := by decide +kernel
theorem dL_books_157 : decode cL_books 157 = .ok (.invokestatic 15, 3) := by decide +kernel
theorem dL_books_160 : decode cL_books 160 = .ok (.iconst 1, 1) := by decide +kernel
theorem dL_books_161 : decode cL_books 161 = .ok (.isub, 1) := by decide +kernel
theorem dL_books_162 : decode cL_books 162 = .ok (.invokevirtual 31, 3) := by decide +kernel
theorem dL_books_165 : decode cL_books 165 = .ok (.iload 5, 2) := by decide +kernel
theorem dL_books_167 : decode cL_books 167 = .ok (.if_icmp .eq 5, 3) := by decide +kernel
theorem dL_books_170 : decode cL_books 170 = .ok (.iconst 0, 1) := by decide +kernel
theorem dL_books_171 : decode cL_books 171 = .ok (.ireturn, 1) := by decide +kernel
theorem dL_books_172 : decode cL_books 172 = .ok (.iinc 5 1, 3) := by decide +kernel
theorem dL_books_175 : decode cL_books 175 = .ok (.goto (-172), 3) := by decide +kernel
theorem dL_books_178 : decode cL_books 178 = .ok (.iconst 1, 1) := by decide +kernel
theorem dL_books_179 : decode cL_books 179 = .ok (.ireturn, 1) := by decide +kernel
