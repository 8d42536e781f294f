theorem dX7_row_32 : decode cX7_row 32 = .ok (.invokevirtual 144, 3) := by decide +kernel
theorem dX7_row_35 : decode cX7_row 35 = .ok (.aload_n 0, 1) := by decide +kernel
theorem dX7_row_36 : decode cX7_row 36 = .ok (.iload_n 1, 1) := by decide +kernel
theorem dX7_row_37 : decode cX7_row 37 = .ok (.iconst 0, 1) := by decide +kernel
theorem dX7_row_38 : decode cX7_row 38 = .ok (.iload_n 2, 1) := by decide +kernel
theorem dX7_row_39 : decode cX7_row 39 = .ok (.iconst 1, 1) := by decide +kernel
theorem dX7_row_40 : decode cX7_row 40 = .ok (.invokevirtual 120, 3) := by decide +kernel
theorem dX7_row_43 : decode cX7_row 43 = .ok (.ireturn, 1) := by decide +kernel
theorem dX7_scroll_0 : decode cX7_scroll 0 = .ok (.aload_n 0, 1) := by decide +kernel
theorem dX7_scroll_1 : decode cX7_scroll 1 = .ok (.getfield 135, 3) := by decide +kernel
theorem dX7_scroll_4 : decode cX7_scroll 4 = .ok (.istore_n 1, 1) := by decide +kernel
theorem dX7_scroll_5 : decode cX7_scroll 5 = .ok (.aload_n 0, 1) := by decide +kernel
theorem dX7_scroll_6 : decode cX7_scroll 6 = .ok (.iconst 0, 1) := by decide +kernel
theorem dX7_scroll_7 : decode cX7_scroll 7 = .ok (.putfield 135, 3) := by decide +kernel
theorem dX7_scroll_10 : decode cX7_scroll 10 = .ok (.aload_n 0, 1) := by decide +kernel
theorem dX7_scroll_11 : decode cX7_scroll 11 = .ok (.invokevirtual 147, 3) := by decide +kernel
theorem dX7_scroll_14 : decode cX7_scroll 14 = .ok (.ifCond .ne 5, 3) := by decide +kernel
theorem dX7_scroll_17 : decode cX7_scroll 17 = .ok (.iconst (-1), 1) := by decide +kernel
theorem dX7_scroll_18 : decode cX7_scroll 18 = .ok (.ireturn, 1) := by decide +kernel
theorem dX7_scroll_19 : decode cX7_scroll 19 = .ok (.aload_n 0, 1) := by decide +kernel
theorem dX7_scroll_20 : decode cX7_scroll 20 = .ok (.iload_n 1, 1) := by decide +kernel
theorem dX7_scroll_21 : decode cX7_scroll 21 = .ok (.invokevirtual 141, 3) := by decide +kernel
theorem dX7_scroll_24 : decode cX7_scroll 24 = .ok (.ifCond .ne 6, 3) := by decide +kernel
theorem dX7_scroll_27 : decode cX7_scroll 27 = .ok (.bipush (-2), 2) := by decide +kernel
theorem dX7_scroll_29 : decode cX7_scroll 29 = .ok (.ireturn, 1) := by decide +kernel
theorem dX7_scroll_30 : decode cX7_scroll 30 = .ok (.aload_n 0, 1) := by decide +kernel
theorem dX7_scroll_31 : decode cX7_scroll 31 = .ok (.invokevirtual 144, 3) := by decide +kernel
theorem dX7_scroll_34 : decode cX7_scroll 34 = .ok (.aload_n 0, 1) := by decide +kernel
theorem dX7_scroll_35 : decode cX7_scroll 35 = .ok (.iconst 0, 1) := by decide +kernel
theorem dX7_scroll_36 : decode cX7_scroll 36 = .ok (.iload_n 1, 1) := by decide +kernel
theorem dX7_scroll_37 : decode cX7_scroll 37 = .ok (.invokevirtual 151, 3) := by decide +kernel
theorem dX7_scroll_40 : decode cX7_scroll 40 = .ok (.ireturn, 1) := by decide +kernel
theorem dX7_tick_0 : decode cX7_tick 0 = .ok (.aload_n 0, 1) := by decide +kernel
theorem dX7_tick_1 : decode cX7_tick 1 = .ok (.invokevirtual 147, 3) := by decide +kernel
theorem dX7_tick_4 : decode cX7_tick 4 = .ok (.ifCond .eq 15, 3) := by decide +kernel
theorem dX7_tick_7 : decode cX7_tick 7 = .ok (.iload_n 1, 1) := by decide +kernel
theorem dX7_tick_8 : decode cX7_tick 8 = .ok (.i2l, 1) := by decide +kernel
theorem dX7_tick_9 : decode cX7_tick 9 = .ok (.lconst 1, 1) := by decide +kernel
theorem dX7_tick_10 : decode cX7_tick 10 = .ok (.ldc2_w 154, 3) := by decide +kernel
theorem dX7_tick_13 : decode cX7_tick 13 = .ok (.invokestatic 39, 3) := by decide +kernel
theorem dX7_tick_16 : decode cX7_tick 16 = .ok (.ifCond .ne 5, 3) := by decide +kernel
theorem dX7_tick_19 : decode cX7_tick 19 = .ok (.iconst (-1), 1) := by decide +kernel
theorem dX7_tick_20 : decode cX7_tick 20 = .ok (.ireturn, 1) := by decide +kernel
theorem dX7_tick_21 : decode cX7_tick 21 = .ok (.aload_n 0, 1) := by decide +kernel
theorem dX7_tick_22 : decode cX7_tick 22 = .ok (.invokevirtual 144, 3) := by decide +kernel
theorem dX7_tick_25 : decode cX7_tick 25 = .ok (.iconst 0, 1) := by decide +kernel
theorem dX7_tick_26 : decode cX7_tick 26 = .ok (.istore_n 2, 1) := by decide +kernel
theorem dX7_tick_27 : decode cX7_tick 27 = .ok (.iconst 0, 1) := by decide +kernel
theorem dX7_tick_28 : decode cX7_tick 28 = .ok (.istore_n 3, 1) := by decide +kernel
theorem dX7_tick_29 : decode cX7_tick 29 = .ok (.iload_n 3, 1) := by decide +kernel
theorem dX7_tick_30 : decode cX7_tick 30 = .ok (.iload_n 1, 1) := by decide +kernel
theorem dX7_tick_31 : decode cX7_tick 31 = .ok (.if_icmp .ge 16, 3) := by decide +kernel
theorem dX7_tick_34 : decode cX7_tick 34 = .ok (.iload_n 2, 1) := by decide +kernel
theorem dX7_tick_35 : decode cX7_tick 35 = .ok (.aload_n 0, 1) := by decide +kernel
theorem dX7_tick_36 : decode cX7_tick 36 = .ok (.invokevirtual 156, 3) := by decide +kernel
theorem dX7_tick_39 : decode cX7_tick 39 = .ok (.iadd, 1) := by decide +kernel
theorem dX7_tick_40 : decode cX7_tick 40 = .ok (.istore_n 2, 1) := by decide +kernel
theorem dX7_tick_41 : decode cX7_tick 41 = .ok (.iinc 3 1, 3) := by decide +kernel
theorem dX7_tick_44 : decode cX7_tick 44 = .ok (.goto (-15), 3) := by decide +kernel
theorem dX7_tick_47 : decode cX7_tick 47 = .ok (.iload_n 2, 1) := by decide +kernel
theorem dX7_tick_48 : decode cX7_tick 48 = .ok (.ireturn, 1) := by decide +kernel
theorem dX7_settles_0 : decode cX7_settles 0 = .ok (.iconst 0, 1) := by decide +kernel
theorem dX7_settles_1 : decode cX7_settles 1 = .ok (.istore_n 1, 1) := by decide +kernel
theorem dX7_settles_2 : decode cX7_settles 2 = .ok (.aload_n 0, 1) := by decide +kernel
theorem dX7_settles_3 : decode cX7_settles 3 = .ok (.invokevirtual 156, 3) := by decide +kernel
theorem dX7_settles_6 : decode cX7_settles 6 = .ok (.ifCond .le 9, 3) := by decide +kernel
theorem dX7_settles_9 : decode cX7_settles 9 = .ok (.iinc 1 1, 3) := by decide +kernel
theorem dX7_settles_12 : decode cX7_settles 12 = .ok (.goto (-10), 3) := by decide +kernel
theorem dX7_settles_15 : decode cX7_settles 15 = .ok (.iload_n 1, 1) := by decide +kernel
theorem dX7_settles_16 : decode cX7_settles 16 = .ok (.ireturn, 1) := by decide +kernel
theorem dX7_settle_0 : decode cX7_settle 0 = .ok (.aload_n 0, 1) := by decide +kernel
theorem dX7_settle_1 : decode cX7_settle 1 = .ok (.invokevirtual 147, 3) := by decide +kernel
theorem dX7_settle_4 : decode cX7_settle 4 = .ok (.ifCond .ne 5, 3) := by decide +kernel
theorem dX7_settle_7 : decode cX7_settle 7 = .ok (.iconst (-1), 1) := by decide +kernel
theorem dX7_settle_8 : decode cX7_settle 8 = .ok (.ireturn, 1) := by decide +kernel
theorem dX7_settle_9 : decode cX7_settle 9 = .ok (.aload_n 0, 1) := by decide +kernel
theorem dX7_settle_10 : decode cX7_settle 10 = .ok (.invokevirtual 99, 3) := by decide +kernel
theorem dX7_settle_13 : decode cX7_settle 13 = .ok (.aload_n 0, 1) := by decide +kernel
theorem dX7_settle_14 : decode cX7_settle 14 = .ok (.getfield 86, 3) := by decide +kernel
theorem dX7_settle_17 : decode cX7_settle 17 = .ok (.ifCond .ne 6, 3) := by decide +kernel
theorem dX7_settle_20 : decode cX7_settle 20 = .ok (.bipush (-2), 2) := by decide +kernel
theorem dX7_settle_22 : decode cX7_settle 22 = .ok (.ireturn, 1) := by decide +kernel
theorem dX7_settle_23 : decode cX7_settle 23 = .ok (.aload_n 0, 1) := by decide +kernel
theorem dX7_settle_24 : decode cX7_settle 24 = .ok (.invokevirtual 144, 3) := by decide +kernel
theorem dX7_settle_27 : decode cX7_settle 27 = .ok (.aload_n 0, 1) := by decide +kernel
theorem dX7_settle_28 : decode cX7_settle 28 = .ok (.invokevirtual 159, 3) := by decide +kernel
theorem dX7_settle_31 : decode cX7_settle 31 = .ok (.ireturn, 1) := by decide +kernel
theorem dX7_lose_0 : decode cX7_lose 0 = .ok (.aload_n 0, 1) := by decide +kernel
theorem dX7_lose_1 : decode cX7_lose 1 = .ok (.iload_n 1, 1) := by decide +kernel
theorem dX7_lose_2 : decode cX7_lose 2 = .ok (.invokevirtual 162, 3) := by decide +kernel
theorem dX7_lose_5 : decode cX7_lose 5 = .ok (.ifCond .eq 15, 3) := by decide +kernel
theorem dX7_lose_8 : decode cX7_lose 8 = .ok (.iload_n 2, 1) := by decide +kernel
theorem dX7_lose_9 : decode cX7_lose 9 = .ok (.i2l, 1) := by decide +kernel
theorem dX7_lose_10 : decode cX7_lose 10 = .ok (.lconst 0, 1) := by decide +kernel
theorem dX7_lose_11 : decode cX7_lose 11 = .ok (.ldc2_w 165, 3) := by decide +kernel
theorem dX7_lose_14 : decode cX7_lose 14 = .ok (.invokestatic 39, 3) := by decide +kernel
theorem dX7_lose_17 : decode cX7_lose 17 = .ok (.ifCond .ne 5, 3) := by decide +kernel
theorem dX7_lose_20 : decode cX7_lose 20 = .ok (.iconst (-1), 1) := by decide +kernel
theorem dX7_lose_21 : decode cX7_lose 21 = .ok (.ireturn, 1) := by decide +kernel
theorem dX7_lose_22 : decode cX7_lose 22 = .ok (.aload_n 0, 1) := by decide +kernel
theorem dX7_lose_23 : decode cX7_lose 23 = .ok (.iload_n 1, 1) := by decide +kernel
theorem dX7_lose_24 : decode cX7_lose 24 = .ok (.iconst 4, 1) := by decide +kernel
theorem dX7_lose_25 : decode cX7_lose 25 = .ok (.invokevirtual 56, 3) := by decide +kernel
theorem dX7_lose_28 : decode cX7_lose 28 = .ok (.istore_n 3, 1) := by decide +kernel
theorem dX7_lose_29 : decode cX7_lose 29 = .ok (.iload_n 3, 1) := by decide +kernel
theorem dX7_lose_30 : decode cX7_lose 30 = .ok (.iload_n 2, 1) := by decide +kernel
theorem dX7_lose_31 : decode cX7_lose 31 = .ok (.if_icmp .ne 6, 3) := by decide +kernel
theorem dX7_lose_34 : decode cX7_lose 34 = .ok (.bipush (-2), 2) := by decide +kernel
theorem dX7_lose_36 : decode cX7_lose 36 = .ok (.ireturn, 1) := by decide +kernel
theorem dX7_lose_37 : decode cX7_lose 37 = .ok (.aload_n 0, 1) := by decide +kernel
theorem dX7_lose_38 : decode cX7_lose 38 = .ok (.invokevirtual 144, 3) := by decide +kernel
theorem dX7_lose_41 : decode cX7_lose 41 = .ok (.aload_n 0, 1) := by decide +kernel
theorem dX7_lose_42 : decode cX7_lose 42 = .ok (.iload_n 1, 1) := by decide +kernel
theorem dX7_lose_43 : decode cX7_lose 43 = .ok (.iconst 4, 1) := by decide +kernel
theorem dX7_lose_44 : decode cX7_lose 44 = .ok (.iload_n 2, 1) := by decide +kernel
theorem dX7_lose_45 : decode cX7_lose 45 = .ok (.i2l, 1) := by decide +kernel
theorem dX7_lose_46 : decode cX7_lose 46 = .ok (.invokevirtual 78, 3) := by decide +kernel
theorem dX7_lose_49 : decode cX7_lose 49 = .ok (.iload_n 3, 1) := by decide +kernel
theorem dX7_lose_50 : decode cX7_lose 50 = .ok (.ireturn, 1) := by decide +kernel
theorem dX7_isFlap_0 : decode cX7_isFlap 0 = .ok (.aload_n 0, 1) := by decide +kernel
theorem dX7_isFlap_1 : decode cX7_isFlap 1 = .ok (.iload_n 1, 1) := by decide +kernel
theorem dX7_isFlap_2 : decode cX7_isFlap 2 = .ok (.invokevirtual 162, 3) := by decide +kernel
theorem dX7_isFlap_5 : decode cX7_isFlap 5 = .ok (.ifCond .eq 24, 3) := by decide +kernel
theorem dX7_isFlap_8 : decode cX7_isFlap 8 = .ok (.iload_n 2, 1) := by decide +kernel
theorem dX7_isFlap_9 : decode cX7_isFlap 9 = .ok (.i2l, 1) := by decide +kernel
theorem dX7_isFlap_10 : decode cX7_isFlap 10 = .ok (.lconst 1, 1) := by decide +kernel
theorem dX7_isFlap_11 : decode cX7_isFlap 11 = .ok (.aload_n 0, 1) := by decide +kernel
theorem dX7_isFlap_12 : decode cX7_isFlap 12 = .ok (.iload_n 1, 1) := by decide +kernel
theorem dX7_isFlap_13 : decode cX7_isFlap 13 = .ok (.invokevirtual 67, 3) := by decide +kernel
theorem dX7_isFlap_16 : decode cX7_isFlap 16 = .ok (.iconst 1, 1) := by decide +kernel
theorem dX7_isFlap_17 : decode cX7_isFlap 17 = .ok (.isub, 1) := by decide +kernel
theorem dX7_isFlap_18 : decode cX7_isFlap 18 = .ok (.i2l, 1) := by decide +kernel
theorem dX7_isFlap_19 : decode cX7_isFlap 19 = .ok (.invokestatic 39, 3) := by decide +kernel
theorem dX7_isFlap_22 : decode cX7_isFlap 22 = .ok (.ifCond .eq 7, 3) := by decide +kernel
theorem dX7_isFlap_25 : decode cX7_isFlap 25 = .ok (.iconst 1, 1) := by decide +kernel
theorem dX7_isFlap_26 : decode cX7_isFlap 26 = .ok (.goto 4, 3) := by decide +kernel
theorem dX7_isFlap_29 : decode cX7_isFlap 29 = .ok (.iconst 0, 1) := by decide +kernel
theorem dX7_isFlap_30 : decode cX7_isFlap 30 = .ok (.ireturn, 1) := by decide +kernel
theorem dX7_wears_0 : decode cX7_wears 0 = .ok (.aload_n 0, 1) := by decide +kernel
theorem dX7_wears_1 : decode cX7_wears 1 = .ok (.iload_n 1, 1) := by decide +kernel
theorem dX7_wears_2 : decode cX7_wears 2 = .ok (.bipush 7, 2) := by decide +kernel
theorem dX7_wears_4 : decode cX7_wears 4 = .ok (.aload_n 0, 1) := by decide +kernel
theorem dX7_wears_5 : decode cX7_wears 5 = .ok (.iload_n 1, 1) := by decide +kernel
theorem dX7_wears_6 : decode cX7_wears 6 = .ok (.invokevirtual 109, 3) := by decide +kernel
theorem dX7_wears_9 : decode cX7_wears 9 = .ok (.lconst 1, 1) := by decide +kernel
theorem dX7_wears_10 : decode cX7_wears 10 = .ok (.iload_n 2, 1) := by decide +kernel
theorem dX7_wears_11 : decode cX7_wears 11 = .ok (.lshl, 1) := by decide +kernel
theorem dX7_wears_12 : decode cX7_wears 12 = .ok (.lor, 1) := by decide +kernel
theorem dX7_wears_13 : decode cX7_wears 13 = .ok (.invokevirtual 78, 3) := by decide +kernel
theorem dX7_wears_16 : decode cX7_wears 16 = .ok (.aload_n 0, 1) := by decide +kernel
theorem dX7_wears_17 : decode cX7_wears 17 = .ok (.iload_n 1, 1) := by decide +kernel
theorem dX7_wears_18 : decode cX7_wears 18 = .ok (.iconst 3, 1) := by decide +kernel
theorem dX7_wears_19 : decode cX7_wears 19 = .ok (.invokevirtual 56, 3) := by decide +kernel
theorem dX7_wears_22 : decode cX7_wears 22 = .ok (.iload_n 2, 1) := by decide +kernel
theorem dX7_wears_23 : decode cX7_wears 23 = .ok (.if_icmp .ne 10, 3) := by decide +kernel
theorem dX7_wears_26 : decode cX7_wears 26 = .ok (.aload_n 0, 1) := by decide +kernel
theorem dX7_wears_27 : decode cX7_wears 27 = .ok (.iload_n 1, 1) := by decide +kernel
theorem dX7_wears_28 : decode cX7_wears 28 = .ok (.iconst 3, 1) := by decide +kernel
theorem dX7_wears_29 : decode cX7_wears 29 = .ok (.lconst 0, 1) := by decide +kernel
theorem dX7_wears_30 : decode cX7_wears 30 = .ok (.invokevirtual 78, 3) := by decide +kernel
theorem dX7_wears_33 : decode cX7_wears 33 = .ok (.return_, 1) := by decide +kernel
theorem dX7_wear_0 : decode cX7_wear 0 = .ok (.aload_n 0, 1) := by decide +kernel
theorem dX7_wear_1 : decode cX7_wear 1 = .ok (.iload_n 1, 1) := by decide +kernel
theorem dX7_wear_2 : decode cX7_wear 2 = .ok (.iload_n 2, 1) := by decide +kernel
theorem dX7_wear_3 : decode cX7_wear 3 = .ok (.invokevirtual 167, 3) := by decide +kernel
theorem dX7_wear_6 : decode cX7_wear 6 = .ok (.ifCond .ne 5, 3) := by decide +kernel
theorem dX7_wear_9 : decode cX7_wear 9 = .ok (.iconst (-1), 1) := by decide +kernel
theorem dX7_wear_10 : decode cX7_wear 10 = .ok (.ireturn, 1) := by decide +kernel
theorem dX7_wear_11 : decode cX7_wear 11 = .ok (.aload_n 0, 1) := by decide +kernel
theorem dX7_wear_12 : decode cX7_wear 12 = .ok (.iload_n 1, 1) := by decide +kernel
theorem dX7_wear_13 : decode cX7_wear 13 = .ok (.invokevirtual 109, 3) := by decide +kernel
theorem dX7_wear_16 : decode cX7_wear 16 = .ok (.iload_n 2, 1) := by decide +kernel
theorem dX7_wear_17 : decode cX7_wear 17 = .ok (.invokestatic 74, 3) := by decide +kernel
theorem dX7_wear_20 : decode cX7_wear 20 = .ok (.ifCond .eq 6, 3) := by decide +kernel
theorem dX7_wear_23 : decode cX7_wear 23 = .ok (.bipush (-2), 2) := by decide +kernel
theorem dX7_wear_25 : decode cX7_wear 25 = .ok (.ireturn, 1) := by decide +kernel
theorem dX7_wear_26 : decode cX7_wear 26 = .ok (.aload_n 0, 1) := by decide +kernel
theorem dX7_wear_27 : decode cX7_wear 27 = .ok (.invokevirtual 144, 3) := by decide +kernel
theorem dX7_wear_30 : decode cX7_wear 30 = .ok (.aload_n 0, 1) := by decide +kernel
theorem dX7_wear_31 : decode cX7_wear 31 = .ok (.iload_n 1, 1) := by decide +kernel
theorem dX7_wear_32 : decode cX7_wear 32 = .ok (.iload_n 2, 1) := by decide +kernel
theorem dX7_wear_33 : decode cX7_wear 33 = .ok (.invokevirtual 170, 3) := by decide +kernel
theorem dX7_wear_36 : decode cX7_wear 36 = .ok (.aload_n 0, 1) := by decide +kernel
theorem dX7_wear_37 : decode cX7_wear 37 = .ok (.iload_n 1, 1) := by decide +kernel
theorem dX7_wear_38 : decode cX7_wear 38 = .ok (.invokevirtual 109, 3) := by decide +kernel
theorem dX7_wear_41 : decode cX7_wear 41 = .ok (.invokestatic 174, 3) := by decide +kernel
theorem dX7_wear_44 : decode cX7_wear 44 = .ok (.ireturn, 1) := by decide +kernel
theorem dX7_mend_0 : decode cX7_mend 0 = .ok (.aload_n 0, 1) := by decide +kernel
theorem dX7_mend_1 : decode cX7_mend 1 = .ok (.iload_n 1, 1) := by decide +kernel
theorem dX7_mend_2 : decode cX7_mend 2 = .ok (.iload_n 2, 1) := by decide +kernel
theorem dX7_mend_3 : decode cX7_mend 3 = .ok (.invokevirtual 167, 3) := by decide +kernel
theorem dX7_mend_6 : decode cX7_mend 6 = .ok (.ifCond .ne 5, 3) := by decide +kernel
theorem dX7_mend_9 : decode cX7_mend 9 = .ok (.iconst (-1), 1) := by decide +kernel
theorem dX7_mend_10 : decode cX7_mend 10 = .ok (.ireturn, 1) := by decide +kernel
theorem dX7_mend_11 : decode cX7_mend 11 = .ok (.aload_n 0, 1) := by decide +kernel
theorem dX7_mend_12 : decode cX7_mend 12 = .ok (.iload_n 1, 1) := by decide +kernel
theorem dX7_mend_13 : decode cX7_mend 13 = .ok (.invokevirtual 109, 3) := by decide +kernel
theorem dX7_mend_16 : decode cX7_mend 16 = .ok (.iload_n 2, 1) := by decide +kernel
theorem dX7_mend_17 : decode cX7_mend 17 = .ok (.invokestatic 74, 3) := by decide +kernel
theorem dX7_mend_20 : decode cX7_mend 20 = .ok (.ifCond .ne 6, 3) := by decide +kernel
theorem dX7_mend_23 : decode cX7_mend 23 = .ok (.bipush (-2), 2) := by decide +kernel
theorem dX7_mend_25 : decode cX7_mend 25 = .ok (.ireturn, 1) := by decide +kernel
theorem dX7_mend_26 : decode cX7_mend 26 = .ok (.aload_n 0, 1) := by decide +kernel
theorem dX7_mend_27 : decode cX7_mend 27 = .ok (.invokevirtual 144, 3) := by decide +kernel
theorem dX7_mend_30 : decode cX7_mend 30 = .ok (.aload_n 0, 1) := by decide +kernel
theorem dX7_mend_31 : decode cX7_mend 31 = .ok (.iload_n 1, 1) := by decide +kernel
theorem dX7_mend_32 : decode cX7_mend 32 = .ok (.bipush 7, 2) := by decide +kernel
theorem dX7_mend_34 : decode cX7_mend 34 = .ok (.aload_n 0, 1) := by decide +kernel
theorem dX7_mend_35 : decode cX7_mend 35 = .ok (.iload_n 1, 1) := by decide +kernel
theorem dX7_mend_36 : decode cX7_mend 36 = .ok (.invokevirtual 109, 3) := by decide +kernel
theorem dX7_mend_39 : decode cX7_mend 39 = .ok (.lconst 1, 1) := by decide +kernel
theorem dX7_mend_40 : decode cX7_mend 40 = .ok (.iload_n 2, 1) := by decide +kernel
theorem dX7_mend_41 : decode cX7_mend 41 = .ok (.lshl, 1) := by decide +kernel
theorem dX7_mend_42 : decode cX7_mend 42 = .ok (.ldc2_w 178, 3) := by decide +kernel
theorem dX7_mend_45 : decode cX7_mend 45 = .ok (.lxor, 1) := by decide +kernel
theorem dX7_mend_46 : decode cX7_mend 46 = .ok (.land, 1) := by decide +kernel
theorem dX7_mend_47 : decode cX7_mend 47 = .ok (.invokevirtual 78, 3) := by decide +kernel
theorem dX7_mend_50 : decode cX7_mend 50 = .ok (.aload_n 0, 1) := by decide +kernel
theorem dX7_mend_51 : decode cX7_mend 51 = .ok (.iload_n 1, 1) := by decide +kernel
theorem dX7_mend_52 : decode cX7_mend 52 = .ok (.invokevirtual 109, 3) := by decide +kernel
theorem dX7_mend_55 : decode cX7_mend 55 = .ok (.invokestatic 174, 3) := by decide +kernel
theorem dX7_mend_58 : decode cX7_mend 58 = .ok (.ireturn, 1) := by decide +kernel
theorem dX7_limit_0 : decode cX7_limit 0 = .ok (.aload_n 0, 1) := by decide +kernel
theorem dX7_limit_1 : decode cX7_limit 1 = .ok (.invokevirtual 147, 3) := by decide +kernel
theorem dX7_limit_4 : decode cX7_limit 4 = .ok (.ifCond .eq 15, 3) := by decide +kernel
theorem dX7_limit_7 : decode cX7_limit 7 = .ok (.iload_n 1, 1) := by decide +kernel
theorem dX7_limit_8 : decode cX7_limit 8 = .ok (.i2l, 1) := by decide +kernel
theorem dX7_limit_9 : decode cX7_limit 9 = .ok (.lconst 1, 1) := by decide +kernel
theorem dX7_limit_10 : decode cX7_limit 10 = .ok (.ldc2_w 154, 3) := by decide +kernel
theorem dX7_limit_13 : decode cX7_limit 13 = .ok (.invokestatic 39, 3) := by decide +kernel
theorem dX7_limit_16 : decode cX7_limit 16 = .ok (.ifCond .ne 5, 3) := by decide +kernel
theorem dX7_limit_19 : decode cX7_limit 19 = .ok (.iconst (-1), 1) := by decide +kernel
theorem dX7_limit_20 : decode cX7_limit 20 = .ok (.ireturn, 1) := by decide +kernel
theorem dX7_limit_21 : decode cX7_limit 21 = .ok (.aload_n 0, 1) := by decide +kernel
theorem dX7_limit_22 : decode cX7_limit 22 = .ok (.getfield 7, 3) := by decide +kernel
theorem dX7_limit_25 : decode cX7_limit 25 = .ok (.iconst 2, 1) := by decide +kernel
theorem dX7_limit_26 : decode cX7_limit 26 = .ok (.laload, 1) := by decide +kernel
theorem dX7_limit_27 : decode cX7_limit 27 = .ok (.l2i, 1) := by decide +kernel
theorem dX7_limit_28 : decode cX7_limit 28 = .ok (.istore_n 2, 1) := by decide +kernel
theorem dX7_limit_29 : decode cX7_limit 29 = .ok (.iload_n 2, 1) := by decide +kernel
theorem dX7_limit_30 : decode cX7_limit 30 = .ok (.iload_n 1, 1) := by decide +kernel
theorem dX7_limit_31 : decode cX7_limit 31 = .ok (.if_icmp .ne 6, 3) := by decide +kernel
theorem dX7_limit_34 : decode cX7_limit 34 = .ok (.bipush (-2), 2) := by decide +kernel
theorem dX7_limit_36 : decode cX7_limit 36 = .ok (.ireturn, 1) := by decide +kernel
theorem dX7_limit_37 : decode cX7_limit 37 = .ok (.aload_n 0, 1) := by decide +kernel
theorem dX7_limit_38 : decode cX7_limit 38 = .ok (.invokevirtual 144, 3) := by decide +kernel
theorem dX7_limit_41 : decode cX7_limit 41 = .ok (.aload_n 0, 1) := by decide +kernel
theorem dX7_limit_42 : decode cX7_limit 42 = .ok (.getfield 7, 3) := by decide +kernel
theorem dX7_limit_45 : decode cX7_limit 45 = .ok (.iconst 2, 1) := by decide +kernel
theorem dX7_limit_46 : decode cX7_limit 46 = .ok (.iload_n 1, 1) := by decide +kernel
theorem dX7_limit_47 : decode cX7_limit 47 = .ok (.i2l, 1) := by decide +kernel
theorem dX7_limit_48 : decode cX7_limit 48 = .ok (.lastore, 1) := by decide +kernel
theorem dX7_limit_49 : decode cX7_limit 49 = .ok (.iload_n 2, 1) := by decide +kernel
theorem dX7_limit_50 : decode cX7_limit 50 = .ok (.ireturn, 1) := by decide +kernel
theorem dX7_exchange_0 : decode cX7_exchange 0 = .ok (.aload_n 0, 1) := by decide +kernel
theorem dX7_exchange_1 : decode cX7_exchange 1 = .ok (.iload_n 1, 1) := by decide +kernel
theorem dX7_exchange_2 : decode cX7_exchange 2 = .ok (.invokevirtual 180, 3) := by decide +kernel
theorem dX7_exchange_5 : decode cX7_exchange 5 = .ok (.ifCond .eq 42, 3) := by decide +kernel
theorem dX7_exchange_8 : decode cX7_exchange 8 = .ok (.iload_n 2, 1) := by decide +kernel
theorem dX7_exchange_9 : decode cX7_exchange 9 = .ok (.i2l, 1) := by decide +kernel
theorem dX7_exchange_10 : decode cX7_exchange 10 = .ok (.lconst 1, 1) := by decide +kernel
theorem dX7_exchange_11 : decode cX7_exchange 11 = .ok (.aload_n 0, 1) := by decide +kernel
theorem dX7_exchange_12 : decode cX7_exchange 12 = .ok (.iload_n 1, 1) := by decide +kernel
theorem dX7_exchange_13 : decode cX7_exchange 13 = .ok (.invokevirtual 60, 3) := by decide +kernel
theorem dX7_exchange_16 : decode cX7_exchange 16 = .ok (.iconst 1, 1) := by decide +kernel
theorem dX7_exchange_17 : decode cX7_exchange 17 = .ok (.isub, 1) := by decide +kernel
theorem dX7_exchange_18 : decode cX7_exchange 18 = .ok (.i2l, 1) := by decide +kernel
theorem dX7_exchange_19 : decode cX7_exchange 19 = .ok (.invokestatic 39, 3) := by decide +kernel
theorem dX7_exchange_22 : decode cX7_exchange 22 = .ok (.ifCond .eq 25, 3) := by decide +kernel
theorem dX7_exchange_25 : decode cX7_exchange 25 = .ok (.iload_n 3, 1) := by decide +kernel
theorem dX7_exchange_26 : decode cX7_exchange 26 = .ok (.i2l, 1) := by decide +kernel
theorem dX7_exchange_27 : decode cX7_exchange 27 = .ok (.lconst 1, 1) := by decide +kernel
theorem dX7_exchange_28 : decode cX7_exchange 28 = .ok (.aload_n 0, 1) := by decide +kernel
theorem dX7_exchange_29 : decode cX7_exchange 29 = .ok (.iload_n 1, 1) := by decide +kernel
theorem dX7_exchange_30 : decode cX7_exchange 30 = .ok (.invokevirtual 60, 3) := by decide +kernel
theorem dX7_exchange_33 : decode cX7_exchange 33 = .ok (.iconst 1, 1) := by decide +kernel
theorem dX7_exchange_34 : decode cX7_exchange 34 = .ok (.isub, 1) := by decide +kernel
theorem dX7_exchange_35 : decode cX7_exchange 35 = .ok (.i2l, 1) := by decide +kernel
theorem dX7_exchange_36 : decode cX7_exchange 36 = .ok (.invokestatic 39, 3) := by decide +kernel
theorem dX7_exchange_39 : decode cX7_exchange 39 = .ok (.ifCond .eq 8, 3) := by decide +kernel
theorem dX7_exchange_42 : decode cX7_exchange 42 = .ok (.iload_n 2, 1) := by decide +kernel
theorem dX7_exchange_43 : decode cX7_exchange 43 = .ok (.iload_n 3, 1) := by decide +kernel
theorem dX7_exchange_44 : decode cX7_exchange 44 = .ok (.if_icmp .ne 5, 3) := by decide +kernel
theorem dX7_exchange_47 : decode cX7_exchange 47 = .ok (.iconst (-1), 1) := by decide +kernel
theorem dX7_exchange_48 : decode cX7_exchange 48 = .ok (.ireturn, 1) := by decide +kernel
theorem dX7_exchange_49 : decode cX7_exchange 49 = .ok (.aload_n 0, 1) := by decide +kernel
theorem dX7_exchange_50 : decode cX7_exchange 50 = .ok (.invokevirtual 144, 3) := by decide +kernel
theorem dX7_exchange_53 : decode cX7_exchange 53 = .ok (.bipush 8, 2) := by decide +kernel
theorem dX7_exchange_55 : decode cX7_exchange 55 = .ok (.bipush 42, 2) := by decide +kernel
theorem dX7_exchange_57 : decode cX7_exchange 57 = .ok (.iload_n 1, 1) := by decide +kernel
theorem dX7_exchange_58 : decode cX7_exchange 58 = .ok (.imul, 1) := by decide +kernel
theorem dX7_exchange_59 : decode cX7_exchange 59 = .ok (.iadd, 1) := by decide +kernel
theorem dX7_exchange_60 : decode cX7_exchange 60 = .ok (.iconst 2, 1) := by decide +kernel
theorem dX7_exchange_61 : decode cX7_exchange 61 = .ok (.iadd, 1) := by decide +kernel
theorem dX7_exchange_62 : decode cX7_exchange 62 = .ok (.istore 4, 2) := by decide +kernel
theorem dX7_exchange_64 : decode cX7_exchange 64 = .ok (.aload_n 0, 1) := by decide +kernel
theorem dX7_exchange_65 : decode cX7_exchange 65 = .ok (.getfield 7, 3) := by decide +kernel
theorem dX7_exchange_68 : decode cX7_exchange 68 = .ok (.iload 4, 2) := by decide +kernel
theorem dX7_exchange_70 : decode cX7_exchange 70 = .ok (.iload_n 2, 1) := by decide +kernel
theorem dX7_exchange_71 : decode cX7_exchange 71 = .ok (.iadd, 1) := by decide +kernel
theorem dX7_exchange_72 : decode cX7_exchange 72 = .ok (.laload, 1) := by decide +kernel
theorem dX7_exchange_73 : decode cX7_exchange 73 = .ok (.lstore 5, 2) := by decide +kernel
theorem dX7_exchange_75 : decode cX7_exchange 75 = .ok (.aload_n 0, 1) := by decide +kernel
theorem dX7_exchange_76 : decode cX7_exchange 76 = .ok (.getfield 7, 3) := by decide +kernel
theorem dX7_exchange_79 : decode cX7_exchange 79 = .ok (.iload 4, 2) := by decide +kernel
theorem dX7_exchange_81 : decode cX7_exchange 81 = .ok (.iload_n 2, 1) := by decide +kernel
theorem dX7_exchange_82 : decode cX7_exchange 82 = .ok (.iadd, 1) := by decide +kernel
theorem dX7_exchange_83 : decode cX7_exchange 83 = .ok (.aload_n 0, 1) := by decide +kernel
theorem dX7_exchange_84 : decode cX7_exchange 84 = .ok (.getfield 7, 3) := by decide +kernel
theorem dX7_exchange_87 : decode cX7_exchange 87 = .ok (.iload 4, 2) := by decide +kernel
theorem dX7_exchange_89 : decode cX7_exchange 89 = .ok (.iload_n 3, 1) := by decide +kernel
theorem dX7_exchange_90 : decode cX7_exchange 90 = .ok (.iadd, 1) := by decide +kernel
theorem dX7_exchange_91 : decode cX7_exchange 91 = .ok (.laload, 1) := by decide +kernel
theorem dX7_exchange_92 : decode cX7_exchange 92 = .ok (.lastore, 1) := by decide +kernel
theorem dX7_exchange_93 : decode cX7_exchange 93 = .ok (.aload_n 0, 1) := by decide +kernel
theorem dX7_exchange_94 : decode cX7_exchange 94 = .ok (.getfield 7, 3) := by decide +kernel
theorem dX7_exchange_97 : decode cX7_exchange 97 = .ok (.iload 4, 2) := by decide +kernel
theorem dX7_exchange_99 : decode cX7_exchange 99 = .ok (.iload_n 3, 1) := by decide +kernel
theorem dX7_exchange_100 : decode cX7_exchange 100 = .ok (.iadd, 1) := by decide +kernel
theorem dX7_exchange_101 : decode cX7_exchange 101 = .ok (.lload 5, 2) := by decide +kernel
theorem dX7_exchange_103 : decode cX7_exchange 103 = .ok (.lastore, 1) := by decide +kernel
theorem dX7_exchange_104 : decode cX7_exchange 104 = .ok (.sipush 496, 3) := by decide +kernel
theorem dX7_exchange_107 : decode cX7_exchange 107 = .ok (.istore 7, 2) := by decide +kernel
theorem dX7_exchange_109 : decode cX7_exchange 109 = .ok (.iload 7, 2) := by decide +kernel
theorem dX7_exchange_111 : decode cX7_exchange 111 = .ok (.sipush 6896, 3) := by decide +kernel
theorem dX7_exchange_114 : decode cX7_exchange 114 = .ok (.if_icmp .ge 17, 3) := by decide +kernel
theorem dX7_exchange_117 : decode cX7_exchange 117 = .ok (.aload_n 0, 1) := by decide +kernel
theorem dX7_exchange_118 : decode cX7_exchange 118 = .ok (.getfield 7, 3) := by decide +kernel
theorem dX7_exchange_121 : decode cX7_exchange 121 = .ok (.iload 7, 2) := by decide +kernel
theorem dX7_exchange_123 : decode cX7_exchange 123 = .ok (.lconst 0, 1) := by decide +kernel
theorem dX7_exchange_124 : decode cX7_exchange 124 = .ok (.lastore, 1) := by decide +kernel
theorem dX7_exchange_125 : decode cX7_exchange 125 = .ok (.iinc 7 1, 3) := by decide +kernel
theorem dX7_exchange_128 : decode cX7_exchange 128 = .ok (.goto (-19), 3) := by decide +kernel
theorem dX7_exchange_131 : decode cX7_exchange 131 = .ok (.iconst 1, 1) := by decide +kernel
theorem dX7_exchange_132 : decode cX7_exchange 132 = .ok (.ireturn, 1) := by decide +kernel
theorem dX7_undo_0 : decode cX7_undo 0 = .ok (.aload_n 0, 1) := by decide +kernel
theorem dX7_undo_1 : decode cX7_undo 1 = .ok (.getfield 124, 3) := by decide +kernel
theorem dX7_undo_4 : decode cX7_undo 4 = .ok (.ifCond .ne 5, 3) := by decide +kernel
theorem dX7_undo_7 : decode cX7_undo 7 = .ok (.iconst (-1), 1) := by decide +kernel
theorem dX7_undo_8 : decode cX7_undo 8 = .ok (.ireturn, 1) := by decide +kernel
theorem dX7_undo_9 : decode cX7_undo 9 = .ok (.aload_n 0, 1) := by decide +kernel
theorem dX7_undo_10 : decode cX7_undo 10 = .ok (.dup, 1) := by decide +kernel
theorem dX7_undo_11 : decode cX7_undo 11 = .ok (.getfield 124, 3) := by decide +kernel
theorem dX7_undo_14 : decode cX7_undo 14 = .ok (.iconst 1, 1) := by decide +kernel
theorem dX7_undo_15 : decode cX7_undo 15 = .ok (.isub, 1) := by decide +kernel
theorem dX7_undo_16 : decode cX7_undo 16 = .ok (.putfield 124, 3) := by decide +kernel
theorem dX7_undo_19 : decode cX7_undo 19 = .ok (.iconst 0, 1) := by decide +kernel
theorem dX7_undo_20 : decode cX7_undo 20 = .ok (.istore_n 1, 1) := by decide +kernel
theorem dX7_undo_21 : decode cX7_undo 21 = .ok (.iload_n 1, 1) := by decide +kernel
theorem dX7_undo_22 : decode cX7_undo 22 = .ok (.sipush 6896, 3) := by decide +kernel
theorem dX7_undo_25 : decode cX7_undo 25 = .ok (.if_icmp .ge 30, 3) := by decide +kernel
theorem dX7_undo_28 : decode cX7_undo 28 = .ok (.aload_n 0, 1) := by decide +kernel
theorem dX7_undo_29 : decode cX7_undo 29 = .ok (.getfield 7, 3) := by decide +kernel
theorem dX7_undo_32 : decode cX7_undo 32 = .ok (.iload_n 1, 1) := by decide +kernel
theorem dX7_undo_33 : decode cX7_undo 33 = .ok (.aload_n 0, 1) := by decide +kernel
theorem dX7_undo_34 : decode cX7_undo 34 = .ok (.getfield 14, 3) := by decide +kernel
theorem dX7_undo_37 : decode cX7_undo 37 = .ok (.sipush 6896, 3) := by decide +kernel
theorem dX7_undo_40 : decode cX7_undo 40 = .ok (.aload_n 0, 1) := by decide +kernel
theorem dX7_undo_41 : decode cX7_undo 41 = .ok (.getfield 124, 3) := by decide +kernel
theorem dX7_undo_44 : decode cX7_undo 44 = .ok (.imul, 1) := by decide +kernel
theorem dX7_undo_45 : decode cX7_undo 45 = .ok (.iload_n 1, 1) := by decide +kernel
theorem dX7_undo_46 : decode cX7_undo 46 = .ok (.iadd, 1) := by decide +kernel
theorem dX7_undo_47 : decode cX7_undo 47 = .ok (.laload, 1) := by decide +kernel
theorem dX7_undo_48 : decode cX7_undo 48 = .ok (.lastore, 1) := by decide +kernel
theorem dX7_undo_49 : decode cX7_undo 49 = .ok (.iinc 1 1, 3) := by decide +kernel
theorem dX7_undo_52 : decode cX7_undo 52 = .ok (.goto (-31), 3) := by decide +kernel
theorem dX7_undo_55 : decode cX7_undo 55 = .ok (.aload_n 0, 1) := by decide +kernel
theorem dX7_undo_56 : decode cX7_undo 56 = .ok (.getfield 124, 3) := by decide +kernel
theorem dX7_undo_59 : decode cX7_undo 59 = .ok (.ireturn, 1) := by decide +kernel
theorem dX7_keep_0 : decode cX7_keep 0 = .ok (.iload_n 1, 1) := by decide +kernel
theorem dX7_keep_1 : decode cX7_keep 1 = .ok (.i2l, 1) := by decide +kernel
theorem dX7_keep_2 : decode cX7_keep 2 = .ok (.lconst 0, 1) := by decide +kernel
theorem dX7_keep_3 : decode cX7_keep 3 = .ok (.lconst 1, 1) := by decide +kernel
theorem dX7_keep_4 : decode cX7_keep 4 = .ok (.invokestatic 39, 3) := by decide +kernel
theorem dX7_keep_7 : decode cX7_keep 7 = .ok (.ifCond .ne 5, 3) := by decide +kernel
theorem dX7_keep_10 : decode cX7_keep 10 = .ok (.iconst (-1), 1) := by decide +kernel
theorem dX7_keep_11 : decode cX7_keep 11 = .ok (.ireturn, 1) := by decide +kernel
theorem dX7_keep_12 : decode cX7_keep 12 = .ok (.iconst 0, 1) := by decide +kernel
theorem dX7_keep_13 : decode cX7_keep 13 = .ok (.istore_n 2, 1) := by decide +kernel
theorem dX7_keep_14 : decode cX7_keep 14 = .ok (.iload_n 2, 1) := by decide +kernel
theorem dX7_keep_15 : decode cX7_keep 15 = .ok (.sipush 6896, 3) := by decide +kernel
theorem dX7_keep_18 : decode cX7_keep 18 = .ok (.if_icmp .ge 27, 3) := by decide +kernel
theorem dX7_keep_21 : decode cX7_keep 21 = .ok (.aload_n 0, 1) := by decide +kernel
theorem dX7_keep_22 : decode cX7_keep 22 = .ok (.getfield 17, 3) := by decide +kernel
theorem dX7_keep_25 : decode cX7_keep 25 = .ok (.sipush 6896, 3) := by decide +kernel
theorem dX7_keep_28 : decode cX7_keep 28 = .ok (.iload_n 1, 1) := by decide +kernel
theorem dX7_keep_29 : decode cX7_keep 29 = .ok (.imul, 1) := by decide +kernel
theorem dX7_keep_30 : decode cX7_keep 30 = .ok (.iload_n 2, 1) := by decide +kernel
theorem dX7_keep_31 : decode cX7_keep 31 = .ok (.iadd, 1) := by decide +kernel
theorem dX7_keep_32 : decode cX7_keep 32 = .ok (.aload_n 0, 1) := by decide +kernel
theorem dX7_keep_33 : decode cX7_keep 33 = .ok (.getfield 7, 3) := by decide +kernel
theorem dX7_keep_36 : decode cX7_keep 36 = .ok (.iload_n 2, 1) := by decide +kernel
theorem dX7_keep_37 : decode cX7_keep 37 = .ok (.laload, 1) := by decide +kernel
theorem dX7_keep_38 : decode cX7_keep 38 = .ok (.lastore, 1) := by decide +kernel
theorem dX7_keep_39 : decode cX7_keep 39 = .ok (.iinc 2 1, 3) := by decide +kernel
theorem dX7_keep_42 : decode cX7_keep 42 = .ok (.goto (-28), 3) := by decide +kernel
theorem dX7_keep_45 : decode cX7_keep 45 = .ok (.aload_n 0, 1) := by decide +kernel
theorem dX7_keep_46 : decode cX7_keep 46 = .ok (.getfield 20, 3) := by decide +kernel
theorem dX7_keep_49 : decode cX7_keep 49 = .ok (.iload_n 1, 1) := by decide +kernel
theorem dX7_keep_50 : decode cX7_keep 50 = .ok (.iconst 1, 1) := by decide +kernel
theorem dX7_keep_51 : decode cX7_keep 51 = .ok (.bastore, 1) := by decide +kernel
theorem dX7_keep_52 : decode cX7_keep 52 = .ok (.aload_n 0, 1) := by decide +kernel
theorem dX7_keep_53 : decode cX7_keep 53 = .ok (.invokevirtual 53, 3) := by decide +kernel
theorem dX7_keep_56 : decode cX7_keep 56 = .ok (.ireturn, 1) := by decide +kernel
theorem dX7_back_0 : decode cX7_back 0 = .ok (.iload_n 1, 1) := by decide +kernel
theorem dX7_back_1 : decode cX7_back 1 = .ok (.i2l, 1) := by decide +kernel
theorem dX7_back_2 : decode cX7_back 2 = .ok (.lconst 0, 1) := by decide +kernel
theorem dX7_back_3 : decode cX7_back 3 = .ok (.lconst 1, 1) := by decide +kernel
theorem dX7_back_4 : decode cX7_back 4 = .ok (.invokestatic 39, 3) := by decide +kernel
theorem dX7_back_7 : decode cX7_back 7 = .ok (.ifCond .ne 5, 3) := by decide +kernel
theorem dX7_back_10 : decode cX7_back 10 = .ok (.iconst (-1), 1) := by decide +kernel
theorem dX7_back_11 : decode cX7_back 11 = .ok (.ireturn, 1) := by decide +kernel
theorem dX7_back_12 : decode cX7_back 12 = .ok (.aload_n 0, 1) := by decide +kernel
theorem dX7_back_13 : decode cX7_back 13 = .ok (.getfield 20, 3) := by decide +kernel
theorem dX7_back_16 : decode cX7_back 16 = .ok (.iload_n 1, 1) := by decide +kernel
theorem dX7_back_17 : decode cX7_back 17 = .ok (.baload, 1) := by decide +kernel
theorem dX7_back_18 : decode cX7_back 18 = .ok (.ifCond .ne 6, 3) := by decide +kernel
theorem dX7_back_21 : decode cX7_back 21 = .ok (.bipush (-2), 2) := by decide +kernel
theorem dX7_back_23 : decode cX7_back 23 = .ok (.ireturn, 1) := by decide +kernel
theorem dX7_back_24 : decode cX7_back 24 = .ok (.iconst 0, 1) := by decide +kernel
theorem dX7_back_25 : decode cX7_back 25 = .ok (.istore_n 2, 1) := by decide +kernel
theorem dX7_back_26 : decode cX7_back 26 = .ok (.iload_n 2, 1) := by decide +kernel
theorem dX7_back_27 : decode cX7_back 27 = .ok (.sipush 6896, 3) := by decide +kernel
theorem dX7_back_30 : decode cX7_back 30 = .ok (.if_icmp .ge 27, 3) := by decide +kernel
theorem dX7_back_33 : decode cX7_back 33 = .ok (.aload_n 0, 1) := by decide +kernel
theorem dX7_back_34 : decode cX7_back 34 = .ok (.getfield 7, 3) := by decide +kernel
theorem dX7_back_37 : decode cX7_back 37 = .ok (.iload_n 2, 1) := by decide +kernel
theorem dX7_back_38 : decode cX7_back 38 = .ok (.aload_n 0, 1) := by decide +kernel
theorem dX7_back_39 : decode cX7_back 39 = .ok (.getfield 17, 3) := by decide +kernel
theorem dX7_back_42 : decode cX7_back 42 = .ok (.sipush 6896, 3) := by decide +kernel
theorem dX7_back_45 : decode cX7_back 45 = .ok (.iload_n 1, 1) := by decide +kernel
theorem dX7_back_46 : decode cX7_back 46 = .ok (.imul, 1) := by decide +kernel
theorem dX7_back_47 : decode cX7_back 47 = .ok (.iload_n 2, 1) := by decide +kernel
theorem dX7_back_48 : decode cX7_back 48 = .ok (.iadd, 1) := by decide +kernel
theorem dX7_back_49 : decode cX7_back 49 = .ok (.laload, 1) := by decide +kernel
theorem dX7_back_50 : decode cX7_back 50 = .ok (.lastore, 1) := by decide +kernel
theorem dX7_back_51 : decode cX7_back 51 = .ok (.iinc 2 1, 3) := by decide +kernel
theorem dX7_back_54 : decode cX7_back 54 = .ok (.goto (-28), 3) := by decide +kernel
theorem dX7_back_57 : decode cX7_back 57 = .ok (.aload_n 0, 1) := by decide +kernel
theorem dX7_back_58 : decode cX7_back 58 = .ok (.iconst 0, 1) := by decide +kernel
theorem dX7_back_59 : decode cX7_back 59 = .ok (.putfield 124, 3) := by decide +kernel
theorem dX7_back_62 : decode cX7_back 62 = .ok (.aload_n 0, 1) := by decide +kernel
theorem dX7_back_63 : decode cX7_back 63 = .ok (.invokevirtual 53, 3) := by decide +kernel
theorem dX7_back_66 : decode cX7_back 66 = .ok (.ireturn, 1) := by decide +kernel
theorem dX7_cell_0 : decode cX7_cell 0 = .ok (.aload_n 0, 1) := by decide +kernel
theorem dX7_cell_1 : decode cX7_cell 1 = .ok (.iload_n 1, 1) := by decide +kernel
theorem dX7_cell_2 : decode cX7_cell 2 = .ok (.invokevirtual 162, 3) := by decide +kernel
theorem dX7_cell_5 : decode cX7_cell 5 = .ok (.ifCond .ne 5, 3) := by decide +kernel
theorem dX7_cell_8 : decode cX7_cell 8 = .ok (.iconst (-1), 1) := by decide +kernel
theorem dX7_cell_9 : decode cX7_cell 9 = .ok (.ireturn, 1) := by decide +kernel
theorem dX7_cell_10 : decode cX7_cell 10 = .ok (.iload_n 2, 1) := by decide +kernel
theorem dX7_cell_11 : decode cX7_cell 11 = .ok (.tableswitch 93 0 8 #[49, 49, 49, 49, 56, 62, 69, 76, 84], 49) := by decide +kernel
theorem dX7_cell_60 : decode cX7_cell 60 = .ok (.aload_n 0, 1) := by decide +kernel
theorem dX7_cell_61 : decode cX7_cell 61 = .ok (.iload_n 1, 1) := by decide +kernel
theorem dX7_cell_62 : decode cX7_cell 62 = .ok (.iload_n 2, 1) := by decide +kernel
theorem dX7_cell_63 : decode cX7_cell 63 = .ok (.invokevirtual 56, 3) := by decide +kernel
theorem dX7_cell_66 : decode cX7_cell 66 = .ok (.ireturn, 1) := by decide +kernel
theorem dX7_cell_67 : decode cX7_cell 67 = .ok (.aload_n 0, 1) := by decide +kernel
theorem dX7_cell_68 : decode cX7_cell 68 = .ok (.iload_n 1, 1) := by decide +kernel
theorem dX7_cell_69 : decode cX7_cell 69 = .ok (.invokevirtual 93, 3) := by decide +kernel
theorem dX7_cell_72 : decode cX7_cell 72 = .ok (.ireturn, 1) := by decide +kernel
theorem dX7_cell_73 : decode cX7_cell 73 = .ok (.aload_n 0, 1) := by decide +kernel
theorem dX7_cell_74 : decode cX7_cell 74 = .ok (.iload_n 1, 1) := by decide +kernel
theorem dX7_cell_75 : decode cX7_cell 75 = .ok (.iconst 4, 1) := by decide +kernel
theorem dX7_cell_76 : decode cX7_cell 76 = .ok (.invokevirtual 56, 3) := by decide +kernel
theorem dX7_cell_79 : decode cX7_cell 79 = .ok (.ireturn, 1) := by decide +kernel
theorem dX7_cell_80 : decode cX7_cell 80 = .ok (.aload_n 0, 1) := by decide +kernel
theorem dX7_cell_81 : decode cX7_cell 81 = .ok (.iload_n 1, 1) := by decide +kernel
theorem dX7_cell_82 : decode cX7_cell 82 = .ok (.iconst 5, 1) := by decide +kernel
theorem dX7_cell_83 : decode cX7_cell 83 = .ok (.invokevirtual 56, 3) := by decide +kernel
theorem dX7_cell_86 : decode cX7_cell 86 = .ok (.ireturn, 1) := by decide +kernel
theorem dX7_cell_87 : decode cX7_cell 87 = .ok (.aload_n 0, 1) := by decide +kernel
theorem dX7_cell_88 : decode cX7_cell 88 = .ok (.iload_n 1, 1) := by decide +kernel
theorem dX7_cell_89 : decode cX7_cell 89 = .ok (.bipush 6, 2) := by decide +kernel
theorem dX7_cell_91 : decode cX7_cell 91 = .ok (.invokevirtual 56, 3) := by decide +kernel
theorem dX7_cell_94 : decode cX7_cell 94 = .ok (.ireturn, 1) := by decide +kernel
theorem dX7_cell_95 : decode cX7_cell 95 = .ok (.aload_n 0, 1) := by decide +kernel
theorem dX7_cell_96 : decode cX7_cell 96 = .ok (.iload_n 1, 1) := by decide +kernel
theorem dX7_cell_97 : decode cX7_cell 97 = .ok (.invokevirtual 109, 3) := by decide +kernel
theorem dX7_cell_100 : decode cX7_cell 100 = .ok (.invokestatic 174, 3) := by decide +kernel
theorem dX7_cell_103 : decode cX7_cell 103 = .ok (.ireturn, 1) := by decide +kernel
theorem dX7_cell_104 : decode cX7_cell 104 = .ok (.iconst (-1), 1) := by decide +kernel
theorem dX7_cell_105 : decode cX7_cell 105 = .ok (.ireturn, 1) := by decide +kernel
theorem dX7_worn_0 : decode cX7_worn 0 = .ok (.aload_n 0, 1) := by decide +kernel
theorem dX7_worn_1 : decode cX7_worn 1 = .ok (.iload_n 1, 1) := by decide +kernel
theorem dX7_worn_2 : decode cX7_worn 2 = .ok (.invokevirtual 162, 3) := by decide +kernel
theorem dX7_worn_5 : decode cX7_worn 5 = .ok (.ifCond .eq 11, 3) := by decide +kernel
theorem dX7_worn_8 : decode cX7_worn 8 = .ok (.aload_n 0, 1) := by decide +kernel
theorem dX7_worn_9 : decode cX7_worn 9 = .ok (.iload_n 1, 1) := by decide +kernel
theorem dX7_worn_10 : decode cX7_worn 10 = .ok (.invokevirtual 109, 3) := by decide +kernel
theorem dX7_worn_13 : decode cX7_worn 13 = .ok (.goto 6, 3) := by decide +kernel
theorem dX7_worn_16 : decode cX7_worn 16 = .ok (.ldc2_w 178, 3) := by decide +kernel
theorem dX7_worn_19 : decode cX7_worn 19 = .ok (.lreturn, 1) := by decide +kernel
theorem dX7_cellsWith_0 : decode cX7_cellsWith 0 = .ok (.iconst 0, 1) := by decide +kernel
theorem dX7_cellsWith_1 : decode cX7_cellsWith 1 = .ok (.istore_n 2, 1) := by decide +kernel
theorem dX7_cellsWith_2 : decode cX7_cellsWith 2 = .ok (.iconst 0, 1) := by decide +kernel
theorem dX7_cellsWith_3 : decode cX7_cellsWith 3 = .ok (.istore_n 3, 1) := by decide +kernel
theorem dX7_cellsWith_4 : decode cX7_cellsWith 4 = .ok (.iload_n 3, 1) := by decide +kernel
theorem dX7_cellsWith_5 : decode cX7_cellsWith 5 = .ok (.aload_n 0, 1) := by decide +kernel
theorem dX7_cellsWith_6 : decode cX7_cellsWith 6 = .ok (.invokevirtual 53, 3) := by decide +kernel
theorem dX7_cellsWith_9 : decode cX7_cellsWith 9 = .ok (.if_icmp .ge 27, 3) := by decide +kernel
theorem dX7_cellsWith_12 : decode cX7_cellsWith 12 = .ok (.iload_n 2, 1) := by decide +kernel
theorem dX7_cellsWith_13 : decode cX7_cellsWith 13 = .ok (.aload_n 0, 1) := by decide +kernel
theorem dX7_cellsWith_14 : decode cX7_cellsWith 14 = .ok (.iload_n 3, 1) := by decide +kernel
theorem dX7_cellsWith_15 : decode cX7_cellsWith 15 = .ok (.iconst 0, 1) := by decide +kernel
theorem dX7_cellsWith_16 : decode cX7_cellsWith 16 = .ok (.invokevirtual 56, 3) := by decide +kernel
theorem dX7_cellsWith_19 : decode cX7_cellsWith 19 = .ok (.iload_n 1, 1) := by decide +kernel
theorem dX7_cellsWith_20 : decode cX7_cellsWith 20 = .ok (.if_icmp .ne 7, 3) := by decide +kernel
theorem dX7_cellsWith_23 : decode cX7_cellsWith 23 = .ok (.iconst 1, 1) := by decide +kernel
theorem dX7_cellsWith_24 : decode cX7_cellsWith 24 = .ok (.goto 4, 3) := by decide +kernel
theorem dX7_cellsWith_27 : decode cX7_cellsWith 27 = .ok (.iconst 0, 1) := by decide +kernel
theorem dX7_cellsWith_28 : decode cX7_cellsWith 28 = .ok (.iadd, 1) := by decide +kernel
theorem dX7_cellsWith_29 : decode cX7_cellsWith 29 = .ok (.istore_n 2, 1) := by decide +kernel
theorem dX7_cellsWith_30 : decode cX7_cellsWith 30 = .ok (.iinc 3 1, 3) := by decide +kernel
theorem dX7_cellsWith_33 : decode cX7_cellsWith 33 = .ok (.goto (-29), 3) := by decide +kernel
theorem dX7_cellsWith_36 : decode cX7_cellsWith 36 = .ok (.iload_n 2, 1) := by decide +kernel
theorem dX7_cellsWith_37 : decode cX7_cellsWith 37 = .ok (.ireturn, 1) := by decide +kernel
theorem dX7_manyWith_0 : decode cX7_manyWith 0 = .ok (.iconst 0, 1) := by decide +kernel
theorem dX7_manyWith_1 : decode cX7_manyWith 1 = .ok (.istore_n 3, 1) := by decide +kernel
theorem dX7_manyWith_2 : decode cX7_manyWith 2 = .ok (.iconst 0, 1) := by decide +kernel
theorem dX7_manyWith_3 : decode cX7_manyWith 3 = .ok (.istore 4, 2) := by decide +kernel
theorem dX7_manyWith_5 : decode cX7_manyWith 5 = .ok (.iload 4, 2) := by decide +kernel
theorem dX7_manyWith_7 : decode cX7_manyWith 7 = .ok (.aload_n 0, 1) := by decide +kernel
theorem dX7_manyWith_8 : decode cX7_manyWith 8 = .ok (.iload_n 1, 1) := by decide +kernel
theorem dX7_manyWith_9 : decode cX7_manyWith 9 = .ok (.invokevirtual 60, 3) := by decide +kernel
theorem dX7_manyWith_12 : decode cX7_manyWith 12 = .ok (.if_icmp .ge 28, 3) := by decide +kernel
theorem dX7_manyWith_15 : decode cX7_manyWith 15 = .ok (.iload_n 3, 1) := by decide +kernel
theorem dX7_manyWith_16 : decode cX7_manyWith 16 = .ok (.aload_n 0, 1) := by decide +kernel
theorem dX7_manyWith_17 : decode cX7_manyWith 17 = .ok (.iload_n 1, 1) := by decide +kernel
theorem dX7_manyWith_18 : decode cX7_manyWith 18 = .ok (.iload 4, 2) := by decide +kernel
theorem dX7_manyWith_20 : decode cX7_manyWith 20 = .ok (.invokevirtual 106, 3) := by decide +kernel
theorem dX7_manyWith_23 : decode cX7_manyWith 23 = .ok (.iload_n 2, 1) := by decide +kernel
theorem dX7_manyWith_24 : decode cX7_manyWith 24 = .ok (.if_icmp .ne 7, 3) := by decide +kernel
theorem dX7_manyWith_27 : decode cX7_manyWith 27 = .ok (.iconst 1, 1) := by decide +kernel
theorem dX7_manyWith_28 : decode cX7_manyWith 28 = .ok (.goto 4, 3) := by decide +kernel
theorem dX7_manyWith_31 : decode cX7_manyWith 31 = .ok (.iconst 0, 1) := by decide +kernel
theorem dX7_manyWith_32 : decode cX7_manyWith 32 = .ok (.iadd, 1) := by decide +kernel
theorem dX7_manyWith_33 : decode cX7_manyWith 33 = .ok (.istore_n 3, 1) := by decide +kernel
theorem dX7_manyWith_34 : decode cX7_manyWith 34 = .ok (.iinc 4 1, 3) := by decide +kernel
theorem dX7_manyWith_37 : decode cX7_manyWith 37 = .ok (.goto (-32), 3) := by decide +kernel
theorem dX7_manyWith_40 : decode cX7_manyWith 40 = .ok (.iload_n 3, 1) := by decide +kernel
theorem dX7_manyWith_41 : decode cX7_manyWith 41 = .ok (.ireturn, 1) := by decide +kernel
theorem dX7_signsOf_0 : decode cX7_signsOf 0 = .ok (.iconst 0, 1) := by decide +kernel
theorem dX7_signsOf_1 : decode cX7_signsOf 1 = .ok (.istore_n 3, 1) := by decide +kernel
theorem dX7_signsOf_2 : decode cX7_signsOf 2 = .ok (.bipush 32, 2) := by decide +kernel
theorem dX7_signsOf_4 : decode cX7_signsOf 4 = .ok (.istore 4, 2) := by decide +kernel
theorem dX7_signsOf_6 : decode cX7_signsOf 6 = .ok (.iload 4, 2) := by decide +kernel
theorem dX7_signsOf_8 : decode cX7_signsOf 8 = .ok (.bipush 127, 2) := by decide +kernel
theorem dX7_signsOf_10 : decode cX7_signsOf 10 = .ok (.if_icmp .ge 47, 3) := by decide +kernel
theorem dX7_signsOf_13 : decode cX7_signsOf 13 = .ok (.aload_n 0, 1) := by decide +kernel
theorem dX7_signsOf_14 : decode cX7_signsOf 14 = .ok (.iload_n 1, 1) := by decide +kernel
theorem dX7_signsOf_15 : decode cX7_signsOf 15 = .ok (.iload 4, 2) := by decide +kernel
theorem dX7_signsOf_17 : decode cX7_signsOf 17 = .ok (.invokevirtual 183, 3) := by decide +kernel
theorem dX7_signsOf_20 : decode cX7_signsOf 20 = .ok (.istore 5, 2) := by decide +kernel
theorem dX7_signsOf_22 : decode cX7_signsOf 22 = .ok (.iload_n 2, 1) := by decide +kernel
theorem dX7_signsOf_23 : decode cX7_signsOf 23 = .ok (.ifCond .ne 19, 3) := by decide +kernel
theorem dX7_signsOf_26 : decode cX7_signsOf 26 = .ok (.iload_n 3, 1) := by decide +kernel
theorem dX7_signsOf_27 : decode cX7_signsOf 27 = .ok (.iload 5, 2) := by decide +kernel
theorem dX7_signsOf_29 : decode cX7_signsOf 29 = .ok (.ifCond .le 7, 3) := by decide +kernel
theorem dX7_signsOf_32 : decode cX7_signsOf 32 = .ok (.iconst 1, 1) := by decide +kernel
theorem dX7_signsOf_33 : decode cX7_signsOf 33 = .ok (.goto 4, 3) := by decide +kernel
theorem dX7_signsOf_36 : decode cX7_signsOf 36 = .ok (.iconst 0, 1) := by decide +kernel
theorem dX7_signsOf_37 : decode cX7_signsOf 37 = .ok (.iadd, 1) := by decide +kernel
theorem dX7_signsOf_38 : decode cX7_signsOf 38 = .ok (.istore_n 3, 1) := by decide +kernel
theorem dX7_signsOf_39 : decode cX7_signsOf 39 = .ok (.goto 12, 3) := by decide +kernel
theorem dX7_signsOf_42 : decode cX7_signsOf 42 = .ok (.iload 5, 2) := by decide +kernel
theorem dX7_signsOf_44 : decode cX7_signsOf 44 = .ok (.iload_n 3, 1) := by decide +kernel
theorem dX7_signsOf_45 : decode cX7_signsOf 45 = .ok (.if_icmp .le 6, 3) := by decide +kernel
theorem dX7_signsOf_48 : decode cX7_signsOf 48 = .ok (.iload 5, 2) := by decide +kernel
theorem dX7_signsOf_50 : decode cX7_signsOf 50 = .ok (.istore_n 3, 1) := by decide +kernel
theorem dX7_signsOf_51 : decode cX7_signsOf 51 = .ok (.iinc 4 1, 3) := by decide +kernel
theorem dX7_signsOf_54 : decode cX7_signsOf 54 = .ok (.goto (-48), 3) := by decide +kernel
theorem dX7_signsOf_57 : decode cX7_signsOf 57 = .ok (.iload_n 3, 1) := by decide +kernel
theorem dX7_signsOf_58 : decode cX7_signsOf 58 = .ok (.ireturn, 1) := by decide +kernel
theorem dX7_drum_0 : decode cX7_drum 0 = .ok (.aload_n 0, 1) := by decide +kernel
theorem dX7_drum_1 : decode cX7_drum 1 = .ok (.iload_n 1, 1) := by decide +kernel
theorem dX7_drum_2 : decode cX7_drum 2 = .ok (.invokevirtual 180, 3) := by decide +kernel
theorem dX7_drum_5 : decode cX7_drum 5 = .ok (.ifCond .ne 5, 3) := by decide +kernel
theorem dX7_drum_8 : decode cX7_drum 8 = .ok (.iconst (-1), 1) := by decide +kernel
theorem dX7_drum_9 : decode cX7_drum 9 = .ok (.ireturn, 1) := by decide +kernel
theorem dX7_drum_10 : decode cX7_drum 10 = .ok (.iload_n 2, 1) := by decide +kernel
theorem dX7_drum_11 : decode cX7_drum 11 = .ok (.tableswitch 65 0 4 #[33, 39, 45, 51, 58], 33) := by decide +kernel
theorem dX7_drum_44 : decode cX7_drum 44 = .ok (.aload_n 0, 1) := by decide +kernel
theorem dX7_drum_45 : decode cX7_drum 45 = .ok (.iload_n 1, 1) := by decide +kernel
theorem dX7_drum_46 : decode cX7_drum 46 = .ok (.invokevirtual 64, 3) := by decide +kernel
theorem dX7_drum_49 : decode cX7_drum 49 = .ok (.ireturn, 1) := by decide +kernel
theorem dX7_drum_50 : decode cX7_drum 50 = .ok (.aload_n 0, 1) := by decide +kernel
theorem dX7_drum_51 : decode cX7_drum 51 = .ok (.iload_n 1, 1) := by decide +kernel
theorem dX7_drum_52 : decode cX7_drum 52 = .ok (.invokevirtual 60, 3) := by decide +kernel
theorem dX7_drum_55 : decode cX7_drum 55 = .ok (.ireturn, 1) := by decide +kernel
theorem dX7_drum_56 : decode cX7_drum 56 = .ok (.aload_n 0, 1) := by decide +kernel
theorem dX7_drum_57 : decode cX7_drum 57 = .ok (.iload_n 1, 1) := by decide +kernel
theorem dX7_drum_58 : decode cX7_drum 58 = .ok (.invokevirtual 186, 3) := by decide +kernel
theorem dX7_drum_61 : decode cX7_drum 61 = .ok (.ireturn, 1) := by decide +kernel
theorem dX7_drum_62 : decode cX7_drum 62 = .ok (.aload_n 0, 1) := by decide +kernel
theorem dX7_drum_63 : decode cX7_drum 63 = .ok (.iload_n 1, 1) := by decide +kernel
theorem dX7_drum_64 : decode cX7_drum 64 = .ok (.iconst 0, 1) := by decide +kernel
theorem dX7_drum_65 : decode cX7_drum 65 = .ok (.invokevirtual 189, 3) := by decide +kernel
theorem dX7_drum_68 : decode cX7_drum 68 = .ok (.ireturn, 1) := by decide +kernel
theorem dX7_drum_69 : decode cX7_drum 69 = .ok (.aload_n 0, 1) := by decide +kernel
theorem dX7_drum_70 : decode cX7_drum 70 = .ok (.iload_n 1, 1) := by decide +kernel
theorem dX7_drum_71 : decode cX7_drum 71 = .ok (.iconst 1, 1) := by decide +kernel
theorem dX7_drum_72 : decode cX7_drum 72 = .ok (.invokevirtual 189, 3) := by decide +kernel
theorem dX7_drum_75 : decode cX7_drum 75 = .ok (.ireturn, 1) := by decide +kernel
theorem dX7_drum_76 : decode cX7_drum 76 = .ok (.iconst (-1), 1) := by decide +kernel
theorem dX7_drum_77 : decode cX7_drum 77 = .ok (.ireturn, 1) := by decide +kernel
theorem dX7_sign_0 : decode cX7_sign 0 = .ok (.aload_n 0, 1) := by decide +kernel
theorem dX7_sign_1 : decode cX7_sign 1 = .ok (.iload_n 1, 1) := by decide +kernel
theorem dX7_sign_2 : decode cX7_sign 2 = .ok (.invokevirtual 180, 3) := by decide +kernel
theorem dX7_sign_5 : decode cX7_sign 5 = .ok (.ifCond .eq 29, 3) := by decide +kernel
theorem dX7_sign_8 : decode cX7_sign 8 = .ok (.iload_n 2, 1) := by decide +kernel
theorem dX7_sign_9 : decode cX7_sign 9 = .ok (.i2l, 1) := by decide +kernel
theorem dX7_sign_10 : decode cX7_sign 10 = .ok (.lconst 0, 1) := by decide +kernel
theorem dX7_sign_11 : decode cX7_sign 11 = .ok (.aload_n 0, 1) := by decide +kernel
theorem dX7_sign_12 : decode cX7_sign 12 = .ok (.iload_n 1, 1) := by decide +kernel
theorem dX7_sign_13 : decode cX7_sign 13 = .ok (.invokevirtual 60, 3) := by decide +kernel
theorem dX7_sign_16 : decode cX7_sign 16 = .ok (.iconst 1, 1) := by decide +kernel
theorem dX7_sign_17 : decode cX7_sign 17 = .ok (.isub, 1) := by decide +kernel
theorem dX7_sign_18 : decode cX7_sign 18 = .ok (.i2l, 1) := by decide +kernel
theorem dX7_sign_19 : decode cX7_sign 19 = .ok (.invokestatic 39, 3) := by decide +kernel
theorem dX7_sign_22 : decode cX7_sign 22 = .ok (.ifCond .eq 12, 3) := by decide +kernel
theorem dX7_sign_25 : decode cX7_sign 25 = .ok (.aload_n 0, 1) := by decide +kernel
theorem dX7_sign_26 : decode cX7_sign 26 = .ok (.iload_n 1, 1) := by decide +kernel
theorem dX7_sign_27 : decode cX7_sign 27 = .ok (.iload_n 2, 1) := by decide +kernel
theorem dX7_sign_28 : decode cX7_sign 28 = .ok (.invokevirtual 106, 3) := by decide +kernel
theorem dX7_sign_31 : decode cX7_sign 31 = .ok (.goto 4, 3) := by decide +kernel
theorem dX7_sign_34 : decode cX7_sign 34 = .ok (.iconst (-1), 1) := by decide +kernel
theorem dX7_sign_35 : decode cX7_sign 35 = .ok (.ireturn, 1) := by decide +kernel
theorem dX7_signAt_0 : decode cX7_signAt 0 = .ok (.aload_n 0, 1) := by decide +kernel
theorem dX7_signAt_1 : decode cX7_signAt 1 = .ok (.aload_n 0, 1) := by decide +kernel
theorem dX7_signAt_2 : decode cX7_signAt 2 = .ok (.iload_n 1, 1) := by decide +kernel
theorem dX7_signAt_3 : decode cX7_signAt 3 = .ok (.iconst 0, 1) := by decide +kernel
theorem dX7_signAt_4 : decode cX7_signAt 4 = .ok (.invokevirtual 56, 3) := by decide +kernel
theorem dX7_signAt_7 : decode cX7_signAt 7 = .ok (.aload_n 0, 1) := by decide +kernel
theorem dX7_signAt_8 : decode cX7_signAt 8 = .ok (.iload_n 1, 1) := by decide +kernel
theorem dX7_signAt_9 : decode cX7_signAt 9 = .ok (.iconst 1, 1) := by decide +kernel
theorem dX7_signAt_10 : decode cX7_signAt 10 = .ok (.iload_n 2, 1) := by decide +kernel
theorem dX7_signAt_11 : decode cX7_signAt 11 = .ok (.iadd, 1) := by decide +kernel
theorem dX7_signAt_12 : decode cX7_signAt 12 = .ok (.invokevirtual 56, 3) := by decide +kernel
theorem dX7_signAt_15 : decode cX7_signAt 15 = .ok (.invokevirtual 106, 3) := by decide +kernel
theorem dX7_signAt_18 : decode cX7_signAt 18 = .ok (.ireturn, 1) := by decide +kernel
theorem dX7_at_0 : decode cX7_at 0 = .ok (.aload_n 0, 1) := by decide +kernel
theorem dX7_at_1 : decode cX7_at 1 = .ok (.iload_n 1, 1) := by decide +kernel
theorem dX7_at_2 : decode cX7_at 2 = .ok (.invokevirtual 138, 3) := by decide +kernel
theorem dX7_at_5 : decode cX7_at 5 = .ok (.ifCond .eq 47, 3) := by decide +kernel
theorem dX7_at_8 : decode cX7_at 8 = .ok (.iload_n 2, 1) := by decide +kernel
theorem dX7_at_9 : decode cX7_at 9 = .ok (.i2l, 1) := by decide +kernel
theorem dX7_at_10 : decode cX7_at 10 = .ok (.lconst 0, 1) := by decide +kernel
theorem dX7_at_11 : decode cX7_at 11 = .ok (.aload_n 0, 1) := by decide +kernel
theorem dX7_at_12 : decode cX7_at 12 = .ok (.invokevirtual 47, 3) := by decide +kernel
theorem dX7_at_15 : decode cX7_at 15 = .ok (.iconst 1, 1) := by decide +kernel
theorem dX7_at_16 : decode cX7_at 16 = .ok (.isub, 1) := by decide +kernel
theorem dX7_at_17 : decode cX7_at 17 = .ok (.i2l, 1) := by decide +kernel
theorem dX7_at_18 : decode cX7_at 18 = .ok (.invokestatic 39, 3) := by decide +kernel
theorem dX7_at_21 : decode cX7_at 21 = .ok (.ifCond .eq 31, 3) := by decide +kernel
theorem dX7_at_24 : decode cX7_at 24 = .ok (.iload_n 3, 1) := by decide +kernel
theorem dX7_at_25 : decode cX7_at 25 = .ok (.i2l, 1) := by decide +kernel
theorem dX7_at_26 : decode cX7_at 26 = .ok (.lconst 0, 1) := by decide +kernel
theorem dX7_at_27 : decode cX7_at 27 = .ok (.ldc2_w 193, 3) := by decide +kernel
theorem dX7_at_30 : decode cX7_at 30 = .ok (.invokestatic 39, 3) := by decide +kernel
theorem dX7_at_33 : decode cX7_at 33 = .ok (.ifCond .eq 19, 3) := by decide +kernel
theorem dX7_at_36 : decode cX7_at 36 = .ok (.aload_n 0, 1) := by decide +kernel
theorem dX7_at_37 : decode cX7_at 37 = .ok (.aload_n 0, 1) := by decide +kernel
theorem dX7_at_38 : decode cX7_at 38 = .ok (.invokevirtual 47, 3) := by decide +kernel
theorem dX7_at_41 : decode cX7_at 41 = .ok (.iload_n 1, 1) := by decide +kernel
theorem dX7_at_42 : decode cX7_at 42 = .ok (.imul, 1) := by decide +kernel
theorem dX7_at_43 : decode cX7_at 43 = .ok (.iload_n 2, 1) := by decide +kernel
theorem dX7_at_44 : decode cX7_at 44 = .ok (.iadd, 1) := by decide +kernel
theorem dX7_at_45 : decode cX7_at 45 = .ok (.iload_n 3, 1) := by decide +kernel
theorem dX7_at_46 : decode cX7_at 46 = .ok (.invokevirtual 195, 3) := by decide +kernel
theorem dX7_at_49 : decode cX7_at 49 = .ok (.goto 4, 3) := by decide +kernel
theorem dX7_at_52 : decode cX7_at 52 = .ok (.iconst (-1), 1) := by decide +kernel
theorem dX7_at_53 : decode cX7_at 53 = .ok (.ireturn, 1) := by decide +kernel
theorem dX7_isOther_0 : decode cX7_isOther 0 = .ok (.aload_n 0, 1) := by decide +kernel
theorem dX7_isOther_1 : decode cX7_isOther 1 = .ok (.iload_n 1, 1) := by decide +kernel
theorem dX7_isOther_2 : decode cX7_isOther 2 = .ok (.iconst 0, 1) := by decide +kernel
theorem dX7_isOther_3 : decode cX7_isOther 3 = .ok (.invokevirtual 195, 3) := by decide +kernel
theorem dX7_isOther_6 : decode cX7_isOther 6 = .ok (.aload_n 0, 1) := by decide +kernel
theorem dX7_isOther_7 : decode cX7_isOther 7 = .ok (.iload_n 1, 1) := by decide +kernel
theorem dX7_isOther_8 : decode cX7_isOther 8 = .ok (.iconst 2, 1) := by decide +kernel
theorem dX7_isOther_9 : decode cX7_isOther 9 = .ok (.invokevirtual 195, 3) := by decide +kernel
theorem dX7_isOther_12 : decode cX7_isOther 12 = .ok (.if_icmp .eq 7, 3) := by decide +kernel
theorem dX7_isOther_15 : decode cX7_isOther 15 = .ok (.iconst 1, 1) := by decide +kernel
theorem dX7_isOther_16 : decode cX7_isOther 16 = .ok (.goto 4, 3) := by decide +kernel
theorem dX7_isOther_19 : decode cX7_isOther 19 = .ok (.iconst 0, 1) := by decide +kernel
theorem dX7_isOther_20 : decode cX7_isOther 20 = .ok (.ireturn, 1) := by decide +kernel
theorem dX7_isSuch_0 : decode cX7_isSuch 0 = .ok (.iload_n 2, 1) := by decide +kernel
theorem dX7_isSuch_1 : decode cX7_isSuch 1 = .ok (.tableswitch 81 0 3 #[31, 45, 66, 72], 31) := by decide +kernel
theorem dX7_isSuch_32 : decode cX7_isSuch 32 = .ok (.aload_n 0, 1) := by decide +kernel
theorem dX7_isSuch_33 : decode cX7_isSuch 33 = .ok (.iload_n 1, 1) := by decide +kernel
theorem dX7_isSuch_34 : decode cX7_isSuch 34 = .ok (.invokevirtual 93, 3) := by decide +kernel
theorem dX7_isSuch_37 : decode cX7_isSuch 37 = .ok (.ifCond .le 7, 3) := by decide +kernel
theorem dX7_isSuch_40 : decode cX7_isSuch 40 = .ok (.iconst 1, 1) := by decide +kernel
theorem dX7_isSuch_41 : decode cX7_isSuch 41 = .ok (.goto 4, 3) := by decide +kernel
theorem dX7_isSuch_44 : decode cX7_isSuch 44 = .ok (.iconst 0, 1) := by decide +kernel
theorem dX7_isSuch_45 : decode cX7_isSuch 45 = .ok (.ireturn, 1) := by decide +kernel
theorem dX7_isSuch_46 : decode cX7_isSuch 46 = .ok (.aload_n 0, 1) := by decide +kernel
theorem dX7_isSuch_47 : decode cX7_isSuch 47 = .ok (.iload_n 1, 1) := by decide +kernel
theorem dX7_isSuch_48 : decode cX7_isSuch 48 = .ok (.iconst 1, 1) := by decide +kernel
theorem dX7_isSuch_49 : decode cX7_isSuch 49 = .ok (.invokevirtual 56, 3) := by decide +kernel
