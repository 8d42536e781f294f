theorem dJ0_coder_7d493_0 : decode cJ0_coder_7d493 0 = .ok (.getstatic 38, 3) := by decide +kernel
theorem dJ0_coder_7d493_3 : decode cJ0_coder_7d493 3 = .ok (.ifCond .eq 10, 3) := by decide +kernel
theorem dJ0_coder_7d493_6 : decode cJ0_coder_7d493 6 = .ok (.aload_n 0, 1) := by decide +kernel
theorem dJ0_coder_7d493_7 : decode cJ0_coder_7d493 7 = .ok (.getfield 15, 3) := by decide +kernel
theorem dJ0_coder_7d493_10 : decode cJ0_coder_7d493 10 = .ok (.goto 4, 3) := by decide +kernel
theorem dJ0_coder_7d493_14 : decode cJ0_coder_7d493 14 = .ok (.ireturn, 1) := by decide +kernel
theorem dJ0_length_8abf5_0 : decode cJ0_length_8abf5 0 = .ok (.aload_n 0, 1) := by decide +kernel
theorem dJ0_length_8abf5_1 : decode cJ0_length_8abf5 1 = .ok (.getfield 9, 3) := by decide +kernel
theorem dJ0_length_8abf5_4 : decode cJ0_length_8abf5 4 = .ok (.arraylength, 1) := by decide +kernel
theorem dJ0_length_8abf5_5 : decode cJ0_length_8abf5 5 = .ok (.aload_n 0, 1) := by decide +kernel
theorem dJ0_length_8abf5_6 : decode cJ0_length_8abf5 6 = .ok (.invokevirtual 335, 3) := by decide +kernel
theorem dJ0_length_8abf5_9 : decode cJ0_length_8abf5 9 = .ok (.ishr, 1) := by decide +kernel
theorem dJ0_length_8abf5_10 : decode cJ0_length_8abf5 10 = .ok (.ireturn, 1) := by decide +kernel
theorem dJ0_isLatin1_aae02_0 : decode cJ0_isLatin1_aae02 0 = .ok (.getstatic 38, 3) := by decide +kernel
theorem dJ0_isLatin1_aae02_3 : decode cJ0_isLatin1_aae02 3 = .ok (.ifCond .eq 14, 3) := by decide +kernel
theorem dJ0_isLatin1_aae02_6 : decode cJ0_isLatin1_aae02 6 = .ok (.aload_n 0, 1) := by decide +kernel
theorem dJ0_isLatin1_aae02_7 : decode cJ0_isLatin1_aae02 7 = .ok (.getfield 15, 3) := by decide +kernel
theorem dJ0_isLatin1_aae02_10 : decode cJ0_isLatin1_aae02 10 = .ok (.ifCond .ne 7, 3) := by decide +kernel
theorem dJ0_isLatin1_aae02_13 : decode cJ0_isLatin1_aae02 13 = .ok (.iconst 1, 1) := by decide +kernel
theorem dJ0_isLatin1_aae02_14 : decode cJ0_isLatin1_aae02 14 = .ok (.goto 4, 3) := by decide +kernel
theorem dJ0_isLatin1_aae02_18 : decode cJ0_isLatin1_aae02 18 = .ok (.ireturn, 1) := by decide +kernel
theorem dJ3_checkIndex_8e157_0 : decode cJ3_checkIndex_8e157 0 = .ok (.iload_n 0, 1) := by decide +kernel
theorem dJ3_checkIndex_8e157_1 : decode cJ3_checkIndex_8e157 1 = .ok (.ifCond .lt 8, 3) := by decide +kernel
theorem dJ3_checkIndex_8e157_4 : decode cJ3_checkIndex_8e157 4 = .ok (.iload_n 0, 1) := by decide +kernel
theorem dJ3_checkIndex_8e157_5 : decode cJ3_checkIndex_8e157 5 = .ok (.iload_n 1, 1) := by decide +kernel
theorem dJ3_checkIndex_8e157_6 : decode cJ3_checkIndex_8e157 6 = .ok (.if_icmp .lt 10, 3) := by decide +kernel
theorem dJ3_checkIndex_8e157_9 : decode cJ3_checkIndex_8e157 9 = .ok (.aload_n 2, 1) := by decide +kernel
theorem dJ3_checkIndex_8e157_10 : decode cJ3_checkIndex_8e157 10 = .ok (.iload_n 0, 1) := by decide +kernel
theorem dJ3_checkIndex_8e157_11 : decode cJ3_checkIndex_8e157 11 = .ok (.iload_n 1, 1) := by decide +kernel
theorem dJ3_checkIndex_8e157_16 : decode cJ3_checkIndex_8e157 16 = .ok (.iload_n 0, 1) := by decide +kernel
theorem dJ3_checkIndex_8e157_17 : decode cJ3_checkIndex_8e157 17 = .ok (.ireturn, 1) := by decide +kernel
theorem dJ0_checkIndex_df160_0 : decode cJ0_checkIndex_df160 0 = .ok (.iload_n 0, 1) := by decide +kernel
theorem dJ0_checkIndex_df160_1 : decode cJ0_checkIndex_df160 1 = .ok (.iload_n 1, 1) := by decide +kernel
theorem dJ0_checkIndex_df160_2 : decode cJ0_checkIndex_df160 2 = .ok (.getstatic 1053, 3) := by decide +kernel
theorem dJ0_checkIndex_df160_5 : decode cJ0_checkIndex_df160 5 = .ok (.invokestatic 1059, 3) := by decide +kernel
theorem dJ0_checkIndex_df160_8 : decode cJ0_checkIndex_df160 8 = .ok (.pop, 1) := by decide +kernel
theorem dJ0_checkIndex_df160_9 : decode cJ0_checkIndex_df160 9 = .ok (.return_, 1) := by decide +kernel
theorem dJ1_charAt_3b067_0 : decode cJ1_charAt_3b067 0 = .ok (.iload_n 1, 1) := by decide +kernel
theorem dJ1_charAt_3b067_1 : decode cJ1_charAt_3b067 1 = .ok (.aload_n 0, 1) := by decide +kernel
theorem dJ1_charAt_3b067_2 : decode cJ1_charAt_3b067 2 = .ok (.arraylength, 1) := by decide +kernel
theorem dJ1_charAt_3b067_3 : decode cJ1_charAt_3b067 3 = .ok (.invokestatic 9, 3) := by decide +kernel
theorem dJ1_charAt_3b067_6 : decode cJ1_charAt_3b067 6 = .ok (.aload_n 0, 1) := by decide +kernel
theorem dJ1_charAt_3b067_7 : decode cJ1_charAt_3b067 7 = .ok (.iload_n 1, 1) := by decide +kernel
theorem dJ1_charAt_3b067_8 : decode cJ1_charAt_3b067 8 = .ok (.baload, 1) := by decide +kernel
theorem dJ1_charAt_3b067_9 : decode cJ1_charAt_3b067 9 = .ok (.sipush 255, 3) := by decide +kernel
theorem dJ1_charAt_3b067_12 : decode cJ1_charAt_3b067 12 = .ok (.iand, 1) := by decide +kernel
theorem dJ1_charAt_3b067_13 : decode cJ1_charAt_3b067 13 = .ok (.i2c, 1) := by decide +kernel
theorem dJ1_charAt_3b067_14 : decode cJ1_charAt_3b067 14 = .ok (.ireturn, 1) := by decide +kernel
theorem dJ0_charAt_5068e_0 : decode cJ0_charAt_5068e 0 = .ok (.aload_n 0, 1) := by decide +kernel
theorem dJ0_charAt_5068e_1 : decode cJ0_charAt_5068e 1 = .ok (.invokevirtual 492, 3) := by decide +kernel
theorem dJ0_charAt_5068e_4 : decode cJ0_charAt_5068e 4 = .ok (.ifCond .eq 12, 3) := by decide +kernel
theorem dJ0_charAt_5068e_7 : decode cJ0_charAt_5068e 7 = .ok (.aload_n 0, 1) := by decide +kernel
theorem dJ0_charAt_5068e_8 : decode cJ0_charAt_5068e 8 = .ok (.getfield 9, 3) := by decide +kernel
theorem dJ0_charAt_5068e_11 : decode cJ0_charAt_5068e 11 = .ok (.iload_n 1, 1) := by decide +kernel
theorem dJ0_charAt_5068e_12 : decode cJ0_charAt_5068e 12 = .ok (.invokestatic 495, 3) := by decide +kernel
theorem dJ0_charAt_5068e_15 : decode cJ0_charAt_5068e 15 = .ok (.ireturn, 1) := by decide +kernel
theorem dJ0_charAt_5068e_16 : decode cJ0_charAt_5068e 16 = .ok (.aload_n 0, 1) := by decide +kernel
theorem dJ0_charAt_5068e_17 : decode cJ0_charAt_5068e 17 = .ok (.getfield 9, 3) := by decide +kernel
theorem dJ0_charAt_5068e_20 : decode cJ0_charAt_5068e 20 = .ok (.iload_n 1, 1) := by decide +kernel
theorem dJ7_fill_53178_0 : decode cJ7_fill_53178 0 = .ok (.iconst 0, 1) := by decide +kernel
theorem dJ7_fill_53178_1 : decode cJ7_fill_53178 1 = .ok (.istore_n 2, 1) := by decide +kernel
theorem dJ7_fill_53178_2 : decode cJ7_fill_53178 2 = .ok (.aload_n 0, 1) := by decide +kernel
theorem dJ7_fill_53178_3 : decode cJ7_fill_53178 3 = .ok (.arraylength, 1) := by decide +kernel
theorem dJ7_fill_53178_4 : decode cJ7_fill_53178 4 = .ok (.istore_n 3, 1) := by decide +kernel
theorem dJ7_fill_53178_5 : decode cJ7_fill_53178 5 = .ok (.iload_n 2, 1) := by decide +kernel
theorem dJ7_fill_53178_6 : decode cJ7_fill_53178 6 = .ok (.iload_n 3, 1) := by decide +kernel
theorem dJ7_fill_53178_7 : decode cJ7_fill_53178 7 = .ok (.if_icmp .ge 13, 3) := by decide +kernel
theorem dJ7_fill_53178_10 : decode cJ7_fill_53178 10 = .ok (.aload_n 0, 1) := by decide +kernel
theorem dJ7_fill_53178_11 : decode cJ7_fill_53178 11 = .ok (.iload_n 2, 1) := by decide +kernel
theorem dJ7_fill_53178_12 : decode cJ7_fill_53178 12 = .ok (.iload_n 1, 1) := by decide +kernel
theorem dJ7_fill_53178_13 : decode cJ7_fill_53178 13 = .ok (.iastore, 1) := by decide +kernel
theorem dJ7_fill_53178_14 : decode cJ7_fill_53178 14 = .ok (.iinc 2 1, 3) := by decide +kernel
theorem dJ7_fill_53178_17 : decode cJ7_fill_53178 17 = .ok (.goto (-12), 3) := by decide +kernel
theorem dJ7_fill_53178_20 : decode cJ7_fill_53178 20 = .ok (.return_, 1) := by decide +kernel
theorem dX0_makeCell_0 : decode cX0_makeCell 0 = .ok (.aload_n 0, 1) := by decide +kernel
theorem dX0_makeCell_1 : decode cX0_makeCell 1 = .ok (.getfield 21, 3) := by decide +kernel
theorem dX0_makeCell_4 : decode cX0_makeCell 4 = .ok (.iload_n 1, 1) := by decide +kernel
theorem dX0_makeCell_5 : decode cX0_makeCell 5 = .ok (.iload_n 2, 1) := by decide +kernel
theorem dX0_makeCell_6 : decode cX0_makeCell 6 = .ok (.iastore, 1) := by decide +kernel
theorem dX0_makeCell_7 : decode cX0_makeCell 7 = .ok (.aload_n 0, 1) := by decide +kernel
theorem dX0_makeCell_8 : decode cX0_makeCell 8 = .ok (.getfield 24, 3) := by decide +kernel
theorem dX0_makeCell_11 : decode cX0_makeCell 11 = .ok (.iload_n 1, 1) := by decide +kernel
theorem dX0_makeCell_12 : decode cX0_makeCell 12 = .ok (.iconst 0, 1) := by decide +kernel
theorem dX0_makeCell_13 : decode cX0_makeCell 13 = .ok (.iastore, 1) := by decide +kernel
theorem dX0_makeCell_14 : decode cX0_makeCell 14 = .ok (.aload_n 0, 1) := by decide +kernel
theorem dX0_makeCell_15 : decode cX0_makeCell 15 = .ok (.getfield 27, 3) := by decide +kernel
theorem dX0_makeCell_18 : decode cX0_makeCell 18 = .ok (.iload_n 1, 1) := by decide +kernel
theorem dX0_makeCell_19 : decode cX0_makeCell 19 = .ok (.iconst 0, 1) := by decide +kernel
theorem dX0_makeCell_20 : decode cX0_makeCell 20 = .ok (.iastore, 1) := by decide +kernel
theorem dX0_makeCell_21 : decode cX0_makeCell 21 = .ok (.aload_n 0, 1) := by decide +kernel
theorem dX0_makeCell_22 : decode cX0_makeCell 22 = .ok (.getfield 30, 3) := by decide +kernel
theorem dX0_makeCell_25 : decode cX0_makeCell 25 = .ok (.iload_n 1, 1) := by decide +kernel
theorem dX0_makeCell_26 : decode cX0_makeCell 26 = .ok (.iconst 0, 1) := by decide +kernel
theorem dX0_makeCell_27 : decode cX0_makeCell 27 = .ok (.iastore, 1) := by decide +kernel
theorem dX0_makeCell_28 : decode cX0_makeCell 28 = .ok (.aload_n 0, 1) := by decide +kernel
theorem dX0_makeCell_29 : decode cX0_makeCell 29 = .ok (.getfield 33, 3) := by decide +kernel
theorem dX0_makeCell_32 : decode cX0_makeCell 32 = .ok (.iload_n 1, 1) := by decide +kernel
theorem dX0_makeCell_33 : decode cX0_makeCell 33 = .ok (.iconst 0, 1) := by decide +kernel
theorem dX0_makeCell_34 : decode cX0_makeCell 34 = .ok (.iastore, 1) := by decide +kernel
theorem dX0_makeCell_35 : decode cX0_makeCell 35 = .ok (.aload_n 0, 1) := by decide +kernel
theorem dX0_makeCell_36 : decode cX0_makeCell 36 = .ok (.getfield 36, 3) := by decide +kernel
theorem dX0_makeCell_39 : decode cX0_makeCell 39 = .ok (.iload_n 1, 1) := by decide +kernel
theorem dX0_makeCell_40 : decode cX0_makeCell 40 = .ok (.iconst 0, 1) := by decide +kernel
theorem dX0_makeCell_41 : decode cX0_makeCell 41 = .ok (.iastore, 1) := by decide +kernel
theorem dX0_makeCell_42 : decode cX0_makeCell 42 = .ok (.aload_n 0, 1) := by decide +kernel
theorem dX0_makeCell_43 : decode cX0_makeCell 43 = .ok (.getfield 39, 3) := by decide +kernel
theorem dX0_makeCell_46 : decode cX0_makeCell 46 = .ok (.iload_n 1, 1) := by decide +kernel
theorem dX0_makeCell_47 : decode cX0_makeCell 47 = .ok (.iconst 0, 1) := by decide +kernel
theorem dX0_makeCell_48 : decode cX0_makeCell 48 = .ok (.iastore, 1) := by decide +kernel
theorem dX0_makeCell_49 : decode cX0_makeCell 49 = .ok (.aload_n 0, 1) := by decide +kernel
theorem dX0_makeCell_50 : decode cX0_makeCell 50 = .ok (.getfield 42, 3) := by decide +kernel
theorem dX0_makeCell_53 : decode cX0_makeCell 53 = .ok (.iload_n 1, 1) := by decide +kernel
theorem dX0_makeCell_54 : decode cX0_makeCell 54 = .ok (.lconst 0, 1) := by decide +kernel
theorem dX0_makeCell_55 : decode cX0_makeCell 55 = .ok (.lastore, 1) := by decide +kernel
theorem dX0_makeCell_56 : decode cX0_makeCell 56 = .ok (.return_, 1) := by decide +kernel
theorem dX0_clear_0 : decode cX0_clear 0 = .ok (.aload_n 0, 1) := by decide +kernel
theorem dX0_clear_1 : decode cX0_clear 1 = .ok (.iconst 0, 1) := by decide +kernel
theorem dX0_clear_2 : decode cX0_clear 2 = .ok (.putfield 49, 3) := by decide +kernel
theorem dX0_clear_5 : decode cX0_clear 5 = .ok (.aload_n 0, 1) := by decide +kernel
theorem dX0_clear_6 : decode cX0_clear 6 = .ok (.iconst 0, 1) := by decide +kernel
theorem dX0_clear_7 : decode cX0_clear 7 = .ok (.putfield 53, 3) := by decide +kernel
theorem dX0_clear_10 : decode cX0_clear 10 = .ok (.aload_n 0, 1) := by decide +kernel
theorem dX0_clear_11 : decode cX0_clear 11 = .ok (.iconst 0, 1) := by decide +kernel
theorem dX0_clear_12 : decode cX0_clear 12 = .ok (.putfield 56, 3) := by decide +kernel
theorem dX0_clear_15 : decode cX0_clear 15 = .ok (.aload_n 0, 1) := by decide +kernel
theorem dX0_clear_16 : decode cX0_clear 16 = .ok (.iconst 0, 1) := by decide +kernel
theorem dX0_clear_17 : decode cX0_clear 17 = .ok (.putfield 59, 3) := by decide +kernel
theorem dX0_clear_20 : decode cX0_clear 20 = .ok (.aload_n 0, 1) := by decide +kernel
theorem dX0_clear_21 : decode cX0_clear 21 = .ok (.iconst 0, 1) := by decide +kernel
theorem dX0_clear_22 : decode cX0_clear 22 = .ok (.putfield 62, 3) := by decide +kernel
theorem dX0_clear_25 : decode cX0_clear 25 = .ok (.aload_n 0, 1) := by decide +kernel
theorem dX0_clear_26 : decode cX0_clear 26 = .ok (.iconst 0, 1) := by decide +kernel
theorem dX0_clear_27 : decode cX0_clear 27 = .ok (.putfield 65, 3) := by decide +kernel
theorem dX0_clear_30 : decode cX0_clear 30 = .ok (.iconst 0, 1) := by decide +kernel
theorem dX0_clear_31 : decode cX0_clear 31 = .ok (.istore_n 1, 1) := by decide +kernel
theorem dX0_clear_32 : decode cX0_clear 32 = .ok (.iload_n 1, 1) := by decide +kernel
theorem dX0_clear_33 : decode cX0_clear 33 = .ok (.bipush 40, 2) := by decide +kernel
theorem dX0_clear_35 : decode cX0_clear 35 = .ok (.if_icmp .ge 15, 3) := by decide +kernel
theorem dX0_clear_38 : decode cX0_clear 38 = .ok (.aload_n 0, 1) := by decide +kernel
theorem dX0_clear_39 : decode cX0_clear 39 = .ok (.iload_n 1, 1) := by decide +kernel
theorem dX0_clear_40 : decode cX0_clear 40 = .ok (.iconst 0, 1) := by decide +kernel
theorem dX0_clear_41 : decode cX0_clear 41 = .ok (.invokevirtual 68, 3) := by decide +kernel
theorem dX0_clear_44 : decode cX0_clear 44 = .ok (.iinc 1 1, 3) := by decide +kernel
theorem dX0_clear_47 : decode cX0_clear 47 = .ok (.goto (-15), 3) := by decide +kernel
theorem dX0_clear_50 : decode cX0_clear 50 = .ok (.return_, 1) := by decide +kernel
theorem dX0_cells_0 : decode cX0_cells 0 = .ok (.aload_n 0, 1) := by decide +kernel
theorem dX0_cells_1 : decode cX0_cells 1 = .ok (.getfield 49, 3) := by decide +kernel
theorem dX0_cells_4 : decode cX0_cells 4 = .ok (.aload_n 0, 1) := by decide +kernel
theorem dX0_cells_5 : decode cX0_cells 5 = .ok (.getfield 53, 3) := by decide +kernel
theorem dX0_cells_8 : decode cX0_cells 8 = .ok (.imul, 1) := by decide +kernel
theorem dX0_cells_9 : decode cX0_cells 9 = .ok (.ireturn, 1) := by decide +kernel
theorem dX0_hasCell_0 : decode cX0_hasCell 0 = .ok (.iload_n 1, 1) := by decide +kernel
theorem dX0_hasCell_1 : decode cX0_hasCell 1 = .ok (.ifCond .lt 15, 3) := by decide +kernel
theorem dX0_hasCell_4 : decode cX0_hasCell 4 = .ok (.iload_n 1, 1) := by decide +kernel
theorem dX0_hasCell_5 : decode cX0_hasCell 5 = .ok (.aload_n 0, 1) := by decide +kernel
theorem dX0_hasCell_6 : decode cX0_hasCell 6 = .ok (.invokevirtual 102, 3) := by decide +kernel
theorem dX0_hasCell_9 : decode cX0_hasCell 9 = .ok (.if_icmp .ge 7, 3) := by decide +kernel
theorem dX0_hasCell_12 : decode cX0_hasCell 12 = .ok (.iconst 1, 1) := by decide +kernel
theorem dX0_hasCell_13 : decode cX0_hasCell 13 = .ok (.goto 4, 3) := by decide +kernel
theorem dX0_hasCell_16 : decode cX0_hasCell 16 = .ok (.iconst 0, 1) := by decide +kernel
theorem dX0_hasCell_17 : decode cX0_hasCell 17 = .ok (.ireturn, 1) := by decide +kernel
theorem dX0_setLost_0 : decode cX0_setLost 0 = .ok (.aload_n 0, 1) := by decide +kernel
theorem dX0_setLost_1 : decode cX0_setLost 1 = .ok (.iload_n 1, 1) := by decide +kernel
theorem dX0_setLost_2 : decode cX0_setLost 2 = .ok (.invokevirtual 72, 3) := by decide +kernel
theorem dX0_setLost_5 : decode cX0_setLost 5 = .ok (.ifCond .eq 10, 3) := by decide +kernel
theorem dX0_setLost_8 : decode cX0_setLost 8 = .ok (.aload_n 0, 1) := by decide +kernel
theorem dX0_setLost_9 : decode cX0_setLost 9 = .ok (.getfield 33, 3) := by decide +kernel
theorem dX0_setLost_12 : decode cX0_setLost 12 = .ok (.iload_n 1, 1) := by decide +kernel
theorem dX0_setLost_13 : decode cX0_setLost 13 = .ok (.iload_n 2, 1) := by decide +kernel
theorem dX0_setLost_14 : decode cX0_setLost 14 = .ok (.iastore, 1) := by decide +kernel
theorem dX0_setLost_15 : decode cX0_setLost 15 = .ok (.return_, 1) := by decide +kernel
theorem dX5_byteAt_0 : decode cX5_byteAt 0 = .ok (.iload_n 1, 1) := by decide +kernel
theorem dX5_byteAt_1 : decode cX5_byteAt 1 = .ok (.ifCond .lt 20, 3) := by decide +kernel
theorem dX5_byteAt_4 : decode cX5_byteAt 4 = .ok (.iload_n 1, 1) := by decide +kernel
theorem dX5_byteAt_5 : decode cX5_byteAt 5 = .ok (.aload_n 0, 1) := by decide +kernel
theorem dX5_byteAt_6 : decode cX5_byteAt 6 = .ok (.getfield 15, 3) := by decide +kernel
theorem dX5_byteAt_9 : decode cX5_byteAt 9 = .ok (.if_icmp .ge 12, 3) := by decide +kernel
theorem dX5_byteAt_12 : decode cX5_byteAt 12 = .ok (.aload_n 0, 1) := by decide +kernel
theorem dX5_byteAt_13 : decode cX5_byteAt 13 = .ok (.getfield 9, 3) := by decide +kernel
theorem dX5_byteAt_16 : decode cX5_byteAt 16 = .ok (.iload_n 1, 1) := by decide +kernel
theorem dX5_byteAt_17 : decode cX5_byteAt 17 = .ok (.iaload, 1) := by decide +kernel
theorem dX5_byteAt_18 : decode cX5_byteAt 18 = .ok (.goto 4, 3) := by decide +kernel
theorem dX5_byteAt_21 : decode cX5_byteAt 21 = .ok (.iconst (-1), 1) := by decide +kernel
theorem dX5_byteAt_22 : decode cX5_byteAt 22 = .ok (.ireturn, 1) := by decide +kernel
theorem dX0_addDrum_0 : decode cX0_addDrum 0 = .ok (.aload_n 0, 1) := by decide +kernel
theorem dX0_addDrum_1 : decode cX0_addDrum 1 = .ok (.getfield 59, 3) := by decide +kernel
theorem dX0_addDrum_4 : decode cX0_addDrum 4 = .ok (.iconst 4, 1) := by decide +kernel
theorem dX0_addDrum_5 : decode cX0_addDrum 5 = .ok (.if_icmp .ge 10, 3) := by decide +kernel
theorem dX0_addDrum_8 : decode cX0_addDrum 8 = .ok (.iload 4, 2) := by decide +kernel
theorem dX0_addDrum_10 : decode cX0_addDrum 10 = .ok (.bipush 40, 2) := by decide +kernel
theorem dX0_addDrum_12 : decode cX0_addDrum 12 = .ok (.if_icmp .le 4, 3) := by decide +kernel
theorem dX0_addDrum_15 : decode cX0_addDrum 15 = .ok (.return_, 1) := by decide +kernel
theorem dX0_addDrum_16 : decode cX0_addDrum 16 = .ok (.aload_n 0, 1) := by decide +kernel
theorem dX0_addDrum_17 : decode cX0_addDrum 17 = .ok (.getfield 9, 3) := by decide +kernel
theorem dX0_addDrum_20 : decode cX0_addDrum 20 = .ok (.aload_n 0, 1) := by decide +kernel
theorem dX0_addDrum_21 : decode cX0_addDrum 21 = .ok (.getfield 59, 3) := by decide +kernel
theorem dX0_addDrum_24 : decode cX0_addDrum 24 = .ok (.iload_n 1, 1) := by decide +kernel
theorem dX0_addDrum_25 : decode cX0_addDrum 25 = .ok (.iastore, 1) := by decide +kernel
theorem dX0_addDrum_26 : decode cX0_addDrum 26 = .ok (.aload_n 0, 1) := by decide +kernel
theorem dX0_addDrum_27 : decode cX0_addDrum 27 = .ok (.getfield 15, 3) := by decide +kernel
theorem dX0_addDrum_30 : decode cX0_addDrum 30 = .ok (.aload_n 0, 1) := by decide +kernel
theorem dX0_addDrum_31 : decode cX0_addDrum 31 = .ok (.getfield 59, 3) := by decide +kernel
theorem dX0_addDrum_34 : decode cX0_addDrum 34 = .ok (.iload 4, 2) := by decide +kernel
theorem dX0_addDrum_36 : decode cX0_addDrum 36 = .ok (.iastore, 1) := by decide +kernel
theorem dX0_addDrum_37 : decode cX0_addDrum 37 = .ok (.iconst 0, 1) := by decide +kernel
theorem dX0_addDrum_38 : decode cX0_addDrum 38 = .ok (.istore 5, 2) := by decide +kernel
theorem dX0_addDrum_40 : decode cX0_addDrum 40 = .ok (.iload 5, 2) := by decide +kernel
theorem dX0_addDrum_42 : decode cX0_addDrum 42 = .ok (.iload 4, 2) := by decide +kernel
theorem dX0_addDrum_44 : decode cX0_addDrum 44 = .ok (.if_icmp .ge 32, 3) := by decide +kernel
theorem dX0_addDrum_47 : decode cX0_addDrum 47 = .ok (.aload_n 0, 1) := by decide +kernel
theorem dX0_addDrum_48 : decode cX0_addDrum 48 = .ok (.getfield 18, 3) := by decide +kernel
theorem dX0_addDrum_51 : decode cX0_addDrum 51 = .ok (.aload_n 0, 1) := by decide +kernel
theorem dX0_addDrum_52 : decode cX0_addDrum 52 = .ok (.getfield 59, 3) := by decide +kernel
theorem dX0_addDrum_55 : decode cX0_addDrum 55 = .ok (.bipush 40, 2) := by decide +kernel
theorem dX0_addDrum_57 : decode cX0_addDrum 57 = .ok (.imul, 1) := by decide +kernel
theorem dX0_addDrum_58 : decode cX0_addDrum 58 = .ok (.iload 5, 2) := by decide +kernel
theorem dX0_addDrum_60 : decode cX0_addDrum 60 = .ok (.iadd, 1) := by decide +kernel
theorem dX0_addDrum_61 : decode cX0_addDrum 61 = .ok (.aload_n 2, 1) := by decide +kernel
theorem dX0_addDrum_62 : decode cX0_addDrum 62 = .ok (.iload_n 3, 1) := by decide +kernel
theorem dX0_addDrum_63 : decode cX0_addDrum 63 = .ok (.iload 5, 2) := by decide +kernel
theorem dX0_addDrum_65 : decode cX0_addDrum 65 = .ok (.iadd, 1) := by decide +kernel
theorem dX0_addDrum_66 : decode cX0_addDrum 66 = .ok (.invokevirtual 76, 3) := by decide +kernel
theorem dX0_addDrum_69 : decode cX0_addDrum 69 = .ok (.iastore, 1) := by decide +kernel
theorem dX0_addDrum_70 : decode cX0_addDrum 70 = .ok (.iinc 5 1, 3) := by decide +kernel
theorem dX0_addDrum_73 : decode cX0_addDrum 73 = .ok (.goto (-33), 3) := by decide +kernel
theorem dX0_addDrum_76 : decode cX0_addDrum 76 = .ok (.aload_n 0, 1) := by decide +kernel
theorem dX0_addDrum_77 : decode cX0_addDrum 77 = .ok (.dup, 1) := by decide +kernel
theorem dX0_addDrum_78 : decode cX0_addDrum 78 = .ok (.getfield 59, 3) := by decide +kernel
theorem dX0_addDrum_81 : decode cX0_addDrum 81 = .ok (.iconst 1, 1) := by decide +kernel
theorem dX0_addDrum_82 : decode cX0_addDrum 82 = .ok (.iadd, 1) := by decide +kernel
theorem dX0_addDrum_83 : decode cX0_addDrum 83 = .ok (.putfield 59, 3) := by decide +kernel
theorem dX0_addDrum_86 : decode cX0_addDrum 86 = .ok (.return_, 1) := by decide +kernel
theorem dX0_copyAllButLog_0 : decode cX0_copyAllButLog 0 = .ok (.aload_n 0, 1) := by decide +kernel
theorem dX0_copyAllButLog_1 : decode cX0_copyAllButLog 1 = .ok (.aload_n 1, 1) := by decide +kernel
theorem dX0_copyAllButLog_2 : decode cX0_copyAllButLog 2 = .ok (.getfield 49, 3) := by decide +kernel
theorem dX0_copyAllButLog_5 : decode cX0_copyAllButLog 5 = .ok (.putfield 49, 3) := by decide +kernel
theorem dX0_copyAllButLog_8 : decode cX0_copyAllButLog 8 = .ok (.aload_n 0, 1) := by decide +kernel
theorem dX0_copyAllButLog_9 : decode cX0_copyAllButLog 9 = .ok (.aload_n 1, 1) := by decide +kernel
theorem dX0_copyAllButLog_10 : decode cX0_copyAllButLog 10 = .ok (.getfield 53, 3) := by decide +kernel
theorem dX0_copyAllButLog_13 : decode cX0_copyAllButLog 13 = .ok (.putfield 53, 3) := by decide +kernel
theorem dX0_copyAllButLog_16 : decode cX0_copyAllButLog 16 = .ok (.aload_n 0, 1) := by decide +kernel
theorem dX0_copyAllButLog_17 : decode cX0_copyAllButLog 17 = .ok (.aload_n 1, 1) := by decide +kernel
theorem dX0_copyAllButLog_18 : decode cX0_copyAllButLog 18 = .ok (.getfield 56, 3) := by decide +kernel
theorem dX0_copyAllButLog_21 : decode cX0_copyAllButLog 21 = .ok (.putfield 56, 3) := by decide +kernel
theorem dX0_copyAllButLog_24 : decode cX0_copyAllButLog 24 = .ok (.aload_n 0, 1) := by decide +kernel
theorem dX0_copyAllButLog_25 : decode cX0_copyAllButLog 25 = .ok (.aload_n 1, 1) := by decide +kernel
theorem dX0_copyAllButLog_26 : decode cX0_copyAllButLog 26 = .ok (.getfield 59, 3) := by decide +kernel
theorem dX0_copyAllButLog_29 : decode cX0_copyAllButLog 29 = .ok (.putfield 59, 3) := by decide +kernel
theorem dX0_copyAllButLog_32 : decode cX0_copyAllButLog 32 = .ok (.aload_n 0, 1) := by decide +kernel
theorem dX0_copyAllButLog_33 : decode cX0_copyAllButLog 33 = .ok (.aload_n 1, 1) := by decide +kernel
theorem dX0_copyAllButLog_34 : decode cX0_copyAllButLog 34 = .ok (.getfield 62, 3) := by decide +kernel
theorem dX0_copyAllButLog_37 : decode cX0_copyAllButLog 37 = .ok (.putfield 62, 3) := by decide +kernel
theorem dX0_copyAllButLog_40 : decode cX0_copyAllButLog 40 = .ok (.aload_n 0, 1) := by decide +kernel
theorem dX0_copyAllButLog_41 : decode cX0_copyAllButLog 41 = .ok (.aload_n 1, 1) := by decide +kernel
theorem dX0_copyAllButLog_42 : decode cX0_copyAllButLog 42 = .ok (.getfield 65, 3) := by decide +kernel
theorem dX0_copyAllButLog_45 : decode cX0_copyAllButLog 45 = .ok (.putfield 65, 3) := by decide +kernel
theorem dX0_copyAllButLog_48 : decode cX0_copyAllButLog 48 = .ok (.aload_n 1, 1) := by decide +kernel
theorem dX0_copyAllButLog_49 : decode cX0_copyAllButLog 49 = .ok (.getfield 9, 3) := by decide +kernel
theorem dX0_copyAllButLog_52 : decode cX0_copyAllButLog 52 = .ok (.iconst 0, 1) := by decide +kernel
theorem dX0_copyAllButLog_53 : decode cX0_copyAllButLog 53 = .ok (.aload_n 0, 1) := by decide +kernel
theorem dX0_copyAllButLog_54 : decode cX0_copyAllButLog 54 = .ok (.getfield 9, 3) := by decide +kernel
theorem dX0_copyAllButLog_57 : decode cX0_copyAllButLog 57 = .ok (.iconst 0, 1) := by decide +kernel
theorem dX0_copyAllButLog_58 : decode cX0_copyAllButLog 58 = .ok (.iconst 4, 1) := by decide +kernel
theorem dX0_copyAllButLog_59 : decode cX0_copyAllButLog 59 = .ok (.invokestatic 96, 3) := by decide +kernel
theorem dX0_copyAllButLog_62 : decode cX0_copyAllButLog 62 = .ok (.aload_n 1, 1) := by decide +kernel
theorem dX0_copyAllButLog_63 : decode cX0_copyAllButLog 63 = .ok (.getfield 15, 3) := by decide +kernel
theorem dX0_copyAllButLog_66 : decode cX0_copyAllButLog 66 = .ok (.iconst 0, 1) := by decide +kernel
theorem dX0_copyAllButLog_67 : decode cX0_copyAllButLog 67 = .ok (.aload_n 0, 1) := by decide +kernel
theorem dX0_copyAllButLog_68 : decode cX0_copyAllButLog 68 = .ok (.getfield 15, 3) := by decide +kernel
theorem dX0_copyAllButLog_71 : decode cX0_copyAllButLog 71 = .ok (.iconst 0, 1) := by decide +kernel
theorem dX0_copyAllButLog_72 : decode cX0_copyAllButLog 72 = .ok (.iconst 4, 1) := by decide +kernel
theorem dX0_copyAllButLog_73 : decode cX0_copyAllButLog 73 = .ok (.invokestatic 96, 3) := by decide +kernel
theorem dX0_copyAllButLog_76 : decode cX0_copyAllButLog 76 = .ok (.aload_n 1, 1) := by decide +kernel
theorem dX0_copyAllButLog_77 : decode cX0_copyAllButLog 77 = .ok (.getfield 18, 3) := by decide +kernel
theorem dX0_copyAllButLog_80 : decode cX0_copyAllButLog 80 = .ok (.iconst 0, 1) := by decide +kernel
theorem dX0_copyAllButLog_81 : decode cX0_copyAllButLog 81 = .ok (.aload_n 0, 1) := by decide +kernel
theorem dX0_copyAllButLog_82 : decode cX0_copyAllButLog 82 = .ok (.getfield 18, 3) := by decide +kernel
theorem dX0_copyAllButLog_85 : decode cX0_copyAllButLog 85 = .ok (.iconst 0, 1) := by decide +kernel
theorem dX0_copyAllButLog_86 : decode cX0_copyAllButLog 86 = .ok (.sipush 160, 3) := by decide +kernel
theorem dX0_copyAllButLog_89 : decode cX0_copyAllButLog 89 = .ok (.invokestatic 96, 3) := by decide +kernel
theorem dX0_copyAllButLog_92 : decode cX0_copyAllButLog 92 = .ok (.aload_n 1, 1) := by decide +kernel
theorem dX0_copyAllButLog_93 : decode cX0_copyAllButLog 93 = .ok (.invokevirtual 102, 3) := by decide +kernel
theorem dX0_copyAllButLog_96 : decode cX0_copyAllButLog 96 = .ok (.istore_n 2, 1) := by decide +kernel
theorem dX0_copyAllButLog_97 : decode cX0_copyAllButLog 97 = .ok (.aload_n 1, 1) := by decide +kernel
theorem dX0_copyAllButLog_98 : decode cX0_copyAllButLog 98 = .ok (.getfield 21, 3) := by decide +kernel
theorem dX0_copyAllButLog_101 : decode cX0_copyAllButLog 101 = .ok (.iconst 0, 1) := by decide +kernel
theorem dX0_copyAllButLog_102 : decode cX0_copyAllButLog 102 = .ok (.aload_n 0, 1) := by decide +kernel
theorem dX0_copyAllButLog_103 : decode cX0_copyAllButLog 103 = .ok (.getfield 21, 3) := by decide +kernel
theorem dX0_copyAllButLog_106 : decode cX0_copyAllButLog 106 = .ok (.iconst 0, 1) := by decide +kernel
theorem dX0_copyAllButLog_107 : decode cX0_copyAllButLog 107 = .ok (.iload_n 2, 1) := by decide +kernel
theorem dX0_copyAllButLog_108 : decode cX0_copyAllButLog 108 = .ok (.invokestatic 96, 3) := by decide +kernel
theorem dX0_copyAllButLog_111 : decode cX0_copyAllButLog 111 = .ok (.aload_n 1, 1) := by decide +kernel
theorem dX0_copyAllButLog_112 : decode cX0_copyAllButLog 112 = .ok (.getfield 24, 3) := by decide +kernel
theorem dX0_copyAllButLog_115 : decode cX0_copyAllButLog 115 = .ok (.iconst 0, 1) := by decide +kernel
theorem dX0_copyAllButLog_116 : decode cX0_copyAllButLog 116 = .ok (.aload_n 0, 1) := by decide +kernel
theorem dX0_copyAllButLog_117 : decode cX0_copyAllButLog 117 = .ok (.getfield 24, 3) := by decide +kernel
theorem dX0_copyAllButLog_120 : decode cX0_copyAllButLog 120 = .ok (.iconst 0, 1) := by decide +kernel
theorem dX0_copyAllButLog_121 : decode cX0_copyAllButLog 121 = .ok (.iload_n 2, 1) := by decide +kernel
theorem dX0_copyAllButLog_122 : decode cX0_copyAllButLog 122 = .ok (.invokestatic 96, 3) := by decide +kernel
theorem dX0_copyAllButLog_125 : decode cX0_copyAllButLog 125 = .ok (.aload_n 1, 1) := by decide +kernel
theorem dX0_copyAllButLog_126 : decode cX0_copyAllButLog 126 = .ok (.getfield 27, 3) := by decide +kernel
theorem dX0_copyAllButLog_129 : decode cX0_copyAllButLog 129 = .ok (.iconst 0, 1) := by decide +kernel
theorem dX0_copyAllButLog_130 : decode cX0_copyAllButLog 130 = .ok (.aload_n 0, 1) := by decide +kernel
theorem dX0_copyAllButLog_131 : decode cX0_copyAllButLog 131 = .ok (.getfield 27, 3) := by decide +kernel
theorem dX0_copyAllButLog_134 : decode cX0_copyAllButLog 134 = .ok (.iconst 0, 1) := by decide +kernel
theorem dX0_copyAllButLog_135 : decode cX0_copyAllButLog 135 = .ok (.iload_n 2, 1) := by decide +kernel
theorem dX0_copyAllButLog_136 : decode cX0_copyAllButLog 136 = .ok (.invokestatic 96, 3) := by decide +kernel
theorem dX0_copyAllButLog_139 : decode cX0_copyAllButLog 139 = .ok (.aload_n 1, 1) := by decide +kernel
theorem dX0_copyAllButLog_140 : decode cX0_copyAllButLog 140 = .ok (.getfield 30, 3) := by decide +kernel
theorem dX0_copyAllButLog_143 : decode cX0_copyAllButLog 143 = .ok (.iconst 0, 1) := by decide +kernel
theorem dX0_copyAllButLog_144 : decode cX0_copyAllButLog 144 = .ok (.aload_n 0, 1) := by decide +kernel
theorem dX0_copyAllButLog_145 : decode cX0_copyAllButLog 145 = .ok (.getfield 30, 3) := by decide +kernel
theorem dX0_copyAllButLog_148 : decode cX0_copyAllButLog 148 = .ok (.iconst 0, 1) := by decide +kernel
theorem dX0_copyAllButLog_149 : decode cX0_copyAllButLog 149 = .ok (.iload_n 2, 1) := by decide +kernel
theorem dX0_copyAllButLog_150 : decode cX0_copyAllButLog 150 = .ok (.invokestatic 96, 3) := by decide +kernel
theorem dX0_copyAllButLog_153 : decode cX0_copyAllButLog 153 = .ok (.aload_n 1, 1) := by decide +kernel
theorem dX0_copyAllButLog_154 : decode cX0_copyAllButLog 154 = .ok (.getfield 33, 3) := by decide +kernel
theorem dX0_copyAllButLog_157 : decode cX0_copyAllButLog 157 = .ok (.iconst 0, 1) := by decide +kernel
theorem dX0_copyAllButLog_158 : decode cX0_copyAllButLog 158 = .ok (.aload_n 0, 1) := by decide +kernel
theorem dX0_copyAllButLog_159 : decode cX0_copyAllButLog 159 = .ok (.getfield 33, 3) := by decide +kernel
theorem dX0_copyAllButLog_162 : decode cX0_copyAllButLog 162 = .ok (.iconst 0, 1) := by decide +kernel
theorem dX0_copyAllButLog_163 : decode cX0_copyAllButLog 163 = .ok (.iload_n 2, 1) := by decide +kernel
theorem dX0_copyAllButLog_164 : decode cX0_copyAllButLog 164 = .ok (.invokestatic 96, 3) := by decide +kernel
theorem dX0_copyAllButLog_167 : decode cX0_copyAllButLog 167 = .ok (.aload_n 1, 1) := by decide +kernel
theorem dX0_copyAllButLog_168 : decode cX0_copyAllButLog 168 = .ok (.getfield 36, 3) := by decide +kernel
theorem dX0_copyAllButLog_171 : decode cX0_copyAllButLog 171 = .ok (.iconst 0, 1) := by decide +kernel
theorem dX0_copyAllButLog_172 : decode cX0_copyAllButLog 172 = .ok (.aload_n 0, 1) := by decide +kernel
theorem dX0_copyAllButLog_173 : decode cX0_copyAllButLog 173 = .ok (.getfield 36, 3) := by decide +kernel
theorem dX0_copyAllButLog_176 : decode cX0_copyAllButLog 176 = .ok (.iconst 0, 1) := by decide +kernel
theorem dX0_copyAllButLog_177 : decode cX0_copyAllButLog 177 = .ok (.iload_n 2, 1) := by decide +kernel
theorem dX0_copyAllButLog_178 : decode cX0_copyAllButLog 178 = .ok (.invokestatic 96, 3) := by decide +kernel
theorem dX0_copyAllButLog_181 : decode cX0_copyAllButLog 181 = .ok (.aload_n 1, 1) := by decide +kernel
theorem dX0_copyAllButLog_182 : decode cX0_copyAllButLog 182 = .ok (.getfield 39, 3) := by decide +kernel
theorem dX0_copyAllButLog_185 : decode cX0_copyAllButLog 185 = .ok (.iconst 0, 1) := by decide +kernel
theorem dX0_copyAllButLog_186 : decode cX0_copyAllButLog 186 = .ok (.aload_n 0, 1) := by decide +kernel
theorem dX0_copyAllButLog_187 : decode cX0_copyAllButLog 187 = .ok (.getfield 39, 3) := by decide +kernel
theorem dX0_copyAllButLog_190 : decode cX0_copyAllButLog 190 = .ok (.iconst 0, 1) := by decide +kernel
theorem dX0_copyAllButLog_191 : decode cX0_copyAllButLog 191 = .ok (.iload_n 2, 1) := by decide +kernel
theorem dX0_copyAllButLog_192 : decode cX0_copyAllButLog 192 = .ok (.invokestatic 96, 3) := by decide +kernel
theorem dX0_copyAllButLog_195 : decode cX0_copyAllButLog 195 = .ok (.aload_n 1, 1) := by decide +kernel
theorem dX0_copyAllButLog_196 : decode cX0_copyAllButLog 196 = .ok (.getfield 42, 3) := by decide +kernel
theorem dX0_copyAllButLog_199 : decode cX0_copyAllButLog 199 = .ok (.iconst 0, 1) := by decide +kernel
theorem dX0_copyAllButLog_200 : decode cX0_copyAllButLog 200 = .ok (.aload_n 0, 1) := by decide +kernel
theorem dX0_copyAllButLog_201 : decode cX0_copyAllButLog 201 = .ok (.getfield 42, 3) := by decide +kernel
theorem dX0_copyAllButLog_204 : decode cX0_copyAllButLog 204 = .ok (.iconst 0, 1) := by decide +kernel
theorem dX0_copyAllButLog_205 : decode cX0_copyAllButLog 205 = .ok (.iload_n 2, 1) := by decide +kernel
theorem dX0_copyAllButLog_206 : decode cX0_copyAllButLog 206 = .ok (.invokestatic 96, 3) := by decide +kernel
theorem dX0_copyAllButLog_209 : decode cX0_copyAllButLog 209 = .ok (.return_, 1) := by decide +kernel
theorem dX0_entryStart_0 : decode cX0_entryStart 0 = .ok (.iconst 0, 1) := by decide +kernel
theorem dX0_entryStart_1 : decode cX0_entryStart 1 = .ok (.istore_n 2, 1) := by decide +kernel
theorem dX0_entryStart_2 : decode cX0_entryStart 2 = .ok (.iconst 0, 1) := by decide +kernel
theorem dX0_entryStart_3 : decode cX0_entryStart 3 = .ok (.istore_n 3, 1) := by decide +kernel
theorem dX0_entryStart_4 : decode cX0_entryStart 4 = .ok (.iload_n 3, 1) := by decide +kernel
theorem dX0_entryStart_5 : decode cX0_entryStart 5 = .ok (.iload_n 1, 1) := by decide +kernel
theorem dX0_entryStart_6 : decode cX0_entryStart 6 = .ok (.if_icmp .ge 33, 3) := by decide +kernel
theorem dX0_entryStart_9 : decode cX0_entryStart 9 = .ok (.iload_n 3, 1) := by decide +kernel
theorem dX0_entryStart_10 : decode cX0_entryStart 10 = .ok (.aload_n 0, 1) := by decide +kernel
theorem dX0_entryStart_11 : decode cX0_entryStart 11 = .ok (.getfield 59, 3) := by decide +kernel
theorem dX0_entryStart_14 : decode cX0_entryStart 14 = .ok (.if_icmp .ge 25, 3) := by decide +kernel
theorem dX0_entryStart_17 : decode cX0_entryStart 17 = .ok (.iload_n 2, 1) := by decide +kernel
theorem dX0_entryStart_18 : decode cX0_entryStart 18 = .ok (.aload_n 0, 1) := by decide +kernel
theorem dX0_entryStart_19 : decode cX0_entryStart 19 = .ok (.getfield 15, 3) := by decide +kernel
theorem dX0_entryStart_22 : decode cX0_entryStart 22 = .ok (.iload_n 3, 1) := by decide +kernel
theorem dX0_entryStart_23 : decode cX0_entryStart 23 = .ok (.iaload, 1) := by decide +kernel
theorem dX0_entryStart_24 : decode cX0_entryStart 24 = .ok (.aload_n 0, 1) := by decide +kernel
theorem dX0_entryStart_25 : decode cX0_entryStart 25 = .ok (.getfield 15, 3) := by decide +kernel
theorem dX0_entryStart_28 : decode cX0_entryStart 28 = .ok (.iload_n 3, 1) := by decide +kernel
theorem dX0_entryStart_29 : decode cX0_entryStart 29 = .ok (.iaload, 1) := by decide +kernel
theorem dX0_entryStart_30 : decode cX0_entryStart 30 = .ok (.imul, 1) := by decide +kernel
theorem dX0_entryStart_31 : decode cX0_entryStart 31 = .ok (.iadd, 1) := by decide +kernel
theorem dX0_entryStart_32 : decode cX0_entryStart 32 = .ok (.istore_n 2, 1) := by decide +kernel
theorem dX0_entryStart_33 : decode cX0_entryStart 33 = .ok (.iinc 3 1, 3) := by decide +kernel
theorem dX0_entryStart_36 : decode cX0_entryStart 36 = .ok (.goto (-32), 3) := by decide +kernel
theorem dX0_entryStart_39 : decode cX0_entryStart 39 = .ok (.iload_n 2, 1) := by decide +kernel
theorem dX0_entryStart_40 : decode cX0_entryStart 40 = .ok (.ireturn, 1) := by decide +kernel
theorem dX0_entryCount_0 : decode cX0_entryCount 0 = .ok (.aload_n 0, 1) := by decide +kernel
theorem dX0_entryCount_1 : decode cX0_entryCount 1 = .ok (.aload_n 0, 1) := by decide +kernel
theorem dX0_entryCount_2 : decode cX0_entryCount 2 = .ok (.getfield 59, 3) := by decide +kernel
theorem dX0_entryCount_5 : decode cX0_entryCount 5 = .ok (.invokevirtual 171, 3) := by decide +kernel
theorem dX0_entryCount_8 : decode cX0_entryCount 8 = .ok (.ireturn, 1) := by decide +kernel
theorem dX0_copyAll_0 : decode cX0_copyAll 0 = .ok (.aload_n 0, 1) := by decide +kernel
theorem dX0_copyAll_1 : decode cX0_copyAll 1 = .ok (.aload_n 1, 1) := by decide +kernel
theorem dX0_copyAll_2 : decode cX0_copyAll 2 = .ok (.invokevirtual 82, 3) := by decide +kernel
theorem dX0_copyAll_5 : decode cX0_copyAll 5 = .ok (.aload_n 1, 1) := by decide +kernel
theorem dX0_copyAll_6 : decode cX0_copyAll 6 = .ok (.invokevirtual 86, 3) := by decide +kernel
theorem dX0_copyAll_9 : decode cX0_copyAll 9 = .ok (.istore_n 2, 1) := by decide +kernel
theorem dX0_copyAll_10 : decode cX0_copyAll 10 = .ok (.aload_n 0, 1) := by decide +kernel
theorem dX0_copyAll_11 : decode cX0_copyAll 11 = .ok (.getfield 46, 3) := by decide +kernel
theorem dX0_copyAll_14 : decode cX0_copyAll 14 = .ok (.arraylength, 1) := by decide +kernel
theorem dX0_copyAll_15 : decode cX0_copyAll 15 = .ok (.iload_n 2, 1) := by decide +kernel
theorem dX0_copyAll_16 : decode cX0_copyAll 16 = .ok (.if_icmp .ge 10, 3) := by decide +kernel
theorem dX0_copyAll_19 : decode cX0_copyAll 19 = .ok (.aload_n 0, 1) := by decide +kernel
theorem dX0_copyAll_20 : decode cX0_copyAll 20 = .ok (.iload_n 2, 1) := by decide +kernel
theorem dX0_copyAll_21 : decode cX0_copyAll 21 = .ok (.newarray .int, 2) := by decide +kernel
theorem dX0_copyAll_23 : decode cX0_copyAll 23 = .ok (.putfield 46, 3) := by decide +kernel
theorem dX0_copyAll_26 : decode cX0_copyAll 26 = .ok (.aload_n 1, 1) := by decide +kernel
theorem dX0_copyAll_27 : decode cX0_copyAll 27 = .ok (.getfield 46, 3) := by decide +kernel
theorem dX0_copyAll_30 : decode cX0_copyAll 30 = .ok (.iconst 0, 1) := by decide +kernel
theorem dX0_copyAll_31 : decode cX0_copyAll 31 = .ok (.aload_n 0, 1) := by decide +kernel
theorem dX0_copyAll_32 : decode cX0_copyAll 32 = .ok (.getfield 46, 3) := by decide +kernel
theorem dX0_copyAll_35 : decode cX0_copyAll 35 = .ok (.iconst 0, 1) := by decide +kernel
theorem dX0_copyAll_36 : decode cX0_copyAll 36 = .ok (.iload_n 2, 1) := by decide +kernel
theorem dX0_copyAll_37 : decode cX0_copyAll 37 = .ok (.aload_n 1, 1) := by decide +kernel
theorem dX0_copyAll_38 : decode cX0_copyAll 38 = .ok (.getfield 46, 3) := by decide +kernel
theorem dX0_copyAll_41 : decode cX0_copyAll 41 = .ok (.arraylength, 1) := by decide +kernel
theorem dX0_copyAll_42 : decode cX0_copyAll 42 = .ok (.invokestatic 90, 3) := by decide +kernel
theorem dX0_copyAll_45 : decode cX0_copyAll 45 = .ok (.invokestatic 96, 3) := by decide +kernel
theorem dX0_copyAll_48 : decode cX0_copyAll 48 = .ok (.return_, 1) := by decide +kernel
theorem dX0_isThere_0 : decode cX0_isThere 0 = .ok (.aload_n 0, 1) := by decide +kernel
theorem dX0_isThere_1 : decode cX0_isThere 1 = .ok (.getfield 49, 3) := by decide +kernel
theorem dX0_isThere_4 : decode cX0_isThere 4 = .ok (.ifCond .le 7, 3) := by decide +kernel
theorem dX0_isThere_7 : decode cX0_isThere 7 = .ok (.iconst 1, 1) := by decide +kernel
theorem dX0_isThere_8 : decode cX0_isThere 8 = .ok (.goto 4, 3) := by decide +kernel
theorem dX0_isThere_11 : decode cX0_isThere 11 = .ok (.iconst 0, 1) := by decide +kernel
theorem dX0_isThere_12 : decode cX0_isThere 12 = .ok (.ireturn, 1) := by decide +kernel
theorem dX0_hasRow_0 : decode cX0_hasRow 0 = .ok (.iload_n 1, 1) := by decide +kernel
theorem dX0_hasRow_1 : decode cX0_hasRow 1 = .ok (.ifCond .lt 15, 3) := by decide +kernel
theorem dX0_hasRow_4 : decode cX0_hasRow 4 = .ok (.iload_n 1, 1) := by decide +kernel
theorem dX0_hasRow_5 : decode cX0_hasRow 5 = .ok (.aload_n 0, 1) := by decide +kernel
theorem dX0_hasRow_6 : decode cX0_hasRow 6 = .ok (.getfield 49, 3) := by decide +kernel
theorem dX0_hasRow_9 : decode cX0_hasRow 9 = .ok (.if_icmp .ge 7, 3) := by decide +kernel
theorem dX0_hasRow_12 : decode cX0_hasRow 12 = .ok (.iconst 1, 1) := by decide +kernel
theorem dX0_hasRow_13 : decode cX0_hasRow 13 = .ok (.goto 4, 3) := by decide +kernel
theorem dX0_hasRow_16 : decode cX0_hasRow 16 = .ok (.iconst 0, 1) := by decide +kernel
theorem dX0_hasRow_17 : decode cX0_hasRow 17 = .ok (.ireturn, 1) := by decide +kernel
theorem dX0_hasDrum_0 : decode cX0_hasDrum 0 = .ok (.iload_n 1, 1) := by decide +kernel
theorem dX0_hasDrum_1 : decode cX0_hasDrum 1 = .ok (.ifCond .lt 15, 3) := by decide +kernel
theorem dX0_hasDrum_4 : decode cX0_hasDrum 4 = .ok (.iload_n 1, 1) := by decide +kernel
theorem dX0_hasDrum_5 : decode cX0_hasDrum 5 = .ok (.aload_n 0, 1) := by decide +kernel
theorem dX0_hasDrum_6 : decode cX0_hasDrum 6 = .ok (.getfield 59, 3) := by decide +kernel
theorem dX0_hasDrum_9 : decode cX0_hasDrum 9 = .ok (.if_icmp .ge 7, 3) := by decide +kernel
theorem dX0_hasDrum_12 : decode cX0_hasDrum 12 = .ok (.iconst 1, 1) := by decide +kernel
theorem dX0_hasDrum_13 : decode cX0_hasDrum 13 = .ok (.goto 4, 3) := by decide +kernel
theorem dX0_hasDrum_16 : decode cX0_hasDrum 16 = .ok (.iconst 0, 1) := by decide +kernel
theorem dX0_hasDrum_17 : decode cX0_hasDrum 17 = .ok (.ireturn, 1) := by decide +kernel
theorem dX0_flapsOf_0 : decode cX0_flapsOf 0 = .ok (.aload_n 0, 1) := by decide +kernel
theorem dX0_flapsOf_1 : decode cX0_flapsOf 1 = .ok (.getfield 21, 3) := by decide +kernel
theorem dX0_flapsOf_4 : decode cX0_flapsOf 4 = .ok (.iload_n 1, 1) := by decide +kernel
theorem dX0_flapsOf_5 : decode cX0_flapsOf 5 = .ok (.iaload, 1) := by decide +kernel
theorem dX0_flapsOf_6 : decode cX0_flapsOf 6 = .ok (.istore_n 2, 1) := by decide +kernel
theorem dX0_flapsOf_7 : decode cX0_flapsOf 7 = .ok (.iload_n 2, 1) := by decide +kernel
theorem dX0_flapsOf_8 : decode cX0_flapsOf 8 = .ok (.ifCond .lt 20, 3) := by decide +kernel
theorem dX0_flapsOf_11 : decode cX0_flapsOf 11 = .ok (.iload_n 2, 1) := by decide +kernel
theorem dX0_flapsOf_12 : decode cX0_flapsOf 12 = .ok (.aload_n 0, 1) := by decide +kernel
theorem dX0_flapsOf_13 : decode cX0_flapsOf 13 = .ok (.getfield 59, 3) := by decide +kernel
theorem dX0_flapsOf_16 : decode cX0_flapsOf 16 = .ok (.if_icmp .ge 12, 3) := by decide +kernel
theorem dX0_flapsOf_19 : decode cX0_flapsOf 19 = .ok (.aload_n 0, 1) := by decide +kernel
theorem dX0_flapsOf_20 : decode cX0_flapsOf 20 = .ok (.getfield 15, 3) := by decide +kernel
theorem dX0_flapsOf_23 : decode cX0_flapsOf 23 = .ok (.iload_n 2, 1) := by decide +kernel
theorem dX0_flapsOf_24 : decode cX0_flapsOf 24 = .ok (.iaload, 1) := by decide +kernel
theorem dX0_flapsOf_25 : decode cX0_flapsOf 25 = .ok (.goto 4, 3) := by decide +kernel
theorem dX0_flapsOf_28 : decode cX0_flapsOf 28 = .ok (.iconst 0, 1) := by decide +kernel
theorem dX0_flapsOf_29 : decode cX0_flapsOf 29 = .ok (.ireturn, 1) := by decide +kernel
theorem dX0_hasFlap_0 : decode cX0_hasFlap 0 = .ok (.aload_n 0, 1) := by decide +kernel
theorem dX0_hasFlap_1 : decode cX0_hasFlap 1 = .ok (.iload_n 1, 1) := by decide +kernel
theorem dX0_hasFlap_2 : decode cX0_hasFlap 2 = .ok (.invokevirtual 72, 3) := by decide +kernel
theorem dX0_hasFlap_5 : decode cX0_hasFlap 5 = .ok (.ifCond .eq 20, 3) := by decide +kernel
theorem dX0_hasFlap_8 : decode cX0_hasFlap 8 = .ok (.iload_n 2, 1) := by decide +kernel
theorem dX0_hasFlap_9 : decode cX0_hasFlap 9 = .ok (.ifCond .lt 16, 3) := by decide +kernel
theorem dX0_hasFlap_12 : decode cX0_hasFlap 12 = .ok (.iload_n 2, 1) := by decide +kernel
theorem dX0_hasFlap_13 : decode cX0_hasFlap 13 = .ok (.aload_n 0, 1) := by decide +kernel
theorem dX0_hasFlap_14 : decode cX0_hasFlap 14 = .ok (.iload_n 1, 1) := by decide +kernel
theorem dX0_hasFlap_15 : decode cX0_hasFlap 15 = .ok (.invokevirtual 105, 3) := by decide +kernel
theorem dX0_hasFlap_18 : decode cX0_hasFlap 18 = .ok (.if_icmp .ge 7, 3) := by decide +kernel
theorem dX0_hasFlap_21 : decode cX0_hasFlap 21 = .ok (.iconst 1, 1) := by decide +kernel
theorem dX0_hasFlap_22 : decode cX0_hasFlap 22 = .ok (.goto 4, 3) := by decide +kernel
theorem dX0_hasFlap_25 : decode cX0_hasFlap 25 = .ok (.iconst 0, 1) := by decide +kernel
theorem dX0_hasFlap_26 : decode cX0_hasFlap 26 = .ok (.ireturn, 1) := by decide +kernel
theorem dX0_flapsOn_0 : decode cX0_flapsOn 0 = .ok (.iload_n 1, 1) := by decide +kernel
theorem dX0_flapsOn_1 : decode cX0_flapsOn 1 = .ok (.ifCond .lt 20, 3) := by decide +kernel
theorem dX0_flapsOn_4 : decode cX0_flapsOn 4 = .ok (.iload_n 1, 1) := by decide +kernel
theorem dX0_flapsOn_5 : decode cX0_flapsOn 5 = .ok (.aload_n 0, 1) := by decide +kernel
theorem dX0_flapsOn_6 : decode cX0_flapsOn 6 = .ok (.getfield 59, 3) := by decide +kernel
theorem dX0_flapsOn_9 : decode cX0_flapsOn 9 = .ok (.if_icmp .ge 12, 3) := by decide +kernel
theorem dX0_flapsOn_12 : decode cX0_flapsOn 12 = .ok (.aload_n 0, 1) := by decide +kernel
theorem dX0_flapsOn_13 : decode cX0_flapsOn 13 = .ok (.getfield 15, 3) := by decide +kernel
theorem dX0_flapsOn_16 : decode cX0_flapsOn 16 = .ok (.iload_n 1, 1) := by decide +kernel
theorem dX0_flapsOn_17 : decode cX0_flapsOn 17 = .ok (.iaload, 1) := by decide +kernel
theorem dX0_flapsOn_18 : decode cX0_flapsOn 18 = .ok (.goto 4, 3) := by decide +kernel
theorem dX0_flapsOn_21 : decode cX0_flapsOn 21 = .ok (.iconst 0, 1) := by decide +kernel
theorem dX0_flapsOn_22 : decode cX0_flapsOn 22 = .ok (.ireturn, 1) := by decide +kernel
theorem dX0_isMovable_0 : decode cX0_isMovable 0 = .ok (.iload_n 2, 1) := by decide +kernel
theorem dX0_isMovable_1 : decode cX0_isMovable 1 = .ok (.ifCond .le 16, 3) := by decide +kernel
theorem dX0_isMovable_4 : decode cX0_isMovable 4 = .ok (.iload_n 2, 1) := by decide +kernel
theorem dX0_isMovable_5 : decode cX0_isMovable 5 = .ok (.aload_n 0, 1) := by decide +kernel
theorem dX0_isMovable_6 : decode cX0_isMovable 6 = .ok (.iload_n 1, 1) := by decide +kernel
theorem dX0_isMovable_7 : decode cX0_isMovable 7 = .ok (.invokevirtual 108, 3) := by decide +kernel
theorem dX0_isMovable_10 : decode cX0_isMovable 10 = .ok (.if_icmp .ge 7, 3) := by decide +kernel
theorem dX0_isMovable_13 : decode cX0_isMovable 13 = .ok (.iconst 1, 1) := by decide +kernel
theorem dX0_isMovable_14 : decode cX0_isMovable 14 = .ok (.goto 4, 3) := by decide +kernel
theorem dX0_isMovable_17 : decode cX0_isMovable 17 = .ok (.iconst 0, 1) := by decide +kernel
theorem dX0_isMovable_18 : decode cX0_isMovable 18 = .ok (.ireturn, 1) := by decide +kernel
theorem dX0_currentOf_0 : decode cX0_currentOf 0 = .ok (.aload_n 0, 1) := by decide +kernel
theorem dX0_currentOf_1 : decode cX0_currentOf 1 = .ok (.getfield 21, 3) := by decide +kernel
theorem dX0_currentOf_4 : decode cX0_currentOf 4 = .ok (.iload_n 1, 1) := by decide +kernel
theorem dX0_currentOf_5 : decode cX0_currentOf 5 = .ok (.iaload, 1) := by decide +kernel
theorem dX0_currentOf_6 : decode cX0_currentOf 6 = .ok (.istore_n 2, 1) := by decide +kernel
theorem dX0_currentOf_7 : decode cX0_currentOf 7 = .ok (.iload_n 2, 1) := by decide +kernel
theorem dX0_currentOf_8 : decode cX0_currentOf 8 = .ok (.ifCond .lt 20, 3) := by decide +kernel
theorem dX0_currentOf_11 : decode cX0_currentOf 11 = .ok (.iload_n 2, 1) := by decide +kernel
theorem dX0_currentOf_12 : decode cX0_currentOf 12 = .ok (.aload_n 0, 1) := by decide +kernel
theorem dX0_currentOf_13 : decode cX0_currentOf 13 = .ok (.getfield 59, 3) := by decide +kernel
theorem dX0_currentOf_16 : decode cX0_currentOf 16 = .ok (.if_icmp .ge 12, 3) := by decide +kernel
theorem dX0_currentOf_19 : decode cX0_currentOf 19 = .ok (.aload_n 0, 1) := by decide +kernel
theorem dX0_currentOf_20 : decode cX0_currentOf 20 = .ok (.getfield 9, 3) := by decide +kernel
theorem dX0_currentOf_23 : decode cX0_currentOf 23 = .ok (.iload_n 2, 1) := by decide +kernel
theorem dX0_currentOf_24 : decode cX0_currentOf 24 = .ok (.iaload, 1) := by decide +kernel
theorem dX0_currentOf_25 : decode cX0_currentOf 25 = .ok (.goto 4, 3) := by decide +kernel
theorem dX0_currentOf_28 : decode cX0_currentOf 28 = .ok (.iconst 0, 1) := by decide +kernel
theorem dX0_currentOf_29 : decode cX0_currentOf 29 = .ok (.ireturn, 1) := by decide +kernel
theorem dX0_signOf_0 : decode cX0_signOf 0 = .ok (.iload_n 1, 1) := by decide +kernel
theorem dX0_signOf_1 : decode cX0_signOf 1 = .ok (.ifCond .lt 25, 3) := by decide +kernel
theorem dX0_signOf_4 : decode cX0_signOf 4 = .ok (.iload_n 1, 1) := by decide +kernel
theorem dX0_signOf_5 : decode cX0_signOf 5 = .ok (.aload_n 0, 1) := by decide +kernel
theorem dX0_signOf_6 : decode cX0_signOf 6 = .ok (.getfield 59, 3) := by decide +kernel
theorem dX0_signOf_9 : decode cX0_signOf 9 = .ok (.if_icmp .ge 17, 3) := by decide +kernel
theorem dX0_signOf_12 : decode cX0_signOf 12 = .ok (.iload_n 2, 1) := by decide +kernel
theorem dX0_signOf_13 : decode cX0_signOf 13 = .ok (.ifCond .lt 13, 3) := by decide +kernel
theorem dX0_signOf_16 : decode cX0_signOf 16 = .ok (.iload_n 2, 1) := by decide +kernel
theorem dX0_signOf_17 : decode cX0_signOf 17 = .ok (.aload_n 0, 1) := by decide +kernel
theorem dX0_signOf_18 : decode cX0_signOf 18 = .ok (.getfield 15, 3) := by decide +kernel
theorem dX0_signOf_21 : decode cX0_signOf 21 = .ok (.iload_n 1, 1) := by decide +kernel
theorem dX0_signOf_22 : decode cX0_signOf 22 = .ok (.iaload, 1) := by decide +kernel
theorem dX0_signOf_23 : decode cX0_signOf 23 = .ok (.if_icmp .lt 5, 3) := by decide +kernel
theorem dX0_signOf_26 : decode cX0_signOf 26 = .ok (.iconst (-1), 1) := by decide +kernel
theorem dX0_signOf_27 : decode cX0_signOf 27 = .ok (.ireturn, 1) := by decide +kernel
theorem dX0_signOf_28 : decode cX0_signOf 28 = .ok (.aload_n 0, 1) := by decide +kernel
theorem dX0_signOf_29 : decode cX0_signOf 29 = .ok (.getfield 18, 3) := by decide +kernel
theorem dX0_signOf_32 : decode cX0_signOf 32 = .ok (.iload_n 1, 1) := by decide +kernel
theorem dX0_signOf_33 : decode cX0_signOf 33 = .ok (.bipush 40, 2) := by decide +kernel
theorem dX0_signOf_35 : decode cX0_signOf 35 = .ok (.imul, 1) := by decide +kernel
theorem dX0_signOf_36 : decode cX0_signOf 36 = .ok (.iload_n 2, 1) := by decide +kernel
theorem dX0_signOf_37 : decode cX0_signOf 37 = .ok (.iadd, 1) := by decide +kernel
theorem dX0_signOf_38 : decode cX0_signOf 38 = .ok (.iaload, 1) := by decide +kernel
theorem dX0_signOf_39 : decode cX0_signOf 39 = .ok (.ireturn, 1) := by decide +kernel
theorem dX0_signOn_0 : decode cX0_signOn 0 = .ok (.aload_n 0, 1) := by decide +kernel
theorem dX0_signOn_1 : decode cX0_signOn 1 = .ok (.aload_n 0, 1) := by decide +kernel
theorem dX0_signOn_2 : decode cX0_signOn 2 = .ok (.getfield 21, 3) := by decide +kernel
theorem dX0_signOn_5 : decode cX0_signOn 5 = .ok (.iload_n 1, 1) := by decide +kernel
theorem dX0_signOn_6 : decode cX0_signOn 6 = .ok (.iaload, 1) := by decide +kernel
theorem dX0_signOn_7 : decode cX0_signOn 7 = .ok (.iload_n 2, 1) := by decide +kernel
theorem dX0_signOn_8 : decode cX0_signOn 8 = .ok (.invokevirtual 111, 3) := by decide +kernel
theorem dX0_signOn_11 : decode cX0_signOn 11 = .ok (.ireturn, 1) := by decide +kernel
theorem dX0_wantedSign_0 : decode cX0_wantedSign 0 = .ok (.aload_n 0, 1) := by decide +kernel
theorem dX0_wantedSign_1 : decode cX0_wantedSign 1 = .ok (.iload_n 1, 1) := by decide +kernel
theorem dX0_wantedSign_2 : decode cX0_wantedSign 2 = .ok (.aload_n 0, 1) := by decide +kernel
theorem dX0_wantedSign_3 : decode cX0_wantedSign 3 = .ok (.getfield 30, 3) := by decide +kernel
theorem dX0_wantedSign_6 : decode cX0_wantedSign 6 = .ok (.iload_n 1, 1) := by decide +kernel
theorem dX0_wantedSign_7 : decode cX0_wantedSign 7 = .ok (.iaload, 1) := by decide +kernel
theorem dX0_wantedSign_8 : decode cX0_wantedSign 8 = .ok (.invokevirtual 114, 3) := by decide +kernel
theorem dX0_wantedSign_11 : decode cX0_wantedSign 11 = .ok (.ireturn, 1) := by decide +kernel
theorem dX0_showsWrong_0 : decode cX0_showsWrong 0 = .ok (.aload_n 0, 1) := by decide +kernel
theorem dX0_showsWrong_1 : decode cX0_showsWrong 1 = .ok (.iload_n 1, 1) := by decide +kernel
theorem dX0_showsWrong_2 : decode cX0_showsWrong 2 = .ok (.aload_n 0, 1) := by decide +kernel
theorem dX0_showsWrong_3 : decode cX0_showsWrong 3 = .ok (.getfield 24, 3) := by decide +kernel
theorem dX0_showsWrong_6 : decode cX0_showsWrong 6 = .ok (.iload_n 1, 1) := by decide +kernel
theorem dX0_showsWrong_7 : decode cX0_showsWrong 7 = .ok (.iaload, 1) := by decide +kernel
theorem dX0_showsWrong_8 : decode cX0_showsWrong 8 = .ok (.invokevirtual 114, 3) := by decide +kernel
theorem dX0_showsWrong_11 : decode cX0_showsWrong 11 = .ok (.aload_n 0, 1) := by decide +kernel
theorem dX0_showsWrong_12 : decode cX0_showsWrong 12 = .ok (.iload_n 1, 1) := by decide +kernel
theorem dX0_showsWrong_13 : decode cX0_showsWrong 13 = .ok (.invokevirtual 117, 3) := by decide +kernel
theorem dX0_showsWrong_16 : decode cX0_showsWrong 16 = .ok (.if_icmp .eq 7, 3) := by decide +kernel
theorem dX0_showsWrong_19 : decode cX0_showsWrong 19 = .ok (.iconst 1, 1) := by decide +kernel
theorem dX0_showsWrong_20 : decode cX0_showsWrong 20 = .ok (.goto 4, 3) := by decide +kernel
theorem dX0_showsWrong_23 : decode cX0_showsWrong 23 = .ok (.iconst 0, 1) := by decide +kernel
theorem dX0_showsWrong_24 : decode cX0_showsWrong 24 = .ok (.ireturn, 1) := by decide +kernel
theorem dX0_wrongCount_0 : decode cX0_wrongCount 0 = .ok (.iconst 0, 1) := by decide +kernel
theorem dX0_wrongCount_1 : decode cX0_wrongCount 1 = .ok (.istore_n 1, 1) := by decide +kernel
theorem dX0_wrongCount_2 : decode cX0_wrongCount 2 = .ok (.iconst 0, 1) := by decide +kernel
theorem dX0_wrongCount_3 : decode cX0_wrongCount 3 = .ok (.istore_n 2, 1) := by decide +kernel
theorem dX0_wrongCount_4 : decode cX0_wrongCount 4 = .ok (.iload_n 2, 1) := by decide +kernel
theorem dX0_wrongCount_5 : decode cX0_wrongCount 5 = .ok (.aload_n 0, 1) := by decide +kernel
theorem dX0_wrongCount_6 : decode cX0_wrongCount 6 = .ok (.invokevirtual 102, 3) := by decide +kernel
theorem dX0_wrongCount_9 : decode cX0_wrongCount 9 = .ok (.if_icmp .ge 20, 3) := by decide +kernel
theorem dX0_wrongCount_12 : decode cX0_wrongCount 12 = .ok (.aload_n 0, 1) := by decide +kernel
theorem dX0_wrongCount_13 : decode cX0_wrongCount 13 = .ok (.iload_n 2, 1) := by decide +kernel
theorem dX0_wrongCount_14 : decode cX0_wrongCount 14 = .ok (.invokevirtual 120, 3) := by decide +kernel
theorem dX0_wrongCount_17 : decode cX0_wrongCount 17 = .ok (.ifCond .eq 6, 3) := by decide +kernel
theorem dX0_wrongCount_20 : decode cX0_wrongCount 20 = .ok (.iinc 1 1, 3) := by decide +kernel
theorem dX0_wrongCount_23 : decode cX0_wrongCount 23 = .ok (.iinc 2 1, 3) := by decide +kernel
theorem dX0_wrongCount_26 : decode cX0_wrongCount 26 = .ok (.goto (-22), 3) := by decide +kernel
theorem dX0_wrongCount_29 : decode cX0_wrongCount 29 = .ok (.iload_n 1, 1) := by decide +kernel
theorem dX0_wrongCount_30 : decode cX0_wrongCount 30 = .ok (.ireturn, 1) := by decide +kernel
theorem dX0_sumOf_0 : decode cX0_sumOf 0 = .ok (.iconst 0, 1) := by decide +kernel
theorem dX0_sumOf_1 : decode cX0_sumOf 1 = .ok (.istore_n 2, 1) := by decide +kernel
theorem dX0_sumOf_2 : decode cX0_sumOf 2 = .ok (.iconst 0, 1) := by decide +kernel
theorem dX0_sumOf_3 : decode cX0_sumOf 3 = .ok (.istore_n 3, 1) := by decide +kernel
theorem dX0_sumOf_4 : decode cX0_sumOf 4 = .ok (.iload_n 3, 1) := by decide +kernel
theorem dX0_sumOf_5 : decode cX0_sumOf 5 = .ok (.aload_n 0, 1) := by decide +kernel
theorem dX0_sumOf_6 : decode cX0_sumOf 6 = .ok (.invokevirtual 102, 3) := by decide +kernel
theorem dX0_sumOf_9 : decode cX0_sumOf 9 = .ok (.if_icmp .ge 21, 3) := by decide +kernel
theorem dX0_sumOf_12 : decode cX0_sumOf 12 = .ok (.iload_n 3, 1) := by decide +kernel
theorem dX0_sumOf_13 : decode cX0_sumOf 13 = .ok (.aload_n 1, 1) := by decide +kernel
theorem dX0_sumOf_14 : decode cX0_sumOf 14 = .ok (.arraylength, 1) := by decide +kernel
theorem dX0_sumOf_15 : decode cX0_sumOf 15 = .ok (.if_icmp .ge 15, 3) := by decide +kernel
theorem dX0_sumOf_18 : decode cX0_sumOf 18 = .ok (.iload_n 2, 1) := by decide +kernel
theorem dX0_sumOf_19 : decode cX0_sumOf 19 = .ok (.aload_n 1, 1) := by decide +kernel
theorem dX0_sumOf_20 : decode cX0_sumOf 20 = .ok (.iload_n 3, 1) := by decide +kernel
theorem dX0_sumOf_21 : decode cX0_sumOf 21 = .ok (.iaload, 1) := by decide +kernel
theorem dX0_sumOf_22 : decode cX0_sumOf 22 = .ok (.iadd, 1) := by decide +kernel
theorem dX0_sumOf_23 : decode cX0_sumOf 23 = .ok (.istore_n 2, 1) := by decide +kernel
theorem dX0_sumOf_24 : decode cX0_sumOf 24 = .ok (.iinc 3 1, 3) := by decide +kernel
theorem dX0_sumOf_27 : decode cX0_sumOf 27 = .ok (.goto (-23), 3) := by decide +kernel
theorem dX0_sumOf_30 : decode cX0_sumOf 30 = .ok (.iload_n 2, 1) := by decide +kernel
theorem dX0_sumOf_31 : decode cX0_sumOf 31 = .ok (.ireturn, 1) := by decide +kernel
theorem dX0_swapSigns_0 : decode cX0_swapSigns 0 = .ok (.aload_n 0, 1) := by decide +kernel
theorem dX0_swapSigns_1 : decode cX0_swapSigns 1 = .ok (.iload_n 1, 1) := by decide +kernel
theorem dX0_swapSigns_2 : decode cX0_swapSigns 2 = .ok (.iload_n 2, 1) := by decide +kernel
theorem dX0_swapSigns_3 : decode cX0_swapSigns 3 = .ok (.invokevirtual 123, 3) := by decide +kernel
theorem dX0_swapSigns_6 : decode cX0_swapSigns 6 = .ok (.ifCond .eq 12, 3) := by decide +kernel
theorem dX0_swapSigns_9 : decode cX0_swapSigns 9 = .ok (.aload_n 0, 1) := by decide +kernel
theorem dX0_swapSigns_10 : decode cX0_swapSigns 10 = .ok (.iload_n 1, 1) := by decide +kernel
theorem dX0_swapSigns_11 : decode cX0_swapSigns 11 = .ok (.iload_n 3, 1) := by decide +kernel
theorem dX0_swapSigns_12 : decode cX0_swapSigns 12 = .ok (.invokevirtual 123, 3) := by decide +kernel
theorem dX0_swapSigns_15 : decode cX0_swapSigns 15 = .ok (.ifCond .ne 4, 3) := by decide +kernel
theorem dX0_swapSigns_18 : decode cX0_swapSigns 18 = .ok (.return_, 1) := by decide +kernel
theorem dX0_swapSigns_19 : decode cX0_swapSigns 19 = .ok (.iload_n 1, 1) := by decide +kernel
theorem dX0_swapSigns_20 : decode cX0_swapSigns 20 = .ok (.bipush 40, 2) := by decide +kernel
theorem dX0_swapSigns_22 : decode cX0_swapSigns 22 = .ok (.imul, 1) := by decide +kernel
theorem dX0_swapSigns_23 : decode cX0_swapSigns 23 = .ok (.istore 4, 2) := by decide +kernel
theorem dX0_swapSigns_25 : decode cX0_swapSigns 25 = .ok (.aload_n 0, 1) := by decide +kernel
theorem dX0_swapSigns_26 : decode cX0_swapSigns 26 = .ok (.getfield 18, 3) := by decide +kernel
theorem dX0_swapSigns_29 : decode cX0_swapSigns 29 = .ok (.iload 4, 2) := by decide +kernel
theorem dX0_swapSigns_31 : decode cX0_swapSigns 31 = .ok (.iload_n 2, 1) := by decide +kernel
theorem dX0_swapSigns_32 : decode cX0_swapSigns 32 = .ok (.iadd, 1) := by decide +kernel
theorem dX0_swapSigns_33 : decode cX0_swapSigns 33 = .ok (.iaload, 1) := by decide +kernel
theorem dX0_swapSigns_34 : decode cX0_swapSigns 34 = .ok (.istore 5, 2) := by decide +kernel
theorem dX0_swapSigns_36 : decode cX0_swapSigns 36 = .ok (.aload_n 0, 1) := by decide +kernel
theorem dX0_swapSigns_37 : decode cX0_swapSigns 37 = .ok (.getfield 18, 3) := by decide +kernel
theorem dX0_swapSigns_40 : decode cX0_swapSigns 40 = .ok (.iload 4, 2) := by decide +kernel
theorem dX0_swapSigns_42 : decode cX0_swapSigns 42 = .ok (.iload_n 2, 1) := by decide +kernel
theorem dX0_swapSigns_43 : decode cX0_swapSigns 43 = .ok (.iadd, 1) := by decide +kernel
theorem dX0_swapSigns_44 : decode cX0_swapSigns 44 = .ok (.aload_n 0, 1) := by decide +kernel
theorem dX0_swapSigns_45 : decode cX0_swapSigns 45 = .ok (.getfield 18, 3) := by decide +kernel
theorem dX0_swapSigns_48 : decode cX0_swapSigns 48 = .ok (.iload 4, 2) := by decide +kernel
theorem dX0_swapSigns_50 : decode cX0_swapSigns 50 = .ok (.iload_n 3, 1) := by decide +kernel
theorem dX0_swapSigns_51 : decode cX0_swapSigns 51 = .ok (.iadd, 1) := by decide +kernel
theorem dX0_swapSigns_52 : decode cX0_swapSigns 52 = .ok (.iaload, 1) := by decide +kernel
theorem dX0_swapSigns_53 : decode cX0_swapSigns 53 = .ok (.iastore, 1) := by decide +kernel
theorem dX0_swapSigns_54 : decode cX0_swapSigns 54 = .ok (.aload_n 0, 1) := by decide +kernel
theorem dX0_swapSigns_55 : decode cX0_swapSigns 55 = .ok (.getfield 18, 3) := by decide +kernel
theorem dX0_swapSigns_58 : decode cX0_swapSigns 58 = .ok (.iload 4, 2) := by decide +kernel
theorem dX0_swapSigns_60 : decode cX0_swapSigns 60 = .ok (.iload_n 3, 1) := by decide +kernel
theorem dX0_swapSigns_61 : decode cX0_swapSigns 61 = .ok (.iadd, 1) := by decide +kernel
theorem dX0_swapSigns_62 : decode cX0_swapSigns 62 = .ok (.iload 5, 2) := by decide +kernel
theorem dX0_swapSigns_64 : decode cX0_swapSigns 64 = .ok (.iastore, 1) := by decide +kernel
theorem dX0_swapSigns_65 : decode cX0_swapSigns 65 = .ok (.return_, 1) := by decide +kernel
theorem dX0_cellsWith_0 : decode cX0_cellsWith 0 = .ok (.iconst 0, 1) := by decide +kernel
theorem dX0_cellsWith_1 : decode cX0_cellsWith 1 = .ok (.istore_n 2, 1) := by decide +kernel
theorem dX0_cellsWith_2 : decode cX0_cellsWith 2 = .ok (.iconst 0, 1) := by decide +kernel
theorem dX0_cellsWith_3 : decode cX0_cellsWith 3 = .ok (.istore_n 3, 1) := by decide +kernel
theorem dX0_cellsWith_4 : decode cX0_cellsWith 4 = .ok (.iload_n 3, 1) := by decide +kernel
theorem dX0_cellsWith_5 : decode cX0_cellsWith 5 = .ok (.aload_n 0, 1) := by decide +kernel
theorem dX0_cellsWith_6 : decode cX0_cellsWith 6 = .ok (.invokevirtual 102, 3) := by decide +kernel
theorem dX0_cellsWith_9 : decode cX0_cellsWith 9 = .ok (.if_icmp .ge 22, 3) := by decide +kernel
theorem dX0_cellsWith_12 : decode cX0_cellsWith 12 = .ok (.aload_n 0, 1) := by decide +kernel
theorem dX0_cellsWith_13 : decode cX0_cellsWith 13 = .ok (.getfield 21, 3) := by decide +kernel
theorem dX0_cellsWith_16 : decode cX0_cellsWith 16 = .ok (.iload_n 3, 1) := by decide +kernel
theorem dX0_cellsWith_17 : decode cX0_cellsWith 17 = .ok (.iaload, 1) := by decide +kernel
theorem dX0_cellsWith_18 : decode cX0_cellsWith 18 = .ok (.iload_n 1, 1) := by decide +kernel
theorem dX0_cellsWith_19 : decode cX0_cellsWith 19 = .ok (.if_icmp .ne 6, 3) := by decide +kernel
theorem dX0_cellsWith_22 : decode cX0_cellsWith 22 = .ok (.iinc 2 1, 3) := by decide +kernel
theorem dX0_cellsWith_25 : decode cX0_cellsWith 25 = .ok (.iinc 3 1, 3) := by decide +kernel
theorem dX0_cellsWith_28 : decode cX0_cellsWith 28 = .ok (.goto (-24), 3) := by decide +kernel
theorem dX0_cellsWith_31 : decode cX0_cellsWith 31 = .ok (.iload_n 2, 1) := by decide +kernel
theorem dX0_cellsWith_32 : decode cX0_cellsWith 32 = .ok (.ireturn, 1) := by decide +kernel
theorem dX0_flapsWith_0 : decode cX0_flapsWith 0 = .ok (.iload_n 1, 1) := by decide +kernel
theorem dX0_flapsWith_1 : decode cX0_flapsWith 1 = .ok (.bipush 40, 2) := by decide +kernel
theorem dX0_flapsWith_3 : decode cX0_flapsWith 3 = .ok (.imul, 1) := by decide +kernel
theorem dX0_flapsWith_4 : decode cX0_flapsWith 4 = .ok (.istore 4, 2) := by decide +kernel
theorem dX0_flapsWith_6 : decode cX0_flapsWith 6 = .ok (.aload_n 0, 1) := by decide +kernel
theorem dX0_flapsWith_7 : decode cX0_flapsWith 7 = .ok (.iload_n 1, 1) := by decide +kernel
theorem dX0_flapsWith_8 : decode cX0_flapsWith 8 = .ok (.invokevirtual 108, 3) := by decide +kernel
theorem dX0_flapsWith_11 : decode cX0_flapsWith 11 = .ok (.istore 5, 2) := by decide +kernel
theorem dX0_flapsWith_13 : decode cX0_flapsWith 13 = .ok (.iconst 0, 1) := by decide +kernel
theorem dX0_flapsWith_14 : decode cX0_flapsWith 14 = .ok (.istore 6, 2) := by decide +kernel
theorem dX0_flapsWith_16 : decode cX0_flapsWith 16 = .ok (.iload_n 3, 1) := by decide +kernel
theorem dX0_flapsWith_17 : decode cX0_flapsWith 17 = .ok (.istore 7, 2) := by decide +kernel
theorem dX0_flapsWith_19 : decode cX0_flapsWith 19 = .ok (.iload 7, 2) := by decide +kernel
theorem dX0_flapsWith_21 : decode cX0_flapsWith 21 = .ok (.iload 5, 2) := by decide +kernel
theorem dX0_flapsWith_23 : decode cX0_flapsWith 23 = .ok (.if_icmp .ge 26, 3) := by decide +kernel
theorem dX0_flapsWith_26 : decode cX0_flapsWith 26 = .ok (.aload_n 0, 1) := by decide +kernel
theorem dX0_flapsWith_27 : decode cX0_flapsWith 27 = .ok (.getfield 18, 3) := by decide +kernel
theorem dX0_flapsWith_30 : decode cX0_flapsWith 30 = .ok (.iload 4, 2) := by decide +kernel
theorem dX0_flapsWith_32 : decode cX0_flapsWith 32 = .ok (.iload 7, 2) := by decide +kernel
theorem dX0_flapsWith_34 : decode cX0_flapsWith 34 = .ok (.iadd, 1) := by decide +kernel
theorem dX0_flapsWith_35 : decode cX0_flapsWith 35 = .ok (.iaload, 1) := by decide +kernel
theorem dX0_flapsWith_36 : decode cX0_flapsWith 36 = .ok (.iload_n 2, 1) := by decide +kernel
theorem dX0_flapsWith_37 : decode cX0_flapsWith 37 = .ok (.if_icmp .ne 6, 3) := by decide +kernel
theorem dX0_flapsWith_40 : decode cX0_flapsWith 40 = .ok (.iinc 6 1, 3) := by decide +kernel
theorem dX0_flapsWith_43 : decode cX0_flapsWith 43 = .ok (.iinc 7 1, 3) := by decide +kernel
theorem dX0_flapsWith_46 : decode cX0_flapsWith 46 = .ok (.goto (-27), 3) := by decide +kernel
theorem dX0_flapsWith_49 : decode cX0_flapsWith 49 = .ok (.iload 6, 2) := by decide +kernel
theorem dX0_flapsWith_51 : decode cX0_flapsWith 51 = .ok (.ireturn, 1) := by decide +kernel
theorem dX0_drumHas_0 : decode cX0_drumHas 0 = .ok (.aload_n 0, 1) := by decide +kernel
theorem dX0_drumHas_1 : decode cX0_drumHas 1 = .ok (.iload_n 1, 1) := by decide +kernel
theorem dX0_drumHas_2 : decode cX0_drumHas 2 = .ok (.iload_n 2, 1) := by decide +kernel
theorem dX0_drumHas_3 : decode cX0_drumHas 3 = .ok (.iconst 0, 1) := by decide +kernel
theorem dX0_drumHas_4 : decode cX0_drumHas 4 = .ok (.invokevirtual 127, 3) := by decide +kernel
theorem dX0_drumHas_7 : decode cX0_drumHas 7 = .ok (.ifCond .le 7, 3) := by decide +kernel
