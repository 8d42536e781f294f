theorem dX0_isThere_0 : decode cX0_isThere 0 = .ok (.aload_n 0, 1) := by decide +kernel
theorem dX0_isThere_1 : decode cX0_isThere 1 = .ok (.getfield 49, 3) := by decide +kernel
theorem dX0_isThere_4 : decode cX0_isThere 4 = .ok (.ifCond .le 7, 3) := by decide +kernel
theorem dX0_isThere_11 : decode cX0_isThere 11 = .ok (.iconst 0, 1) := by decide +kernel
theorem dX0_isThere_12 : decode cX0_isThere 12 = .ok (.ireturn, 1) := by decide +kernel
theorem dX0_cells_0 : decode cX0_cells 0 = .ok (.aload_n 0, 1) := by decide +kernel
theorem dX0_cells_1 : decode cX0_cells 1 = .ok (.getfield 49, 3) := by decide +kernel
theorem dX0_cells_4 : decode cX0_cells 4 = .ok (.aload_n 0, 1) := by decide +kernel
theorem dX0_cells_5 : decode cX0_cells 5 = .ok (.getfield 53, 3) := by decide +kernel
theorem dX0_cells_8 : decode cX0_cells 8 = .ok (.imul, 1) := by decide +kernel
theorem dX0_cells_9 : decode cX0_cells 9 = .ok (.ireturn, 1) := by decide +kernel
theorem dX0_hasCell_0 : decode cX0_hasCell 0 = .ok (.iload_n 1, 1) := by decide +kernel
theorem dX0_hasCell_1 : decode cX0_hasCell 1 = .ok (.ifCond .lt 15, 3) := by decide +kernel
theorem dX0_hasCell_4 : decode cX0_hasCell 4 = .ok (.iload_n 1, 1) := by decide +kernel
theorem dX0_hasCell_5 : decode cX0_hasCell 5 = .ok (.aload_n 0, 1) := by decide +kernel
theorem dX0_hasCell_6 : decode cX0_hasCell 6 = .ok (.invokevirtual 102, 3) := by decide +kernel
theorem dX0_hasCell_9 : decode cX0_hasCell 9 = .ok (.if_icmp .ge 7, 3) := by decide +kernel
theorem dX0_hasCell_16 : decode cX0_hasCell 16 = .ok (.iconst 0, 1) := by decide +kernel
theorem dX0_hasCell_17 : decode cX0_hasCell 17 = .ok (.ireturn, 1) := by decide +kernel
theorem dX0_hasRow_0 : decode cX0_hasRow 0 = .ok (.iload_n 1, 1) := by decide +kernel
theorem dX0_hasRow_1 : decode cX0_hasRow 1 = .ok (.ifCond .lt 15, 3) := by decide +kernel
theorem dX0_hasRow_4 : decode cX0_hasRow 4 = .ok (.iload_n 1, 1) := by decide +kernel
theorem dX0_hasRow_5 : decode cX0_hasRow 5 = .ok (.aload_n 0, 1) := by decide +kernel
theorem dX0_hasRow_6 : decode cX0_hasRow 6 = .ok (.getfield 49, 3) := by decide +kernel
theorem dX0_hasRow_9 : decode cX0_hasRow 9 = .ok (.if_icmp .ge 7, 3) := by decide +kernel
theorem dX0_hasRow_16 : decode cX0_hasRow 16 = .ok (.iconst 0, 1) := by decide +kernel
theorem dX0_hasRow_17 : decode cX0_hasRow 17 = .ok (.ireturn, 1) := by decide +kernel
theorem dX0_hasDrum_0 : decode cX0_hasDrum 0 = .ok (.iload_n 1, 1) := by decide +kernel
theorem dX0_hasDrum_1 : decode cX0_hasDrum 1 = .ok (.ifCond .lt 15, 3) := by decide +kernel
theorem dX0_hasDrum_4 : decode cX0_hasDrum 4 = .ok (.iload_n 1, 1) := by decide +kernel
theorem dX0_hasDrum_5 : decode cX0_hasDrum 5 = .ok (.aload_n 0, 1) := by decide +kernel
theorem dX0_hasDrum_6 : decode cX0_hasDrum 6 = .ok (.getfield 59, 3) := by decide +kernel
theorem dX0_hasDrum_9 : decode cX0_hasDrum 9 = .ok (.if_icmp .ge 7, 3) := by decide +kernel
theorem dX0_hasDrum_16 : decode cX0_hasDrum 16 = .ok (.iconst 0, 1) := by decide +kernel
theorem dX0_hasDrum_17 : decode cX0_hasDrum 17 = .ok (.ireturn, 1) := by decide +kernel
theorem dX0_hasFlap_0 : decode cX0_hasFlap 0 = .ok (.aload_n 0, 1) := by decide +kernel
theorem dX0_hasFlap_1 : decode cX0_hasFlap 1 = .ok (.iload_n 1, 1) := by decide +kernel
theorem dX0_hasFlap_2 : decode cX0_hasFlap 2 = .ok (.invokevirtual 72, 3) := by decide +kernel
theorem dX0_hasFlap_5 : decode cX0_hasFlap 5 = .ok (.ifCond .eq 20, 3) := by decide +kernel
theorem dX0_hasFlap_25 : decode cX0_hasFlap 25 = .ok (.iconst 0, 1) := by decide +kernel
theorem dX0_hasFlap_26 : decode cX0_hasFlap 26 = .ok (.ireturn, 1) := by decide +kernel
theorem dX0_flapsOn_0 : decode cX0_flapsOn 0 = .ok (.iload_n 1, 1) := by decide +kernel
theorem dX0_flapsOn_1 : decode cX0_flapsOn 1 = .ok (.ifCond .lt 20, 3) := by decide +kernel
theorem dX0_flapsOn_4 : decode cX0_flapsOn 4 = .ok (.iload_n 1, 1) := by decide +kernel
theorem dX0_flapsOn_5 : decode cX0_flapsOn 5 = .ok (.aload_n 0, 1) := by decide +kernel
theorem dX0_flapsOn_6 : decode cX0_flapsOn 6 = .ok (.getfield 59, 3) := by decide +kernel
theorem dX0_flapsOn_9 : decode cX0_flapsOn 9 = .ok (.if_icmp .ge 12, 3) := by decide +kernel
theorem dX0_flapsOn_21 : decode cX0_flapsOn 21 = .ok (.iconst 0, 1) := by decide +kernel
theorem dX0_flapsOn_22 : decode cX0_flapsOn 22 = .ok (.ireturn, 1) := by decide +kernel
theorem dX0_isMovable_0 : decode cX0_isMovable 0 = .ok (.iload_n 2, 1) := by decide +kernel
theorem dX0_isMovable_1 : decode cX0_isMovable 1 = .ok (.ifCond .le 16, 3) := by decide +kernel
theorem dX0_isMovable_4 : decode cX0_isMovable 4 = .ok (.iload_n 2, 1) := by decide +kernel
theorem dX0_isMovable_5 : decode cX0_isMovable 5 = .ok (.aload_n 0, 1) := by decide +kernel
theorem dX0_isMovable_6 : decode cX0_isMovable 6 = .ok (.iload_n 1, 1) := by decide +kernel
theorem dX0_isMovable_7 : decode cX0_isMovable 7 = .ok (.invokevirtual 108, 3) := by decide +kernel
theorem dX0_isMovable_10 : decode cX0_isMovable 10 = .ok (.if_icmp .ge 7, 3) := by decide +kernel
theorem dX0_isMovable_17 : decode cX0_isMovable 17 = .ok (.iconst 0, 1) := by decide +kernel
theorem dX0_isMovable_18 : decode cX0_isMovable 18 = .ok (.ireturn, 1) := by decide +kernel
theorem dX0_signOf_0 : decode cX0_signOf 0 = .ok (.iload_n 1, 1) := by decide +kernel
theorem dX0_signOf_1 : decode cX0_signOf 1 = .ok (.ifCond .lt 25, 3) := by decide +kernel
theorem dX0_signOf_4 : decode cX0_signOf 4 = .ok (.iload_n 1, 1) := by decide +kernel
theorem dX0_signOf_5 : decode cX0_signOf 5 = .ok (.aload_n 0, 1) := by decide +kernel
theorem dX0_signOf_6 : decode cX0_signOf 6 = .ok (.getfield 59, 3) := by decide +kernel
theorem dX0_signOf_9 : decode cX0_signOf 9 = .ok (.if_icmp .ge 17, 3) := by decide +kernel
theorem dX0_signOf_26 : decode cX0_signOf 26 = .ok (.iconst (-1), 1) := by decide +kernel
theorem dX0_signOf_27 : decode cX0_signOf 27 = .ok (.ireturn, 1) := by decide +kernel
theorem dX6_isShelf_0 : decode cX6_isShelf 0 = .ok (.iload_n 0, 1) := by decide +kernel
theorem dX6_isShelf_1 : decode cX6_isShelf 1 = .ok (.ifCond .lt 12, 3) := by decide +kernel
theorem dX6_isShelf_4 : decode cX6_isShelf 4 = .ok (.iload_n 0, 1) := by decide +kernel
theorem dX6_isShelf_5 : decode cX6_isShelf 5 = .ok (.iconst 2, 1) := by decide +kernel
theorem dX6_isShelf_6 : decode cX6_isShelf 6 = .ok (.if_icmp .ge 7, 3) := by decide +kernel
theorem dX6_isShelf_9 : decode cX6_isShelf 9 = .ok (.iconst 1, 1) := by decide +kernel
theorem dX6_isShelf_10 : decode cX6_isShelf 10 = .ok (.goto 4, 3) := by decide +kernel
theorem dX6_isShelf_13 : decode cX6_isShelf 13 = .ok (.iconst 0, 1) := by decide +kernel
theorem dX6_isShelf_14 : decode cX6_isShelf 14 = .ok (.ireturn, 1) := by decide +kernel
theorem dX3_pop_0 : decode cX3_pop 0 = .ok (.aload_n 0, 1) := by decide +kernel
theorem dX3_pop_1 : decode cX3_pop 1 = .ok (.getfield 26, 3) := by decide +kernel
theorem dX3_pop_4 : decode cX3_pop 4 = .ok (.ifCond .ne 5, 3) := by decide +kernel
theorem dX3_pop_7 : decode cX3_pop 7 = .ok (.iconst 0, 1) := by decide +kernel
theorem dX3_pop_8 : decode cX3_pop 8 = .ok (.ireturn, 1) := by decide +kernel
theorem dX0_entryStart_0 : decode cX0_entryStart 0 = .ok (.iconst 0, 1) := by decide +kernel
theorem dX0_entryStart_1 : decode cX0_entryStart 1 = .ok (.istore_n 2, 1) := by decide +kernel
theorem dX0_entryStart_2 : decode cX0_entryStart 2 = .ok (.iconst 0, 1) := by decide +kernel
theorem dX0_entryStart_3 : decode cX0_entryStart 3 = .ok (.istore_n 3, 1) := by decide +kernel
theorem dX0_entryStart_4 : decode cX0_entryStart 4 = .ok (.iload_n 3, 1) := by decide +kernel
theorem dX0_entryStart_5 : decode cX0_entryStart 5 = .ok (.iload_n 1, 1) := by decide +kernel
theorem dX0_entryStart_6 : decode cX0_entryStart 6 = .ok (.if_icmp .ge 33, 3) := by decide +kernel
theorem dX0_entryStart_39 : decode cX0_entryStart 39 = .ok (.iload_n 2, 1) := by decide +kernel
theorem dX0_entryStart_40 : decode cX0_entryStart 40 = .ok (.ireturn, 1) := by decide +kernel
theorem dX0_entryCount_0 : decode cX0_entryCount 0 = .ok (.aload_n 0, 1) := by decide +kernel
theorem dX0_entryCount_1 : decode cX0_entryCount 1 = .ok (.aload_n 0, 1) := by decide +kernel
theorem dX0_entryCount_2 : decode cX0_entryCount 2 = .ok (.getfield 59, 3) := by decide +kernel
theorem dX0_entryCount_5 : decode cX0_entryCount 5 = .ok (.invokevirtual 171, 3) := by decide +kernel
theorem dX0_entryCount_8 : decode cX0_entryCount 8 = .ok (.ireturn, 1) := by decide +kernel
theorem dX5_addNumber_0 : decode cX5_addNumber 0 = .ok (.bipush 24, 2) := by decide +kernel
theorem dX5_addNumber_2 : decode cX5_addNumber 2 = .ok (.istore_n 2, 1) := by decide +kernel
theorem dX5_addNumber_3 : decode cX5_addNumber 3 = .ok (.iload_n 2, 1) := by decide +kernel
theorem dX5_addNumber_4 : decode cX5_addNumber 4 = .ok (.ifCond .lt 45, 3) := by decide +kernel
theorem dX5_addNumber_7 : decode cX5_addNumber 7 = .ok (.aload_n 0, 1) := by decide +kernel
theorem dX5_addNumber_8 : decode cX5_addNumber 8 = .ok (.getfield 15, 3) := by decide +kernel
theorem dX5_addNumber_11 : decode cX5_addNumber 11 = .ok (.sipush 400, 3) := by decide +kernel
theorem dX5_addNumber_14 : decode cX5_addNumber 14 = .ok (.if_icmp .ge 29, 3) := by decide +kernel
theorem dX5_addNumber_17 : decode cX5_addNumber 17 = .ok (.aload_n 0, 1) := by decide +kernel
theorem dX5_addNumber_18 : decode cX5_addNumber 18 = .ok (.getfield 9, 3) := by decide +kernel
theorem dX5_addNumber_21 : decode cX5_addNumber 21 = .ok (.aload_n 0, 1) := by decide +kernel
theorem dX5_addNumber_22 : decode cX5_addNumber 22 = .ok (.getfield 15, 3) := by decide +kernel
theorem dX5_addNumber_25 : decode cX5_addNumber 25 = .ok (.iload_n 1, 1) := by decide +kernel
theorem dX5_addNumber_26 : decode cX5_addNumber 26 = .ok (.iload_n 2, 1) := by decide +kernel
theorem dX5_addNumber_27 : decode cX5_addNumber 27 = .ok (.ishr, 1) := by decide +kernel
theorem dX5_addNumber_28 : decode cX5_addNumber 28 = .ok (.sipush 255, 3) := by decide +kernel
theorem dX5_addNumber_31 : decode cX5_addNumber 31 = .ok (.iand, 1) := by decide +kernel
theorem dX5_addNumber_32 : decode cX5_addNumber 32 = .ok (.iastore, 1) := by decide +kernel
theorem dX5_addNumber_33 : decode cX5_addNumber 33 = .ok (.aload_n 0, 1) := by decide +kernel
theorem dX5_addNumber_34 : decode cX5_addNumber 34 = .ok (.dup, 1) := by decide +kernel
theorem dX5_addNumber_35 : decode cX5_addNumber 35 = .ok (.getfield 15, 3) := by decide +kernel
theorem dX5_addNumber_38 : decode cX5_addNumber 38 = .ok (.iconst 1, 1) := by decide +kernel
theorem dX5_addNumber_39 : decode cX5_addNumber 39 = .ok (.iadd, 1) := by decide +kernel
theorem dX5_addNumber_40 : decode cX5_addNumber 40 = .ok (.putfield 15, 3) := by decide +kernel
theorem dX5_addNumber_43 : decode cX5_addNumber 43 = .ok (.iinc 2 (-8), 3) := by decide +kernel
theorem dX5_addNumber_46 : decode cX5_addNumber 46 = .ok (.goto (-43), 3) := by decide +kernel
theorem dX5_addNumber_49 : decode cX5_addNumber 49 = .ok (.return_, 1) := by decide +kernel
theorem dJ7_fill_53178_0 : decode cJ7_fill_53178 0 = .ok (.iconst 0, 1) := by decide +kernel
theorem dJ7_fill_53178_1 : decode cJ7_fill_53178 1 = .ok (.istore_n 2, 1) := by decide +kernel
theorem dJ7_fill_53178_2 : decode cJ7_fill_53178 2 = .ok (.aload_n 0, 1) := by decide +kernel
theorem dJ7_fill_53178_3 : decode cJ7_fill_53178 3 = .ok (.arraylength, 1) := by decide +kernel
theorem dJ7_fill_53178_4 : decode cJ7_fill_53178 4 = .ok (.istore_n 3, 1) := by decide +kernel
theorem dJ7_fill_53178_5 : decode cJ7_fill_53178 5 = .ok (.iload_n 2, 1) := by decide +kernel
theorem dJ7_fill_53178_6 : decode cJ7_fill_53178 6 = .ok (.iload_n 3, 1) := by decide +kernel
theorem dJ7_fill_53178_7 : decode cJ7_fill_53178 7 = .ok (.if_icmp .ge 13, 3) := by decide +kernel
theorem dJ7_fill_53178_10 : decode cJ7_fill_53178 10 = .ok (.aload_n 0, 1) := by decide +kernel
theorem dJ7_fill_53178_11 : decode cJ7_fill_53178 11 = .ok (.iload_n 2, 1) := by decide +kernel
theorem dJ7_fill_53178_12 : decode cJ7_fill_53178 12 = .ok (.iload_n 1, 1) := by decide +kernel
theorem dJ7_fill_53178_13 : decode cJ7_fill_53178 13 = .ok (.iastore, 1) := by decide +kernel
theorem dJ7_fill_53178_14 : decode cJ7_fill_53178 14 = .ok (.iinc 2 1, 3) := by decide +kernel
theorem dJ7_fill_53178_17 : decode cJ7_fill_53178 17 = .ok (.goto (-12), 3) := by decide +kernel
theorem dJ7_fill_53178_20 : decode cJ7_fill_53178 20 = .ok (.return_, 1) := by decide +kernel
theorem dX2_sortByLeft_0 : decode cX2_sortByLeft 0 = .ok (.aload_n 0, 1) := by decide +kernel
theorem dX2_sortByLeft_1 : decode cX2_sortByLeft 1 = .ok (.getfield 9, 3) := by decide +kernel
theorem dX2_sortByLeft_4 : decode cX2_sortByLeft 4 = .ok (.iconst (-1), 1) := by decide +kernel
theorem dX2_sortByLeft_5 : decode cX2_sortByLeft 5 = .ok (.invokestatic 84, 3) := by decide +kernel
theorem dX2_sortByLeft_8 : decode cX2_sortByLeft 8 = .ok (.iconst 0, 1) := by decide +kernel
theorem dX2_sortByLeft_9 : decode cX2_sortByLeft 9 = .ok (.istore_n 2, 1) := by decide +kernel
theorem dX2_sortByLeft_10 : decode cX2_sortByLeft 10 = .ok (.aload_n 1, 1) := by decide +kernel
theorem dX2_sortByLeft_11 : decode cX2_sortByLeft 11 = .ok (.invokevirtual 90, 3) := by decide +kernel
theorem dX2_sortByLeft_14 : decode cX2_sortByLeft 14 = .ok (.iconst 1, 1) := by decide +kernel
theorem dX2_sortByLeft_15 : decode cX2_sortByLeft 15 = .ok (.isub, 1) := by decide +kernel
theorem dX2_sortByLeft_16 : decode cX2_sortByLeft 16 = .ok (.istore_n 3, 1) := by decide +kernel
theorem dX2_sortByLeft_17 : decode cX2_sortByLeft 17 = .ok (.iload_n 3, 1) := by decide +kernel
theorem dX2_sortByLeft_18 : decode cX2_sortByLeft 18 = .ok (.ifCond .lt 56, 3) := by decide +kernel
theorem dX2_sortByLeft_74 : decode cX2_sortByLeft 74 = .ok (.iload_n 2, 1) := by decide +kernel
theorem dX2_sortByLeft_75 : decode cX2_sortByLeft 75 = .ok (.ireturn, 1) := by decide +kernel
theorem dX2_choose_0 : decode cX2_choose 0 = .ok (.aload_n 0, 1) := by decide +kernel
theorem dX2_choose_1 : decode cX2_choose 1 = .ok (.iconst 0, 1) := by decide +kernel
theorem dX2_choose_2 : decode cX2_choose 2 = .ok (.putfield 28, 3) := by decide +kernel
theorem dX2_choose_5 : decode cX2_choose 5 = .ok (.aload_n 0, 1) := by decide +kernel
theorem dX2_choose_6 : decode cX2_choose 6 = .ok (.iconst 0, 1) := by decide +kernel
theorem dX2_choose_7 : decode cX2_choose 7 = .ok (.putfield 65, 3) := by decide +kernel
theorem dX2_choose_10 : decode cX2_choose 10 = .ok (.aload_n 0, 1) := by decide +kernel
theorem dX2_choose_11 : decode cX2_choose 11 = .ok (.aload_n 1, 1) := by decide +kernel
theorem dX2_choose_12 : decode cX2_choose 12 = .ok (.invokevirtual 74, 3) := by decide +kernel
theorem dX2_choose_15 : decode cX2_choose 15 = .ok (.istore_n 2, 1) := by decide +kernel
theorem dX2_choose_16 : decode cX2_choose 16 = .ok (.iload_n 2, 1) := by decide +kernel
theorem dX2_choose_17 : decode cX2_choose 17 = .ok (.istore_n 3, 1) := by decide +kernel
theorem dX2_choose_18 : decode cX2_choose 18 = .ok (.iload_n 3, 1) := by decide +kernel
theorem dX2_choose_19 : decode cX2_choose 19 = .ok (.ifCond .le 117, 3) := by decide +kernel
theorem dX2_choose_136 : decode cX2_choose 136 = .ok (.return_, 1) := by decide +kernel
theorem dX6_shelvesUsed_0 : decode cX6_shelvesUsed 0 = .ok (.iconst 0, 1) := by decide +kernel
theorem dX6_shelvesUsed_1 : decode cX6_shelvesUsed 1 = .ok (.istore_n 1, 1) := by decide +kernel
theorem dX6_shelvesUsed_2 : decode cX6_shelvesUsed 2 = .ok (.iconst 0, 1) := by decide +kernel
theorem dX6_shelvesUsed_3 : decode cX6_shelvesUsed 3 = .ok (.istore_n 2, 1) := by decide +kernel
theorem dX6_shelvesUsed_4 : decode cX6_shelvesUsed 4 = .ok (.iload_n 2, 1) := by decide +kernel
theorem dX6_shelvesUsed_5 : decode cX6_shelvesUsed 5 = .ok (.iconst 2, 1) := by decide +kernel
theorem dX6_shelvesUsed_6 : decode cX6_shelvesUsed 6 = .ok (.if_icmp .ge 24, 3) := by decide +kernel
theorem dX6_shelvesUsed_9 : decode cX6_shelvesUsed 9 = .ok (.aload_n 0, 1) := by decide +kernel
theorem dX6_shelvesUsed_10 : decode cX6_shelvesUsed 10 = .ok (.getfield 47, 3) := by decide +kernel
theorem dX6_shelvesUsed_13 : decode cX6_shelvesUsed 13 = .ok (.iload_n 2, 1) := by decide +kernel
theorem dX6_shelvesUsed_14 : decode cX6_shelvesUsed 14 = .ok (.aaload, 1) := by decide +kernel
theorem dX6_shelvesUsed_15 : decode cX6_shelvesUsed 15 = .ok (.ifnull 9, 3) := by decide +kernel
theorem dX6_shelvesUsed_24 : decode cX6_shelvesUsed 24 = .ok (.iinc 2 1, 3) := by decide +kernel
theorem dX6_shelvesUsed_27 : decode cX6_shelvesUsed 27 = .ok (.goto (-23), 3) := by decide +kernel
theorem dX6_shelvesUsed_30 : decode cX6_shelvesUsed 30 = .ok (.iload_n 1, 1) := by decide +kernel
theorem dX6_shelvesUsed_31 : decode cX6_shelvesUsed 31 = .ok (.ireturn, 1) := by decide +kernel
theorem dX7_in_0 : decode cX7_in 0 = .ok (.lload_n 0, 1) := by decide +kernel
theorem dX7_in_1 : decode cX7_in 1 = .ok (.lload_n 2, 1) := by decide +kernel
theorem dX7_in_2 : decode cX7_in 2 = .ok (.lcmp, 1) := by decide +kernel
theorem dX7_in_3 : decode cX7_in 3 = .ok (.ifCond .lt 14, 3) := by decide +kernel
theorem dX7_in_6 : decode cX7_in 6 = .ok (.lload_n 0, 1) := by decide +kernel
theorem dX7_in_7 : decode cX7_in 7 = .ok (.lload 4, 2) := by decide +kernel
theorem dX7_in_9 : decode cX7_in 9 = .ok (.lcmp, 1) := by decide +kernel
theorem dX7_in_10 : decode cX7_in 10 = .ok (.ifCond .gt 7, 3) := by decide +kernel
theorem dX7_in_13 : decode cX7_in 13 = .ok (.iconst 1, 1) := by decide +kernel
theorem dX7_in_14 : decode cX7_in 14 = .ok (.goto 4, 3) := by decide +kernel
theorem dX7_in_17 : decode cX7_in 17 = .ok (.iconst 0, 1) := by decide +kernel
theorem dX7_in_18 : decode cX7_in 18 = .ok (.ireturn, 1) := by decide +kernel
theorem dX7_rows_0 : decode cX7_rows 0 = .ok (.aload_n 0, 1) := by decide +kernel
theorem dX7_rows_1 : decode cX7_rows 1 = .ok (.getfield 7, 3) := by decide +kernel
theorem dX7_rows_4 : decode cX7_rows 4 = .ok (.iconst 0, 1) := by decide +kernel
theorem dX7_rows_5 : decode cX7_rows 5 = .ok (.laload, 1) := by decide +kernel
theorem dX7_rows_6 : decode cX7_rows 6 = .ok (.l2i, 1) := by decide +kernel
theorem dX7_rows_7 : decode cX7_rows 7 = .ok (.ireturn, 1) := by decide +kernel
theorem dX7_wide_0 : decode cX7_wide 0 = .ok (.aload_n 0, 1) := by decide +kernel
theorem dX7_wide_1 : decode cX7_wide 1 = .ok (.getfield 7, 3) := by decide +kernel
theorem dX7_wide_4 : decode cX7_wide 4 = .ok (.iconst 1, 1) := by decide +kernel
theorem dX7_wide_5 : decode cX7_wide 5 = .ok (.laload, 1) := by decide +kernel
theorem dX7_wide_6 : decode cX7_wide 6 = .ok (.l2i, 1) := by decide +kernel
theorem dX7_wide_7 : decode cX7_wide 7 = .ok (.ireturn, 1) := by decide +kernel
theorem dX7_cells_0 : decode cX7_cells 0 = .ok (.aload_n 0, 1) := by decide +kernel
theorem dX7_cells_1 : decode cX7_cells 1 = .ok (.invokevirtual 43, 3) := by decide +kernel
theorem dX7_cells_4 : decode cX7_cells 4 = .ok (.aload_n 0, 1) := by decide +kernel
theorem dX7_cells_5 : decode cX7_cells 5 = .ok (.invokevirtual 47, 3) := by decide +kernel
theorem dX7_cells_8 : decode cX7_cells 8 = .ok (.imul, 1) := by decide +kernel
theorem dX7_cells_9 : decode cX7_cells 9 = .ok (.ireturn, 1) := by decide +kernel
theorem dX7_drums_0 : decode cX7_drums 0 = .ok (.aload_n 0, 1) := by decide +kernel
theorem dX7_drums_1 : decode cX7_drums 1 = .ok (.getfield 7, 3) := by decide +kernel
theorem dX7_drums_4 : decode cX7_drums 4 = .ok (.iconst 3, 1) := by decide +kernel
theorem dX7_drums_5 : decode cX7_drums 5 = .ok (.laload, 1) := by decide +kernel
theorem dX7_drums_6 : decode cX7_drums 6 = .ok (.l2i, 1) := by decide +kernel
theorem dX7_drums_7 : decode cX7_drums 7 = .ok (.ireturn, 1) := by decide +kernel
theorem dX7_isBoard_0 : decode cX7_isBoard 0 = .ok (.aload_n 0, 1) := by decide +kernel
theorem dX7_isBoard_1 : decode cX7_isBoard 1 = .ok (.invokevirtual 50, 3) := by decide +kernel
theorem dX7_isBoard_4 : decode cX7_isBoard 4 = .ok (.ifCond .le 7, 3) := by decide +kernel
theorem dX7_isBoard_11 : decode cX7_isBoard 11 = .ok (.iconst 0, 1) := by decide +kernel
theorem dX7_isBoard_12 : decode cX7_isBoard 12 = .ok (.ireturn, 1) := by decide +kernel
theorem dX7_isCell_0 : decode cX7_isCell 0 = .ok (.iload_n 1, 1) := by decide +kernel
theorem dX7_isCell_1 : decode cX7_isCell 1 = .ok (.i2l, 1) := by decide +kernel
theorem dX7_isCell_2 : decode cX7_isCell 2 = .ok (.lconst 0, 1) := by decide +kernel
theorem dX7_isCell_3 : decode cX7_isCell 3 = .ok (.aload_n 0, 1) := by decide +kernel
theorem dX7_isCell_4 : decode cX7_isCell 4 = .ok (.invokevirtual 53, 3) := by decide +kernel
theorem dX7_isCell_7 : decode cX7_isCell 7 = .ok (.iconst 1, 1) := by decide +kernel
theorem dX7_isCell_8 : decode cX7_isCell 8 = .ok (.isub, 1) := by decide +kernel
theorem dX7_isCell_9 : decode cX7_isCell 9 = .ok (.i2l, 1) := by decide +kernel
theorem dX7_isCell_10 : decode cX7_isCell 10 = .ok (.invokestatic 39, 3) := by decide +kernel
theorem dX7_isCell_13 : decode cX7_isCell 13 = .ok (.ireturn, 1) := by decide +kernel
theorem dX7_isRow_0 : decode cX7_isRow 0 = .ok (.iload_n 1, 1) := by decide +kernel
theorem dX7_isRow_1 : decode cX7_isRow 1 = .ok (.i2l, 1) := by decide +kernel
theorem dX7_isRow_2 : decode cX7_isRow 2 = .ok (.lconst 0, 1) := by decide +kernel
theorem dX7_isRow_3 : decode cX7_isRow 3 = .ok (.aload_n 0, 1) := by decide +kernel
theorem dX7_isRow_4 : decode cX7_isRow 4 = .ok (.invokevirtual 43, 3) := by decide +kernel
theorem dX7_isRow_7 : decode cX7_isRow 7 = .ok (.iconst 1, 1) := by decide +kernel
theorem dX7_isRow_8 : decode cX7_isRow 8 = .ok (.isub, 1) := by decide +kernel
theorem dX7_isRow_9 : decode cX7_isRow 9 = .ok (.i2l, 1) := by decide +kernel
theorem dX7_isRow_10 : decode cX7_isRow 10 = .ok (.invokestatic 39, 3) := by decide +kernel
theorem dX7_isRow_13 : decode cX7_isRow 13 = .ok (.ireturn, 1) := by decide +kernel
theorem dX7_isDrum_0 : decode cX7_isDrum 0 = .ok (.iload_n 1, 1) := by decide +kernel
theorem dX7_isDrum_1 : decode cX7_isDrum 1 = .ok (.i2l, 1) := by decide +kernel
theorem dX7_isDrum_2 : decode cX7_isDrum 2 = .ok (.lconst 0, 1) := by decide +kernel
theorem dX7_isDrum_3 : decode cX7_isDrum 3 = .ok (.aload_n 0, 1) := by decide +kernel
theorem dX7_isDrum_4 : decode cX7_isDrum 4 = .ok (.invokevirtual 50, 3) := by decide +kernel
theorem dX7_isDrum_7 : decode cX7_isDrum 7 = .ok (.iconst 1, 1) := by decide +kernel
theorem dX7_isDrum_8 : decode cX7_isDrum 8 = .ok (.isub, 1) := by decide +kernel
theorem dX7_isDrum_9 : decode cX7_isDrum 9 = .ok (.i2l, 1) := by decide +kernel
theorem dX7_isDrum_10 : decode cX7_isDrum 10 = .ok (.invokestatic 39, 3) := by decide +kernel
theorem dX7_isDrum_13 : decode cX7_isDrum 13 = .ok (.ireturn, 1) := by decide +kernel
theorem dX7_isFlap_0 : decode cX7_isFlap 0 = .ok (.aload_n 0, 1) := by decide +kernel
theorem dX7_isFlap_1 : decode cX7_isFlap 1 = .ok (.iload_n 1, 1) := by decide +kernel
theorem dX7_isFlap_2 : decode cX7_isFlap 2 = .ok (.invokevirtual 162, 3) := by decide +kernel
theorem dX7_isFlap_5 : decode cX7_isFlap 5 = .ok (.ifCond .eq 24, 3) := by decide +kernel
theorem dX7_isFlap_29 : decode cX7_isFlap 29 = .ok (.iconst 0, 1) := by decide +kernel
theorem dX7_isFlap_30 : decode cX7_isFlap 30 = .ok (.ireturn, 1) := by decide +kernel
theorem dX7_findsTurning_0 : decode cX7_findsTurning 0 = .ok (.aload_n 0, 1) := by decide +kernel
theorem dX7_findsTurning_1 : decode cX7_findsTurning 1 = .ok (.lconst 0, 1) := by decide +kernel
theorem dX7_findsTurning_2 : decode cX7_findsTurning 2 = .ok (.putfield 82, 3) := by decide +kernel
theorem dX7_findsTurning_5 : decode cX7_findsTurning 5 = .ok (.aload_n 0, 1) := by decide +kernel
theorem dX7_findsTurning_6 : decode cX7_findsTurning 6 = .ok (.iconst 0, 1) := by decide +kernel
theorem dX7_findsTurning_7 : decode cX7_findsTurning 7 = .ok (.putfield 86, 3) := by decide +kernel
theorem dX7_findsTurning_10 : decode cX7_findsTurning 10 = .ok (.aload_n 0, 1) := by decide +kernel
theorem dX7_findsTurning_11 : decode cX7_findsTurning 11 = .ok (.iconst 0, 1) := by decide +kernel
theorem dX7_findsTurning_12 : decode cX7_findsTurning 12 = .ok (.putfield 90, 3) := by decide +kernel
theorem dX7_findsTurning_15 : decode cX7_findsTurning 15 = .ok (.lconst 0, 1) := by decide +kernel
theorem dX7_findsTurning_16 : decode cX7_findsTurning 16 = .ok (.lstore_n 1, 1) := by decide +kernel
theorem dX7_findsTurning_17 : decode cX7_findsTurning 17 = .ok (.iconst 0, 1) := by decide +kernel
theorem dX7_findsTurning_18 : decode cX7_findsTurning 18 = .ok (.istore_n 3, 1) := by decide +kernel
theorem dX7_findsTurning_19 : decode cX7_findsTurning 19 = .ok (.iload_n 3, 1) := by decide +kernel
theorem dX7_findsTurning_20 : decode cX7_findsTurning 20 = .ok (.aload_n 0, 1) := by decide +kernel
theorem dX7_findsTurning_21 : decode cX7_findsTurning 21 = .ok (.invokevirtual 53, 3) := by decide +kernel
theorem dX7_findsTurning_24 : decode cX7_findsTurning 24 = .ok (.if_icmp .ge 150, 3) := by decide +kernel
theorem dX7_findsTurning_174 : decode cX7_findsTurning 174 = .ok (.return_, 1) := by decide +kernel
theorem dX7_lays_0 : decode cX7_lays 0 = .ok (.bipush 24, 2) := by decide +kernel
theorem dX7_lays_2 : decode cX7_lays 2 = .ok (.istore_n 2, 1) := by decide +kernel
theorem dX7_lays_3 : decode cX7_lays 3 = .ok (.iload_n 2, 1) := by decide +kernel
theorem dX7_lays_4 : decode cX7_lays 4 = .ok (.ifCond .lt 32, 3) := by decide +kernel
theorem dX7_lays_7 : decode cX7_lays 7 = .ok (.aload_n 0, 1) := by decide +kernel
theorem dX7_lays_8 : decode cX7_lays 8 = .ok (.getfield 31, 3) := by decide +kernel
theorem dX7_lays_11 : decode cX7_lays 11 = .ok (.aload_n 0, 1) := by decide +kernel
theorem dX7_lays_12 : decode cX7_lays 12 = .ok (.getfield 135, 3) := by decide +kernel
theorem dX7_lays_15 : decode cX7_lays 15 = .ok (.iload_n 1, 1) := by decide +kernel
theorem dX7_lays_16 : decode cX7_lays 16 = .ok (.iload_n 2, 1) := by decide +kernel
theorem dX7_lays_17 : decode cX7_lays 17 = .ok (.ishr, 1) := by decide +kernel
theorem dX7_lays_18 : decode cX7_lays 18 = .ok (.i2b, 1) := by decide +kernel
theorem dX7_lays_19 : decode cX7_lays 19 = .ok (.bastore, 1) := by decide +kernel
theorem dX7_lays_20 : decode cX7_lays 20 = .ok (.aload_n 0, 1) := by decide +kernel
theorem dX7_lays_21 : decode cX7_lays 21 = .ok (.dup, 1) := by decide +kernel
theorem dX7_lays_22 : decode cX7_lays 22 = .ok (.getfield 135, 3) := by decide +kernel
theorem dX7_lays_25 : decode cX7_lays 25 = .ok (.iconst 1, 1) := by decide +kernel
theorem dX7_lays_26 : decode cX7_lays 26 = .ok (.iadd, 1) := by decide +kernel
theorem dX7_lays_27 : decode cX7_lays 27 = .ok (.putfield 135, 3) := by decide +kernel
theorem dX7_lays_30 : decode cX7_lays 30 = .ok (.iinc 2 (-8), 3) := by decide +kernel
theorem dX7_lays_33 : decode cX7_lays 33 = .ok (.goto (-30), 3) := by decide +kernel
theorem dX7_lays_36 : decode cX7_lays 36 = .ok (.return_, 1) := by decide +kernel
theorem dX5_init_0 : decode cX5_init 0 = .ok (.aload_n 0, 1) := by decide +kernel
theorem dX5_init_1 : decode cX5_init 1 = .ok (.invokespecial 3, 3) := by decide +kernel
theorem dX5_init_4 : decode cX5_init 4 = .ok (.aload_n 0, 1) := by decide +kernel
theorem dX5_init_5 : decode cX5_init 5 = .ok (.sipush 400, 3) := by decide +kernel
theorem dX5_init_8 : decode cX5_init 8 = .ok (.newarray .int, 2) := by decide +kernel
theorem dX5_init_10 : decode cX5_init 10 = .ok (.putfield 9, 3) := by decide +kernel
theorem dX5_init_13 : decode cX5_init 13 = .ok (.return_, 1) := by decide +kernel
theorem dX0_init_0 : decode cX0_init 0 = .ok (.aload_n 0, 1) := by decide +kernel
theorem dX0_init_1 : decode cX0_init 1 = .ok (.invokespecial 3, 3) := by decide +kernel
theorem dX0_init_4 : decode cX0_init 4 = .ok (.aload_n 0, 1) := by decide +kernel
theorem dX0_init_5 : decode cX0_init 5 = .ok (.iconst 4, 1) := by decide +kernel
theorem dX0_init_6 : decode cX0_init 6 = .ok (.newarray .int, 2) := by decide +kernel
theorem dX0_init_8 : decode cX0_init 8 = .ok (.putfield 9, 3) := by decide +kernel
theorem dX0_init_11 : decode cX0_init 11 = .ok (.aload_n 0, 1) := by decide +kernel
theorem dX0_init_12 : decode cX0_init 12 = .ok (.iconst 4, 1) := by decide +kernel
theorem dX0_init_13 : decode cX0_init 13 = .ok (.newarray .int, 2) := by decide +kernel
theorem dX0_init_15 : decode cX0_init 15 = .ok (.putfield 15, 3) := by decide +kernel
theorem dX0_init_18 : decode cX0_init 18 = .ok (.aload_n 0, 1) := by decide +kernel
theorem dX0_init_19 : decode cX0_init 19 = .ok (.sipush 160, 3) := by decide +kernel
theorem dX0_init_22 : decode cX0_init 22 = .ok (.newarray .int, 2) := by decide +kernel
theorem dX0_init_24 : decode cX0_init 24 = .ok (.putfield 18, 3) := by decide +kernel
theorem dX0_init_27 : decode cX0_init 27 = .ok (.aload_n 0, 1) := by decide +kernel
theorem dX0_init_28 : decode cX0_init 28 = .ok (.bipush 40, 2) := by decide +kernel
theorem dX0_init_30 : decode cX0_init 30 = .ok (.newarray .int, 2) := by decide +kernel
theorem dX0_init_32 : decode cX0_init 32 = .ok (.putfield 21, 3) := by decide +kernel
theorem dX0_init_35 : decode cX0_init 35 = .ok (.aload_n 0, 1) := by decide +kernel
theorem dX0_init_36 : decode cX0_init 36 = .ok (.bipush 40, 2) := by decide +kernel
theorem dX0_init_38 : decode cX0_init 38 = .ok (.newarray .int, 2) := by decide +kernel
theorem dX0_init_40 : decode cX0_init 40 = .ok (.putfield 24, 3) := by decide +kernel
theorem dX0_init_43 : decode cX0_init 43 = .ok (.aload_n 0, 1) := by decide +kernel
theorem dX0_init_44 : decode cX0_init 44 = .ok (.bipush 40, 2) := by decide +kernel
theorem dX0_init_46 : decode cX0_init 46 = .ok (.newarray .int, 2) := by decide +kernel
theorem dX0_init_48 : decode cX0_init 48 = .ok (.putfield 27, 3) := by decide +kernel
theorem dX0_init_51 : decode cX0_init 51 = .ok (.aload_n 0, 1) := by decide +kernel
theorem dX0_init_52 : decode cX0_init 52 = .ok (.bipush 40, 2) := by decide +kernel
theorem dX0_init_54 : decode cX0_init 54 = .ok (.newarray .int, 2) := by decide +kernel
theorem dX0_init_56 : decode cX0_init 56 = .ok (.putfield 30, 3) := by decide +kernel
theorem dX0_init_59 : decode cX0_init 59 = .ok (.aload_n 0, 1) := by decide +kernel
theorem dX0_init_60 : decode cX0_init 60 = .ok (.bipush 40, 2) := by decide +kernel
theorem dX0_init_62 : decode cX0_init 62 = .ok (.newarray .int, 2) := by decide +kernel
theorem dX0_init_64 : decode cX0_init 64 = .ok (.putfield 33, 3) := by decide +kernel
theorem dX0_init_67 : decode cX0_init 67 = .ok (.aload_n 0, 1) := by decide +kernel
theorem dX0_init_68 : decode cX0_init 68 = .ok (.bipush 40, 2) := by decide +kernel
theorem dX0_init_70 : decode cX0_init 70 = .ok (.newarray .int, 2) := by decide +kernel
theorem dX0_init_72 : decode cX0_init 72 = .ok (.putfield 36, 3) := by decide +kernel
theorem dX0_init_75 : decode cX0_init 75 = .ok (.aload_n 0, 1) := by decide +kernel
theorem dX0_init_76 : decode cX0_init 76 = .ok (.bipush 40, 2) := by decide +kernel
theorem dX0_init_78 : decode cX0_init 78 = .ok (.newarray .int, 2) := by decide +kernel
theorem dX0_init_80 : decode cX0_init 80 = .ok (.putfield 39, 3) := by decide +kernel
theorem dX0_init_83 : decode cX0_init 83 = .ok (.aload_n 0, 1) := by decide +kernel
theorem dX0_init_84 : decode cX0_init 84 = .ok (.bipush 40, 2) := by decide +kernel
theorem dX0_init_86 : decode cX0_init 86 = .ok (.newarray .long, 2) := by decide +kernel
theorem dX0_init_88 : decode cX0_init 88 = .ok (.putfield 42, 3) := by decide +kernel
theorem dX0_init_91 : decode cX0_init 91 = .ok (.aload_n 0, 1) := by decide +kernel
theorem dX0_init_92 : decode cX0_init 92 = .ok (.iconst 0, 1) := by decide +kernel
theorem dX0_init_93 : decode cX0_init 93 = .ok (.newarray .int, 2) := by decide +kernel
theorem dX0_init_95 : decode cX0_init 95 = .ok (.putfield 46, 3) := by decide +kernel
theorem dX0_init_98 : decode cX0_init 98 = .ok (.return_, 1) := by decide +kernel
theorem dX2_init_0 : decode cX2_init 0 = .ok (.aload_n 0, 1) := by decide +kernel
theorem dX2_init_1 : decode cX2_init 1 = .ok (.invokespecial 3, 3) := by decide +kernel
theorem dX2_init_4 : decode cX2_init 4 = .ok (.aload_n 0, 1) := by decide +kernel
theorem dX2_init_5 : decode cX2_init 5 = .ok (.bipush 40, 2) := by decide +kernel
theorem dX2_init_7 : decode cX2_init 7 = .ok (.newarray .int, 2) := by decide +kernel
theorem dX2_init_9 : decode cX2_init 9 = .ok (.putfield 9, 3) := by decide +kernel
theorem dX2_init_12 : decode cX2_init 12 = .ok (.aload_n 0, 1) := by decide +kernel
theorem dX2_init_13 : decode cX2_init 13 = .ok (.bipush 40, 2) := by decide +kernel
theorem dX2_init_15 : decode cX2_init 15 = .ok (.newarray .int, 2) := by decide +kernel
theorem dX2_init_17 : decode cX2_init 17 = .ok (.putfield 15, 3) := by decide +kernel
theorem dX2_init_20 : decode cX2_init 20 = .ok (.aload_n 0, 1) := by decide +kernel
theorem dX2_init_21 : decode cX2_init 21 = .ok (.bipush 40, 2) := by decide +kernel
theorem dX2_init_23 : decode cX2_init 23 = .ok (.newarray .int, 2) := by decide +kernel
theorem dX2_init_25 : decode cX2_init 25 = .ok (.putfield 18, 3) := by decide +kernel
theorem dX2_init_28 : decode cX2_init 28 = .ok (.return_, 1) := by decide +kernel
theorem dX4_init_0 : decode cX4_init 0 = .ok (.aload_n 0, 1) := by decide +kernel
theorem dX4_init_1 : decode cX4_init 1 = .ok (.invokespecial 3, 3) := by decide +kernel
theorem dX4_init_4 : decode cX4_init 4 = .ok (.aload_n 0, 1) := by decide +kernel
theorem dX4_init_5 : decode cX4_init 5 = .ok (.bipush 80, 2) := by decide +kernel
theorem dX4_init_7 : decode cX4_init 7 = .ok (.newarray .int, 2) := by decide +kernel
theorem dX4_init_9 : decode cX4_init 9 = .ok (.putfield 11, 3) := by decide +kernel
theorem dX4_init_12 : decode cX4_init 12 = .ok (.aload_n 0, 1) := by decide +kernel
theorem dX4_init_13 : decode cX4_init 13 = .ok (.bipush 80, 2) := by decide +kernel
theorem dX4_init_15 : decode cX4_init 15 = .ok (.newarray .int, 2) := by decide +kernel
theorem dX4_init_17 : decode cX4_init 17 = .ok (.putfield 15, 3) := by decide +kernel
theorem dX4_init_20 : decode cX4_init 20 = .ok (.aload_n 0, 1) := by decide +kernel
theorem dX4_init_21 : decode cX4_init 21 = .ok (.bipush 80, 2) := by decide +kernel
theorem dX4_init_23 : decode cX4_init 23 = .ok (.newarray .int, 2) := by decide +kernel
theorem dX4_init_25 : decode cX4_init 25 = .ok (.putfield 18, 3) := by decide +kernel
theorem dX4_init_28 : decode cX4_init 28 = .ok (.aload_n 0, 1) := by decide +kernel
theorem dX4_init_29 : decode cX4_init 29 = .ok (.bipush 80, 2) := by decide +kernel
theorem dX4_init_31 : decode cX4_init 31 = .ok (.newarray .int, 2) := by decide +kernel
theorem dX4_init_33 : decode cX4_init 33 = .ok (.putfield 21, 3) := by decide +kernel
theorem dX4_init_36 : decode cX4_init 36 = .ok (.aload_n 0, 1) := by decide +kernel
theorem dX4_init_37 : decode cX4_init 37 = .ok (.bipush 80, 2) := by decide +kernel
theorem dX4_init_39 : decode cX4_init 39 = .ok (.newarray .int, 2) := by decide +kernel
theorem dX4_init_41 : decode cX4_init 41 = .ok (.putfield 24, 3) := by decide +kernel
theorem dX4_init_44 : decode cX4_init 44 = .ok (.aload_n 0, 1) := by decide +kernel
theorem dX4_init_45 : decode cX4_init 45 = .ok (.iconst 3, 1) := by decide +kernel
theorem dX4_init_46 : decode cX4_init 46 = .ok (.newarray .int, 2) := by decide +kernel
theorem dX4_init_48 : decode cX4_init 48 = .ok (.putfield 27, 3) := by decide +kernel
theorem dX4_init_51 : decode cX4_init 51 = .ok (.aload_n 0, 1) := by decide +kernel
theorem dX4_init_52 : decode cX4_init 52 = .ok (.iconst 3, 1) := by decide +kernel
theorem dX4_init_53 : decode cX4_init 53 = .ok (.newarray .int, 2) := by decide +kernel
theorem dX4_init_55 : decode cX4_init 55 = .ok (.putfield 30, 3) := by decide +kernel
theorem dX4_init_58 : decode cX4_init 58 = .ok (.return_, 1) := by decide +kernel
theorem dX3_init_0 : decode cX3_init 0 = .ok (.aload_n 0, 1) := by decide +kernel
theorem dX3_init_1 : decode cX3_init 1 = .ok (.invokespecial 3, 3) := by decide +kernel
theorem dX3_init_4 : decode cX3_init 4 = .ok (.aload_n 0, 1) := by decide +kernel
theorem dX3_init_5 : decode cX3_init 5 = .ok (.bipush 10, 2) := by decide +kernel
theorem dX3_init_7 : decode cX3_init 7 = .ok (.anewarray 9, 3) := by decide +kernel
theorem dX3_init_10 : decode cX3_init 10 = .ok (.putfield 11, 3) := by decide +kernel
theorem dX3_init_13 : decode cX3_init 13 = .ok (.return_, 1) := by decide +kernel
theorem dX6_init_0 : decode cX6_init 0 = .ok (.aload_n 0, 1) := by decide +kernel
theorem dX6_init_1 : decode cX6_init 1 = .ok (.invokespecial 1, 3) := by decide +kernel
theorem dX6_init_4 : decode cX6_init 4 = .ok (.aload_n 0, 1) := by decide +kernel
theorem dX6_init_5 : decode cX6_init 5 = .ok (.new 7, 3) := by decide +kernel
theorem dX6_init_8 : decode cX6_init 8 = .ok (.dup, 1) := by decide +kernel
theorem dX6_init_9 : decode cX6_init 9 = .ok (.invokespecial 9, 3) := by decide +kernel
theorem dX6_init_12 : decode cX6_init 12 = .ok (.putfield 10, 3) := by decide +kernel
theorem dX6_init_15 : decode cX6_init 15 = .ok (.aload_n 0, 1) := by decide +kernel
theorem dX6_init_16 : decode cX6_init 16 = .ok (.new 16, 3) := by decide +kernel
theorem dX6_init_19 : decode cX6_init 19 = .ok (.dup, 1) := by decide +kernel
theorem dX6_init_20 : decode cX6_init 20 = .ok (.invokespecial 18, 3) := by decide +kernel
theorem dX6_init_23 : decode cX6_init 23 = .ok (.putfield 19, 3) := by decide +kernel
theorem dX6_init_26 : decode cX6_init 26 = .ok (.aload_n 0, 1) := by decide +kernel
theorem dX6_init_27 : decode cX6_init 27 = .ok (.new 16, 3) := by decide +kernel
theorem dX6_init_30 : decode cX6_init 30 = .ok (.dup, 1) := by decide +kernel
theorem dX6_init_31 : decode cX6_init 31 = .ok (.invokespecial 18, 3) := by decide +kernel
theorem dX6_init_34 : decode cX6_init 34 = .ok (.putfield 23, 3) := by decide +kernel
theorem dX6_init_37 : decode cX6_init 37 = .ok (.aload_n 0, 1) := by decide +kernel
theorem dX6_init_38 : decode cX6_init 38 = .ok (.new 26, 3) := by decide +kernel
theorem dX6_init_41 : decode cX6_init 41 = .ok (.dup, 1) := by decide +kernel
theorem dX6_init_42 : decode cX6_init 42 = .ok (.invokespecial 28, 3) := by decide +kernel
theorem dX6_init_45 : decode cX6_init 45 = .ok (.putfield 29, 3) := by decide +kernel
theorem dX6_init_48 : decode cX6_init 48 = .ok (.aload_n 0, 1) := by decide +kernel
theorem dX6_init_49 : decode cX6_init 49 = .ok (.new 33, 3) := by decide +kernel
theorem dX6_init_52 : decode cX6_init 52 = .ok (.dup, 1) := by decide +kernel
theorem dX6_init_53 : decode cX6_init 53 = .ok (.invokespecial 35, 3) := by decide +kernel
theorem dX6_init_56 : decode cX6_init 56 = .ok (.putfield 36, 3) := by decide +kernel
theorem dX6_init_59 : decode cX6_init 59 = .ok (.aload_n 0, 1) := by decide +kernel
theorem dX6_init_60 : decode cX6_init 60 = .ok (.new 40, 3) := by decide +kernel
theorem dX6_init_63 : decode cX6_init 63 = .ok (.dup, 1) := by decide +kernel
theorem dX6_init_64 : decode cX6_init 64 = .ok (.invokespecial 42, 3) := by decide +kernel
theorem dX6_init_67 : decode cX6_init 67 = .ok (.putfield 43, 3) := by decide +kernel
theorem dX6_init_70 : decode cX6_init 70 = .ok (.aload_n 0, 1) := by decide +kernel
theorem dX6_init_71 : decode cX6_init 71 = .ok (.iconst 2, 1) := by decide +kernel
theorem dX6_init_72 : decode cX6_init 72 = .ok (.anewarray 16, 3) := by decide +kernel
theorem dX6_init_75 : decode cX6_init 75 = .ok (.putfield 47, 3) := by decide +kernel
theorem dX6_init_78 : decode cX6_init 78 = .ok (.return_, 1) := by decide +kernel
theorem dX7_init_0 : decode cX7_init 0 = .ok (.aload_n 0, 1) := by decide +kernel
theorem dX7_init_1 : decode cX7_init 1 = .ok (.invokespecial 1, 3) := by decide +kernel
theorem dX7_init_4 : decode cX7_init 4 = .ok (.aload_n 0, 1) := by decide +kernel
theorem dX7_init_5 : decode cX7_init 5 = .ok (.sipush 6896, 3) := by decide +kernel
theorem dX7_init_8 : decode cX7_init 8 = .ok (.newarray .long, 2) := by decide +kernel
theorem dX7_init_10 : decode cX7_init 10 = .ok (.putfield 7, 3) := by decide +kernel
theorem dX7_init_13 : decode cX7_init 13 = .ok (.aload_n 0, 1) := by decide +kernel
theorem dX7_init_14 : decode cX7_init 14 = .ok (.ldc 13, 2) := by decide +kernel
theorem dX7_init_16 : decode cX7_init 16 = .ok (.newarray .long, 2) := by decide +kernel
theorem dX7_init_18 : decode cX7_init 18 = .ok (.putfield 14, 3) := by decide +kernel
theorem dX7_init_21 : decode cX7_init 21 = .ok (.aload_n 0, 1) := by decide +kernel
theorem dX7_init_22 : decode cX7_init 22 = .ok (.sipush 13792, 3) := by decide +kernel
theorem dX7_init_25 : decode cX7_init 25 = .ok (.newarray .long, 2) := by decide +kernel
theorem dX7_init_27 : decode cX7_init 27 = .ok (.putfield 17, 3) := by decide +kernel
theorem dX7_init_30 : decode cX7_init 30 = .ok (.aload_n 0, 1) := by decide +kernel
theorem dX7_init_31 : decode cX7_init 31 = .ok (.iconst 2, 1) := by decide +kernel
theorem dX7_init_32 : decode cX7_init 32 = .ok (.newarray .boolean, 2) := by decide +kernel
theorem dX7_init_34 : decode cX7_init 34 = .ok (.putfield 20, 3) := by decide +kernel
theorem dX7_init_37 : decode cX7_init 37 = .ok (.aload_n 0, 1) := by decide +kernel
theorem dX7_init_38 : decode cX7_init 38 = .ok (.sipush 6896, 3) := by decide +kernel
theorem dX7_init_41 : decode cX7_init 41 = .ok (.newarray .long, 2) := by decide +kernel
theorem dX7_init_43 : decode cX7_init 43 = .ok (.putfield 24, 3) := by decide +kernel
theorem dX7_init_46 : decode cX7_init 46 = .ok (.aload_n 0, 1) := by decide +kernel
theorem dX7_init_47 : decode cX7_init 47 = .ok (.bipush 40, 2) := by decide +kernel
theorem dX7_init_49 : decode cX7_init 49 = .ok (.newarray .int, 2) := by decide +kernel
theorem dX7_init_51 : decode cX7_init 51 = .ok (.putfield 27, 3) := by decide +kernel
theorem dX7_init_54 : decode cX7_init 54 = .ok (.aload_n 0, 1) := by decide +kernel
theorem dX7_init_55 : decode cX7_init 55 = .ok (.sipush 400, 3) := by decide +kernel
theorem dX7_init_58 : decode cX7_init 58 = .ok (.newarray .byte, 2) := by decide +kernel
theorem dX7_init_60 : decode cX7_init 60 = .ok (.putfield 31, 3) := by decide +kernel
theorem dX7_init_63 : decode cX7_init 63 = .ok (.return_, 1) := by decide +kernel
theorem dX0_copyAllButLog_0 : decode cX0_copyAllButLog 0 = .ok (.aload_n 0, 1) := by decide +kernel
theorem dX0_copyAllButLog_1 : decode cX0_copyAllButLog 1 = .ok (.aload_n 1, 1) := by decide +kernel
theorem dX0_copyAllButLog_2 : decode cX0_copyAllButLog 2 = .ok (.getfield 49, 3) := by decide +kernel
theorem dX0_copyAllButLog_5 : decode cX0_copyAllButLog 5 = .ok (.putfield 49, 3) := by decide +kernel
theorem dX0_copyAllButLog_8 : decode cX0_copyAllButLog 8 = .ok (.aload_n 0, 1) := by decide +kernel
theorem dX0_copyAllButLog_9 : decode cX0_copyAllButLog 9 = .ok (.aload_n 1, 1) := by decide +kernel
theorem dX0_copyAllButLog_10 : decode cX0_copyAllButLog 10 = .ok (.getfield 53, 3) := by decide +kernel
theorem dX0_copyAllButLog_13 : decode cX0_copyAllButLog 13 = .ok (.putfield 53, 3) := by decide +kernel
theorem dX0_copyAllButLog_16 : decode cX0_copyAllButLog 16 = .ok (.aload_n 0, 1) := by decide +kernel
theorem dX0_copyAllButLog_17 : decode cX0_copyAllButLog 17 = .ok (.aload_n 1, 1) := by decide +kernel
theorem dX0_copyAllButLog_18 : decode cX0_copyAllButLog 18 = .ok (.getfield 56, 3) := by decide +kernel
theorem dX0_copyAllButLog_21 : decode cX0_copyAllButLog 21 = .ok (.putfield 56, 3) := by decide +kernel
theorem dX0_copyAllButLog_24 : decode cX0_copyAllButLog 24 = .ok (.aload_n 0, 1) := by decide +kernel
theorem dX0_copyAllButLog_25 : decode cX0_copyAllButLog 25 = .ok (.aload_n 1, 1) := by decide +kernel
theorem dX0_copyAllButLog_26 : decode cX0_copyAllButLog 26 = .ok (.getfield 59, 3) := by decide +kernel
theorem dX0_copyAllButLog_29 : decode cX0_copyAllButLog 29 = .ok (.putfield 59, 3) := by decide +kernel
theorem dX0_copyAllButLog_32 : decode cX0_copyAllButLog 32 = .ok (.aload_n 0, 1) := by decide +kernel
theorem dX0_copyAllButLog_33 : decode cX0_copyAllButLog 33 = .ok (.aload_n 1, 1) := by decide +kernel
theorem dX0_copyAllButLog_34 : decode cX0_copyAllButLog 34 = .ok (.getfield 62, 3) := by decide +kernel
theorem dX0_copyAllButLog_37 : decode cX0_copyAllButLog 37 = .ok (.putfield 62, 3) := by decide +kernel
theorem dX0_copyAllButLog_40 : decode cX0_copyAllButLog 40 = .ok (.aload_n 0, 1) := by decide +kernel
theorem dX0_copyAllButLog_41 : decode cX0_copyAllButLog 41 = .ok (.aload_n 1, 1) := by decide +kernel
theorem dX0_copyAllButLog_42 : decode cX0_copyAllButLog 42 = .ok (.getfield 65, 3) := by decide +kernel
theorem dX0_copyAllButLog_45 : decode cX0_copyAllButLog 45 = .ok (.putfield 65, 3) := by decide +kernel
theorem dX0_copyAllButLog_48 : decode cX0_copyAllButLog 48 = .ok (.aload_n 1, 1) := by decide +kernel
theorem dX0_copyAllButLog_49 : decode cX0_copyAllButLog 49 = .ok (.getfield 9, 3) := by decide +kernel
theorem dX0_copyAllButLog_52 : decode cX0_copyAllButLog 52 = .ok (.iconst 0, 1) := by decide +kernel
theorem dX0_copyAllButLog_53 : decode cX0_copyAllButLog 53 = .ok (.aload_n 0, 1) := by decide +kernel
theorem dX0_copyAllButLog_54 : decode cX0_copyAllButLog 54 = .ok (.getfield 9, 3) := by decide +kernel
theorem dX0_copyAllButLog_57 : decode cX0_copyAllButLog 57 = .ok (.iconst 0, 1) := by decide +kernel
theorem dX0_copyAllButLog_58 : decode cX0_copyAllButLog 58 = .ok (.iconst 4, 1) := by decide +kernel
theorem dX0_copyAllButLog_59 : decode cX0_copyAllButLog 59 = .ok (.invokestatic 96, 3) := by decide +kernel
theorem dX0_copyAllButLog_62 : decode cX0_copyAllButLog 62 = .ok (.aload_n 1, 1) := by decide +kernel
theorem dX0_copyAllButLog_63 : decode cX0_copyAllButLog 63 = .ok (.getfield 15, 3) := by decide +kernel
theorem dX0_copyAllButLog_66 : decode cX0_copyAllButLog 66 = .ok (.iconst 0, 1) := by decide +kernel
theorem dX0_copyAllButLog_67 : decode cX0_copyAllButLog 67 = .ok (.aload_n 0, 1) := by decide +kernel
theorem dX0_copyAllButLog_68 : decode cX0_copyAllButLog 68 = .ok (.getfield 15, 3) := by decide +kernel
theorem dX0_copyAllButLog_71 : decode cX0_copyAllButLog 71 = .ok (.iconst 0, 1) := by decide +kernel
theorem dX0_copyAllButLog_72 : decode cX0_copyAllButLog 72 = .ok (.iconst 4, 1) := by decide +kernel
theorem dX0_copyAllButLog_73 : decode cX0_copyAllButLog 73 = .ok (.invokestatic 96, 3) := by decide +kernel
theorem dX0_copyAllButLog_76 : decode cX0_copyAllButLog 76 = .ok (.aload_n 1, 1) := by decide +kernel
theorem dX0_copyAllButLog_77 : decode cX0_copyAllButLog 77 = .ok (.getfield 18, 3) := by decide +kernel
theorem dX0_copyAllButLog_80 : decode cX0_copyAllButLog 80 = .ok (.iconst 0, 1) := by decide +kernel
theorem dX0_copyAllButLog_81 : decode cX0_copyAllButLog 81 = .ok (.aload_n 0, 1) := by decide +kernel
theorem dX0_copyAllButLog_82 : decode cX0_copyAllButLog 82 = .ok (.getfield 18, 3) := by decide +kernel
theorem dX0_copyAllButLog_85 : decode cX0_copyAllButLog 85 = .ok (.iconst 0, 1) := by decide +kernel
theorem dX0_copyAllButLog_86 : decode cX0_copyAllButLog 86 = .ok (.sipush 160, 3) := by decide +kernel
theorem dX0_copyAllButLog_89 : decode cX0_copyAllButLog 89 = .ok (.invokestatic 96, 3) := by decide +kernel
theorem dX0_copyAllButLog_92 : decode cX0_copyAllButLog 92 = .ok (.aload_n 1, 1) := by decide +kernel
theorem dX0_copyAllButLog_93 : decode cX0_copyAllButLog 93 = .ok (.invokevirtual 102, 3) := by decide +kernel
theorem dX0_copyAllButLog_96 : decode cX0_copyAllButLog 96 = .ok (.istore_n 2, 1) := by decide +kernel
theorem dX0_copyAllButLog_97 : decode cX0_copyAllButLog 97 = .ok (.aload_n 1, 1) := by decide +kernel
theorem dX0_copyAllButLog_98 : decode cX0_copyAllButLog 98 = .ok (.getfield 21, 3) := by decide +kernel
theorem dX0_copyAllButLog_101 : decode cX0_copyAllButLog 101 = .ok (.iconst 0, 1) := by decide +kernel
theorem dX0_copyAllButLog_102 : decode cX0_copyAllButLog 102 = .ok (.aload_n 0, 1) := by decide +kernel
theorem dX0_copyAllButLog_103 : decode cX0_copyAllButLog 103 = .ok (.getfield 21, 3) := by decide +kernel
theorem dX0_copyAllButLog_106 : decode cX0_copyAllButLog 106 = .ok (.iconst 0, 1) := by decide +kernel
theorem dX0_copyAllButLog_107 : decode cX0_copyAllButLog 107 = .ok (.iload_n 2, 1) := by decide +kernel
theorem dX0_copyAllButLog_108 : decode cX0_copyAllButLog 108 = .ok (.invokestatic 96, 3) := by decide +kernel
theorem dX0_copyAllButLog_111 : decode cX0_copyAllButLog 111 = .ok (.aload_n 1, 1) := by decide +kernel
theorem dX0_copyAllButLog_112 : decode cX0_copyAllButLog 112 = .ok (.getfield 24, 3) := by decide +kernel
theorem dX0_copyAllButLog_115 : decode cX0_copyAllButLog 115 = .ok (.iconst 0, 1) := by decide +kernel
theorem dX0_copyAllButLog_116 : decode cX0_copyAllButLog 116 = .ok (.aload_n 0, 1) := by decide +kernel
theorem dX0_copyAllButLog_117 : decode cX0_copyAllButLog 117 = .ok (.getfield 24, 3) := by decide +kernel
theorem dX0_copyAllButLog_120 : decode cX0_copyAllButLog 120 = .ok (.iconst 0, 1) := by decide +kernel
theorem dX0_copyAllButLog_121 : decode cX0_copyAllButLog 121 = .ok (.iload_n 2, 1) := by decide +kernel
theorem dX0_copyAllButLog_122 : decode cX0_copyAllButLog 122 = .ok (.invokestatic 96, 3) := by decide +kernel
theorem dX0_copyAllButLog_125 : decode cX0_copyAllButLog 125 = .ok (.aload_n 1, 1) := by decide +kernel
theorem dX0_copyAllButLog_126 : decode cX0_copyAllButLog 126 = .ok (.getfield 27, 3) := by decide +kernel
theorem dX0_copyAllButLog_129 : decode cX0_copyAllButLog 129 = .ok (.iconst 0, 1) := by decide +kernel
theorem dX0_copyAllButLog_130 : decode cX0_copyAllButLog 130 = .ok (.aload_n 0, 1) := by decide +kernel
theorem dX0_copyAllButLog_131 : decode cX0_copyAllButLog 131 = .ok (.getfield 27, 3) := by decide +kernel
theorem dX0_copyAllButLog_134 : decode cX0_copyAllButLog 134 = .ok (.iconst 0, 1) := by decide +kernel
theorem dX0_copyAllButLog_135 : decode cX0_copyAllButLog 135 = .ok (.iload_n 2, 1) := by decide +kernel
theorem dX0_copyAllButLog_136 : decode cX0_copyAllButLog 136 = .ok (.invokestatic 96, 3) := by decide +kernel
theorem dX0_copyAllButLog_139 : decode cX0_copyAllButLog 139 = .ok (.aload_n 1, 1) := by decide +kernel
theorem dX0_copyAllButLog_140 : decode cX0_copyAllButLog 140 = .ok (.getfield 30, 3) := by decide +kernel
theorem dX0_copyAllButLog_143 : decode cX0_copyAllButLog 143 = .ok (.iconst 0, 1) := by decide +kernel
theorem dX0_copyAllButLog_144 : decode cX0_copyAllButLog 144 = .ok (.aload_n 0, 1) := by decide +kernel
theorem dX0_copyAllButLog_145 : decode cX0_copyAllButLog 145 = .ok (.getfield 30, 3) := by decide +kernel
theorem dX0_copyAllButLog_148 : decode cX0_copyAllButLog 148 = .ok (.iconst 0, 1) := by decide +kernel
theorem dX0_copyAllButLog_149 : decode cX0_copyAllButLog 149 = .ok (.iload_n 2, 1) := by decide +kernel
theorem dX0_copyAllButLog_150 : decode cX0_copyAllButLog 150 = .ok (.invokestatic 96, 3) := by decide +kernel
theorem dX0_copyAllButLog_153 : decode cX0_copyAllButLog 153 = .ok (.aload_n 1, 1) := by decide +kernel
theorem dX0_copyAllButLog_154 : decode cX0_copyAllButLog 154 = .ok (.getfield 33, 3) := by decide +kernel
theorem dX0_copyAllButLog_157 : decode cX0_copyAllButLog 157 = .ok (.iconst 0, 1) := by decide +kernel
theorem dX0_copyAllButLog_158 : decode cX0_copyAllButLog 158 = .ok (.aload_n 0, 1) := by decide +kernel
theorem dX0_copyAllButLog_159 : decode cX0_copyAllButLog 159 = .ok (.getfield 33, 3) := by decide +kernel
theorem dX0_copyAllButLog_162 : decode cX0_copyAllButLog 162 = .ok (.iconst 0, 1) := by decide +kernel
theorem dX0_copyAllButLog_163 : decode cX0_copyAllButLog 163 = .ok (.iload_n 2, 1) := by decide +kernel
theorem dX0_copyAllButLog_164 : decode cX0_copyAllButLog 164 = .ok (.invokestatic 96, 3) := by decide +kernel
theorem dX0_copyAllButLog_167 : decode cX0_copyAllButLog 167 = .ok (.aload_n 1, 1) := by decide +kernel
theorem dX0_copyAllButLog_168 : decode cX0_copyAllButLog 168 = .ok (.getfield 36, 3) := by decide +kernel
theorem dX0_copyAllButLog_171 : decode cX0_copyAllButLog 171 = .ok (.iconst 0, 1) := by decide +kernel
theorem dX0_copyAllButLog_172 : decode cX0_copyAllButLog 172 = .ok (.aload_n 0, 1) := by decide +kernel
theorem dX0_copyAllButLog_173 : decode cX0_copyAllButLog 173 = .ok (.getfield 36, 3) := by decide +kernel
theorem dX0_copyAllButLog_176 : decode cX0_copyAllButLog 176 = .ok (.iconst 0, 1) := by decide +kernel
theorem dX0_copyAllButLog_177 : decode cX0_copyAllButLog 177 = .ok (.iload_n 2, 1) := by decide +kernel
theorem dX0_copyAllButLog_178 : decode cX0_copyAllButLog 178 = .ok (.invokestatic 96, 3) := by decide +kernel
theorem dX0_copyAllButLog_181 : decode cX0_copyAllButLog 181 = .ok (.aload_n 1, 1) := by decide +kernel
theorem dX0_copyAllButLog_182 : decode cX0_copyAllButLog 182 = .ok (.getfield 39, 3) := by decide +kernel
theorem dX0_copyAllButLog_185 : decode cX0_copyAllButLog 185 = .ok (.iconst 0, 1) := by decide +kernel
theorem dX0_copyAllButLog_186 : decode cX0_copyAllButLog 186 = .ok (.aload_n 0, 1) := by decide +kernel
theorem dX0_copyAllButLog_187 : decode cX0_copyAllButLog 187 = .ok (.getfield 39, 3) := by decide +kernel
theorem dX0_copyAllButLog_190 : decode cX0_copyAllButLog 190 = .ok (.iconst 0, 1) := by decide +kernel
theorem dX0_copyAllButLog_191 : decode cX0_copyAllButLog 191 = .ok (.iload_n 2, 1) := by decide +kernel
theorem dX0_copyAllButLog_192 : decode cX0_copyAllButLog 192 = .ok (.invokestatic 96, 3) := by decide +kernel
theorem dX0_copyAllButLog_195 : decode cX0_copyAllButLog 195 = .ok (.aload_n 1, 1) := by decide +kernel
theorem dX0_copyAllButLog_196 : decode cX0_copyAllButLog 196 = .ok (.getfield 42, 3) := by decide +kernel
theorem dX0_copyAllButLog_199 : decode cX0_copyAllButLog 199 = .ok (.iconst 0, 1) := by decide +kernel
theorem dX0_copyAllButLog_200 : decode cX0_copyAllButLog 200 = .ok (.aload_n 0, 1) := by decide +kernel
theorem dX0_copyAllButLog_201 : decode cX0_copyAllButLog 201 = .ok (.getfield 42, 3) := by decide +kernel
theorem dX0_copyAllButLog_204 : decode cX0_copyAllButLog 204 = .ok (.iconst 0, 1) := by decide +kernel
theorem dX0_copyAllButLog_205 : decode cX0_copyAllButLog 205 = .ok (.iload_n 2, 1) := by decide +kernel
theorem dX0_copyAllButLog_206 : decode cX0_copyAllButLog 206 = .ok (.invokestatic 96, 3) := by decide +kernel
theorem dX0_copyAllButLog_209 : decode cX0_copyAllButLog 209 = .ok (.return_, 1) := by decide +kernel
theorem dX0_copyAll_0 : decode cX0_copyAll 0 = .ok (.aload_n 0, 1) := by decide +kernel
theorem dX0_copyAll_1 : decode cX0_copyAll 1 = .ok (.aload_n 1, 1) := by decide +kernel
theorem dX0_copyAll_2 : decode cX0_copyAll 2 = .ok (.invokevirtual 82, 3) := by decide +kernel
theorem dX0_copyAll_5 : decode cX0_copyAll 5 = .ok (.aload_n 1, 1) := by decide +kernel
theorem dX0_copyAll_6 : decode cX0_copyAll 6 = .ok (.invokevirtual 86, 3) := by decide +kernel
theorem dX0_copyAll_9 : decode cX0_copyAll 9 = .ok (.istore_n 2, 1) := by decide +kernel
theorem dX0_copyAll_10 : decode cX0_copyAll 10 = .ok (.aload_n 0, 1) := by decide +kernel
theorem dX0_copyAll_11 : decode cX0_copyAll 11 = .ok (.getfield 46, 3) := by decide +kernel
theorem dX0_copyAll_14 : decode cX0_copyAll 14 = .ok (.arraylength, 1) := by decide +kernel
theorem dX0_copyAll_15 : decode cX0_copyAll 15 = .ok (.iload_n 2, 1) := by decide +kernel
theorem dX0_copyAll_16 : decode cX0_copyAll 16 = .ok (.if_icmp .ge 10, 3) := by decide +kernel
theorem dX0_copyAll_26 : decode cX0_copyAll 26 = .ok (.aload_n 1, 1) := by decide +kernel
theorem dX0_copyAll_27 : decode cX0_copyAll 27 = .ok (.getfield 46, 3) := by decide +kernel
theorem dX0_copyAll_30 : decode cX0_copyAll 30 = .ok (.iconst 0, 1) := by decide +kernel
theorem dX0_copyAll_31 : decode cX0_copyAll 31 = .ok (.aload_n 0, 1) := by decide +kernel
theorem dX0_copyAll_32 : decode cX0_copyAll 32 = .ok (.getfield 46, 3) := by decide +kernel
theorem dX0_copyAll_35 : decode cX0_copyAll 35 = .ok (.iconst 0, 1) := by decide +kernel
theorem dX0_copyAll_36 : decode cX0_copyAll 36 = .ok (.iload_n 2, 1) := by decide +kernel
theorem dX0_copyAll_37 : decode cX0_copyAll 37 = .ok (.aload_n 1, 1) := by decide +kernel
theorem dX0_copyAll_38 : decode cX0_copyAll 38 = .ok (.getfield 46, 3) := by decide +kernel
theorem dX0_copyAll_41 : decode cX0_copyAll 41 = .ok (.arraylength, 1) := by decide +kernel
theorem dX0_copyAll_42 : decode cX0_copyAll 42 = .ok (.invokestatic 90, 3) := by decide +kernel
theorem dX0_copyAll_45 : decode cX0_copyAll 45 = .ok (.invokestatic 96, 3) := by decide +kernel
theorem dX0_copyAll_48 : decode cX0_copyAll 48 = .ok (.return_, 1) := by decide +kernel
theorem dJ0_coder_7d493_0 : decode cJ0_coder_7d493 0 = .ok (.getstatic 38, 3) := by decide +kernel
theorem dJ0_coder_7d493_3 : decode cJ0_coder_7d493 3 = .ok (.ifCond .eq 10, 3) := by decide +kernel
theorem dJ0_coder_7d493_6 : decode cJ0_coder_7d493 6 = .ok (.aload_n 0, 1) := by decide +kernel
theorem dJ0_coder_7d493_7 : decode cJ0_coder_7d493 7 = .ok (.getfield 15, 3) := by decide +kernel
theorem dJ0_coder_7d493_10 : decode cJ0_coder_7d493 10 = .ok (.goto 4, 3) := by decide +kernel
theorem dJ0_coder_7d493_14 : decode cJ0_coder_7d493 14 = .ok (.ireturn, 1) := by decide +kernel
theorem dJ0_length_8abf5_0 : decode cJ0_length_8abf5 0 = .ok (.aload_n 0, 1) := by decide +kernel
theorem dJ0_length_8abf5_1 : decode cJ0_length_8abf5 1 = .ok (.getfield 9, 3) := by decide +kernel
theorem dJ0_length_8abf5_4 : decode cJ0_length_8abf5 4 = .ok (.arraylength, 1) := by decide +kernel
theorem dJ0_length_8abf5_5 : decode cJ0_length_8abf5 5 = .ok (.aload_n 0, 1) := by decide +kernel
theorem dJ0_length_8abf5_6 : decode cJ0_length_8abf5 6 = .ok (.invokevirtual 335, 3) := by decide +kernel
theorem dJ0_length_8abf5_9 : decode cJ0_length_8abf5 9 = .ok (.ishr, 1) := by decide +kernel
theorem dJ0_length_8abf5_10 : decode cJ0_length_8abf5 10 = .ok (.ireturn, 1) := by decide +kernel
theorem dX5_isRead_0 : decode cX5_isRead 0 = .ok (.aload_n 1, 1) := by decide +kernel
theorem dX5_isRead_1 : decode cX5_isRead 1 = .ok (.invokevirtual 80, 3) := by decide +kernel
theorem dX5_isRead_4 : decode cX5_isRead 4 = .ok (.aload_n 0, 1) := by decide +kernel
theorem dX5_isRead_5 : decode cX5_isRead 5 = .ok (.getfield 19, 3) := by decide +kernel
theorem dX5_isRead_8 : decode cX5_isRead 8 = .ok (.aload_n 0, 1) := by decide +kernel
theorem dX5_isRead_9 : decode cX5_isRead 9 = .ok (.getfield 22, 3) := by decide +kernel
theorem dX5_isRead_12 : decode cX5_isRead 12 = .ok (.isub, 1) := by decide +kernel
theorem dX5_isRead_13 : decode cX5_isRead 13 = .ok (.if_icmp .eq 5, 3) := by decide +kernel
theorem dX5_isRead_16 : decode cX5_isRead 16 = .ok (.iconst 0, 1) := by decide +kernel
theorem dX5_isRead_17 : decode cX5_isRead 17 = .ok (.ireturn, 1) := by decide +kernel
theorem dJ0_isLatin1_aae02_0 : decode cJ0_isLatin1_aae02 0 = .ok (.getstatic 38, 3) := by decide +kernel
theorem dJ0_isLatin1_aae02_3 : decode cJ0_isLatin1_aae02 3 = .ok (.ifCond .eq 14, 3) := by decide +kernel
theorem dJ0_isLatin1_aae02_6 : decode cJ0_isLatin1_aae02 6 = .ok (.aload_n 0, 1) := by decide +kernel
theorem dJ0_isLatin1_aae02_7 : decode cJ0_isLatin1_aae02 7 = .ok (.getfield 15, 3) := by decide +kernel
theorem dJ0_isLatin1_aae02_10 : decode cJ0_isLatin1_aae02 10 = .ok (.ifCond .ne 7, 3) := by decide +kernel
theorem dJ0_isLatin1_aae02_13 : decode cJ0_isLatin1_aae02 13 = .ok (.iconst 1, 1) := by decide +kernel
theorem dJ0_isLatin1_aae02_14 : decode cJ0_isLatin1_aae02 14 = .ok (.goto 4, 3) := by decide +kernel
theorem dJ0_isLatin1_aae02_18 : decode cJ0_isLatin1_aae02 18 = .ok (.ireturn, 1) := by decide +kernel
theorem dJ3_checkIndex_8e157_0 : decode cJ3_checkIndex_8e157 0 = .ok (.iload_n 0, 1) := by decide +kernel
theorem dJ3_checkIndex_8e157_1 : decode cJ3_checkIndex_8e157 1 = .ok (.ifCond .lt 8, 3) := by decide +kernel
theorem dJ3_checkIndex_8e157_4 : decode cJ3_checkIndex_8e157 4 = .ok (.iload_n 0, 1) := by decide +kernel
theorem dJ3_checkIndex_8e157_5 : decode cJ3_checkIndex_8e157 5 = .ok (.iload_n 1, 1) := by decide +kernel
theorem dJ3_checkIndex_8e157_6 : decode cJ3_checkIndex_8e157 6 = .ok (.if_icmp .lt 10, 3) := by decide +kernel
theorem dJ3_checkIndex_8e157_16 : decode cJ3_checkIndex_8e157 16 = .ok (.iload_n 0, 1) := by decide +kernel
theorem dJ3_checkIndex_8e157_17 : decode cJ3_checkIndex_8e157 17 = .ok (.ireturn, 1) := by decide +kernel
theorem dJ0_checkIndex_df160_0 : decode cJ0_checkIndex_df160 0 = .ok (.iload_n 0, 1) := by decide +kernel
theorem dJ0_checkIndex_df160_1 : decode cJ0_checkIndex_df160 1 = .ok (.iload_n 1, 1) := by decide +kernel
theorem dJ0_checkIndex_df160_2 : decode cJ0_checkIndex_df160 2 = .ok (.getstatic 1053, 3) := by decide +kernel
theorem dJ0_checkIndex_df160_5 : decode cJ0_checkIndex_df160 5 = .ok (.invokestatic 1059, 3) := by decide +kernel
theorem dJ0_checkIndex_df160_8 : decode cJ0_checkIndex_df160 8 = .ok (.pop, 1) := by decide +kernel
theorem dJ0_checkIndex_df160_9 : decode cJ0_checkIndex_df160 9 = .ok (.return_, 1) := by decide +kernel
theorem dJ1_charAt_3b067_0 : decode cJ1_charAt_3b067 0 = .ok (.iload_n 1, 1) := by decide +kernel
theorem dJ1_charAt_3b067_1 : decode cJ1_charAt_3b067 1 = .ok (.aload_n 0, 1) := by decide +kernel
theorem dJ1_charAt_3b067_2 : decode cJ1_charAt_3b067 2 = .ok (.arraylength, 1) := by decide +kernel
theorem dJ1_charAt_3b067_3 : decode cJ1_charAt_3b067 3 = .ok (.invokestatic 9, 3) := by decide +kernel
theorem dJ1_charAt_3b067_6 : decode cJ1_charAt_3b067 6 = .ok (.aload_n 0, 1) := by decide +kernel
theorem dJ1_charAt_3b067_7 : decode cJ1_charAt_3b067 7 = .ok (.iload_n 1, 1) := by decide +kernel
theorem dJ1_charAt_3b067_8 : decode cJ1_charAt_3b067 8 = .ok (.baload, 1) := by decide +kernel
theorem dJ1_charAt_3b067_9 : decode cJ1_charAt_3b067 9 = .ok (.sipush 255, 3) := by decide +kernel
theorem dJ1_charAt_3b067_12 : decode cJ1_charAt_3b067 12 = .ok (.iand, 1) := by decide +kernel
theorem dJ1_charAt_3b067_13 : decode cJ1_charAt_3b067 13 = .ok (.i2c, 1) := by decide +kernel
theorem dJ1_charAt_3b067_14 : decode cJ1_charAt_3b067 14 = .ok (.ireturn, 1) := by decide +kernel
theorem dJ0_charAt_5068e_0 : decode cJ0_charAt_5068e 0 = .ok (.aload_n 0, 1) := by decide +kernel
theorem dJ0_charAt_5068e_1 : decode cJ0_charAt_5068e 1 = .ok (.invokevirtual 492, 3) := by decide +kernel
theorem dJ0_charAt_5068e_4 : decode cJ0_charAt_5068e 4 = .ok (.ifCond .eq 12, 3) := by decide +kernel
theorem dJ0_charAt_5068e_7 : decode cJ0_charAt_5068e 7 = .ok (.aload_n 0, 1) := by decide +kernel
theorem dJ0_charAt_5068e_8 : decode cJ0_charAt_5068e 8 = .ok (.getfield 9, 3) := by decide +kernel
theorem dJ0_charAt_5068e_11 : decode cJ0_charAt_5068e 11 = .ok (.iload_n 1, 1) := by decide +kernel
theorem dJ0_charAt_5068e_12 : decode cJ0_charAt_5068e 12 = .ok (.invokestatic 495, 3) := by decide +kernel
theorem dJ0_charAt_5068e_15 : decode cJ0_charAt_5068e 15 = .ok (.ireturn, 1) := by decide +kernel
theorem dX5_wordRead_0 : decode cX5_wordRead 0 = .ok (.aload_n 0, 1) := by decide +kernel
theorem dX5_wordRead_1 : decode cX5_wordRead 1 = .ok (.ldc 52, 2) := by decide +kernel
theorem dX5_wordRead_3 : decode cX5_wordRead 3 = .ok (.invokevirtual 54, 3) := by decide +kernel
theorem dX5_wordRead_6 : decode cX5_wordRead 6 = .ok (.ifCond .eq 5, 3) := by decide +kernel
theorem dX5_wordRead_11 : decode cX5_wordRead 11 = .ok (.aload_n 0, 1) := by decide +kernel
theorem dX5_wordRead_12 : decode cX5_wordRead 12 = .ok (.ldc 58, 2) := by decide +kernel
theorem dX5_wordRead_14 : decode cX5_wordRead 14 = .ok (.invokevirtual 54, 3) := by decide +kernel
theorem dX5_wordRead_17 : decode cX5_wordRead 17 = .ok (.ifCond .eq 5, 3) := by decide +kernel
theorem dX5_wordRead_22 : decode cX5_wordRead 22 = .ok (.aload_n 0, 1) := by decide +kernel
theorem dX5_wordRead_23 : decode cX5_wordRead 23 = .ok (.ldc 60, 2) := by decide +kernel
theorem dX5_wordRead_25 : decode cX5_wordRead 25 = .ok (.invokevirtual 54, 3) := by decide +kernel
theorem dX5_wordRead_28 : decode cX5_wordRead 28 = .ok (.ifCond .eq 5, 3) := by decide +kernel
theorem dX5_wordRead_33 : decode cX5_wordRead 33 = .ok (.aload_n 0, 1) := by decide +kernel
theorem dX5_wordRead_34 : decode cX5_wordRead 34 = .ok (.ldc 62, 2) := by decide +kernel
theorem dX5_wordRead_36 : decode cX5_wordRead 36 = .ok (.invokevirtual 54, 3) := by decide +kernel
theorem dX5_wordRead_39 : decode cX5_wordRead 39 = .ok (.ifCond .eq 5, 3) := by decide +kernel
theorem dX5_wordRead_44 : decode cX5_wordRead 44 = .ok (.aload_n 0, 1) := by decide +kernel
theorem dX5_wordRead_45 : decode cX5_wordRead 45 = .ok (.ldc 64, 2) := by decide +kernel
theorem dX5_wordRead_47 : decode cX5_wordRead 47 = .ok (.invokevirtual 54, 3) := by decide +kernel
theorem dX5_wordRead_50 : decode cX5_wordRead 50 = .ok (.ifCond .eq 5, 3) := by decide +kernel
theorem dX5_wordRead_55 : decode cX5_wordRead 55 = .ok (.aload_n 0, 1) := by decide +kernel
theorem dX5_wordRead_56 : decode cX5_wordRead 56 = .ok (.ldc 66, 2) := by decide +kernel
theorem dX5_wordRead_58 : decode cX5_wordRead 58 = .ok (.invokevirtual 54, 3) := by decide +kernel
theorem dX5_wordRead_61 : decode cX5_wordRead 61 = .ok (.ifCond .eq 6, 3) := by decide +kernel
theorem dX5_wordRead_67 : decode cX5_wordRead 67 = .ok (.aload_n 0, 1) := by decide +kernel
theorem dX5_wordRead_68 : decode cX5_wordRead 68 = .ok (.ldc 68, 2) := by decide +kernel
theorem dX5_wordRead_70 : decode cX5_wordRead 70 = .ok (.invokevirtual 54, 3) := by decide +kernel
theorem dX5_wordRead_73 : decode cX5_wordRead 73 = .ok (.ifCond .eq 6, 3) := by decide +kernel
theorem dX5_wordRead_79 : decode cX5_wordRead 79 = .ok (.aload_n 0, 1) := by decide +kernel
theorem dX5_wordRead_80 : decode cX5_wordRead 80 = .ok (.ldc 70, 2) := by decide +kernel
theorem dX5_wordRead_82 : decode cX5_wordRead 82 = .ok (.invokevirtual 54, 3) := by decide +kernel
theorem dX5_wordRead_85 : decode cX5_wordRead 85 = .ok (.ifCond .eq 6, 3) := by decide +kernel
theorem dX5_wordRead_91 : decode cX5_wordRead 91 = .ok (.aload_n 0, 1) := by decide +kernel
theorem dX5_wordRead_92 : decode cX5_wordRead 92 = .ok (.ldc 72, 2) := by decide +kernel
theorem dX5_wordRead_94 : decode cX5_wordRead 94 = .ok (.invokevirtual 54, 3) := by decide +kernel
theorem dX5_wordRead_97 : decode cX5_wordRead 97 = .ok (.ifCond .eq 6, 3) := by decide +kernel
theorem dX5_wordRead_103 : decode cX5_wordRead 103 = .ok (.aload_n 0, 1) := by decide +kernel
theorem dX5_wordRead_104 : decode cX5_wordRead 104 = .ok (.ldc 74, 2) := by decide +kernel
theorem dX5_wordRead_106 : decode cX5_wordRead 106 = .ok (.invokevirtual 54, 3) := by decide +kernel
theorem dX5_wordRead_109 : decode cX5_wordRead 109 = .ok (.ifCond .eq 6, 3) := by decide +kernel
theorem dX5_wordRead_115 : decode cX5_wordRead 115 = .ok (.aload_n 0, 1) := by decide +kernel
theorem dX5_wordRead_116 : decode cX5_wordRead 116 = .ok (.ldc 76, 2) := by decide +kernel
theorem dX5_wordRead_118 : decode cX5_wordRead 118 = .ok (.invokevirtual 54, 3) := by decide +kernel
theorem dX5_wordRead_121 : decode cX5_wordRead 121 = .ok (.ifCond .eq 6, 3) := by decide +kernel
theorem dX5_wordRead_127 : decode cX5_wordRead 127 = .ok (.aload_n 0, 1) := by decide +kernel
theorem dX5_wordRead_128 : decode cX5_wordRead 128 = .ok (.ldc 78, 2) := by decide +kernel
theorem dX5_wordRead_130 : decode cX5_wordRead 130 = .ok (.invokevirtual 54, 3) := by decide +kernel
theorem dX5_wordRead_133 : decode cX5_wordRead 133 = .ok (.ifCond .eq 6, 3) := by decide +kernel
theorem dX5_wordRead_139 : decode cX5_wordRead 139 = .ok (.iconst 0, 1) := by decide +kernel
theorem dX5_wordRead_140 : decode cX5_wordRead 140 = .ok (.ireturn, 1) := by decide +kernel
theorem dX5_peek_0 : decode cX5_peek 0 = .ok (.aload_n 0, 1) := by decide +kernel
theorem dX5_peek_1 : decode cX5_peek 1 = .ok (.getfield 19, 3) := by decide +kernel
theorem dX5_peek_4 : decode cX5_peek 4 = .ok (.aload_n 0, 1) := by decide +kernel
theorem dX5_peek_5 : decode cX5_peek 5 = .ok (.getfield 15, 3) := by decide +kernel
theorem dX5_peek_8 : decode cX5_peek 8 = .ok (.if_icmp .ge 30, 3) := by decide +kernel
theorem dX5_peek_38 : decode cX5_peek 38 = .ok (.aload_n 0, 1) := by decide +kernel
theorem dX5_peek_39 : decode cX5_peek 39 = .ok (.getfield 19, 3) := by decide +kernel
theorem dX5_peek_42 : decode cX5_peek 42 = .ok (.aload_n 0, 1) := by decide +kernel
theorem dX5_peek_43 : decode cX5_peek 43 = .ok (.getfield 15, 3) := by decide +kernel
theorem dX5_peek_46 : decode cX5_peek 46 = .ok (.if_icmp .ge 15, 3) := by decide +kernel
theorem dX5_peek_61 : decode cX5_peek 61 = .ok (.iconst (-1), 1) := by decide +kernel
theorem dX5_peek_62 : decode cX5_peek 62 = .ok (.ireturn, 1) := by decide +kernel
theorem dX5_isSound_0 : decode cX5_isSound 0 = .ok (.aload_n 0, 1) := by decide +kernel
theorem dX5_isSound_1 : decode cX5_isSound 1 = .ok (.getfield 31, 3) := by decide +kernel
theorem dX5_isSound_4 : decode cX5_isSound 4 = .ok (.ifCond .ne 7, 3) := by decide +kernel
theorem dX5_isSound_11 : decode cX5_isSound 11 = .ok (.iconst 0, 1) := by decide +kernel
theorem dX5_isSound_12 : decode cX5_isSound 12 = .ok (.ireturn, 1) := by decide +kernel
theorem dX5_takeWord_0 : decode cX5_takeWord 0 = .ok (.aload_n 0, 1) := by decide +kernel
theorem dX5_takeWord_1 : decode cX5_takeWord 1 = .ok (.invokevirtual 34, 3) := by decide +kernel
theorem dX5_takeWord_4 : decode cX5_takeWord 4 = .ok (.pop, 1) := by decide +kernel
theorem dX5_takeWord_5 : decode cX5_takeWord 5 = .ok (.aload_n 0, 1) := by decide +kernel
theorem dX5_takeWord_6 : decode cX5_takeWord 6 = .ok (.aload_n 0, 1) := by decide +kernel
theorem dX5_takeWord_7 : decode cX5_takeWord 7 = .ok (.getfield 19, 3) := by decide +kernel
theorem dX5_takeWord_10 : decode cX5_takeWord 10 = .ok (.putfield 22, 3) := by decide +kernel
theorem dX5_takeWord_13 : decode cX5_takeWord 13 = .ok (.aload_n 0, 1) := by decide +kernel
theorem dX5_takeWord_14 : decode cX5_takeWord 14 = .ok (.getfield 19, 3) := by decide +kernel
theorem dX5_takeWord_17 : decode cX5_takeWord 17 = .ok (.aload_n 0, 1) := by decide +kernel
theorem dX5_takeWord_18 : decode cX5_takeWord 18 = .ok (.getfield 15, 3) := by decide +kernel
theorem dX5_takeWord_21 : decode cX5_takeWord 21 = .ok (.if_icmp .ge 42, 3) := by decide +kernel
theorem dX5_takeWord_63 : decode cX5_takeWord 63 = .ok (.aload_n 0, 1) := by decide +kernel
theorem dX5_takeWord_64 : decode cX5_takeWord 64 = .ok (.invokevirtual 46, 3) := by decide +kernel
theorem dX5_takeWord_67 : decode cX5_takeWord 67 = .ok (.ireturn, 1) := by decide +kernel
theorem dX5_blame_0 : decode cX5_blame 0 = .ok (.aload_n 0, 1) := by decide +kernel
theorem dX5_blame_1 : decode cX5_blame 1 = .ok (.getfield 31, 3) := by decide +kernel
theorem dX5_blame_4 : decode cX5_blame 4 = .ok (.ifCond .ne 13, 3) := by decide +kernel
theorem dX5_blame_7 : decode cX5_blame 7 = .ok (.aload_n 0, 1) := by decide +kernel
theorem dX5_blame_8 : decode cX5_blame 8 = .ok (.bipush 8, 2) := by decide +kernel
theorem dX5_blame_10 : decode cX5_blame 10 = .ok (.iload_n 1, 1) := by decide +kernel
theorem dX5_blame_11 : decode cX5_blame 11 = .ok (.imul, 1) := by decide +kernel
theorem dX5_blame_12 : decode cX5_blame 12 = .ok (.iload_n 2, 1) := by decide +kernel
theorem dX5_blame_13 : decode cX5_blame 13 = .ok (.iadd, 1) := by decide +kernel
theorem dX5_blame_14 : decode cX5_blame 14 = .ok (.putfield 31, 3) := by decide +kernel
theorem dX5_blame_17 : decode cX5_blame 17 = .ok (.return_, 1) := by decide +kernel
theorem dX5_takeThisWord_0 : decode cX5_takeThisWord 0 = .ok (.aload_n 0, 1) := by decide +kernel
theorem dX5_takeThisWord_1 : decode cX5_takeThisWord 1 = .ok (.invokevirtual 49, 3) := by decide +kernel
theorem dX5_takeThisWord_4 : decode cX5_takeThisWord 4 = .ok (.iload_n 1, 1) := by decide +kernel
theorem dX5_takeThisWord_5 : decode cX5_takeThisWord 5 = .ok (.if_icmp .eq 12, 3) := by decide +kernel
theorem dX5_takeThisWord_8 : decode cX5_takeThisWord 8 = .ok (.aload_n 0, 1) := by decide +kernel
theorem dX5_takeThisWord_9 : decode cX5_takeThisWord 9 = .ok (.aload_n 0, 1) := by decide +kernel
theorem dX5_takeThisWord_10 : decode cX5_takeThisWord 10 = .ok (.getfield 22, 3) := by decide +kernel
theorem dX5_takeThisWord_13 : decode cX5_takeThisWord 13 = .ok (.iconst 1, 1) := by decide +kernel
theorem dX5_takeThisWord_14 : decode cX5_takeThisWord 14 = .ok (.invokevirtual 38, 3) := by decide +kernel
theorem dX5_takeThisWord_17 : decode cX5_takeThisWord 17 = .ok (.return_, 1) := by decide +kernel
theorem dX5_takeNumber_0 : decode cX5_takeNumber 0 = .ok (.aload_n 0, 1) := by decide +kernel
theorem dX5_takeNumber_1 : decode cX5_takeNumber 1 = .ok (.invokevirtual 34, 3) := by decide +kernel
theorem dX5_takeNumber_4 : decode cX5_takeNumber 4 = .ok (.pop, 1) := by decide +kernel
theorem dX5_takeNumber_5 : decode cX5_takeNumber 5 = .ok (.aload_n 0, 1) := by decide +kernel
theorem dX5_takeNumber_6 : decode cX5_takeNumber 6 = .ok (.aload_n 0, 1) := by decide +kernel
theorem dX5_takeNumber_7 : decode cX5_takeNumber 7 = .ok (.getfield 19, 3) := by decide +kernel
theorem dX5_takeNumber_10 : decode cX5_takeNumber 10 = .ok (.putfield 22, 3) := by decide +kernel
theorem dX5_takeNumber_13 : decode cX5_takeNumber 13 = .ok (.iconst 0, 1) := by decide +kernel
theorem dX5_takeNumber_14 : decode cX5_takeNumber 14 = .ok (.istore_n 3, 1) := by decide +kernel
theorem dX5_takeNumber_15 : decode cX5_takeNumber 15 = .ok (.aload_n 0, 1) := by decide +kernel
theorem dX5_takeNumber_16 : decode cX5_takeNumber 16 = .ok (.getfield 19, 3) := by decide +kernel
theorem dX5_takeNumber_19 : decode cX5_takeNumber 19 = .ok (.aload_n 0, 1) := by decide +kernel
theorem dX5_takeNumber_20 : decode cX5_takeNumber 20 = .ok (.getfield 15, 3) := by decide +kernel
theorem dX5_takeNumber_23 : decode cX5_takeNumber 23 = .ok (.if_icmp .ge 65, 3) := by decide +kernel
theorem dX5_takeNumber_88 : decode cX5_takeNumber 88 = .ok (.aload_n 0, 1) := by decide +kernel
theorem dX5_takeNumber_89 : decode cX5_takeNumber 89 = .ok (.getfield 19, 3) := by decide +kernel
theorem dX5_takeNumber_92 : decode cX5_takeNumber 92 = .ok (.aload_n 0, 1) := by decide +kernel
theorem dX5_takeNumber_93 : decode cX5_takeNumber 93 = .ok (.getfield 22, 3) := by decide +kernel
theorem dX5_takeNumber_96 : decode cX5_takeNumber 96 = .ok (.if_icmp .ne 14, 3) := by decide +kernel
theorem dX5_takeNumber_99 : decode cX5_takeNumber 99 = .ok (.aload_n 0, 1) := by decide +kernel
theorem dX5_takeNumber_100 : decode cX5_takeNumber 100 = .ok (.aload_n 0, 1) := by decide +kernel
theorem dX5_takeNumber_101 : decode cX5_takeNumber 101 = .ok (.getfield 19, 3) := by decide +kernel
theorem dX5_takeNumber_104 : decode cX5_takeNumber 104 = .ok (.iconst 1, 1) := by decide +kernel
theorem dX5_takeNumber_105 : decode cX5_takeNumber 105 = .ok (.invokevirtual 38, 3) := by decide +kernel
theorem dX5_takeNumber_108 : decode cX5_takeNumber 108 = .ok (.iload_n 1, 1) := by decide +kernel
theorem dX5_takeNumber_109 : decode cX5_takeNumber 109 = .ok (.ireturn, 1) := by decide +kernel
theorem dX5_startReading_0 : decode cX5_startReading 0 = .ok (.aload_n 0, 1) := by decide +kernel
theorem dX5_startReading_1 : decode cX5_startReading 1 = .ok (.iconst 0, 1) := by decide +kernel
theorem dX5_startReading_2 : decode cX5_startReading 2 = .ok (.putfield 19, 3) := by decide +kernel
theorem dX5_startReading_5 : decode cX5_startReading 5 = .ok (.aload_n 0, 1) := by decide +kernel
theorem dX5_startReading_6 : decode cX5_startReading 6 = .ok (.iconst 0, 1) := by decide +kernel
theorem dX5_startReading_7 : decode cX5_startReading 7 = .ok (.putfield 22, 3) := by decide +kernel
theorem dX5_startReading_10 : decode cX5_startReading 10 = .ok (.aload_n 0, 1) := by decide +kernel
theorem dX5_startReading_11 : decode cX5_startReading 11 = .ok (.iconst 0, 1) := by decide +kernel
theorem dX5_startReading_12 : decode cX5_startReading 12 = .ok (.putfield 25, 3) := by decide +kernel
theorem dX5_startReading_15 : decode cX5_startReading 15 = .ok (.aload_n 0, 1) := by decide +kernel
theorem dX5_startReading_16 : decode cX5_startReading 16 = .ok (.iconst 0, 1) := by decide +kernel
theorem dX5_startReading_17 : decode cX5_startReading 17 = .ok (.putfield 28, 3) := by decide +kernel
theorem dX5_startReading_20 : decode cX5_startReading 20 = .ok (.aload_n 0, 1) := by decide +kernel
theorem dX5_startReading_21 : decode cX5_startReading 21 = .ok (.iconst 0, 1) := by decide +kernel
theorem dX5_startReading_22 : decode cX5_startReading 22 = .ok (.putfield 31, 3) := by decide +kernel
theorem dX5_startReading_25 : decode cX5_startReading 25 = .ok (.return_, 1) := by decide +kernel
theorem dX1_readHead_0 : decode cX1_readHead 0 = .ok (.aload_n 1, 1) := by decide +kernel
theorem dX1_readHead_1 : decode cX1_readHead 1 = .ok (.iconst 1, 1) := by decide +kernel
theorem dX1_readHead_2 : decode cX1_readHead 2 = .ok (.invokevirtual 51, 3) := by decide +kernel
theorem dX1_readHead_5 : decode cX1_readHead 5 = .ok (.aload_n 1, 1) := by decide +kernel
theorem dX1_readHead_6 : decode cX1_readHead 6 = .ok (.iconst 1, 1) := by decide +kernel
theorem dX1_readHead_7 : decode cX1_readHead 7 = .ok (.bipush 6, 2) := by decide +kernel
theorem dX1_readHead_9 : decode cX1_readHead 9 = .ok (.invokevirtual 54, 3) := by decide +kernel
theorem dX1_readHead_12 : decode cX1_readHead 12 = .ok (.istore_n 2, 1) := by decide +kernel
theorem dX1_readHead_13 : decode cX1_readHead 13 = .ok (.iload_n 2, 1) := by decide +kernel
theorem dX1_readHead_14 : decode cX1_readHead 14 = .ok (.ifCond .le 10, 3) := by decide +kernel
theorem dX1_readHead_17 : decode cX1_readHead 17 = .ok (.bipush 40, 2) := by decide +kernel
theorem dX1_readHead_19 : decode cX1_readHead 19 = .ok (.iload_n 2, 1) := by decide +kernel
theorem dX1_readHead_20 : decode cX1_readHead 20 = .ok (.idiv, 1) := by decide +kernel
theorem dX1_readHead_21 : decode cX1_readHead 21 = .ok (.goto 4, 3) := by decide +kernel
theorem dX1_readHead_25 : decode cX1_readHead 25 = .ok (.istore_n 3, 1) := by decide +kernel
theorem dX1_readHead_26 : decode cX1_readHead 26 = .ok (.aload_n 1, 1) := by decide +kernel
theorem dX1_readHead_27 : decode cX1_readHead 27 = .ok (.iconst 1, 1) := by decide +kernel
theorem dX1_readHead_28 : decode cX1_readHead 28 = .ok (.bipush 10, 2) := by decide +kernel
theorem dX1_readHead_30 : decode cX1_readHead 30 = .ok (.iload_n 3, 1) := by decide +kernel
theorem dX1_readHead_31 : decode cX1_readHead 31 = .ok (.invokestatic 58, 3) := by decide +kernel
theorem dX1_readHead_34 : decode cX1_readHead 34 = .ok (.invokevirtual 54, 3) := by decide +kernel
theorem dX1_readHead_37 : decode cX1_readHead 37 = .ok (.istore 4, 2) := by decide +kernel
theorem dX1_readHead_39 : decode cX1_readHead 39 = .ok (.aload_n 1, 1) := by decide +kernel
theorem dX1_readHead_40 : decode cX1_readHead 40 = .ok (.iconst 2, 1) := by decide +kernel
theorem dX1_readHead_41 : decode cX1_readHead 41 = .ok (.invokevirtual 51, 3) := by decide +kernel
theorem dX1_readHead_44 : decode cX1_readHead 44 = .ok (.aload_n 1, 1) := by decide +kernel
theorem dX1_readHead_45 : decode cX1_readHead 45 = .ok (.iconst 1, 1) := by decide +kernel
theorem dX1_readHead_46 : decode cX1_readHead 46 = .ok (.bipush 99, 2) := by decide +kernel
theorem dX1_readHead_48 : decode cX1_readHead 48 = .ok (.invokevirtual 54, 3) := by decide +kernel
theorem dX1_readHead_51 : decode cX1_readHead 51 = .ok (.istore 5, 2) := by decide +kernel
theorem dX1_readHead_53 : decode cX1_readHead 53 = .ok (.aload_n 1, 1) := by decide +kernel
theorem dX1_readHead_54 : decode cX1_readHead 54 = .ok (.invokevirtual 25, 3) := by decide +kernel
theorem dX1_readHead_57 : decode cX1_readHead 57 = .ok (.ifCond .eq 20, 3) := by decide +kernel
theorem dX1_readHead_77 : decode cX1_readHead 77 = .ok (.return_, 1) := by decide +kernel
theorem dX0_makeCell_0 : decode cX0_makeCell 0 = .ok (.aload_n 0, 1) := by decide +kernel
theorem dX0_makeCell_1 : decode cX0_makeCell 1 = .ok (.getfield 21, 3) := by decide +kernel
theorem dX0_makeCell_4 : decode cX0_makeCell 4 = .ok (.iload_n 1, 1) := by decide +kernel
theorem dX0_makeCell_5 : decode cX0_makeCell 5 = .ok (.iload_n 2, 1) := by decide +kernel
theorem dX0_makeCell_6 : decode cX0_makeCell 6 = .ok (.iastore, 1) := by decide +kernel
theorem dX0_makeCell_7 : decode cX0_makeCell 7 = .ok (.aload_n 0, 1) := by decide +kernel
theorem dX0_makeCell_8 : decode cX0_makeCell 8 = .ok (.getfield 24, 3) := by decide +kernel
theorem dX0_makeCell_11 : decode cX0_makeCell 11 = .ok (.iload_n 1, 1) := by decide +kernel
theorem dX0_makeCell_12 : decode cX0_makeCell 12 = .ok (.iconst 0, 1) := by decide +kernel
theorem dX0_makeCell_13 : decode cX0_makeCell 13 = .ok (.iastore, 1) := by decide +kernel
theorem dX0_makeCell_14 : decode cX0_makeCell 14 = .ok (.aload_n 0, 1) := by decide +kernel
theorem dX0_makeCell_15 : decode cX0_makeCell 15 = .ok (.getfield 27, 3) := by decide +kernel
theorem dX0_makeCell_18 : decode cX0_makeCell 18 = .ok (.iload_n 1, 1) := by decide +kernel
theorem dX0_makeCell_19 : decode cX0_makeCell 19 = .ok (.iconst 0, 1) := by decide +kernel
theorem dX0_makeCell_20 : decode cX0_makeCell 20 = .ok (.iastore, 1) := by decide +kernel
theorem dX0_makeCell_21 : decode cX0_makeCell 21 = .ok (.aload_n 0, 1) := by decide +kernel
theorem dX0_makeCell_22 : decode cX0_makeCell 22 = .ok (.getfield 30, 3) := by decide +kernel
theorem dX0_makeCell_25 : decode cX0_makeCell 25 = .ok (.iload_n 1, 1) := by decide +kernel
theorem dX0_makeCell_26 : decode cX0_makeCell 26 = .ok (.iconst 0, 1) := by decide +kernel
theorem dX0_makeCell_27 : decode cX0_makeCell 27 = .ok (.iastore, 1) := by decide +kernel
theorem dX0_makeCell_28 : decode cX0_makeCell 28 = .ok (.aload_n 0, 1) := by decide +kernel
theorem dX0_makeCell_29 : decode cX0_makeCell 29 = .ok (.getfield 33, 3) := by decide +kernel
theorem dX0_makeCell_32 : decode cX0_makeCell 32 = .ok (.iload_n 1, 1) := by decide +kernel
theorem dX0_makeCell_33 : decode cX0_makeCell 33 = .ok (.iconst 0, 1) := by decide +kernel
theorem dX0_makeCell_34 : decode cX0_makeCell 34 = .ok (.iastore, 1) := by decide +kernel
theorem dX0_makeCell_35 : decode cX0_makeCell 35 = .ok (.aload_n 0, 1) := by decide +kernel
theorem dX0_makeCell_36 : decode cX0_makeCell 36 = .ok (.getfield 36, 3) := by decide +kernel
theorem dX0_makeCell_39 : decode cX0_makeCell 39 = .ok (.iload_n 1, 1) := by decide +kernel
theorem dX0_makeCell_40 : decode cX0_makeCell 40 = .ok (.iconst 0, 1) := by decide +kernel
theorem dX0_makeCell_41 : decode cX0_makeCell 41 = .ok (.iastore, 1) := by decide +kernel
theorem dX0_makeCell_42 : decode cX0_makeCell 42 = .ok (.aload_n 0, 1) := by decide +kernel
theorem dX0_makeCell_43 : decode cX0_makeCell 43 = .ok (.getfield 39, 3) := by decide +kernel
theorem dX0_makeCell_46 : decode cX0_makeCell 46 = .ok (.iload_n 1, 1) := by decide +kernel
theorem dX0_makeCell_47 : decode cX0_makeCell 47 = .ok (.iconst 0, 1) := by decide +kernel
theorem dX0_makeCell_48 : decode cX0_makeCell 48 = .ok (.iastore, 1) := by decide +kernel
theorem dX0_makeCell_49 : decode cX0_makeCell 49 = .ok (.aload_n 0, 1) := by decide +kernel
theorem dX0_makeCell_50 : decode cX0_makeCell 50 = .ok (.getfield 42, 3) := by decide +kernel
theorem dX0_makeCell_53 : decode cX0_makeCell 53 = .ok (.iload_n 1, 1) := by decide +kernel
theorem dX0_makeCell_54 : decode cX0_makeCell 54 = .ok (.lconst 0, 1) := by decide +kernel
theorem dX0_makeCell_55 : decode cX0_makeCell 55 = .ok (.lastore, 1) := by decide +kernel
theorem dX0_makeCell_56 : decode cX0_makeCell 56 = .ok (.return_, 1) := by decide +kernel
theorem dX0_clear_0 : decode cX0_clear 0 = .ok (.aload_n 0, 1) := by decide +kernel
theorem dX0_clear_1 : decode cX0_clear 1 = .ok (.iconst 0, 1) := by decide +kernel
theorem dX0_clear_2 : decode cX0_clear 2 = .ok (.putfield 49, 3) := by decide +kernel
theorem dX0_clear_5 : decode cX0_clear 5 = .ok (.aload_n 0, 1) := by decide +kernel
theorem dX0_clear_6 : decode cX0_clear 6 = .ok (.iconst 0, 1) := by decide +kernel
theorem dX0_clear_7 : decode cX0_clear 7 = .ok (.putfield 53, 3) := by decide +kernel
theorem dX0_clear_10 : decode cX0_clear 10 = .ok (.aload_n 0, 1) := by decide +kernel
theorem dX0_clear_11 : decode cX0_clear 11 = .ok (.iconst 0, 1) := by decide +kernel
theorem dX0_clear_12 : decode cX0_clear 12 = .ok (.putfield 56, 3) := by decide +kernel
theorem dX0_clear_15 : decode cX0_clear 15 = .ok (.aload_n 0, 1) := by decide +kernel
theorem dX0_clear_16 : decode cX0_clear 16 = .ok (.iconst 0, 1) := by decide +kernel
theorem dX0_clear_17 : decode cX0_clear 17 = .ok (.putfield 59, 3) := by decide +kernel
theorem dX0_clear_20 : decode cX0_clear 20 = .ok (.aload_n 0, 1) := by decide +kernel
theorem dX0_clear_21 : decode cX0_clear 21 = .ok (.iconst 0, 1) := by decide +kernel
theorem dX0_clear_22 : decode cX0_clear 22 = .ok (.putfield 62, 3) := by decide +kernel
theorem dX0_clear_25 : decode cX0_clear 25 = .ok (.aload_n 0, 1) := by decide +kernel
theorem dX0_clear_26 : decode cX0_clear 26 = .ok (.iconst 0, 1) := by decide +kernel
theorem dX0_clear_27 : decode cX0_clear 27 = .ok (.putfield 65, 3) := by decide +kernel
theorem dX0_clear_30 : decode cX0_clear 30 = .ok (.iconst 0, 1) := by decide +kernel
theorem dX0_clear_31 : decode cX0_clear 31 = .ok (.istore_n 1, 1) := by decide +kernel
theorem dX0_clear_32 : decode cX0_clear 32 = .ok (.iload_n 1, 1) := by decide +kernel
theorem dX0_clear_33 : decode cX0_clear 33 = .ok (.bipush 40, 2) := by decide +kernel
theorem dX0_clear_35 : decode cX0_clear 35 = .ok (.if_icmp .ge 15, 3) := by decide +kernel
theorem dX0_clear_38 : decode cX0_clear 38 = .ok (.aload_n 0, 1) := by decide +kernel
theorem dX0_clear_39 : decode cX0_clear 39 = .ok (.iload_n 1, 1) := by decide +kernel
theorem dX0_clear_40 : decode cX0_clear 40 = .ok (.iconst 0, 1) := by decide +kernel
theorem dX0_clear_41 : decode cX0_clear 41 = .ok (.invokevirtual 68, 3) := by decide +kernel
theorem dX0_clear_44 : decode cX0_clear 44 = .ok (.iinc 1 1, 3) := by decide +kernel
theorem dX0_clear_47 : decode cX0_clear 47 = .ok (.goto (-15), 3) := by decide +kernel
theorem dX0_clear_50 : decode cX0_clear 50 = .ok (.return_, 1) := by decide +kernel
theorem dX1_readInto_0 : decode cX1_readInto 0 = .ok (.aload_n 0, 1) := by decide +kernel
theorem dX1_readInto_1 : decode cX1_readInto 1 = .ok (.invokevirtual 9, 3) := by decide +kernel
theorem dX1_readInto_4 : decode cX1_readInto 4 = .ok (.aload_n 1, 1) := by decide +kernel
theorem dX1_readInto_5 : decode cX1_readInto 5 = .ok (.invokevirtual 14, 3) := by decide +kernel
theorem dX1_readInto_8 : decode cX1_readInto 8 = .ok (.aload_n 0, 1) := by decide +kernel
theorem dX1_readInto_9 : decode cX1_readInto 9 = .ok (.aload_n 1, 1) := by decide +kernel
theorem dX1_readInto_10 : decode cX1_readInto 10 = .ok (.invokestatic 19, 3) := by decide +kernel
theorem dX1_readInto_13 : decode cX1_readInto 13 = .ok (.iconst 0, 1) := by decide +kernel
theorem dX1_readInto_14 : decode cX1_readInto 14 = .ok (.istore_n 2, 1) := by decide +kernel
theorem dX1_readInto_15 : decode cX1_readInto 15 = .ok (.iload_n 2, 1) := by decide +kernel
theorem dX1_readInto_16 : decode cX1_readInto 16 = .ok (.sipush 400, 3) := by decide +kernel
theorem dX1_readInto_19 : decode cX1_readInto 19 = .ok (.if_icmp .ge 35, 3) := by decide +kernel
theorem dX1_readInto_22 : decode cX1_readInto 22 = .ok (.aload_n 1, 1) := by decide +kernel
theorem dX1_readInto_23 : decode cX1_readInto 23 = .ok (.invokevirtual 25, 3) := by decide +kernel
theorem dX1_readInto_26 : decode cX1_readInto 26 = .ok (.ifCond .eq 28, 3) := by decide +kernel
theorem dX1_readInto_54 : decode cX1_readInto 54 = .ok (.aload_n 0, 1) := by decide +kernel
theorem dX1_readInto_55 : decode cX1_readInto 55 = .ok (.getfield 40, 3) := by decide +kernel
theorem dX1_readInto_58 : decode cX1_readInto 58 = .ok (.ifCond .ne 12, 3) := by decide +kernel
theorem dX1_readInto_61 : decode cX1_readInto 61 = .ok (.aload_n 1, 1) := by decide +kernel
theorem dX1_readInto_62 : decode cX1_readInto 62 = .ok (.aload_n 1, 1) := by decide +kernel
theorem dX1_readInto_63 : decode cX1_readInto 63 = .ok (.getfield 44, 3) := by decide +kernel
theorem dX1_readInto_66 : decode cX1_readInto 66 = .ok (.iconst 4, 1) := by decide +kernel
theorem dX1_readInto_67 : decode cX1_readInto 67 = .ok (.invokevirtual 47, 3) := by decide +kernel
theorem dX1_readInto_70 : decode cX1_readInto 70 = .ok (.return_, 1) := by decide +kernel
theorem dX6_whyNotRow_0 : decode cX6_whyNotRow 0 = .ok (.aload_n 0, 1) := by decide +kernel
theorem dX6_whyNotRow_1 : decode cX6_whyNotRow 1 = .ok (.getfield 19, 3) := by decide +kernel
theorem dX6_whyNotRow_4 : decode cX6_whyNotRow 4 = .ok (.iload_n 1, 1) := by decide +kernel
theorem dX6_whyNotRow_5 : decode cX6_whyNotRow 5 = .ok (.invokevirtual 258, 3) := by decide +kernel
theorem dX6_whyNotRow_8 : decode cX6_whyNotRow 8 = .ok (.ifCond .ne 5, 3) := by decide +kernel
theorem dX6_whyNotRow_11 : decode cX6_whyNotRow 11 = .ok (.iconst (-1), 1) := by decide +kernel
theorem dX6_whyNotRow_12 : decode cX6_whyNotRow 12 = .ok (.ireturn, 1) := by decide +kernel
theorem dX6_tick_0 : decode cX6_tick 0 = .ok (.aload_n 0, 1) := by decide +kernel
theorem dX6_tick_1 : decode cX6_tick 1 = .ok (.getfield 19, 3) := by decide +kernel
theorem dX6_tick_4 : decode cX6_tick 4 = .ok (.invokevirtual 101, 3) := by decide +kernel
theorem dX6_tick_7 : decode cX6_tick 7 = .ok (.ifCond .eq 14, 3) := by decide +kernel
theorem dX6_tick_21 : decode cX6_tick 21 = .ok (.iconst (-1), 1) := by decide +kernel
theorem dX6_tick_22 : decode cX6_tick 22 = .ok (.ireturn, 1) := by decide +kernel
theorem dX6_settle_0 : decode cX6_settle 0 = .ok (.aload_n 0, 1) := by decide +kernel
theorem dX6_settle_1 : decode cX6_settle 1 = .ok (.getfield 19, 3) := by decide +kernel
theorem dX6_settle_4 : decode cX6_settle 4 = .ok (.invokevirtual 101, 3) := by decide +kernel
theorem dX6_settle_7 : decode cX6_settle 7 = .ok (.ifCond .ne 5, 3) := by decide +kernel
theorem dX6_settle_10 : decode cX6_settle 10 = .ok (.iconst (-1), 1) := by decide +kernel
theorem dX6_settle_11 : decode cX6_settle 11 = .ok (.ireturn, 1) := by decide +kernel
theorem dX6_lose_0 : decode cX6_lose 0 = .ok (.aload_n 0, 1) := by decide +kernel
theorem dX6_lose_1 : decode cX6_lose 1 = .ok (.getfield 19, 3) := by decide +kernel
theorem dX6_lose_4 : decode cX6_lose 4 = .ok (.iload_n 1, 1) := by decide +kernel
theorem dX6_lose_5 : decode cX6_lose 5 = .ok (.invokevirtual 118, 3) := by decide +kernel
theorem dX6_lose_8 : decode cX6_lose 8 = .ok (.ifCond .eq 13, 3) := by decide +kernel
theorem dX6_lose_21 : decode cX6_lose 21 = .ok (.iconst (-1), 1) := by decide +kernel
theorem dX6_lose_22 : decode cX6_lose 22 = .ok (.ireturn, 1) := by decide +kernel
theorem dX6_wear_0 : decode cX6_wear 0 = .ok (.aload_n 0, 1) := by decide +kernel
theorem dX6_wear_1 : decode cX6_wear 1 = .ok (.getfield 19, 3) := by decide +kernel
theorem dX6_wear_4 : decode cX6_wear 4 = .ok (.iload_n 1, 1) := by decide +kernel
theorem dX6_wear_5 : decode cX6_wear 5 = .ok (.iload_n 2, 1) := by decide +kernel
theorem dX6_wear_6 : decode cX6_wear 6 = .ok (.invokevirtual 130, 3) := by decide +kernel
theorem dX6_wear_9 : decode cX6_wear 9 = .ok (.ifCond .eq 7, 3) := by decide +kernel
theorem dX6_wear_16 : decode cX6_wear 16 = .ok (.iconst (-1), 1) := by decide +kernel
theorem dX6_wear_17 : decode cX6_wear 17 = .ok (.ireturn, 1) := by decide +kernel
theorem dX6_mend_0 : decode cX6_mend 0 = .ok (.aload_n 0, 1) := by decide +kernel
theorem dX6_mend_1 : decode cX6_mend 1 = .ok (.getfield 19, 3) := by decide +kernel
theorem dX6_mend_4 : decode cX6_mend 4 = .ok (.iload_n 1, 1) := by decide +kernel
theorem dX6_mend_5 : decode cX6_mend 5 = .ok (.iload_n 2, 1) := by decide +kernel
theorem dX6_mend_6 : decode cX6_mend 6 = .ok (.invokevirtual 130, 3) := by decide +kernel
theorem dX6_mend_9 : decode cX6_mend 9 = .ok (.ifCond .ne 5, 3) := by decide +kernel
theorem dX6_mend_12 : decode cX6_mend 12 = .ok (.iconst (-1), 1) := by decide +kernel
theorem dX6_mend_13 : decode cX6_mend 13 = .ok (.ireturn, 1) := by decide +kernel
theorem dX6_limit_0 : decode cX6_limit 0 = .ok (.aload_n 0, 1) := by decide +kernel
theorem dX6_limit_1 : decode cX6_limit 1 = .ok (.getfield 19, 3) := by decide +kernel
theorem dX6_limit_4 : decode cX6_limit 4 = .ok (.invokevirtual 101, 3) := by decide +kernel
theorem dX6_limit_7 : decode cX6_limit 7 = .ok (.ifCond .eq 14, 3) := by decide +kernel
theorem dX6_limit_21 : decode cX6_limit 21 = .ok (.iconst (-1), 1) := by decide +kernel
theorem dX6_limit_22 : decode cX6_limit 22 = .ok (.ireturn, 1) := by decide +kernel
theorem dX6_exchange_0 : decode cX6_exchange 0 = .ok (.aload_n 0, 1) := by decide +kernel
theorem dX6_exchange_1 : decode cX6_exchange 1 = .ok (.getfield 19, 3) := by decide +kernel
theorem dX6_exchange_4 : decode cX6_exchange 4 = .ok (.iload_n 1, 1) := by decide +kernel
theorem dX6_exchange_5 : decode cX6_exchange 5 = .ok (.iload_n 2, 1) := by decide +kernel
theorem dX6_exchange_6 : decode cX6_exchange 6 = .ok (.invokevirtual 149, 3) := by decide +kernel
theorem dX6_exchange_9 : decode cX6_exchange 9 = .ok (.ifCond .eq 20, 3) := by decide +kernel
theorem dX6_exchange_29 : decode cX6_exchange 29 = .ok (.iconst (-1), 1) := by decide +kernel
theorem dX6_exchange_30 : decode cX6_exchange 30 = .ok (.ireturn, 1) := by decide +kernel
theorem dX6_cell_0 : decode cX6_cell 0 = .ok (.aload_n 0, 1) := by decide +kernel
theorem dX6_cell_1 : decode cX6_cell 1 = .ok (.getfield 19, 3) := by decide +kernel
theorem dX6_cell_4 : decode cX6_cell 4 = .ok (.iload_n 1, 1) := by decide +kernel
theorem dX6_cell_5 : decode cX6_cell 5 = .ok (.invokevirtual 118, 3) := by decide +kernel
theorem dX6_cell_8 : decode cX6_cell 8 = .ok (.ifCond .ne 5, 3) := by decide +kernel
theorem dX6_cell_11 : decode cX6_cell 11 = .ok (.iconst (-1), 1) := by decide +kernel
theorem dX6_cell_12 : decode cX6_cell 12 = .ok (.ireturn, 1) := by decide +kernel
theorem dX6_drum_0 : decode cX6_drum 0 = .ok (.aload_n 0, 1) := by decide +kernel
theorem dX6_drum_1 : decode cX6_drum 1 = .ok (.getfield 19, 3) := by decide +kernel
theorem dX6_drum_4 : decode cX6_drum 4 = .ok (.iload_n 1, 1) := by decide +kernel
theorem dX6_drum_5 : decode cX6_drum 5 = .ok (.invokevirtual 236, 3) := by decide +kernel
theorem dX6_drum_8 : decode cX6_drum 8 = .ok (.ifCond .ne 5, 3) := by decide +kernel
theorem dX6_drum_11 : decode cX6_drum 11 = .ok (.iconst (-1), 1) := by decide +kernel
theorem dX6_drum_12 : decode cX6_drum 12 = .ok (.ireturn, 1) := by decide +kernel
theorem dX6_sign_0 : decode cX6_sign 0 = .ok (.aload_n 0, 1) := by decide +kernel
theorem dX6_sign_1 : decode cX6_sign 1 = .ok (.getfield 19, 3) := by decide +kernel
theorem dX6_sign_4 : decode cX6_sign 4 = .ok (.iload_n 1, 1) := by decide +kernel
theorem dX6_sign_5 : decode cX6_sign 5 = .ok (.iload_n 2, 1) := by decide +kernel
theorem dX6_sign_6 : decode cX6_sign 6 = .ok (.invokevirtual 254, 3) := by decide +kernel
theorem dX6_sign_9 : decode cX6_sign 9 = .ok (.ireturn, 1) := by decide +kernel
theorem dX6_at_0 : decode cX6_at 0 = .ok (.aload_n 0, 1) := by decide +kernel
theorem dX6_at_1 : decode cX6_at 1 = .ok (.getfield 19, 3) := by decide +kernel
theorem dX6_at_4 : decode cX6_at 4 = .ok (.iload_n 1, 1) := by decide +kernel
theorem dX6_at_5 : decode cX6_at 5 = .ok (.invokevirtual 258, 3) := by decide +kernel
theorem dX6_at_8 : decode cX6_at 8 = .ok (.ifCond .eq 18, 3) := by decide +kernel
theorem dX6_at_26 : decode cX6_at 26 = .ok (.iconst (-1), 1) := by decide +kernel
theorem dX6_at_27 : decode cX6_at 27 = .ok (.ireturn, 1) := by decide +kernel
theorem dX6_left_0 : decode cX6_left 0 = .ok (.aload_n 0, 1) := by decide +kernel
theorem dX6_left_1 : decode cX6_left 1 = .ok (.getfield 19, 3) := by decide +kernel
theorem dX6_left_4 : decode cX6_left 4 = .ok (.invokevirtual 101, 3) := by decide +kernel
theorem dX6_left_7 : decode cX6_left 7 = .ok (.ifCond .ne 5, 3) := by decide +kernel
theorem dX6_left_10 : decode cX6_left 10 = .ok (.iconst (-1), 1) := by decide +kernel
theorem dX6_left_11 : decode cX6_left 11 = .ok (.ireturn, 1) := by decide +kernel
theorem dX6_when_0 : decode cX6_when 0 = .ok (.aload_n 0, 1) := by decide +kernel
theorem dX6_when_1 : decode cX6_when 1 = .ok (.getfield 19, 3) := by decide +kernel
theorem dX6_when_4 : decode cX6_when 4 = .ok (.invokevirtual 101, 3) := by decide +kernel
theorem dX6_when_7 : decode cX6_when 7 = .ok (.ifCond .eq 12, 3) := by decide +kernel
theorem dX6_when_19 : decode cX6_when 19 = .ok (.iconst (-1), 1) := by decide +kernel
theorem dX6_when_20 : decode cX6_when 20 = .ok (.ireturn, 1) := by decide +kernel
theorem dX6_loudest_0 : decode cX6_loudest 0 = .ok (.aload_n 0, 1) := by decide +kernel
theorem dX6_loudest_1 : decode cX6_loudest 1 = .ok (.getfield 19, 3) := by decide +kernel
theorem dX6_loudest_4 : decode cX6_loudest 4 = .ok (.invokevirtual 101, 3) := by decide +kernel
theorem dX6_loudest_7 : decode cX6_loudest 7 = .ok (.ifCond .eq 12, 3) := by decide +kernel
theorem dX6_loudest_19 : decode cX6_loudest 19 = .ok (.iconst (-1), 1) := by decide +kernel
theorem dX6_loudest_20 : decode cX6_loudest 20 = .ok (.ireturn, 1) := by decide +kernel
theorem dX6_total_0 : decode cX6_total 0 = .ok (.aload_n 0, 1) := by decide +kernel
theorem dX6_total_1 : decode cX6_total 1 = .ok (.getfield 19, 3) := by decide +kernel
theorem dX6_total_4 : decode cX6_total 4 = .ok (.invokevirtual 101, 3) := by decide +kernel
theorem dX6_total_7 : decode cX6_total 7 = .ok (.ifCond .ne 5, 3) := by decide +kernel
theorem dX6_total_10 : decode cX6_total 10 = .ok (.iconst (-1), 1) := by decide +kernel
theorem dX6_total_11 : decode cX6_total 11 = .ok (.ireturn, 1) := by decide +kernel
theorem dX6_rests_0 : decode cX6_rests 0 = .ok (.aload_n 0, 1) := by decide +kernel
theorem dX6_rests_1 : decode cX6_rests 1 = .ok (.getfield 19, 3) := by decide +kernel
theorem dX6_rests_4 : decode cX6_rests 4 = .ok (.iload_n 1, 1) := by decide +kernel
theorem dX6_rests_5 : decode cX6_rests 5 = .ok (.invokevirtual 118, 3) := by decide +kernel
theorem dX6_rests_8 : decode cX6_rests 8 = .ok (.ifCond .ne 5, 3) := by decide +kernel
theorem dX6_rests_11 : decode cX6_rests 11 = .ok (.iconst (-1), 1) := by decide +kernel
theorem dX6_rests_12 : decode cX6_rests 12 = .ok (.ireturn, 1) := by decide +kernel
theorem dX6_cost_0 : decode cX6_cost 0 = .ok (.aload_n 0, 1) := by decide +kernel
theorem dX6_cost_1 : decode cX6_cost 1 = .ok (.iload_n 1, 1) := by decide +kernel
theorem dX6_cost_2 : decode cX6_cost 2 = .ok (.invokevirtual 83, 3) := by decide +kernel
theorem dX6_cost_5 : decode cX6_cost 5 = .ok (.istore_n 2, 1) := by decide +kernel
theorem dX6_cost_6 : decode cX6_cost 6 = .ok (.iload_n 2, 1) := by decide +kernel
theorem dX6_cost_7 : decode cX6_cost 7 = .ok (.ifCond .ne 27, 3) := by decide +kernel
theorem dX6_cost_34 : decode cX6_cost 34 = .ok (.iload_n 2, 1) := by decide +kernel
theorem dX6_cost_35 : decode cX6_cost 35 = .ok (.ireturn, 1) := by decide +kernel
theorem dX6_best_0 : decode cX6_best 0 = .ok (.aload_n 0, 1) := by decide +kernel
theorem dX6_best_1 : decode cX6_best 1 = .ok (.getfield 19, 3) := by decide +kernel
theorem dX6_best_4 : decode cX6_best 4 = .ok (.iload_n 1, 1) := by decide +kernel
theorem dX6_best_5 : decode cX6_best 5 = .ok (.invokevirtual 258, 3) := by decide +kernel
theorem dX6_best_8 : decode cX6_best 8 = .ok (.ifCond .eq 12, 3) := by decide +kernel
theorem dX6_best_20 : decode cX6_best 20 = .ok (.iconst (-1), 1) := by decide +kernel
theorem dX6_best_21 : decode cX6_best 21 = .ok (.ireturn, 1) := by decide +kernel
theorem dX6_place_0 : decode cX6_place 0 = .ok (.aload_n 0, 1) := by decide +kernel
theorem dX6_place_1 : decode cX6_place 1 = .ok (.getfield 19, 3) := by decide +kernel
theorem dX6_place_4 : decode cX6_place 4 = .ok (.iload_n 1, 1) := by decide +kernel
theorem dX6_place_5 : decode cX6_place 5 = .ok (.invokevirtual 258, 3) := by decide +kernel
theorem dX6_place_8 : decode cX6_place 8 = .ok (.ifCond .eq 12, 3) := by decide +kernel
theorem dX6_place_20 : decode cX6_place 20 = .ok (.iconst (-1), 1) := by decide +kernel
theorem dX6_place_21 : decode cX6_place 21 = .ok (.ireturn, 1) := by decide +kernel
theorem dX6_log_0 : decode cX6_log 0 = .ok (.aload_n 0, 1) := by decide +kernel
theorem dX6_log_1 : decode cX6_log 1 = .ok (.getfield 19, 3) := by decide +kernel
theorem dX6_log_4 : decode cX6_log 4 = .ok (.iload_n 1, 1) := by decide +kernel
theorem dX6_log_5 : decode cX6_log 5 = .ok (.invokevirtual 236, 3) := by decide +kernel
theorem dX6_log_8 : decode cX6_log 8 = .ok (.ifCond .ne 5, 3) := by decide +kernel
theorem dX6_log_11 : decode cX6_log 11 = .ok (.iconst (-1), 1) := by decide +kernel
theorem dX6_log_12 : decode cX6_log 12 = .ok (.ireturn, 1) := by decide +kernel
theorem dX6_usual_0 : decode cX6_usual 0 = .ok (.aload_n 0, 1) := by decide +kernel
theorem dX6_usual_1 : decode cX6_usual 1 = .ok (.getfield 19, 3) := by decide +kernel
theorem dX6_usual_4 : decode cX6_usual 4 = .ok (.iload_n 1, 1) := by decide +kernel
theorem dX6_usual_5 : decode cX6_usual 5 = .ok (.invokevirtual 236, 3) := by decide +kernel
theorem dX6_usual_8 : decode cX6_usual 8 = .ok (.ifCond .eq 12, 3) := by decide +kernel
theorem dX6_usual_20 : decode cX6_usual 20 = .ok (.iconst (-1), 1) := by decide +kernel
theorem dX6_usual_21 : decode cX6_usual 21 = .ok (.ireturn, 1) := by decide +kernel
theorem dX6_better_0 : decode cX6_better 0 = .ok (.aload_n 0, 1) := by decide +kernel
theorem dX6_better_1 : decode cX6_better 1 = .ok (.getfield 19, 3) := by decide +kernel
theorem dX6_better_4 : decode cX6_better 4 = .ok (.iload_n 1, 1) := by decide +kernel
theorem dX6_better_5 : decode cX6_better 5 = .ok (.invokevirtual 236, 3) := by decide +kernel
theorem dX6_better_8 : decode cX6_better 8 = .ok (.ifCond .eq 12, 3) := by decide +kernel
theorem dX6_better_20 : decode cX6_better 20 = .ok (.iconst (-1), 1) := by decide +kernel
theorem dX6_better_21 : decode cX6_better 21 = .ok (.ireturn, 1) := by decide +kernel
theorem dX6_farthest_0 : decode cX6_farthest 0 = .ok (.aload_n 0, 1) := by decide +kernel
theorem dX6_farthest_1 : decode cX6_farthest 1 = .ok (.getfield 19, 3) := by decide +kernel
theorem dX6_farthest_4 : decode cX6_farthest 4 = .ok (.iload_n 1, 1) := by decide +kernel
theorem dX6_farthest_5 : decode cX6_farthest 5 = .ok (.invokevirtual 118, 3) := by decide +kernel
theorem dX6_farthest_8 : decode cX6_farthest 8 = .ok (.ifCond .eq 12, 3) := by decide +kernel
theorem dX6_farthest_20 : decode cX6_farthest 20 = .ok (.iconst (-1), 1) := by decide +kernel
theorem dX6_farthest_21 : decode cX6_farthest 21 = .ok (.ireturn, 1) := by decide +kernel
theorem dX6_lacks_0 : decode cX6_lacks 0 = .ok (.aload_n 0, 1) := by decide +kernel
theorem dX6_lacks_1 : decode cX6_lacks 1 = .ok (.getfield 19, 3) := by decide +kernel
theorem dX6_lacks_4 : decode cX6_lacks 4 = .ok (.iload_n 1, 1) := by decide +kernel
theorem dX6_lacks_5 : decode cX6_lacks 5 = .ok (.invokevirtual 118, 3) := by decide +kernel
theorem dX6_lacks_8 : decode cX6_lacks 8 = .ok (.ifCond .eq 12, 3) := by decide +kernel
theorem dX6_lacks_20 : decode cX6_lacks 20 = .ok (.iconst (-1), 1) := by decide +kernel
theorem dX6_lacks_21 : decode cX6_lacks 21 = .ok (.ireturn, 1) := by decide +kernel
theorem dX6_unlike_0 : decode cX6_unlike 0 = .ok (.aload_n 0, 1) := by decide +kernel
theorem dX6_unlike_1 : decode cX6_unlike 1 = .ok (.getfield 19, 3) := by decide +kernel
theorem dX6_unlike_4 : decode cX6_unlike 4 = .ok (.iload_n 1, 1) := by decide +kernel
theorem dX6_unlike_5 : decode cX6_unlike 5 = .ok (.invokevirtual 258, 3) := by decide +kernel
theorem dX6_unlike_8 : decode cX6_unlike 8 = .ok (.ifCond .eq 19, 3) := by decide +kernel
theorem dX6_unlike_27 : decode cX6_unlike 27 = .ok (.iconst (-1), 1) := by decide +kernel
theorem dX6_unlike_28 : decode cX6_unlike 28 = .ok (.ireturn, 1) := by decide +kernel
theorem dX6_worn_0 : decode cX6_worn 0 = .ok (.aload_n 0, 1) := by decide +kernel
theorem dX6_worn_1 : decode cX6_worn 1 = .ok (.getfield 19, 3) := by decide +kernel
theorem dX6_worn_4 : decode cX6_worn 4 = .ok (.iload_n 1, 1) := by decide +kernel
theorem dX6_worn_5 : decode cX6_worn 5 = .ok (.invokevirtual 118, 3) := by decide +kernel
theorem dX6_worn_8 : decode cX6_worn 8 = .ok (.ifCond .eq 15, 3) := by decide +kernel
theorem dX6_worn_23 : decode cX6_worn 23 = .ok (.ldc2_w 234, 3) := by decide +kernel
theorem dX6_worn_26 : decode cX6_worn 26 = .ok (.lreturn, 1) := by decide +kernel
theorem dX6_which_0 : decode cX6_which 0 = .ok (.aload_n 0, 1) := by decide +kernel
theorem dX6_which_1 : decode cX6_which 1 = .ok (.getfield 19, 3) := by decide +kernel
theorem dX6_which_4 : decode cX6_which 4 = .ok (.invokevirtual 101, 3) := by decide +kernel
theorem dX6_which_7 : decode cX6_which 7 = .ok (.ifCond .eq 12, 3) := by decide +kernel
theorem dX6_which_19 : decode cX6_which 19 = .ok (.ldc2_w 234, 3) := by decide +kernel
theorem dX6_which_22 : decode cX6_which 22 = .ok (.lreturn, 1) := by decide +kernel
theorem dX6_often_0 : decode cX6_often 0 = .ok (.aload_n 0, 1) := by decide +kernel
theorem dX6_often_1 : decode cX6_often 1 = .ok (.getfield 19, 3) := by decide +kernel
theorem dX6_often_4 : decode cX6_often 4 = .ok (.iload_n 1, 1) := by decide +kernel
theorem dX6_often_5 : decode cX6_often 5 = .ok (.invokevirtual 236, 3) := by decide +kernel
theorem dX6_often_8 : decode cX6_often 8 = .ok (.ifCond .eq 19, 3) := by decide +kernel
theorem dX6_often_27 : decode cX6_often 27 = .ok (.iconst (-1), 1) := by decide +kernel
theorem dX6_often_28 : decode cX6_often 28 = .ok (.ireturn, 1) := by decide +kernel
theorem dX6_undo_0 : decode cX6_undo 0 = .ok (.aload_n 0, 1) := by decide +kernel
theorem dX6_undo_1 : decode cX6_undo 1 = .ok (.getfield 43, 3) := by decide +kernel
theorem dX6_undo_4 : decode cX6_undo 4 = .ok (.aload_n 0, 1) := by decide +kernel
theorem dX6_undo_5 : decode cX6_undo 5 = .ok (.getfield 19, 3) := by decide +kernel
theorem dX6_undo_8 : decode cX6_undo 8 = .ok (.invokevirtual 197, 3) := by decide +kernel
theorem dX6_undo_11 : decode cX6_undo 11 = .ok (.ifCond .eq 13, 3) := by decide +kernel
theorem dX6_undo_24 : decode cX6_undo 24 = .ok (.iconst (-1), 1) := by decide +kernel
theorem dX6_undo_25 : decode cX6_undo 25 = .ok (.ireturn, 1) := by decide +kernel
theorem dX6_digest_0 : decode cX6_digest 0 = .ok (.ldc2_w 373, 3) := by decide +kernel
theorem dX6_digest_3 : decode cX6_digest 3 = .ok (.lstore_n 1, 1) := by decide +kernel
theorem dX6_digest_4 : decode cX6_digest 4 = .ok (.iconst 0, 1) := by decide +kernel
theorem dX6_digest_5 : decode cX6_digest 5 = .ok (.istore_n 3, 1) := by decide +kernel
theorem dX6_digest_6 : decode cX6_digest 6 = .ok (.iload_n 3, 1) := by decide +kernel
theorem dX6_digest_7 : decode cX6_digest 7 = .ok (.aload_n 0, 1) := by decide +kernel
theorem dX6_digest_8 : decode cX6_digest 8 = .ok (.getfield 19, 3) := by decide +kernel
theorem dX6_digest_11 : decode cX6_digest 11 = .ok (.invokevirtual 207, 3) := by decide +kernel
theorem dX6_digest_14 : decode cX6_digest 14 = .ok (.if_icmp .ge 110, 3) := by decide +kernel
theorem dX6_digest_124 : decode cX6_digest 124 = .ok (.lload_n 1, 1) := by decide +kernel
theorem dX6_digest_125 : decode cX6_digest 125 = .ok (.lreturn, 1) := by decide +kernel
theorem dX6_end_0 : decode cX6_end 0 = .ok (.iload_n 1, 1) := by decide +kernel
theorem dX6_end_1 : decode cX6_end 1 = .ok (.ifCond .lt 14, 3) := by decide +kernel
theorem dX6_end_4 : decode cX6_end 4 = .ok (.iload_n 1, 1) := by decide +kernel
theorem dX6_end_5 : decode cX6_end 5 = .ok (.aload_n 0, 1) := by decide +kernel
theorem dX6_end_6 : decode cX6_end 6 = .ok (.getfield 10, 3) := by decide +kernel
theorem dX6_end_9 : decode cX6_end 9 = .ok (.getfield 51, 3) := by decide +kernel
theorem dX6_end_12 : decode cX6_end 12 = .ok (.if_icmp .le 5, 3) := by decide +kernel
theorem dX6_end_15 : decode cX6_end 15 = .ok (.iconst (-1), 1) := by decide +kernel
theorem dX6_end_16 : decode cX6_end 16 = .ok (.ireturn, 1) := by decide +kernel
theorem dX6_end_17 : decode cX6_end 17 = .ok (.aload_n 0, 1) := by decide +kernel
theorem dX6_end_18 : decode cX6_end 18 = .ok (.getfield 10, 3) := by decide +kernel
theorem dX6_end_21 : decode cX6_end 21 = .ok (.iload_n 1, 1) := by decide +kernel
theorem dX6_end_22 : decode cX6_end 22 = .ok (.putfield 51, 3) := by decide +kernel
theorem dX6_end_25 : decode cX6_end 25 = .ok (.iload_n 1, 1) := by decide +kernel
theorem dX6_end_26 : decode cX6_end 26 = .ok (.ireturn, 1) := by decide +kernel
theorem dX6_row_0 : decode cX6_row 0 = .ok (.aload_n 0, 1) := by decide +kernel
theorem dX6_row_1 : decode cX6_row 1 = .ok (.iload_n 1, 1) := by decide +kernel
theorem dX6_row_2 : decode cX6_row 2 = .ok (.invokevirtual 83, 3) := by decide +kernel
theorem dX6_row_5 : decode cX6_row 5 = .ok (.istore_n 2, 1) := by decide +kernel
theorem dX6_row_6 : decode cX6_row 6 = .ok (.iload_n 2, 1) := by decide +kernel
theorem dX6_row_7 : decode cX6_row 7 = .ok (.ifCond .ne 35, 3) := by decide +kernel
theorem dX6_row_42 : decode cX6_row 42 = .ok (.aload_n 0, 1) := by decide +kernel
theorem dX6_row_43 : decode cX6_row 43 = .ok (.getfield 10, 3) := by decide +kernel
theorem dX6_row_46 : decode cX6_row 46 = .ok (.iconst 0, 1) := by decide +kernel
theorem dX6_row_47 : decode cX6_row 47 = .ok (.putfield 51, 3) := by decide +kernel
theorem dX6_row_50 : decode cX6_row 50 = .ok (.iload_n 2, 1) := by decide +kernel
theorem dX6_row_51 : decode cX6_row 51 = .ok (.ireturn, 1) := by decide +kernel
theorem dX6_scroll_0 : decode cX6_scroll 0 = .ok (.aload_n 0, 1) := by decide +kernel
theorem dX6_scroll_1 : decode cX6_scroll 1 = .ok (.aload_n 0, 1) := by decide +kernel
theorem dX6_scroll_2 : decode cX6_scroll 2 = .ok (.getfield 19, 3) := by decide +kernel
theorem dX6_scroll_5 : decode cX6_scroll 5 = .ok (.getfield 94, 3) := by decide +kernel
theorem dX6_scroll_8 : decode cX6_scroll 8 = .ok (.iconst 1, 1) := by decide +kernel
theorem dX6_scroll_9 : decode cX6_scroll 9 = .ok (.isub, 1) := by decide +kernel
theorem dX6_scroll_10 : decode cX6_scroll 10 = .ok (.invokevirtual 83, 3) := by decide +kernel
theorem dX6_scroll_13 : decode cX6_scroll 13 = .ok (.istore_n 1, 1) := by decide +kernel
theorem dX6_scroll_14 : decode cX6_scroll 14 = .ok (.iload_n 1, 1) := by decide +kernel
theorem dX6_scroll_15 : decode cX6_scroll 15 = .ok (.ifCond .ne 34, 3) := by decide +kernel
theorem dX6_scroll_49 : decode cX6_scroll 49 = .ok (.aload_n 0, 1) := by decide +kernel
theorem dX6_scroll_50 : decode cX6_scroll 50 = .ok (.getfield 10, 3) := by decide +kernel
theorem dX6_scroll_53 : decode cX6_scroll 53 = .ok (.iconst 0, 1) := by decide +kernel
theorem dX6_scroll_54 : decode cX6_scroll 54 = .ok (.putfield 51, 3) := by decide +kernel
theorem dX6_scroll_57 : decode cX6_scroll 57 = .ok (.iload_n 1, 1) := by decide +kernel
theorem dX6_scroll_58 : decode cX6_scroll 58 = .ok (.ireturn, 1) := by decide +kernel
theorem dX6_whyNotProgram_0 : decode cX6_whyNotProgram 0 = .ok (.aload_n 0, 1) := by decide +kernel
theorem dX6_whyNotProgram_1 : decode cX6_whyNotProgram 1 = .ok (.getfield 19, 3) := by decide +kernel
theorem dX6_whyNotProgram_4 : decode cX6_whyNotProgram 4 = .ok (.invokevirtual 101, 3) := by decide +kernel
theorem dX6_whyNotProgram_7 : decode cX6_whyNotProgram 7 = .ok (.ifCond .ne 5, 3) := by decide +kernel
theorem dX6_whyNotProgram_10 : decode cX6_whyNotProgram 10 = .ok (.iconst (-1), 1) := by decide +kernel
theorem dX6_whyNotProgram_11 : decode cX6_whyNotProgram 11 = .ok (.ireturn, 1) := by decide +kernel
theorem dX6_run_0 : decode cX6_run 0 = .ok (.aload_n 0, 1) := by decide +kernel
theorem dX6_run_1 : decode cX6_run 1 = .ok (.invokevirtual 156, 3) := by decide +kernel
theorem dX6_run_4 : decode cX6_run 4 = .ok (.istore_n 1, 1) := by decide +kernel
theorem dX6_run_5 : decode cX6_run 5 = .ok (.iload_n 1, 1) := by decide +kernel
theorem dX6_run_6 : decode cX6_run 6 = .ok (.ifCond .ne 19, 3) := by decide +kernel
theorem dX6_run_25 : decode cX6_run 25 = .ok (.aload_n 0, 1) := by decide +kernel
theorem dX6_run_26 : decode cX6_run 26 = .ok (.getfield 10, 3) := by decide +kernel
theorem dX6_run_29 : decode cX6_run 29 = .ok (.iconst 0, 1) := by decide +kernel
theorem dX6_run_30 : decode cX6_run 30 = .ok (.putfield 51, 3) := by decide +kernel
theorem dX6_run_33 : decode cX6_run 33 = .ok (.iload_n 1, 1) := by decide +kernel
theorem dX6_run_34 : decode cX6_run 34 = .ok (.ireturn, 1) := by decide +kernel
theorem dX6_back_0 : decode cX6_back 0 = .ok (.iload_n 1, 1) := by decide +kernel
theorem dX6_back_1 : decode cX6_back 1 = .ok (.invokestatic 201, 3) := by decide +kernel
theorem dX6_back_4 : decode cX6_back 4 = .ok (.ifCond .ne 5, 3) := by decide +kernel
theorem dX6_back_7 : decode cX6_back 7 = .ok (.iconst (-1), 1) := by decide +kernel
theorem dX6_back_8 : decode cX6_back 8 = .ok (.ireturn, 1) := by decide +kernel
theorem dX6_back_9 : decode cX6_back 9 = .ok (.aload_n 0, 1) := by decide +kernel
theorem dX6_back_10 : decode cX6_back 10 = .ok (.getfield 47, 3) := by decide +kernel
theorem dX6_back_13 : decode cX6_back 13 = .ok (.iload_n 1, 1) := by decide +kernel
theorem dX6_back_14 : decode cX6_back 14 = .ok (.aaload, 1) := by decide +kernel
theorem dX6_back_15 : decode cX6_back 15 = .ok (.astore_n 2, 1) := by decide +kernel
theorem dX6_back_16 : decode cX6_back 16 = .ok (.aload_n 2, 1) := by decide +kernel
theorem dX6_back_17 : decode cX6_back 17 = .ok (.ifnonnull 6, 3) := by decide +kernel
theorem dX6_back_20 : decode cX6_back 20 = .ok (.bipush (-2), 2) := by decide +kernel
theorem dX6_back_22 : decode cX6_back 22 = .ok (.ireturn, 1) := by decide +kernel
theorem dX6_letter_0 : decode cX6_letter 0 = .ok (.iload_n 1, 1) := by decide +kernel
theorem dX6_letter_1 : decode cX6_letter 1 = .ok (.ifCond .lt 13, 3) := by decide +kernel
theorem dX6_letter_4 : decode cX6_letter 4 = .ok (.iload_n 1, 1) := by decide +kernel
theorem dX6_letter_5 : decode cX6_letter 5 = .ok (.iconst 1, 1) := by decide +kernel
theorem dX6_letter_6 : decode cX6_letter 6 = .ok (.if_icmp .gt 8, 3) := by decide +kernel
theorem dX6_letter_9 : decode cX6_letter 9 = .ok (.iload_n 2, 1) := by decide +kernel
theorem dX6_letter_10 : decode cX6_letter 10 = .ok (.iconst (-1), 1) := by decide +kernel
theorem dX6_letter_11 : decode cX6_letter 11 = .ok (.if_icmp .ge 5, 3) := by decide +kernel
theorem dX6_letter_14 : decode cX6_letter 14 = .ok (.iconst (-1), 1) := by decide +kernel
theorem dX6_letter_15 : decode cX6_letter 15 = .ok (.ireturn, 1) := by decide +kernel
theorem dX6_letter_16 : decode cX6_letter 16 = .ok (.aload_n 0, 1) := by decide +kernel
theorem dX6_letter_17 : decode cX6_letter 17 = .ok (.getfield 19, 3) := by decide +kernel
theorem dX6_letter_20 : decode cX6_letter 20 = .ok (.invokevirtual 101, 3) := by decide +kernel
theorem dX6_letter_23 : decode cX6_letter 23 = .ok (.ifCond .eq 23, 3) := by decide +kernel
theorem dX6_letter_46 : decode cX6_letter 46 = .ok (.iconst 0, 1) := by decide +kernel
theorem dX6_letter_47 : decode cX6_letter 47 = .ok (.istore_n 3, 1) := by decide +kernel
theorem dX6_letter_48 : decode cX6_letter 48 = .ok (.iload_n 2, 1) := by decide +kernel
theorem dX6_letter_49 : decode cX6_letter 49 = .ok (.iconst (-1), 1) := by decide +kernel
theorem dX6_letter_50 : decode cX6_letter 50 = .ok (.if_icmp .ne 5, 3) := by decide +kernel
theorem dX6_letter_53 : decode cX6_letter 53 = .ok (.iload_n 3, 1) := by decide +kernel
theorem dX6_letter_54 : decode cX6_letter 54 = .ok (.ireturn, 1) := by decide +kernel
theorem dX6_letter_55 : decode cX6_letter 55 = .ok (.iload_n 2, 1) := by decide +kernel
theorem dX6_letter_56 : decode cX6_letter 56 = .ok (.iload_n 3, 1) := by decide +kernel
theorem dX6_letter_57 : decode cX6_letter 57 = .ok (.if_icmp .lt 6, 3) := by decide +kernel
theorem dX6_letter_60 : decode cX6_letter 60 = .ok (.bipush (-2), 2) := by decide +kernel
theorem dX6_letter_62 : decode cX6_letter 62 = .ok (.ireturn, 1) := by decide +kernel
theorem dX6_feed_0 : decode cX6_feed 0 = .ok (.aload_n 0, 1) := by decide +kernel
theorem dX6_feed_1 : decode cX6_feed 1 = .ok (.getfield 10, 3) := by decide +kernel
theorem dX6_feed_4 : decode cX6_feed 4 = .ok (.getfield 51, 3) := by decide +kernel
theorem dX6_feed_7 : decode cX6_feed 7 = .ok (.bipush 20, 2) := by decide +kernel
theorem dX6_feed_9 : decode cX6_feed 9 = .ok (.iadd, 1) := by decide +kernel
theorem dX6_feed_10 : decode cX6_feed 10 = .ok (.sipush 400, 3) := by decide +kernel
theorem dX6_feed_13 : decode cX6_feed 13 = .ok (.if_icmp .le 5, 3) := by decide +kernel
theorem dX6_feed_18 : decode cX6_feed 18 = .ok (.aload_n 0, 1) := by decide +kernel
theorem dX6_feed_19 : decode cX6_feed 19 = .ok (.getfield 10, 3) := by decide +kernel
theorem dX6_feed_22 : decode cX6_feed 22 = .ok (.iload_n 1, 1) := by decide +kernel
theorem dX6_feed_23 : decode cX6_feed 23 = .ok (.invokevirtual 55, 3) := by decide +kernel
theorem dX6_feed_26 : decode cX6_feed 26 = .ok (.aload_n 0, 1) := by decide +kernel
theorem dX6_feed_27 : decode cX6_feed 27 = .ok (.getfield 10, 3) := by decide +kernel
theorem dX6_feed_30 : decode cX6_feed 30 = .ok (.iload_n 2, 1) := by decide +kernel
theorem dX6_feed_31 : decode cX6_feed 31 = .ok (.invokevirtual 55, 3) := by decide +kernel
theorem dX6_feed_34 : decode cX6_feed 34 = .ok (.aload_n 0, 1) := by decide +kernel
theorem dX6_feed_35 : decode cX6_feed 35 = .ok (.getfield 10, 3) := by decide +kernel
theorem dX6_feed_38 : decode cX6_feed 38 = .ok (.iload_n 3, 1) := by decide +kernel
theorem dX6_feed_39 : decode cX6_feed 39 = .ok (.invokevirtual 55, 3) := by decide +kernel
theorem dX6_feed_42 : decode cX6_feed 42 = .ok (.aload_n 0, 1) := by decide +kernel
theorem dX6_feed_43 : decode cX6_feed 43 = .ok (.getfield 10, 3) := by decide +kernel
theorem dX6_feed_46 : decode cX6_feed 46 = .ok (.iload 4, 2) := by decide +kernel
theorem dX6_feed_48 : decode cX6_feed 48 = .ok (.invokevirtual 55, 3) := by decide +kernel
theorem dX6_feed_51 : decode cX6_feed 51 = .ok (.aload_n 0, 1) := by decide +kernel
theorem dX6_feed_52 : decode cX6_feed 52 = .ok (.getfield 10, 3) := by decide +kernel
theorem dX6_feed_55 : decode cX6_feed 55 = .ok (.iload 5, 2) := by decide +kernel
theorem dX6_feed_57 : decode cX6_feed 57 = .ok (.invokevirtual 55, 3) := by decide +kernel
theorem dX6_feed_60 : decode cX6_feed 60 = .ok (.aload_n 0, 1) := by decide +kernel
theorem dX6_feed_61 : decode cX6_feed 61 = .ok (.getfield 10, 3) := by decide +kernel
theorem dX6_feed_64 : decode cX6_feed 64 = .ok (.getfield 51, 3) := by decide +kernel
theorem dX6_feed_67 : decode cX6_feed 67 = .ok (.ireturn, 1) := by decide +kernel
theorem dX6_count_0 : decode cX6_count 0 = .ok (.iload_n 1, 1) := by decide +kernel
theorem dX6_count_1 : decode cX6_count 1 = .ok (.tableswitch 131 0 8 #[51, 59, 67, 75, 83, 91, 99, 107, 112], 51) := by decide +kernel
theorem dX6_count_52 : decode cX6_count 52 = .ok (.aload_n 0, 1) := by decide +kernel
theorem dX6_count_53 : decode cX6_count 53 = .ok (.getfield 19, 3) := by decide +kernel
theorem dX6_count_56 : decode cX6_count 56 = .ok (.getfield 94, 3) := by decide +kernel
theorem dX6_count_59 : decode cX6_count 59 = .ok (.ireturn, 1) := by decide +kernel
theorem dX6_count_60 : decode cX6_count 60 = .ok (.aload_n 0, 1) := by decide +kernel
theorem dX6_count_61 : decode cX6_count 61 = .ok (.getfield 19, 3) := by decide +kernel
theorem dX6_count_64 : decode cX6_count 64 = .ok (.getfield 261, 3) := by decide +kernel
theorem dX6_count_67 : decode cX6_count 67 = .ok (.ireturn, 1) := by decide +kernel
theorem dX6_count_68 : decode cX6_count 68 = .ok (.aload_n 0, 1) := by decide +kernel
theorem dX6_count_69 : decode cX6_count 69 = .ok (.getfield 19, 3) := by decide +kernel
theorem dX6_count_72 : decode cX6_count 72 = .ok (.invokevirtual 207, 3) := by decide +kernel
theorem dX6_count_75 : decode cX6_count 75 = .ok (.ireturn, 1) := by decide +kernel
theorem dX6_count_76 : decode cX6_count 76 = .ok (.aload_n 0, 1) := by decide +kernel
theorem dX6_count_77 : decode cX6_count 77 = .ok (.getfield 19, 3) := by decide +kernel
theorem dX6_count_80 : decode cX6_count 80 = .ok (.getfield 146, 3) := by decide +kernel
theorem dX6_count_83 : decode cX6_count 83 = .ok (.ireturn, 1) := by decide +kernel
theorem dX6_count_84 : decode cX6_count 84 = .ok (.aload_n 0, 1) := by decide +kernel
theorem dX6_count_85 : decode cX6_count 85 = .ok (.getfield 19, 3) := by decide +kernel
theorem dX6_count_88 : decode cX6_count 88 = .ok (.getfield 80, 3) := by decide +kernel
theorem dX6_count_91 : decode cX6_count 91 = .ok (.ireturn, 1) := by decide +kernel
theorem dX6_count_92 : decode cX6_count 92 = .ok (.aload_n 0, 1) := by decide +kernel
theorem dX6_count_93 : decode cX6_count 93 = .ok (.getfield 43, 3) := by decide +kernel
theorem dX6_count_96 : decode cX6_count 96 = .ok (.getfield 79, 3) := by decide +kernel
theorem dX6_count_99 : decode cX6_count 99 = .ok (.ireturn, 1) := by decide +kernel
theorem dX6_count_100 : decode cX6_count 100 = .ok (.aload_n 0, 1) := by decide +kernel
theorem dX6_count_101 : decode cX6_count 101 = .ok (.getfield 10, 3) := by decide +kernel
theorem dX6_count_104 : decode cX6_count 104 = .ok (.getfield 51, 3) := by decide +kernel
theorem dX6_count_107 : decode cX6_count 107 = .ok (.ireturn, 1) := by decide +kernel
theorem dX6_count_108 : decode cX6_count 108 = .ok (.aload_n 0, 1) := by decide +kernel
theorem dX6_count_109 : decode cX6_count 109 = .ok (.invokevirtual 377, 3) := by decide +kernel
theorem dX6_count_112 : decode cX6_count 112 = .ok (.ireturn, 1) := by decide +kernel
theorem dX6_count_113 : decode cX6_count 113 = .ok (.aload_n 0, 1) := by decide +kernel
theorem dX6_count_114 : decode cX6_count 114 = .ok (.getfield 29, 3) := by decide +kernel
theorem dX6_count_117 : decode cX6_count 117 = .ok (.aload_n 0, 1) := by decide +kernel
theorem dX6_count_118 : decode cX6_count 118 = .ok (.getfield 19, 3) := by decide +kernel
theorem dX6_count_121 : decode cX6_count 121 = .ok (.invokevirtual 111, 3) := by decide +kernel
theorem dX6_count_124 : decode cX6_count 124 = .ok (.aload_n 0, 1) := by decide +kernel
theorem dX6_count_125 : decode cX6_count 125 = .ok (.getfield 29, 3) := by decide +kernel
theorem dX6_count_128 : decode cX6_count 128 = .ok (.getfield 114, 3) := by decide +kernel
theorem dX6_count_131 : decode cX6_count 131 = .ok (.ireturn, 1) := by decide +kernel
theorem dX6_count_132 : decode cX6_count 132 = .ok (.iconst (-1), 1) := by decide +kernel
theorem dX6_count_133 : decode cX6_count 133 = .ok (.ireturn, 1) := by decide +kernel
theorem dX6_keep_0 : decode cX6_keep 0 = .ok (.iload_n 1, 1) := by decide +kernel
theorem dX6_keep_1 : decode cX6_keep 1 = .ok (.invokestatic 201, 3) := by decide +kernel
theorem dX6_keep_4 : decode cX6_keep 4 = .ok (.ifCond .ne 5, 3) := by decide +kernel
theorem dX6_keep_7 : decode cX6_keep 7 = .ok (.iconst (-1), 1) := by decide +kernel
theorem dX6_keep_8 : decode cX6_keep 8 = .ok (.ireturn, 1) := by decide +kernel
theorem dX6_keep_9 : decode cX6_keep 9 = .ok (.aload_n 0, 1) := by decide +kernel
theorem dX6_keep_10 : decode cX6_keep 10 = .ok (.getfield 47, 3) := by decide +kernel
theorem dX6_keep_13 : decode cX6_keep 13 = .ok (.iload_n 1, 1) := by decide +kernel
theorem dX6_keep_14 : decode cX6_keep 14 = .ok (.aaload, 1) := by decide +kernel
theorem dX6_keep_15 : decode cX6_keep 15 = .ok (.astore_n 2, 1) := by decide +kernel
theorem dX6_keep_16 : decode cX6_keep 16 = .ok (.aload_n 2, 1) := by decide +kernel
theorem dX6_keep_17 : decode cX6_keep 17 = .ok (.ifnonnull 18, 3) := by decide +kernel
theorem dX6_keep_20 : decode cX6_keep 20 = .ok (.new 16, 3) := by decide +kernel
theorem dX6_keep_23 : decode cX6_keep 23 = .ok (.dup, 1) := by decide +kernel
theorem dX6_keep_24 : decode cX6_keep 24 = .ok (.invokespecial 18, 3) := by decide +kernel
theorem dX6_keep_27 : decode cX6_keep 27 = .ok (.astore_n 2, 1) := by decide +kernel
theorem dX6_keep_28 : decode cX6_keep 28 = .ok (.aload_n 0, 1) := by decide +kernel
theorem dX6_keep_29 : decode cX6_keep 29 = .ok (.getfield 47, 3) := by decide +kernel
theorem dX6_keep_32 : decode cX6_keep 32 = .ok (.iload_n 1, 1) := by decide +kernel
theorem dX6_keep_33 : decode cX6_keep 33 = .ok (.aload_n 2, 1) := by decide +kernel
theorem dX6_keep_34 : decode cX6_keep 34 = .ok (.aastore, 1) := by decide +kernel
theorem dX6_keep_35 : decode cX6_keep 35 = .ok (.aload_n 2, 1) := by decide +kernel
theorem dX6_keep_36 : decode cX6_keep 36 = .ok (.aload_n 0, 1) := by decide +kernel
theorem dX6_keep_37 : decode cX6_keep 37 = .ok (.getfield 19, 3) := by decide +kernel
theorem dX6_keep_40 : decode cX6_keep 40 = .ok (.invokevirtual 204, 3) := by decide +kernel
theorem dX6_keep_43 : decode cX6_keep 43 = .ok (.aload_n 0, 1) := by decide +kernel
theorem dX6_keep_44 : decode cX6_keep 44 = .ok (.getfield 19, 3) := by decide +kernel
theorem dX6_keep_47 : decode cX6_keep 47 = .ok (.invokevirtual 207, 3) := by decide +kernel
theorem dX6_keep_50 : decode cX6_keep 50 = .ok (.ireturn, 1) := by decide +kernel
theorem dX6_tell_0 : decode cX6_tell 0 = .ok (.aload_n 0, 1) := by decide +kernel
theorem dX6_tell_1 : decode cX6_tell 1 = .ok (.getfield 23, 3) := by decide +kernel
theorem dX6_tell_4 : decode cX6_tell 4 = .ok (.aload_n 0, 1) := by decide +kernel
theorem dX6_tell_5 : decode cX6_tell 5 = .ok (.getfield 10, 3) := by decide +kernel
theorem dX6_tell_8 : decode cX6_tell 8 = .ok (.invokestatic 59, 3) := by decide +kernel
theorem dX6_tell_11 : decode cX6_tell 11 = .ok (.aload_n 0, 1) := by decide +kernel
theorem dX6_tell_12 : decode cX6_tell 12 = .ok (.getfield 10, 3) := by decide +kernel
theorem dX6_tell_15 : decode cX6_tell 15 = .ok (.iconst 0, 1) := by decide +kernel
theorem dX6_tell_16 : decode cX6_tell 16 = .ok (.putfield 51, 3) := by decide +kernel
theorem dX6_tell_19 : decode cX6_tell 19 = .ok (.aload_n 0, 1) := by decide +kernel
theorem dX6_tell_20 : decode cX6_tell 20 = .ok (.getfield 10, 3) := by decide +kernel
theorem dX6_tell_23 : decode cX6_tell 23 = .ok (.invokevirtual 65, 3) := by decide +kernel
theorem dX6_tell_26 : decode cX6_tell 26 = .ok (.ifCond .ne 14, 3) := by decide +kernel
theorem dX6_tell_29 : decode cX6_tell 29 = .ok (.bipush (-2), 2) := by decide +kernel
theorem dX6_tell_31 : decode cX6_tell 31 = .ok (.aload_n 0, 1) := by decide +kernel
theorem dX6_tell_32 : decode cX6_tell 32 = .ok (.getfield 10, 3) := by decide +kernel
theorem dX6_tell_35 : decode cX6_tell 35 = .ok (.getfield 69, 3) := by decide +kernel
theorem dX6_tell_38 : decode cX6_tell 38 = .ok (.isub, 1) := by decide +kernel
theorem dX6_tell_39 : decode cX6_tell 39 = .ok (.ireturn, 1) := by decide +kernel
theorem dX7_byteAt_0 : decode cX7_byteAt 0 = .ok (.iload_n 1, 1) := by decide +kernel
theorem dX7_byteAt_1 : decode cX7_byteAt 1 = .ok (.aload_n 0, 1) := by decide +kernel
theorem dX7_byteAt_2 : decode cX7_byteAt 2 = .ok (.getfield 135, 3) := by decide +kernel
theorem dX7_byteAt_5 : decode cX7_byteAt 5 = .ok (.if_icmp .ge 16, 3) := by decide +kernel
theorem dX7_byteAt_21 : decode cX7_byteAt 21 = .ok (.iconst (-1), 1) := by decide +kernel
theorem dX7_byteAt_22 : decode cX7_byteAt 22 = .ok (.ireturn, 1) := by decide +kernel
theorem dX7_nextByte_0 : decode cX7_nextByte 0 = .ok (.aload_n 0, 1) := by decide +kernel
theorem dX7_nextByte_1 : decode cX7_nextByte 1 = .ok (.aload_n 0, 1) := by decide +kernel
theorem dX7_nextByte_2 : decode cX7_nextByte 2 = .ok (.getfield 254, 3) := by decide +kernel
theorem dX7_nextByte_5 : decode cX7_nextByte 5 = .ok (.invokevirtual 257, 3) := by decide +kernel
theorem dX7_nextByte_8 : decode cX7_nextByte 8 = .ok (.bipush 32, 2) := by decide +kernel
theorem dX7_nextByte_10 : decode cX7_nextByte 10 = .ok (.if_icmp .ne 16, 3) := by decide +kernel
theorem dX7_nextByte_26 : decode cX7_nextByte 26 = .ok (.aload_n 0, 1) := by decide +kernel
theorem dX7_nextByte_27 : decode cX7_nextByte 27 = .ok (.aload_n 0, 1) := by decide +kernel
theorem dX7_nextByte_28 : decode cX7_nextByte 28 = .ok (.getfield 254, 3) := by decide +kernel
theorem dX7_nextByte_31 : decode cX7_nextByte 31 = .ok (.invokevirtual 257, 3) := by decide +kernel
theorem dX7_nextByte_34 : decode cX7_nextByte 34 = .ok (.ireturn, 1) := by decide +kernel
theorem dX7_isWord_0 : decode cX7_isWord 0 = .ok (.aload_n 0, 1) := by decide +kernel
theorem dX7_isWord_1 : decode cX7_isWord 1 = .ok (.invokevirtual 263, 3) := by decide +kernel
theorem dX7_isWord_4 : decode cX7_isWord 4 = .ok (.iconst (-1), 1) := by decide +kernel
theorem dX7_isWord_5 : decode cX7_isWord 5 = .ok (.if_icmp .ne 10, 3) := by decide +kernel
theorem dX7_isWord_8 : decode cX7_isWord 8 = .ok (.aload_n 0, 1) := by decide +kernel
theorem dX7_isWord_9 : decode cX7_isWord 9 = .ok (.getfield 135, 3) := by decide +kernel
theorem dX7_isWord_12 : decode cX7_isWord 12 = .ok (.goto 7, 3) := by decide +kernel
theorem dX7_isWord_19 : decode cX7_isWord 19 = .ok (.istore_n 2, 1) := by decide +kernel
theorem dX7_isWord_20 : decode cX7_isWord 20 = .ok (.iconst 0, 1) := by decide +kernel
theorem dX7_isWord_21 : decode cX7_isWord 21 = .ok (.istore_n 3, 1) := by decide +kernel
theorem dX7_isWord_22 : decode cX7_isWord 22 = .ok (.iload_n 3, 1) := by decide +kernel
theorem dX7_isWord_23 : decode cX7_isWord 23 = .ok (.aload_n 1, 1) := by decide +kernel
theorem dX7_isWord_24 : decode cX7_isWord 24 = .ok (.invokevirtual 266, 3) := by decide +kernel
theorem dX7_isWord_27 : decode cX7_isWord 27 = .ok (.if_icmp .ge 24, 3) := by decide +kernel
theorem dX7_isWord_30 : decode cX7_isWord 30 = .ok (.aload_n 0, 1) := by decide +kernel
theorem dX7_isWord_31 : decode cX7_isWord 31 = .ok (.iload_n 2, 1) := by decide +kernel
theorem dX7_isWord_32 : decode cX7_isWord 32 = .ok (.iload_n 3, 1) := by decide +kernel
theorem dX7_isWord_33 : decode cX7_isWord 33 = .ok (.iadd, 1) := by decide +kernel
theorem dX7_isWord_34 : decode cX7_isWord 34 = .ok (.invokevirtual 257, 3) := by decide +kernel
theorem dX7_isWord_37 : decode cX7_isWord 37 = .ok (.aload_n 1, 1) := by decide +kernel
theorem dX7_isWord_38 : decode cX7_isWord 38 = .ok (.iload_n 3, 1) := by decide +kernel
theorem dX7_isWord_39 : decode cX7_isWord 39 = .ok (.invokevirtual 271, 3) := by decide +kernel
theorem dX7_isWord_42 : decode cX7_isWord 42 = .ok (.if_icmp .ne 9, 3) := by decide +kernel
theorem dX7_isWord_51 : decode cX7_isWord 51 = .ok (.iload_n 3, 1) := by decide +kernel
theorem dX7_isWord_52 : decode cX7_isWord 52 = .ok (.aload_n 1, 1) := by decide +kernel
theorem dX7_isWord_53 : decode cX7_isWord 53 = .ok (.invokevirtual 266, 3) := by decide +kernel
theorem dX7_isWord_56 : decode cX7_isWord 56 = .ok (.if_icmp .ne 27, 3) := by decide +kernel
theorem dX7_isWord_83 : decode cX7_isWord 83 = .ok (.iconst 0, 1) := by decide +kernel
theorem dX7_isWord_84 : decode cX7_isWord 84 = .ok (.ireturn, 1) := by decide +kernel
theorem dX7_takesWord_0 : decode cX7_takesWord 0 = .ok (.aload_n 0, 1) := by decide +kernel
theorem dX7_takesWord_1 : decode cX7_takesWord 1 = .ok (.aload_n 1, 1) := by decide +kernel
theorem dX7_takesWord_2 : decode cX7_takesWord 2 = .ok (.invokevirtual 279, 3) := by decide +kernel
theorem dX7_takesWord_5 : decode cX7_takesWord 5 = .ok (.istore_n 2, 1) := by decide +kernel
theorem dX7_takesWord_6 : decode cX7_takesWord 6 = .ok (.iload_n 2, 1) := by decide +kernel
theorem dX7_takesWord_7 : decode cX7_takesWord 7 = .ok (.ifCond .eq 16, 3) := by decide +kernel
theorem dX7_takesWord_23 : decode cX7_takesWord 23 = .ok (.iload_n 2, 1) := by decide +kernel
theorem dX7_takesWord_24 : decode cX7_takesWord 24 = .ok (.ireturn, 1) := by decide +kernel
theorem dX7_fails_0 : decode cX7_fails 0 = .ok (.aload_n 0, 1) := by decide +kernel
theorem dX7_fails_1 : decode cX7_fails 1 = .ok (.bipush 8, 2) := by decide +kernel
theorem dX7_fails_3 : decode cX7_fails 3 = .ok (.iload_n 2, 1) := by decide +kernel
theorem dX7_fails_4 : decode cX7_fails 4 = .ok (.imul, 1) := by decide +kernel
theorem dX7_fails_5 : decode cX7_fails 5 = .ok (.iload_n 1, 1) := by decide +kernel
theorem dX7_fails_6 : decode cX7_fails 6 = .ok (.iadd, 1) := by decide +kernel
theorem dX7_fails_7 : decode cX7_fails 7 = .ok (.putfield 260, 3) := by decide +kernel
theorem dX7_fails_10 : decode cX7_fails 10 = .ok (.iconst 0, 1) := by decide +kernel
theorem dX7_fails_11 : decode cX7_fails 11 = .ok (.ireturn, 1) := by decide +kernel
theorem dX7_mustWord_0 : decode cX7_mustWord 0 = .ok (.aload_n 0, 1) := by decide +kernel
theorem dX7_mustWord_1 : decode cX7_mustWord 1 = .ok (.aload_n 1, 1) := by decide +kernel
theorem dX7_mustWord_2 : decode cX7_mustWord 2 = .ok (.invokevirtual 283, 3) := by decide +kernel
theorem dX7_mustWord_5 : decode cX7_mustWord 5 = .ok (.ifCond .ne 15, 3) := by decide +kernel
theorem dX7_mustWord_8 : decode cX7_mustWord 8 = .ok (.aload_n 0, 1) := by decide +kernel
theorem dX7_mustWord_9 : decode cX7_mustWord 9 = .ok (.iconst 1, 1) := by decide +kernel
theorem dX7_mustWord_10 : decode cX7_mustWord 10 = .ok (.aload_n 0, 1) := by decide +kernel
theorem dX7_mustWord_11 : decode cX7_mustWord 11 = .ok (.getfield 254, 3) := by decide +kernel
theorem dX7_mustWord_14 : decode cX7_mustWord 14 = .ok (.invokevirtual 286, 3) := by decide +kernel
theorem dX7_mustWord_17 : decode cX7_mustWord 17 = .ok (.ifCond .eq 7, 3) := by decide +kernel
theorem dX7_mustWord_24 : decode cX7_mustWord 24 = .ok (.iconst 0, 1) := by decide +kernel
theorem dX7_mustWord_25 : decode cX7_mustWord 25 = .ok (.ireturn, 1) := by decide +kernel
theorem dX7_readsBoard_0 : decode cX7_readsBoard 0 = .ok (.aload_n 0, 1) := by decide +kernel
theorem dX7_readsBoard_1 : decode cX7_readsBoard 1 = .ok (.iconst 0, 1) := by decide +kernel
theorem dX7_readsBoard_2 : decode cX7_readsBoard 2 = .ok (.putfield 254, 3) := by decide +kernel
theorem dX7_readsBoard_5 : decode cX7_readsBoard 5 = .ok (.aload_n 0, 1) := by decide +kernel
theorem dX7_readsBoard_6 : decode cX7_readsBoard 6 = .ok (.ldc_w 344, 3) := by decide +kernel
theorem dX7_readsBoard_9 : decode cX7_readsBoard 9 = .ok (.invokevirtual 346, 3) := by decide +kernel
theorem dX7_readsBoard_12 : decode cX7_readsBoard 12 = .ok (.ifCond .eq 13, 3) := by decide +kernel
theorem dX7_readsBoard_25 : decode cX7_readsBoard 25 = .ok (.iconst 0, 1) := by decide +kernel
theorem dX7_readsBoard_26 : decode cX7_readsBoard 26 = .ok (.ireturn, 1) := by decide +kernel
theorem dX7_putsAside_0 : decode cX7_putsAside 0 = .ok (.iconst 0, 1) := by decide +kernel
theorem dX7_putsAside_1 : decode cX7_putsAside 1 = .ok (.istore_n 1, 1) := by decide +kernel
theorem dX7_putsAside_2 : decode cX7_putsAside 2 = .ok (.iload_n 1, 1) := by decide +kernel
theorem dX7_putsAside_3 : decode cX7_putsAside 3 = .ok (.sipush 6896, 3) := by decide +kernel
theorem dX7_putsAside_6 : decode cX7_putsAside 6 = .ok (.if_icmp .ge 21, 3) := by decide +kernel
theorem dX7_putsAside_9 : decode cX7_putsAside 9 = .ok (.aload_n 0, 1) := by decide +kernel
theorem dX7_putsAside_10 : decode cX7_putsAside 10 = .ok (.getfield 24, 3) := by decide +kernel
theorem dX7_putsAside_13 : decode cX7_putsAside 13 = .ok (.iload_n 1, 1) := by decide +kernel
theorem dX7_putsAside_14 : decode cX7_putsAside 14 = .ok (.aload_n 0, 1) := by decide +kernel
theorem dX7_putsAside_15 : decode cX7_putsAside 15 = .ok (.getfield 7, 3) := by decide +kernel
theorem dX7_putsAside_18 : decode cX7_putsAside 18 = .ok (.iload_n 1, 1) := by decide +kernel
theorem dX7_putsAside_19 : decode cX7_putsAside 19 = .ok (.laload, 1) := by decide +kernel
theorem dX7_putsAside_20 : decode cX7_putsAside 20 = .ok (.lastore, 1) := by decide +kernel
theorem dX7_putsAside_21 : decode cX7_putsAside 21 = .ok (.iinc 1 1, 3) := by decide +kernel
theorem dX7_putsAside_24 : decode cX7_putsAside 24 = .ok (.goto (-22), 3) := by decide +kernel
theorem dX7_putsAside_27 : decode cX7_putsAside 27 = .ok (.return_, 1) := by decide +kernel
theorem dX7_takesBack_0 : decode cX7_takesBack 0 = .ok (.iconst 0, 1) := by decide +kernel
theorem dX7_takesBack_1 : decode cX7_takesBack 1 = .ok (.istore_n 1, 1) := by decide +kernel
theorem dX7_takesBack_2 : decode cX7_takesBack 2 = .ok (.iload_n 1, 1) := by decide +kernel
theorem dX7_takesBack_3 : decode cX7_takesBack 3 = .ok (.sipush 6896, 3) := by decide +kernel
theorem dX7_takesBack_6 : decode cX7_takesBack 6 = .ok (.if_icmp .ge 21, 3) := by decide +kernel
theorem dX7_takesBack_9 : decode cX7_takesBack 9 = .ok (.aload_n 0, 1) := by decide +kernel
theorem dX7_takesBack_10 : decode cX7_takesBack 10 = .ok (.getfield 7, 3) := by decide +kernel
theorem dX7_takesBack_13 : decode cX7_takesBack 13 = .ok (.iload_n 1, 1) := by decide +kernel
theorem dX7_takesBack_14 : decode cX7_takesBack 14 = .ok (.aload_n 0, 1) := by decide +kernel
theorem dX7_takesBack_15 : decode cX7_takesBack 15 = .ok (.getfield 24, 3) := by decide +kernel
theorem dX7_takesBack_18 : decode cX7_takesBack 18 = .ok (.iload_n 1, 1) := by decide +kernel
theorem dX7_takesBack_19 : decode cX7_takesBack 19 = .ok (.laload, 1) := by decide +kernel
theorem dX7_takesBack_20 : decode cX7_takesBack 20 = .ok (.lastore, 1) := by decide +kernel
theorem dX7_takesBack_21 : decode cX7_takesBack 21 = .ok (.iinc 1 1, 3) := by decide +kernel
theorem dX7_takesBack_24 : decode cX7_takesBack 24 = .ok (.goto (-22), 3) := by decide +kernel
theorem dX7_takesBack_27 : decode cX7_takesBack 27 = .ok (.return_, 1) := by decide +kernel
theorem dX7_tick_0 : decode cX7_tick 0 = .ok (.aload_n 0, 1) := by decide +kernel
theorem dX7_tick_1 : decode cX7_tick 1 = .ok (.invokevirtual 147, 3) := by decide +kernel
theorem dX7_tick_4 : decode cX7_tick 4 = .ok (.ifCond .eq 15, 3) := by decide +kernel
theorem dX7_tick_19 : decode cX7_tick 19 = .ok (.iconst (-1), 1) := by decide +kernel
theorem dX7_tick_20 : decode cX7_tick 20 = .ok (.ireturn, 1) := by decide +kernel
theorem dX7_settle_0 : decode cX7_settle 0 = .ok (.aload_n 0, 1) := by decide +kernel
theorem dX7_settle_1 : decode cX7_settle 1 = .ok (.invokevirtual 147, 3) := by decide +kernel
theorem dX7_settle_4 : decode cX7_settle 4 = .ok (.ifCond .ne 5, 3) := by decide +kernel
theorem dX7_settle_7 : decode cX7_settle 7 = .ok (.iconst (-1), 1) := by decide +kernel
theorem dX7_settle_8 : decode cX7_settle 8 = .ok (.ireturn, 1) := by decide +kernel
theorem dX7_lose_0 : decode cX7_lose 0 = .ok (.aload_n 0, 1) := by decide +kernel
theorem dX7_lose_1 : decode cX7_lose 1 = .ok (.iload_n 1, 1) := by decide +kernel
theorem dX7_lose_2 : decode cX7_lose 2 = .ok (.invokevirtual 162, 3) := by decide +kernel
theorem dX7_lose_5 : decode cX7_lose 5 = .ok (.ifCond .eq 15, 3) := by decide +kernel
theorem dX7_lose_20 : decode cX7_lose 20 = .ok (.iconst (-1), 1) := by decide +kernel
theorem dX7_lose_21 : decode cX7_lose 21 = .ok (.ireturn, 1) := by decide +kernel
theorem dX7_wear_0 : decode cX7_wear 0 = .ok (.aload_n 0, 1) := by decide +kernel
theorem dX7_wear_1 : decode cX7_wear 1 = .ok (.iload_n 1, 1) := by decide +kernel
theorem dX7_wear_2 : decode cX7_wear 2 = .ok (.iload_n 2, 1) := by decide +kernel
theorem dX7_wear_3 : decode cX7_wear 3 = .ok (.invokevirtual 167, 3) := by decide +kernel
theorem dX7_wear_6 : decode cX7_wear 6 = .ok (.ifCond .ne 5, 3) := by decide +kernel
theorem dX7_wear_9 : decode cX7_wear 9 = .ok (.iconst (-1), 1) := by decide +kernel
theorem dX7_wear_10 : decode cX7_wear 10 = .ok (.ireturn, 1) := by decide +kernel
theorem dX7_mend_0 : decode cX7_mend 0 = .ok (.aload_n 0, 1) := by decide +kernel
theorem dX7_mend_1 : decode cX7_mend 1 = .ok (.iload_n 1, 1) := by decide +kernel
theorem dX7_mend_2 : decode cX7_mend 2 = .ok (.iload_n 2, 1) := by decide +kernel
theorem dX7_mend_3 : decode cX7_mend 3 = .ok (.invokevirtual 167, 3) := by decide +kernel
theorem dX7_mend_6 : decode cX7_mend 6 = .ok (.ifCond .ne 5, 3) := by decide +kernel
theorem dX7_mend_9 : decode cX7_mend 9 = .ok (.iconst (-1), 1) := by decide +kernel
theorem dX7_mend_10 : decode cX7_mend 10 = .ok (.ireturn, 1) := by decide +kernel
theorem dX7_limit_0 : decode cX7_limit 0 = .ok (.aload_n 0, 1) := by decide +kernel
theorem dX7_limit_1 : decode cX7_limit 1 = .ok (.invokevirtual 147, 3) := by decide +kernel
theorem dX7_limit_4 : decode cX7_limit 4 = .ok (.ifCond .eq 15, 3) := by decide +kernel
theorem dX7_limit_19 : decode cX7_limit 19 = .ok (.iconst (-1), 1) := by decide +kernel
theorem dX7_limit_20 : decode cX7_limit 20 = .ok (.ireturn, 1) := by decide +kernel
theorem dX7_exchange_0 : decode cX7_exchange 0 = .ok (.aload_n 0, 1) := by decide +kernel
theorem dX7_exchange_1 : decode cX7_exchange 1 = .ok (.iload_n 1, 1) := by decide +kernel
theorem dX7_exchange_2 : decode cX7_exchange 2 = .ok (.invokevirtual 180, 3) := by decide +kernel
theorem dX7_exchange_5 : decode cX7_exchange 5 = .ok (.ifCond .eq 42, 3) := by decide +kernel
theorem dX7_exchange_47 : decode cX7_exchange 47 = .ok (.iconst (-1), 1) := by decide +kernel
theorem dX7_exchange_48 : decode cX7_exchange 48 = .ok (.ireturn, 1) := by decide +kernel
theorem dX7_cell_0 : decode cX7_cell 0 = .ok (.aload_n 0, 1) := by decide +kernel
theorem dX7_cell_1 : decode cX7_cell 1 = .ok (.iload_n 1, 1) := by decide +kernel
theorem dX7_cell_2 : decode cX7_cell 2 = .ok (.invokevirtual 162, 3) := by decide +kernel
theorem dX7_cell_5 : decode cX7_cell 5 = .ok (.ifCond .ne 5, 3) := by decide +kernel
theorem dX7_cell_8 : decode cX7_cell 8 = .ok (.iconst (-1), 1) := by decide +kernel
theorem dX7_cell_9 : decode cX7_cell 9 = .ok (.ireturn, 1) := by decide +kernel
theorem dX7_drum_0 : decode cX7_drum 0 = .ok (.aload_n 0, 1) := by decide +kernel
theorem dX7_drum_1 : decode cX7_drum 1 = .ok (.iload_n 1, 1) := by decide +kernel
theorem dX7_drum_2 : decode cX7_drum 2 = .ok (.invokevirtual 180, 3) := by decide +kernel
theorem dX7_drum_5 : decode cX7_drum 5 = .ok (.ifCond .ne 5, 3) := by decide +kernel
theorem dX7_drum_8 : decode cX7_drum 8 = .ok (.iconst (-1), 1) := by decide +kernel
theorem dX7_drum_9 : decode cX7_drum 9 = .ok (.ireturn, 1) := by decide +kernel
theorem dX7_sign_0 : decode cX7_sign 0 = .ok (.aload_n 0, 1) := by decide +kernel
theorem dX7_sign_1 : decode cX7_sign 1 = .ok (.iload_n 1, 1) := by decide +kernel
theorem dX7_sign_2 : decode cX7_sign 2 = .ok (.invokevirtual 180, 3) := by decide +kernel
theorem dX7_sign_5 : decode cX7_sign 5 = .ok (.ifCond .eq 29, 3) := by decide +kernel
theorem dX7_sign_34 : decode cX7_sign 34 = .ok (.iconst (-1), 1) := by decide +kernel
theorem dX7_sign_35 : decode cX7_sign 35 = .ok (.ireturn, 1) := by decide +kernel
theorem dX7_at_0 : decode cX7_at 0 = .ok (.aload_n 0, 1) := by decide +kernel
theorem dX7_at_1 : decode cX7_at 1 = .ok (.iload_n 1, 1) := by decide +kernel
theorem dX7_at_2 : decode cX7_at 2 = .ok (.invokevirtual 138, 3) := by decide +kernel
theorem dX7_at_5 : decode cX7_at 5 = .ok (.ifCond .eq 47, 3) := by decide +kernel
theorem dX7_at_52 : decode cX7_at 52 = .ok (.iconst (-1), 1) := by decide +kernel
theorem dX7_at_53 : decode cX7_at 53 = .ok (.ireturn, 1) := by decide +kernel
theorem dX7_left_0 : decode cX7_left 0 = .ok (.aload_n 0, 1) := by decide +kernel
theorem dX7_left_1 : decode cX7_left 1 = .ok (.invokevirtual 147, 3) := by decide +kernel
theorem dX7_left_4 : decode cX7_left 4 = .ok (.ifCond .eq 15, 3) := by decide +kernel
theorem dX7_left_19 : decode cX7_left 19 = .ok (.iconst (-1), 1) := by decide +kernel
theorem dX7_left_20 : decode cX7_left 20 = .ok (.ireturn, 1) := by decide +kernel
theorem dX7_when_0 : decode cX7_when 0 = .ok (.aload_n 0, 1) := by decide +kernel
theorem dX7_when_1 : decode cX7_when 1 = .ok (.invokevirtual 147, 3) := by decide +kernel
theorem dX7_when_4 : decode cX7_when 4 = .ok (.ifCond .eq 15, 3) := by decide +kernel
theorem dX7_when_19 : decode cX7_when 19 = .ok (.iconst (-1), 1) := by decide +kernel
theorem dX7_when_20 : decode cX7_when 20 = .ok (.ireturn, 1) := by decide +kernel
theorem dX7_loudest_0 : decode cX7_loudest 0 = .ok (.aload_n 0, 1) := by decide +kernel
theorem dX7_loudest_1 : decode cX7_loudest 1 = .ok (.invokevirtual 147, 3) := by decide +kernel
theorem dX7_loudest_4 : decode cX7_loudest 4 = .ok (.ifCond .eq 13, 3) := by decide +kernel
theorem dX7_loudest_17 : decode cX7_loudest 17 = .ok (.iconst (-1), 1) := by decide +kernel
theorem dX7_loudest_18 : decode cX7_loudest 18 = .ok (.ireturn, 1) := by decide +kernel
theorem dX7_total_0 : decode cX7_total 0 = .ok (.aload_n 0, 1) := by decide +kernel
theorem dX7_total_1 : decode cX7_total 1 = .ok (.invokevirtual 147, 3) := by decide +kernel
theorem dX7_total_4 : decode cX7_total 4 = .ok (.ifCond .eq 27, 3) := by decide +kernel
theorem dX7_total_31 : decode cX7_total 31 = .ok (.iconst (-1), 1) := by decide +kernel
theorem dX7_total_32 : decode cX7_total 32 = .ok (.ireturn, 1) := by decide +kernel
theorem dX7_rests_0 : decode cX7_rests 0 = .ok (.aload_n 0, 1) := by decide +kernel
theorem dX7_rests_1 : decode cX7_rests 1 = .ok (.iload_n 1, 1) := by decide +kernel
theorem dX7_rests_2 : decode cX7_rests 2 = .ok (.invokevirtual 162, 3) := by decide +kernel
theorem dX7_rests_5 : decode cX7_rests 5 = .ok (.ifCond .ne 5, 3) := by decide +kernel
theorem dX7_rests_8 : decode cX7_rests 8 = .ok (.iconst (-1), 1) := by decide +kernel
theorem dX7_rests_9 : decode cX7_rests 9 = .ok (.ireturn, 1) := by decide +kernel
theorem dX7_cost_0 : decode cX7_cost 0 = .ok (.aload_n 0, 1) := by decide +kernel
theorem dX7_cost_1 : decode cX7_cost 1 = .ok (.iload_n 1, 1) := by decide +kernel
theorem dX7_cost_2 : decode cX7_cost 2 = .ok (.invokevirtual 138, 3) := by decide +kernel
theorem dX7_cost_5 : decode cX7_cost 5 = .ok (.ifCond .ne 5, 3) := by decide +kernel
theorem dX7_cost_8 : decode cX7_cost 8 = .ok (.iconst (-1), 1) := by decide +kernel
theorem dX7_cost_9 : decode cX7_cost 9 = .ok (.ireturn, 1) := by decide +kernel
theorem dX7_best_0 : decode cX7_best 0 = .ok (.aload_n 0, 1) := by decide +kernel
theorem dX7_best_1 : decode cX7_best 1 = .ok (.iload_n 1, 1) := by decide +kernel
theorem dX7_best_2 : decode cX7_best 2 = .ok (.invokevirtual 138, 3) := by decide +kernel
theorem dX7_best_5 : decode cX7_best 5 = .ok (.ifCond .eq 15, 3) := by decide +kernel
theorem dX7_best_20 : decode cX7_best 20 = .ok (.iconst (-1), 1) := by decide +kernel
theorem dX7_best_21 : decode cX7_best 21 = .ok (.ireturn, 1) := by decide +kernel
theorem dX7_place_0 : decode cX7_place 0 = .ok (.aload_n 0, 1) := by decide +kernel
theorem dX7_place_1 : decode cX7_place 1 = .ok (.iload_n 1, 1) := by decide +kernel
theorem dX7_place_2 : decode cX7_place 2 = .ok (.invokevirtual 138, 3) := by decide +kernel
theorem dX7_place_5 : decode cX7_place 5 = .ok (.ifCond .eq 13, 3) := by decide +kernel
theorem dX7_place_18 : decode cX7_place 18 = .ok (.iconst (-1), 1) := by decide +kernel
theorem dX7_place_19 : decode cX7_place 19 = .ok (.ireturn, 1) := by decide +kernel
theorem dX7_log_0 : decode cX7_log 0 = .ok (.aload_n 0, 1) := by decide +kernel
theorem dX7_log_1 : decode cX7_log 1 = .ok (.iload_n 1, 1) := by decide +kernel
theorem dX7_log_2 : decode cX7_log 2 = .ok (.invokevirtual 180, 3) := by decide +kernel
theorem dX7_log_5 : decode cX7_log 5 = .ok (.ifCond .eq 15, 3) := by decide +kernel
theorem dX7_log_20 : decode cX7_log 20 = .ok (.iconst (-1), 1) := by decide +kernel
theorem dX7_log_21 : decode cX7_log 21 = .ok (.ireturn, 1) := by decide +kernel
theorem dX7_usual_0 : decode cX7_usual 0 = .ok (.aload_n 0, 1) := by decide +kernel
theorem dX7_usual_1 : decode cX7_usual 1 = .ok (.iload_n 1, 1) := by decide +kernel
theorem dX7_usual_2 : decode cX7_usual 2 = .ok (.invokevirtual 180, 3) := by decide +kernel
theorem dX7_usual_5 : decode cX7_usual 5 = .ok (.ifCond .eq 13, 3) := by decide +kernel
theorem dX7_usual_18 : decode cX7_usual 18 = .ok (.iconst (-1), 1) := by decide +kernel
theorem dX7_usual_19 : decode cX7_usual 19 = .ok (.ireturn, 1) := by decide +kernel
theorem dX7_better_0 : decode cX7_better 0 = .ok (.aload_n 0, 1) := by decide +kernel
theorem dX7_better_1 : decode cX7_better 1 = .ok (.iload_n 1, 1) := by decide +kernel
theorem dX7_better_2 : decode cX7_better 2 = .ok (.invokevirtual 180, 3) := by decide +kernel
theorem dX7_better_5 : decode cX7_better 5 = .ok (.ifCond .eq 15, 3) := by decide +kernel
theorem dX7_better_20 : decode cX7_better 20 = .ok (.iconst (-1), 1) := by decide +kernel
theorem dX7_better_21 : decode cX7_better 21 = .ok (.ireturn, 1) := by decide +kernel
theorem dX7_farthest_0 : decode cX7_farthest 0 = .ok (.aload_n 0, 1) := by decide +kernel
theorem dX7_farthest_1 : decode cX7_farthest 1 = .ok (.iload_n 1, 1) := by decide +kernel
theorem dX7_farthest_2 : decode cX7_farthest 2 = .ok (.invokevirtual 162, 3) := by decide +kernel
theorem dX7_farthest_5 : decode cX7_farthest 5 = .ok (.ifCond .eq 13, 3) := by decide +kernel
theorem dX7_farthest_18 : decode cX7_farthest 18 = .ok (.iconst (-1), 1) := by decide +kernel
theorem dX7_farthest_19 : decode cX7_farthest 19 = .ok (.ireturn, 1) := by decide +kernel
theorem dX7_lacks_0 : decode cX7_lacks 0 = .ok (.aload_n 0, 1) := by decide +kernel
theorem dX7_lacks_1 : decode cX7_lacks 1 = .ok (.iload_n 1, 1) := by decide +kernel
theorem dX7_lacks_2 : decode cX7_lacks 2 = .ok (.invokevirtual 162, 3) := by decide +kernel
theorem dX7_lacks_5 : decode cX7_lacks 5 = .ok (.ifCond .eq 13, 3) := by decide +kernel
theorem dX7_lacks_18 : decode cX7_lacks 18 = .ok (.iconst (-1), 1) := by decide +kernel
theorem dX7_lacks_19 : decode cX7_lacks 19 = .ok (.ireturn, 1) := by decide +kernel
theorem dX7_unlike_0 : decode cX7_unlike 0 = .ok (.aload_n 0, 1) := by decide +kernel
theorem dX7_unlike_1 : decode cX7_unlike 1 = .ok (.iload_n 1, 1) := by decide +kernel
theorem dX7_unlike_2 : decode cX7_unlike 2 = .ok (.invokevirtual 138, 3) := by decide +kernel
theorem dX7_unlike_5 : decode cX7_unlike 5 = .ok (.ifCond .eq 16, 3) := by decide +kernel
theorem dX7_unlike_21 : decode cX7_unlike 21 = .ok (.iconst (-1), 1) := by decide +kernel
theorem dX7_unlike_22 : decode cX7_unlike 22 = .ok (.ireturn, 1) := by decide +kernel
theorem dX7_worn_0 : decode cX7_worn 0 = .ok (.aload_n 0, 1) := by decide +kernel
theorem dX7_worn_1 : decode cX7_worn 1 = .ok (.iload_n 1, 1) := by decide +kernel
theorem dX7_worn_2 : decode cX7_worn 2 = .ok (.invokevirtual 162, 3) := by decide +kernel
theorem dX7_worn_5 : decode cX7_worn 5 = .ok (.ifCond .eq 11, 3) := by decide +kernel
theorem dX7_worn_16 : decode cX7_worn 16 = .ok (.ldc2_w 178, 3) := by decide +kernel
theorem dX7_worn_19 : decode cX7_worn 19 = .ok (.lreturn, 1) := by decide +kernel
theorem dX7_which_0 : decode cX7_which 0 = .ok (.aload_n 0, 1) := by decide +kernel
theorem dX7_which_1 : decode cX7_which 1 = .ok (.invokevirtual 147, 3) := by decide +kernel
theorem dX7_which_4 : decode cX7_which 4 = .ok (.ifCond .eq 15, 3) := by decide +kernel
theorem dX7_which_19 : decode cX7_which 19 = .ok (.ldc2_w 178, 3) := by decide +kernel
theorem dX7_which_22 : decode cX7_which 22 = .ok (.lreturn, 1) := by decide +kernel
theorem dX7_often_0 : decode cX7_often 0 = .ok (.aload_n 0, 1) := by decide +kernel
theorem dX7_often_1 : decode cX7_often 1 = .ok (.iload_n 1, 1) := by decide +kernel
theorem dX7_often_2 : decode cX7_often 2 = .ok (.invokevirtual 180, 3) := by decide +kernel
theorem dX7_often_5 : decode cX7_often 5 = .ok (.ifCond .eq 20, 3) := by decide +kernel
theorem dX7_often_25 : decode cX7_often 25 = .ok (.iconst (-1), 1) := by decide +kernel
theorem dX7_often_26 : decode cX7_often 26 = .ok (.ireturn, 1) := by decide +kernel
theorem dX7_undo_0 : decode cX7_undo 0 = .ok (.aload_n 0, 1) := by decide +kernel
theorem dX7_undo_1 : decode cX7_undo 1 = .ok (.getfield 124, 3) := by decide +kernel
theorem dX7_undo_4 : decode cX7_undo 4 = .ok (.ifCond .ne 5, 3) := by decide +kernel
theorem dX7_undo_7 : decode cX7_undo 7 = .ok (.iconst (-1), 1) := by decide +kernel
theorem dX7_undo_8 : decode cX7_undo 8 = .ok (.ireturn, 1) := by decide +kernel
theorem dX7_digest_0 : decode cX7_digest 0 = .ok (.ldc2_w 219, 3) := by decide +kernel
theorem dX7_digest_3 : decode cX7_digest 3 = .ok (.lstore_n 1, 1) := by decide +kernel
theorem dX7_digest_4 : decode cX7_digest 4 = .ok (.iconst 0, 1) := by decide +kernel
theorem dX7_digest_5 : decode cX7_digest 5 = .ok (.istore_n 3, 1) := by decide +kernel
theorem dX7_digest_6 : decode cX7_digest 6 = .ok (.iload_n 3, 1) := by decide +kernel
theorem dX7_digest_7 : decode cX7_digest 7 = .ok (.aload_n 0, 1) := by decide +kernel
theorem dX7_digest_8 : decode cX7_digest 8 = .ok (.invokevirtual 53, 3) := by decide +kernel
theorem dX7_digest_11 : decode cX7_digest 11 = .ok (.if_icmp .ge 51, 3) := by decide +kernel
theorem dX7_digest_62 : decode cX7_digest 62 = .ok (.lload_n 1, 1) := by decide +kernel
theorem dX7_digest_63 : decode cX7_digest 63 = .ok (.lreturn, 1) := by decide +kernel
theorem dX7_end_0 : decode cX7_end 0 = .ok (.iload_n 1, 1) := by decide +kernel
theorem dX7_end_1 : decode cX7_end 1 = .ok (.i2l, 1) := by decide +kernel
theorem dX7_end_2 : decode cX7_end 2 = .ok (.lconst 0, 1) := by decide +kernel
theorem dX7_end_3 : decode cX7_end 3 = .ok (.aload_n 0, 1) := by decide +kernel
theorem dX7_end_4 : decode cX7_end 4 = .ok (.getfield 135, 3) := by decide +kernel
theorem dX7_end_7 : decode cX7_end 7 = .ok (.i2l, 1) := by decide +kernel
theorem dX7_end_8 : decode cX7_end 8 = .ok (.invokestatic 39, 3) := by decide +kernel
theorem dX7_end_11 : decode cX7_end 11 = .ok (.ifCond .ne 5, 3) := by decide +kernel
theorem dX7_end_14 : decode cX7_end 14 = .ok (.iconst (-1), 1) := by decide +kernel
theorem dX7_end_15 : decode cX7_end 15 = .ok (.ireturn, 1) := by decide +kernel
theorem dX7_end_16 : decode cX7_end 16 = .ok (.aload_n 0, 1) := by decide +kernel
theorem dX7_end_17 : decode cX7_end 17 = .ok (.iload_n 1, 1) := by decide +kernel
theorem dX7_end_18 : decode cX7_end 18 = .ok (.putfield 135, 3) := by decide +kernel
theorem dX7_end_21 : decode cX7_end 21 = .ok (.iload_n 1, 1) := by decide +kernel
theorem dX7_end_22 : decode cX7_end 22 = .ok (.ireturn, 1) := by decide +kernel
theorem dX7_row_0 : decode cX7_row 0 = .ok (.aload_n 0, 1) := by decide +kernel
theorem dX7_row_1 : decode cX7_row 1 = .ok (.getfield 135, 3) := by decide +kernel
theorem dX7_row_4 : decode cX7_row 4 = .ok (.istore_n 2, 1) := by decide +kernel
theorem dX7_row_5 : decode cX7_row 5 = .ok (.aload_n 0, 1) := by decide +kernel
theorem dX7_row_6 : decode cX7_row 6 = .ok (.iconst 0, 1) := by decide +kernel
theorem dX7_row_7 : decode cX7_row 7 = .ok (.putfield 135, 3) := by decide +kernel
theorem dX7_row_10 : decode cX7_row 10 = .ok (.aload_n 0, 1) := by decide +kernel
theorem dX7_row_11 : decode cX7_row 11 = .ok (.iload_n 1, 1) := by decide +kernel
theorem dX7_row_12 : decode cX7_row 12 = .ok (.invokevirtual 138, 3) := by decide +kernel
theorem dX7_row_15 : decode cX7_row 15 = .ok (.ifCond .ne 5, 3) := by decide +kernel
theorem dX7_row_18 : decode cX7_row 18 = .ok (.iconst (-1), 1) := by decide +kernel
theorem dX7_row_19 : decode cX7_row 19 = .ok (.ireturn, 1) := by decide +kernel
theorem dX7_scroll_0 : decode cX7_scroll 0 = .ok (.aload_n 0, 1) := by decide +kernel
theorem dX7_scroll_1 : decode cX7_scroll 1 = .ok (.getfield 135, 3) := by decide +kernel
theorem dX7_scroll_4 : decode cX7_scroll 4 = .ok (.istore_n 1, 1) := by decide +kernel
theorem dX7_scroll_5 : decode cX7_scroll 5 = .ok (.aload_n 0, 1) := by decide +kernel
theorem dX7_scroll_6 : decode cX7_scroll 6 = .ok (.iconst 0, 1) := by decide +kernel
theorem dX7_scroll_7 : decode cX7_scroll 7 = .ok (.putfield 135, 3) := by decide +kernel
theorem dX7_scroll_10 : decode cX7_scroll 10 = .ok (.aload_n 0, 1) := by decide +kernel
theorem dX7_scroll_11 : decode cX7_scroll 11 = .ok (.invokevirtual 147, 3) := by decide +kernel
theorem dX7_scroll_14 : decode cX7_scroll 14 = .ok (.ifCond .ne 5, 3) := by decide +kernel
theorem dX7_scroll_17 : decode cX7_scroll 17 = .ok (.iconst (-1), 1) := by decide +kernel
theorem dX7_scroll_18 : decode cX7_scroll 18 = .ok (.ireturn, 1) := by decide +kernel
theorem dX7_run_0 : decode cX7_run 0 = .ok (.aload_n 0, 1) := by decide +kernel
theorem dX7_run_1 : decode cX7_run 1 = .ok (.invokevirtual 147, 3) := by decide +kernel
theorem dX7_run_4 : decode cX7_run 4 = .ok (.ifCond .eq 15, 3) := by decide +kernel
theorem dX7_run_19 : decode cX7_run 19 = .ok (.iconst 0, 1) := by decide +kernel
theorem dX7_run_20 : decode cX7_run 20 = .ok (.istore_n 1, 1) := by decide +kernel
theorem dX7_run_21 : decode cX7_run 21 = .ok (.iload_n 1, 1) := by decide +kernel
theorem dX7_run_22 : decode cX7_run 22 = .ok (.ifCond .eq 13, 3) := by decide +kernel
theorem dX7_run_35 : decode cX7_run 35 = .ok (.aload_n 0, 1) := by decide +kernel
theorem dX7_run_36 : decode cX7_run 36 = .ok (.iconst 0, 1) := by decide +kernel
theorem dX7_run_37 : decode cX7_run 37 = .ok (.putfield 135, 3) := by decide +kernel
theorem dX7_run_40 : decode cX7_run 40 = .ok (.aload_n 0, 1) := by decide +kernel
theorem dX7_run_41 : decode cX7_run 41 = .ok (.invokevirtual 147, 3) := by decide +kernel
theorem dX7_run_44 : decode cX7_run 44 = .ok (.ifCond .ne 7, 3) := by decide +kernel
theorem dX7_run_47 : decode cX7_run 47 = .ok (.iconst (-1), 1) := by decide +kernel
theorem dX7_run_48 : decode cX7_run 48 = .ok (.goto 21, 3) := by decide +kernel
theorem dX7_run_69 : decode cX7_run 69 = .ok (.ireturn, 1) := by decide +kernel
theorem dX7_back_0 : decode cX7_back 0 = .ok (.iload_n 1, 1) := by decide +kernel
theorem dX7_back_1 : decode cX7_back 1 = .ok (.i2l, 1) := by decide +kernel
theorem dX7_back_2 : decode cX7_back 2 = .ok (.lconst 0, 1) := by decide +kernel
theorem dX7_back_3 : decode cX7_back 3 = .ok (.lconst 1, 1) := by decide +kernel
theorem dX7_back_4 : decode cX7_back 4 = .ok (.invokestatic 39, 3) := by decide +kernel
theorem dX7_back_7 : decode cX7_back 7 = .ok (.ifCond .ne 5, 3) := by decide +kernel
theorem dX7_back_10 : decode cX7_back 10 = .ok (.iconst (-1), 1) := by decide +kernel
theorem dX7_back_11 : decode cX7_back 11 = .ok (.ireturn, 1) := by decide +kernel
theorem dX7_back_12 : decode cX7_back 12 = .ok (.aload_n 0, 1) := by decide +kernel
theorem dX7_back_13 : decode cX7_back 13 = .ok (.getfield 20, 3) := by decide +kernel
theorem dX7_back_16 : decode cX7_back 16 = .ok (.iload_n 1, 1) := by decide +kernel
theorem dX7_back_17 : decode cX7_back 17 = .ok (.baload, 1) := by decide +kernel
theorem dX7_back_18 : decode cX7_back 18 = .ok (.ifCond .ne 6, 3) := by decide +kernel
theorem dX7_back_21 : decode cX7_back 21 = .ok (.bipush (-2), 2) := by decide +kernel
theorem dX7_back_23 : decode cX7_back 23 = .ok (.ireturn, 1) := by decide +kernel
theorem dX7_letter_0 : decode cX7_letter 0 = .ok (.iload_n 1, 1) := by decide +kernel
theorem dX7_letter_1 : decode cX7_letter 1 = .ok (.i2l, 1) := by decide +kernel
theorem dX7_letter_2 : decode cX7_letter 2 = .ok (.lconst 0, 1) := by decide +kernel
theorem dX7_letter_3 : decode cX7_letter 3 = .ok (.lconst 1, 1) := by decide +kernel
theorem dX7_letter_4 : decode cX7_letter 4 = .ok (.invokestatic 39, 3) := by decide +kernel
theorem dX7_letter_7 : decode cX7_letter 7 = .ok (.ifCond .eq 8, 3) := by decide +kernel
theorem dX7_letter_10 : decode cX7_letter 10 = .ok (.iload_n 2, 1) := by decide +kernel
theorem dX7_letter_11 : decode cX7_letter 11 = .ok (.iconst (-1), 1) := by decide +kernel
theorem dX7_letter_12 : decode cX7_letter 12 = .ok (.if_icmp .ge 5, 3) := by decide +kernel
theorem dX7_letter_15 : decode cX7_letter 15 = .ok (.iconst (-1), 1) := by decide +kernel
theorem dX7_letter_16 : decode cX7_letter 16 = .ok (.ireturn, 1) := by decide +kernel
theorem dX7_letter_17 : decode cX7_letter 17 = .ok (.aload_n 0, 1) := by decide +kernel
theorem dX7_letter_18 : decode cX7_letter 18 = .ok (.invokevirtual 53, 3) := by decide +kernel
theorem dX7_letter_21 : decode cX7_letter 21 = .ok (.ifCond .ne 7, 3) := by decide +kernel
theorem dX7_letter_24 : decode cX7_letter 24 = .ok (.iconst 0, 1) := by decide +kernel
theorem dX7_letter_25 : decode cX7_letter 25 = .ok (.goto 16, 3) := by decide +kernel
theorem dX7_letter_41 : decode cX7_letter 41 = .ok (.istore_n 3, 1) := by decide +kernel
theorem dX7_letter_42 : decode cX7_letter 42 = .ok (.iload_n 2, 1) := by decide +kernel
theorem dX7_letter_43 : decode cX7_letter 43 = .ok (.iconst (-1), 1) := by decide +kernel
theorem dX7_letter_44 : decode cX7_letter 44 = .ok (.if_icmp .ne 5, 3) := by decide +kernel
theorem dX7_letter_47 : decode cX7_letter 47 = .ok (.iload_n 3, 1) := by decide +kernel
theorem dX7_letter_48 : decode cX7_letter 48 = .ok (.ireturn, 1) := by decide +kernel
theorem dX7_letter_49 : decode cX7_letter 49 = .ok (.iload_n 2, 1) := by decide +kernel
theorem dX7_letter_50 : decode cX7_letter 50 = .ok (.iload_n 3, 1) := by decide +kernel
theorem dX7_letter_51 : decode cX7_letter 51 = .ok (.if_icmp .lt 6, 3) := by decide +kernel
theorem dX7_letter_54 : decode cX7_letter 54 = .ok (.bipush (-2), 2) := by decide +kernel
theorem dX7_letter_56 : decode cX7_letter 56 = .ok (.ireturn, 1) := by decide +kernel
theorem dX7_count_0 : decode cX7_count 0 = .ok (.iload_n 1, 1) := by decide +kernel
theorem dX7_count_1 : decode cX7_count 1 = .ok (.tableswitch 128 0 8 #[51, 56, 61, 66, 74, 79, 84, 89, 119], 51) := by decide +kernel
theorem dX7_count_52 : decode cX7_count 52 = .ok (.aload_n 0, 1) := by decide +kernel
theorem dX7_count_53 : decode cX7_count 53 = .ok (.invokevirtual 43, 3) := by decide +kernel
theorem dX7_count_56 : decode cX7_count 56 = .ok (.ireturn, 1) := by decide +kernel
theorem dX7_count_57 : decode cX7_count 57 = .ok (.aload_n 0, 1) := by decide +kernel
theorem dX7_count_58 : decode cX7_count 58 = .ok (.invokevirtual 47, 3) := by decide +kernel
theorem dX7_count_61 : decode cX7_count 61 = .ok (.ireturn, 1) := by decide +kernel
theorem dX7_count_62 : decode cX7_count 62 = .ok (.aload_n 0, 1) := by decide +kernel
theorem dX7_count_63 : decode cX7_count 63 = .ok (.invokevirtual 53, 3) := by decide +kernel
theorem dX7_count_66 : decode cX7_count 66 = .ok (.ireturn, 1) := by decide +kernel
theorem dX7_count_67 : decode cX7_count 67 = .ok (.aload_n 0, 1) := by decide +kernel
theorem dX7_count_68 : decode cX7_count 68 = .ok (.getfield 7, 3) := by decide +kernel
theorem dX7_count_71 : decode cX7_count 71 = .ok (.iconst 2, 1) := by decide +kernel
theorem dX7_count_72 : decode cX7_count 72 = .ok (.laload, 1) := by decide +kernel
theorem dX7_count_73 : decode cX7_count 73 = .ok (.l2i, 1) := by decide +kernel
theorem dX7_count_74 : decode cX7_count 74 = .ok (.ireturn, 1) := by decide +kernel
theorem dX7_count_75 : decode cX7_count 75 = .ok (.aload_n 0, 1) := by decide +kernel
theorem dX7_count_76 : decode cX7_count 76 = .ok (.invokevirtual 50, 3) := by decide +kernel
theorem dX7_count_79 : decode cX7_count 79 = .ok (.ireturn, 1) := by decide +kernel
theorem dX7_count_80 : decode cX7_count 80 = .ok (.aload_n 0, 1) := by decide +kernel
theorem dX7_count_81 : decode cX7_count 81 = .ok (.getfield 124, 3) := by decide +kernel
theorem dX7_count_84 : decode cX7_count 84 = .ok (.ireturn, 1) := by decide +kernel
theorem dX7_count_85 : decode cX7_count 85 = .ok (.aload_n 0, 1) := by decide +kernel
theorem dX7_count_86 : decode cX7_count 86 = .ok (.getfield 135, 3) := by decide +kernel
theorem dX7_count_89 : decode cX7_count 89 = .ok (.ireturn, 1) := by decide +kernel
theorem dX7_count_90 : decode cX7_count 90 = .ok (.aload_n 0, 1) := by decide +kernel
theorem dX7_count_91 : decode cX7_count 91 = .ok (.getfield 20, 3) := by decide +kernel
theorem dX7_count_94 : decode cX7_count 94 = .ok (.iconst 0, 1) := by decide +kernel
theorem dX7_count_95 : decode cX7_count 95 = .ok (.baload, 1) := by decide +kernel
theorem dX7_count_96 : decode cX7_count 96 = .ok (.ifCond .eq 7, 3) := by decide +kernel
theorem dX7_count_103 : decode cX7_count 103 = .ok (.iconst 0, 1) := by decide +kernel
theorem dX7_count_104 : decode cX7_count 104 = .ok (.aload_n 0, 1) := by decide +kernel
theorem dX7_count_105 : decode cX7_count 105 = .ok (.getfield 20, 3) := by decide +kernel
theorem dX7_count_108 : decode cX7_count 108 = .ok (.iconst 1, 1) := by decide +kernel
theorem dX7_count_109 : decode cX7_count 109 = .ok (.baload, 1) := by decide +kernel
theorem dX7_count_110 : decode cX7_count 110 = .ok (.ifCond .eq 7, 3) := by decide +kernel
theorem dX7_count_117 : decode cX7_count 117 = .ok (.iconst 0, 1) := by decide +kernel
theorem dX7_count_118 : decode cX7_count 118 = .ok (.iadd, 1) := by decide +kernel
theorem dX7_count_119 : decode cX7_count 119 = .ok (.ireturn, 1) := by decide +kernel
theorem dX7_count_120 : decode cX7_count 120 = .ok (.aload_n 0, 1) := by decide +kernel
theorem dX7_count_121 : decode cX7_count 121 = .ok (.invokevirtual 99, 3) := by decide +kernel
theorem dX7_count_124 : decode cX7_count 124 = .ok (.aload_n 0, 1) := by decide +kernel
theorem dX7_count_125 : decode cX7_count 125 = .ok (.getfield 86, 3) := by decide +kernel
theorem dX7_count_128 : decode cX7_count 128 = .ok (.ireturn, 1) := by decide +kernel
theorem dX7_count_129 : decode cX7_count 129 = .ok (.iconst (-1), 1) := by decide +kernel
theorem dX7_count_130 : decode cX7_count 130 = .ok (.ireturn, 1) := by decide +kernel
theorem dX7_feed_0 : decode cX7_feed 0 = .ok (.aload_n 0, 1) := by decide +kernel
theorem dX7_feed_1 : decode cX7_feed 1 = .ok (.getfield 135, 3) := by decide +kernel
theorem dX7_feed_4 : decode cX7_feed 4 = .ok (.sipush 380, 3) := by decide +kernel
theorem dX7_feed_7 : decode cX7_feed 7 = .ok (.if_icmp .le 5, 3) := by decide +kernel
theorem dX7_feed_12 : decode cX7_feed 12 = .ok (.aload_n 0, 1) := by decide +kernel
theorem dX7_feed_13 : decode cX7_feed 13 = .ok (.iload_n 1, 1) := by decide +kernel
theorem dX7_feed_14 : decode cX7_feed 14 = .ok (.invokevirtual 251, 3) := by decide +kernel
theorem dX7_feed_17 : decode cX7_feed 17 = .ok (.aload_n 0, 1) := by decide +kernel
theorem dX7_feed_18 : decode cX7_feed 18 = .ok (.iload_n 2, 1) := by decide +kernel
theorem dX7_feed_19 : decode cX7_feed 19 = .ok (.invokevirtual 251, 3) := by decide +kernel
theorem dX7_feed_22 : decode cX7_feed 22 = .ok (.aload_n 0, 1) := by decide +kernel
theorem dX7_feed_23 : decode cX7_feed 23 = .ok (.iload_n 3, 1) := by decide +kernel
theorem dX7_feed_24 : decode cX7_feed 24 = .ok (.invokevirtual 251, 3) := by decide +kernel
theorem dX7_feed_27 : decode cX7_feed 27 = .ok (.aload_n 0, 1) := by decide +kernel
theorem dX7_feed_28 : decode cX7_feed 28 = .ok (.iload 4, 2) := by decide +kernel
theorem dX7_feed_30 : decode cX7_feed 30 = .ok (.invokevirtual 251, 3) := by decide +kernel
theorem dX7_feed_33 : decode cX7_feed 33 = .ok (.aload_n 0, 1) := by decide +kernel
theorem dX7_feed_34 : decode cX7_feed 34 = .ok (.iload 5, 2) := by decide +kernel
theorem dX7_feed_36 : decode cX7_feed 36 = .ok (.invokevirtual 251, 3) := by decide +kernel
theorem dX7_feed_39 : decode cX7_feed 39 = .ok (.aload_n 0, 1) := by decide +kernel
theorem dX7_feed_40 : decode cX7_feed 40 = .ok (.getfield 135, 3) := by decide +kernel
theorem dX7_feed_43 : decode cX7_feed 43 = .ok (.ireturn, 1) := by decide +kernel
theorem dX7_keep_0 : decode cX7_keep 0 = .ok (.iload_n 1, 1) := by decide +kernel
theorem dX7_keep_1 : decode cX7_keep 1 = .ok (.i2l, 1) := by decide +kernel
theorem dX7_keep_2 : decode cX7_keep 2 = .ok (.lconst 0, 1) := by decide +kernel
theorem dX7_keep_3 : decode cX7_keep 3 = .ok (.lconst 1, 1) := by decide +kernel
theorem dX7_keep_4 : decode cX7_keep 4 = .ok (.invokestatic 39, 3) := by decide +kernel
theorem dX7_keep_7 : decode cX7_keep 7 = .ok (.ifCond .ne 5, 3) := by decide +kernel
theorem dX7_keep_10 : decode cX7_keep 10 = .ok (.iconst (-1), 1) := by decide +kernel
theorem dX7_keep_11 : decode cX7_keep 11 = .ok (.ireturn, 1) := by decide +kernel
theorem dX7_keep_12 : decode cX7_keep 12 = .ok (.iconst 0, 1) := by decide +kernel
theorem dX7_keep_13 : decode cX7_keep 13 = .ok (.istore_n 2, 1) := by decide +kernel
theorem dX7_keep_14 : decode cX7_keep 14 = .ok (.iload_n 2, 1) := by decide +kernel
theorem dX7_keep_15 : decode cX7_keep 15 = .ok (.sipush 6896, 3) := by decide +kernel
theorem dX7_keep_18 : decode cX7_keep 18 = .ok (.if_icmp .ge 27, 3) := by decide +kernel
theorem dX7_keep_21 : decode cX7_keep 21 = .ok (.aload_n 0, 1) := by decide +kernel
theorem dX7_keep_22 : decode cX7_keep 22 = .ok (.getfield 17, 3) := by decide +kernel
theorem dX7_keep_25 : decode cX7_keep 25 = .ok (.sipush 6896, 3) := by decide +kernel
theorem dX7_keep_28 : decode cX7_keep 28 = .ok (.iload_n 1, 1) := by decide +kernel
theorem dX7_keep_29 : decode cX7_keep 29 = .ok (.imul, 1) := by decide +kernel
theorem dX7_keep_30 : decode cX7_keep 30 = .ok (.iload_n 2, 1) := by decide +kernel
theorem dX7_keep_31 : decode cX7_keep 31 = .ok (.iadd, 1) := by decide +kernel
theorem dX7_keep_32 : decode cX7_keep 32 = .ok (.aload_n 0, 1) := by decide +kernel
theorem dX7_keep_33 : decode cX7_keep 33 = .ok (.getfield 7, 3) := by decide +kernel
theorem dX7_keep_36 : decode cX7_keep 36 = .ok (.iload_n 2, 1) := by decide +kernel
theorem dX7_keep_37 : decode cX7_keep 37 = .ok (.laload, 1) := by decide +kernel
theorem dX7_keep_38 : decode cX7_keep 38 = .ok (.lastore, 1) := by decide +kernel
theorem dX7_keep_39 : decode cX7_keep 39 = .ok (.iinc 2 1, 3) := by decide +kernel
theorem dX7_keep_42 : decode cX7_keep 42 = .ok (.goto (-28), 3) := by decide +kernel
theorem dX7_keep_45 : decode cX7_keep 45 = .ok (.aload_n 0, 1) := by decide +kernel
theorem dX7_keep_46 : decode cX7_keep 46 = .ok (.getfield 20, 3) := by decide +kernel
theorem dX7_keep_49 : decode cX7_keep 49 = .ok (.iload_n 1, 1) := by decide +kernel
theorem dX7_keep_50 : decode cX7_keep 50 = .ok (.iconst 1, 1) := by decide +kernel
theorem dX7_keep_51 : decode cX7_keep 51 = .ok (.bastore, 1) := by decide +kernel
theorem dX7_keep_52 : decode cX7_keep 52 = .ok (.aload_n 0, 1) := by decide +kernel
theorem dX7_keep_53 : decode cX7_keep 53 = .ok (.invokevirtual 53, 3) := by decide +kernel
theorem dX7_keep_56 : decode cX7_keep 56 = .ok (.ireturn, 1) := by decide +kernel
theorem dX7_tell_0 : decode cX7_tell 0 = .ok (.aload_n 0, 1) := by decide +kernel
theorem dX7_tell_1 : decode cX7_tell 1 = .ok (.invokevirtual 210, 3) := by decide +kernel
theorem dX7_tell_4 : decode cX7_tell 4 = .ok (.iconst 0, 1) := by decide +kernel
theorem dX7_tell_5 : decode cX7_tell 5 = .ok (.istore_n 1, 1) := by decide +kernel
theorem dX7_tell_6 : decode cX7_tell 6 = .ok (.iload_n 1, 1) := by decide +kernel
theorem dX7_tell_7 : decode cX7_tell 7 = .ok (.sipush 6896, 3) := by decide +kernel
theorem dX7_tell_10 : decode cX7_tell 10 = .ok (.if_icmp .ge 16, 3) := by decide +kernel
theorem dX7_tell_13 : decode cX7_tell 13 = .ok (.aload_n 0, 1) := by decide +kernel
theorem dX7_tell_14 : decode cX7_tell 14 = .ok (.getfield 7, 3) := by decide +kernel
theorem dX7_tell_17 : decode cX7_tell 17 = .ok (.iload_n 1, 1) := by decide +kernel
theorem dX7_tell_18 : decode cX7_tell 18 = .ok (.lconst 0, 1) := by decide +kernel
theorem dX7_tell_19 : decode cX7_tell 19 = .ok (.lastore, 1) := by decide +kernel
theorem dX7_tell_20 : decode cX7_tell 20 = .ok (.iinc 1 1, 3) := by decide +kernel
theorem dX7_tell_23 : decode cX7_tell 23 = .ok (.goto (-17), 3) := by decide +kernel
theorem dX7_tell_26 : decode cX7_tell 26 = .ok (.aload_n 0, 1) := by decide +kernel
theorem dX7_tell_27 : decode cX7_tell 27 = .ok (.invokevirtual 354, 3) := by decide +kernel
theorem dX7_tell_30 : decode cX7_tell 30 = .ok (.istore_n 1, 1) := by decide +kernel
theorem dX7_tell_31 : decode cX7_tell 31 = .ok (.aload_n 0, 1) := by decide +kernel
theorem dX7_tell_32 : decode cX7_tell 32 = .ok (.iconst 0, 1) := by decide +kernel
theorem dX7_tell_33 : decode cX7_tell 33 = .ok (.putfield 135, 3) := by decide +kernel
theorem dX7_tell_36 : decode cX7_tell 36 = .ok (.iload_n 1, 1) := by decide +kernel
theorem dX7_tell_37 : decode cX7_tell 37 = .ok (.ifCond .ne 15, 3) := by decide +kernel
theorem dX7_tell_40 : decode cX7_tell 40 = .ok (.aload_n 0, 1) := by decide +kernel
theorem dX7_tell_41 : decode cX7_tell 41 = .ok (.invokevirtual 216, 3) := by decide +kernel
theorem dX7_tell_44 : decode cX7_tell 44 = .ok (.bipush (-2), 2) := by decide +kernel
theorem dX7_tell_46 : decode cX7_tell 46 = .ok (.aload_n 0, 1) := by decide +kernel
theorem dX7_tell_47 : decode cX7_tell 47 = .ok (.getfield 260, 3) := by decide +kernel
theorem dX7_tell_50 : decode cX7_tell 50 = .ok (.isub, 1) := by decide +kernel
theorem dX7_tell_51 : decode cX7_tell 51 = .ok (.ireturn, 1) := by decide +kernel
