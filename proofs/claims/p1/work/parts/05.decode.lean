theorem dX0_isThere_0 : decode cX0_isThere 0 = .ok (.aload_n 0, 1) := by decide +kernel
theorem dX0_isThere_1 : decode cX0_isThere 1 = .ok (.getfield 49, 3) := by decide +kernel
theorem dX0_isThere_4 : decode cX0_isThere 4 = .ok (.ifCond .le 7, 3) := by decide +kernel
theorem dX0_isThere_11 : decode cX0_isThere 11 = .ok (.iconst 0, 1) := by decide +kernel
theorem dX0_isThere_12 : decode cX0_isThere 12 = .ok (.ireturn, 1) := by decide +kernel
theorem dX0_cells_0 : decode cX0_cells 0 = .ok (.aload_n 0, 1) := by decide +kernel
theorem dX0_cells_1 : decode cX0_cells 1 = .ok (.getfield 49, 3) := by decide +kernel
theorem dX0_cells_4 : decode cX0_cells 4 = .ok (.aload_n 0, 1) := by decide +kernel
theorem dX0_cells_5 : decode cX0_cells 5 = .ok (.getfield 53, 3) := by decide +kernel
theorem dX0_cells_8 : decode cX0_cells 8 = .ok (.imul, 1) := by decide +kernel
theorem dX0_cells_9 : decode cX0_cells 9 = .ok (.ireturn, 1) := by decide +kernel
theorem dX0_hasCell_0 : decode cX0_hasCell 0 = .ok (.iload_n 1, 1) := by decide +kernel
theorem dX0_hasCell_1 : decode cX0_hasCell 1 = .ok (.ifCond .lt 15, 3) := by decide +kernel
theorem dX0_hasCell_4 : decode cX0_hasCell 4 = .ok (.iload_n 1, 1) := by decide +kernel
theorem dX0_hasCell_5 : decode cX0_hasCell 5 = .ok (.aload_n 0, 1) := by decide +kernel
theorem dX0_hasCell_6 : decode cX0_hasCell 6 = .ok (.invokevirtual 102, 3) := by decide +kernel
theorem dX0_hasCell_9 : decode cX0_hasCell 9 = .ok (.if_icmp .ge 7, 3) := by decide +kernel
theorem dX0_hasCell_16 : decode cX0_hasCell 16 = .ok (.iconst 0, 1) := by decide +kernel
theorem dX0_hasCell_17 : decode cX0_hasCell 17 = .ok (.ireturn, 1) := by decide +kernel
theorem dX0_hasRow_0 : decode cX0_hasRow 0 = .ok (.iload_n 1, 1) := by decide +kernel
theorem dX0_hasRow_1 : decode cX0_hasRow 1 = .ok (.ifCond .lt 15, 3) := by decide +kernel
theorem dX0_hasRow_4 : decode cX0_hasRow 4 = .ok (.iload_n 1, 1) := by decide +kernel
theorem dX0_hasRow_5 : decode cX0_hasRow 5 = .ok (.aload_n 0, 1) := by decide +kernel
theorem dX0_hasRow_6 : decode cX0_hasRow 6 = .ok (.getfield 49, 3) := by decide +kernel
theorem dX0_hasRow_9 : decode cX0_hasRow 9 = .ok (.if_icmp .ge 7, 3) := by decide +kernel
theorem dX0_hasRow_16 : decode cX0_hasRow 16 = .ok (.iconst 0, 1) := by decide +kernel
theorem dX0_hasRow_17 : decode cX0_hasRow 17 = .ok (.ireturn, 1) := by decide +kernel
theorem dX0_hasDrum_0 : decode cX0_hasDrum 0 = .ok (.iload_n 1, 1) := by decide +kernel
theorem dX0_hasDrum_1 : decode cX0_hasDrum 1 = .ok (.ifCond .lt 15, 3) := by decide +kernel
theorem dX0_hasDrum_4 : decode cX0_hasDrum 4 = .ok (.iload_n 1, 1) := by decide +kernel
theorem dX0_hasDrum_5 : decode cX0_hasDrum 5 = .ok (.aload_n 0, 1) := by decide +kernel
theorem dX0_hasDrum_6 : decode cX0_hasDrum 6 = .ok (.getfield 59, 3) := by decide +kernel
theorem dX0_hasDrum_9 : decode cX0_hasDrum 9 = .ok (.if_icmp .ge 7, 3) := by decide +kernel
theorem dX0_hasDrum_16 : decode cX0_hasDrum 16 = .ok (.iconst 0, 1) := by decide +kernel
theorem dX0_hasDrum_17 : decode cX0_hasDrum 17 = .ok (.ireturn, 1) := by decide +kernel
theorem dX0_hasFlap_0 : decode cX0_hasFlap 0 = .ok (.aload_n 0, 1) := by decide +kernel
theorem dX0_hasFlap_1 : decode cX0_hasFlap 1 = .ok (.iload_n 1, 1) := by decide +kernel
theorem dX0_hasFlap_2 : decode cX0_hasFlap 2 = .ok (.invokevirtual 72, 3) := by decide +kernel
theorem dX0_hasFlap_5 : decode cX0_hasFlap 5 = .ok (.ifCond .eq 20, 3) := by decide +kernel
theorem dX0_hasFlap_25 : decode cX0_hasFlap 25 = .ok (.iconst 0, 1) := by decide +kernel
theorem dX0_hasFlap_26 : decode cX0_hasFlap 26 = .ok (.ireturn, 1) := by decide +kernel
theorem dX0_flapsOn_0 : decode cX0_flapsOn 0 = .ok (.iload_n 1, 1) := by decide +kernel
theorem dX0_flapsOn_1 : decode cX0_flapsOn 1 = .ok (.ifCond .lt 20, 3) := by decide +kernel
theorem dX0_flapsOn_4 : decode cX0_flapsOn 4 = .ok (.iload_n 1, 1) := by decide +kernel
theorem dX0_flapsOn_5 : decode cX0_flapsOn 5 = .ok (.aload_n 0, 1) := by decide +kernel
theorem dX0_flapsOn_6 : decode cX0_flapsOn 6 = .ok (.getfield 59, 3) := by decide +kernel
theorem dX0_flapsOn_9 : decode cX0_flapsOn 9 = .ok (.if_icmp .ge 12, 3) := by decide +kernel
theorem dX0_flapsOn_21 : decode cX0_flapsOn 21 = .ok (.iconst 0, 1) := by decide +kernel
theorem dX0_flapsOn_22 : decode cX0_flapsOn 22 = .ok (.ireturn, 1) := by decide +kernel
theorem dX0_isMovable_0 : decode cX0_isMovable 0 = .ok (.iload_n 2, 1) := by decide +kernel
theorem dX0_isMovable_1 : decode cX0_isMovable 1 = .ok (.ifCond .le 16, 3) := by decide +kernel
theorem dX0_isMovable_4 : decode cX0_isMovable 4 = .ok (.iload_n 2, 1) := by decide +kernel
theorem dX0_isMovable_5 : decode cX0_isMovable 5 = .ok (.aload_n 0, 1) := by decide +kernel
theorem dX0_isMovable_6 : decode cX0_isMovable 6 = .ok (.iload_n 1, 1) := by decide +kernel
theorem dX0_isMovable_7 : decode cX0_isMovable 7 = .ok (.invokevirtual 108, 3) := by decide +kernel
theorem dX0_isMovable_10 : decode cX0_isMovable 10 = .ok (.if_icmp .ge 7, 3) := by decide +kernel
theorem dX0_isMovable_17 : decode cX0_isMovable 17 = .ok (.iconst 0, 1) := by decide +kernel
theorem dX0_isMovable_18 : decode cX0_isMovable 18 = .ok (.ireturn, 1) := by decide +kernel
theorem dX0_signOf_0 : decode cX0_signOf 0 = .ok (.iload_n 1, 1) := by decide +kernel
theorem dX0_signOf_1 : decode cX0_signOf 1 = .ok (.ifCond .lt 25, 3) := by decide +kernel
theorem dX0_signOf_4 : decode cX0_signOf 4 = .ok (.iload_n 1, 1) := by decide +kernel
theorem dX0_signOf_5 : decode cX0_signOf 5 = .ok (.aload_n 0, 1) := by decide +kernel
theorem dX0_signOf_6 : decode cX0_signOf 6 = .ok (.getfield 59, 3) := by decide +kernel
theorem dX0_signOf_9 : decode cX0_signOf 9 = .ok (.if_icmp .ge 17, 3) := by decide +kernel
theorem dX0_signOf_26 : decode cX0_signOf 26 = .ok (.iconst (-1), 1) := by decide +kernel
theorem dX0_signOf_27 : decode cX0_signOf 27 = .ok (.ireturn, 1) := by decide +kernel
theorem dX6_isShelf_0 : decode cX6_isShelf 0 = .ok (.iload_n 0, 1) := by decide +kernel
theorem dX6_isShelf_1 : decode cX6_isShelf 1 = .ok (.ifCond .lt 12, 3) := by decide +kernel
theorem dX6_isShelf_4 : decode cX6_isShelf 4 = .ok (.iload_n 0, 1) := by decide +kernel
theorem dX6_isShelf_5 : decode cX6_isShelf 5 = .ok (.iconst 2, 1) := by decide +kernel
theorem dX6_isShelf_6 : decode cX6_isShelf 6 = .ok (.if_icmp .ge 7, 3) := by decide +kernel
theorem dX6_isShelf_9 : decode cX6_isShelf 9 = .ok (.iconst 1, 1) := by decide +kernel
theorem dX6_isShelf_10 : decode cX6_isShelf 10 = .ok (.goto 4, 3) := by decide +kernel
theorem dX6_isShelf_13 : decode cX6_isShelf 13 = .ok (.iconst 0, 1) := by decide +kernel
theorem dX6_isShelf_14 : decode cX6_isShelf 14 = .ok (.ireturn, 1) := by decide +kernel
theorem dX3_pop_0 : decode cX3_pop 0 = .ok (.aload_n 0, 1) := by decide +kernel
theorem dX3_pop_1 : decode cX3_pop 1 = .ok (.getfield 26, 3) := by decide +kernel
theorem dX3_pop_4 : decode cX3_pop 4 = .ok (.ifCond .ne 5, 3) := by decide +kernel
theorem dX3_pop_7 : decode cX3_pop 7 = .ok (.iconst 0, 1) := by decide +kernel
theorem dX3_pop_8 : decode cX3_pop 8 = .ok (.ireturn, 1) := by decide +kernel
theorem dX5_addNumber_0 : decode cX5_addNumber 0 = .ok (.bipush 24, 2) := by decide +kernel
theorem dX5_addNumber_2 : decode cX5_addNumber 2 = .ok (.istore_n 2, 1) := by decide +kernel
theorem dX5_addNumber_3 : decode cX5_addNumber 3 = .ok (.iload_n 2, 1) := by decide +kernel
theorem dX5_addNumber_4 : decode cX5_addNumber 4 = .ok (.ifCond .lt 45, 3) := by decide +kernel
theorem dX5_addNumber_7 : decode cX5_addNumber 7 = .ok (.aload_n 0, 1) := by decide +kernel
theorem dX5_addNumber_8 : decode cX5_addNumber 8 = .ok (.getfield 15, 3) := by decide +kernel
theorem dX5_addNumber_11 : decode cX5_addNumber 11 = .ok (.sipush 400, 3) := by decide +kernel
theorem dX5_addNumber_14 : decode cX5_addNumber 14 = .ok (.if_icmp .ge 29, 3) := by decide +kernel
theorem dX5_addNumber_17 : decode cX5_addNumber 17 = .ok (.aload_n 0, 1) := by decide +kernel
theorem dX5_addNumber_18 : decode cX5_addNumber 18 = .ok (.getfield 9, 3) := by decide +kernel
theorem dX5_addNumber_21 : decode cX5_addNumber 21 = .ok (.aload_n 0, 1) := by decide +kernel
theorem dX5_addNumber_22 : decode cX5_addNumber 22 = .ok (.getfield 15, 3) := by decide +kernel
theorem dX5_addNumber_25 : decode cX5_addNumber 25 = .ok (.iload_n 1, 1) := by decide +kernel
theorem dX5_addNumber_26 : decode cX5_addNumber 26 = .ok (.iload_n 2, 1) := by decide +kernel
theorem dX5_addNumber_27 : decode cX5_addNumber 27 = .ok (.ishr, 1) := by decide +kernel
theorem dX5_addNumber_28 : decode cX5_addNumber 28 = .ok (.sipush 255, 3) := by decide +kernel
theorem dX5_addNumber_31 : decode cX5_addNumber 31 = .ok (.iand, 1) := by decide +kernel
theorem dX5_addNumber_32 : decode cX5_addNumber 32 = .ok (.iastore, 1) := by decide +kernel
theorem dX5_addNumber_33 : decode cX5_addNumber 33 = .ok (.aload_n 0, 1) := by decide +kernel
theorem dX5_addNumber_34 : decode cX5_addNumber 34 = .ok (.dup, 1) := by decide +kernel
theorem dX5_addNumber_35 : decode cX5_addNumber 35 = .ok (.getfield 15, 3) := by decide +kernel
theorem dX5_addNumber_38 : decode cX5_addNumber 38 = .ok (.iconst 1, 1) := by decide +kernel
theorem dX5_addNumber_39 : decode cX5_addNumber 39 = .ok (.iadd, 1) := by decide +kernel
theorem dX5_addNumber_40 : decode cX5_addNumber 40 = .ok (.putfield 15, 3) := by decide +kernel
theorem dX5_addNumber_43 : decode cX5_addNumber 43 = .ok (.iinc 2 (-8), 3) := by decide +kernel
theorem dX5_addNumber_46 : decode cX5_addNumber 46 = .ok (.goto (-43), 3) := by decide +kernel
theorem dX5_addNumber_49 : decode cX5_addNumber 49 = .ok (.return_, 1) := by decide +kernel
theorem dJ7_fill_53178_0 : decode cJ7_fill_53178 0 = .ok (.iconst 0, 1) := by decide +kernel
theorem dJ7_fill_53178_1 : decode cJ7_fill_53178 1 = .ok (.istore_n 2, 1) := by decide +kernel
theorem dJ7_fill_53178_2 : decode cJ7_fill_53178 2 = .ok (.aload_n 0, 1) := by decide +kernel
theorem dJ7_fill_53178_3 : decode cJ7_fill_53178 3 = .ok (.arraylength, 1) := by decide +kernel
theorem dJ7_fill_53178_4 : decode cJ7_fill_53178 4 = .ok (.istore_n 3, 1) := by decide +kernel
theorem dJ7_fill_53178_5 : decode cJ7_fill_53178 5 = .ok (.iload_n 2, 1) := by decide +kernel
theorem dJ7_fill_53178_6 : decode cJ7_fill_53178 6 = .ok (.iload_n 3, 1) := by decide +kernel
theorem dJ7_fill_53178_7 : decode cJ7_fill_53178 7 = .ok (.if_icmp .ge 13, 3) := by decide +kernel
theorem dJ7_fill_53178_10 : decode cJ7_fill_53178 10 = .ok (.aload_n 0, 1) := by decide +kernel
theorem dJ7_fill_53178_11 : decode cJ7_fill_53178 11 = .ok (.iload_n 2, 1) := by decide +kernel
theorem dJ7_fill_53178_12 : decode cJ7_fill_53178 12 = .ok (.iload_n 1, 1) := by decide +kernel
theorem dJ7_fill_53178_13 : decode cJ7_fill_53178 13 = .ok (.iastore, 1) := by decide +kernel
theorem dJ7_fill_53178_14 : decode cJ7_fill_53178 14 = .ok (.iinc 2 1, 3) := by decide +kernel
theorem dJ7_fill_53178_17 : decode cJ7_fill_53178 17 = .ok (.goto (-12), 3) := by decide +kernel
theorem dJ7_fill_53178_20 : decode cJ7_fill_53178 20 = .ok (.return_, 1) := by decide +kernel
theorem dX2_sortByLeft_0 : decode cX2_sortByLeft 0 = .ok (.aload_n 0, 1) := by decide +kernel
theorem dX2_sortByLeft_1 : decode cX2_sortByLeft 1 = .ok (.getfield 9, 3) := by decide +kernel
theorem dX2_sortByLeft_4 : decode cX2_sortByLeft 4 = .ok (.iconst (-1), 1) := by decide +kernel
theorem dX2_sortByLeft_5 : decode cX2_sortByLeft 5 = .ok (.invokestatic 84, 3) := by decide +kernel
theorem dX2_sortByLeft_8 : decode cX2_sortByLeft 8 = .ok (.iconst 0, 1) := by decide +kernel
theorem dX2_sortByLeft_9 : decode cX2_sortByLeft 9 = .ok (.istore_n 2, 1) := by decide +kernel
theorem dX2_sortByLeft_10 : decode cX2_sortByLeft 10 = .ok (.aload_n 1, 1) := by decide +kernel
theorem dX2_sortByLeft_11 : decode cX2_sortByLeft 11 = .ok (.invokevirtual 90, 3) := by decide +kernel
theorem dX2_sortByLeft_14 : decode cX2_sortByLeft 14 = .ok (.iconst 1, 1) := by decide +kernel
theorem dX2_sortByLeft_15 : decode cX2_sortByLeft 15 = .ok (.isub, 1) := by decide +kernel
theorem dX2_sortByLeft_16 : decode cX2_sortByLeft 16 = .ok (.istore_n 3, 1) := by decide +kernel
theorem dX2_sortByLeft_17 : decode cX2_sortByLeft 17 = .ok (.iload_n 3, 1) := by decide +kernel
theorem dX2_sortByLeft_18 : decode cX2_sortByLeft 18 = .ok (.ifCond .lt 56, 3) := by decide +kernel
theorem dX2_sortByLeft_74 : decode cX2_sortByLeft 74 = .ok (.iload_n 2, 1) := by decide +kernel
theorem dX2_sortByLeft_75 : decode cX2_sortByLeft 75 = .ok (.ireturn, 1) := by decide +kernel
theorem dX2_choose_0 : decode cX2_choose 0 = .ok (.aload_n 0, 1) := by decide +kernel
theorem dX2_choose_1 : decode cX2_choose 1 = .ok (.iconst 0, 1) := by decide +kernel
theorem dX2_choose_2 : decode cX2_choose 2 = .ok (.putfield 28, 3) := by decide +kernel
theorem dX2_choose_5 : decode cX2_choose 5 = .ok (.aload_n 0, 1) := by decide +kernel
theorem dX2_choose_6 : decode cX2_choose 6 = .ok (.iconst 0, 1) := by decide +kernel
theorem dX2_choose_7 : decode cX2_choose 7 = .ok (.putfield 65, 3) := by decide +kernel
theorem dX2_choose_10 : decode cX2_choose 10 = .ok (.aload_n 0, 1) := by decide +kernel
theorem dX2_choose_11 : decode cX2_choose 11 = .ok (.aload_n 1, 1) := by decide +kernel
theorem dX2_choose_12 : decode cX2_choose 12 = .ok (.invokevirtual 74, 3) := by decide +kernel
theorem dX2_choose_15 : decode cX2_choose 15 = .ok (.istore_n 2, 1) := by decide +kernel
theorem dX2_choose_16 : decode cX2_choose 16 = .ok (.iload_n 2, 1) := by decide +kernel
theorem dX2_choose_17 : decode cX2_choose 17 = .ok (.istore_n 3, 1) := by decide +kernel
theorem dX2_choose_18 : decode cX2_choose 18 = .ok (.iload_n 3, 1) := by decide +kernel
theorem dX2_choose_19 : decode cX2_choose 19 = .ok (.ifCond .le 117, 3) := by decide +kernel
theorem dX2_choose_136 : decode cX2_choose 136 = .ok (.return_, 1) := by decide +kernel
theorem dX6_shelvesUsed_0 : decode cX6_shelvesUsed 0 = .ok (.iconst 0, 1) := by decide +kernel
theorem dX6_shelvesUsed_1 : decode cX6_shelvesUsed 1 = .ok (.istore_n 1, 1) := by decide +kernel
theorem dX6_shelvesUsed_2 : decode cX6_shelvesUsed 2 = .ok (.iconst 0, 1) := by decide +kernel
theorem dX6_shelvesUsed_3 : decode cX6_shelvesUsed 3 = .ok (.istore_n 2, 1) := by decide +kernel
theorem dX6_shelvesUsed_4 : decode cX6_shelvesUsed 4 = .ok (.iload_n 2, 1) := by decide +kernel
theorem dX6_shelvesUsed_5 : decode cX6_shelvesUsed 5 = .ok (.iconst 2, 1) := by decide +kernel
theorem dX6_shelvesUsed_6 : decode cX6_shelvesUsed 6 = .ok (.if_icmp .ge 24, 3) := by decide +kernel
theorem dX6_shelvesUsed_9 : decode cX6_shelvesUsed 9 = .ok (.aload_n 0, 1) := by decide +kernel
theorem dX6_shelvesUsed_10 : decode cX6_shelvesUsed 10 = .ok (.getfield 47, 3) := by decide +kernel
theorem dX6_shelvesUsed_13 : decode cX6_shelvesUsed 13 = .ok (.iload_n 2, 1) := by decide +kernel
theorem dX6_shelvesUsed_14 : decode cX6_shelvesUsed 14 = .ok (.aaload, 1) := by decide +kernel
theorem dX6_shelvesUsed_15 : decode cX6_shelvesUsed 15 = .ok (.ifnull 9, 3) := by decide +kernel
theorem dX6_shelvesUsed_24 : decode cX6_shelvesUsed 24 = .ok (.iinc 2 1, 3) := by decide +kernel
theorem dX6_shelvesUsed_27 : decode cX6_shelvesUsed 27 = .ok (.goto (-23), 3) := by decide +kernel
theorem dX6_shelvesUsed_30 : decode cX6_shelvesUsed 30 = .ok (.iload_n 1, 1) := by decide +kernel
theorem dX6_shelvesUsed_31 : decode cX6_shelvesUsed 31 = .ok (.ireturn, 1) := by decide +kernel
theorem dX6_whyNotRow_0 : decode cX6_whyNotRow 0 = .ok (.aload_n 0, 1) := by decide +kernel
theorem dX6_whyNotRow_1 : decode cX6_whyNotRow 1 = .ok (.getfield 19, 3) := by decide +kernel
theorem dX6_whyNotRow_4 : decode cX6_whyNotRow 4 = .ok (.iload_n 1, 1) := by decide +kernel
theorem dX6_whyNotRow_5 : decode cX6_whyNotRow 5 = .ok (.invokevirtual 258, 3) := by decide +kernel
theorem dX6_whyNotRow_8 : decode cX6_whyNotRow 8 = .ok (.ifCond .ne 5, 3) := by decide +kernel
theorem dX6_whyNotRow_11 : decode cX6_whyNotRow 11 = .ok (.iconst (-1), 1) := by decide +kernel
theorem dX6_whyNotRow_12 : decode cX6_whyNotRow 12 = .ok (.ireturn, 1) := by decide +kernel
theorem dX6_tick_0 : decode cX6_tick 0 = .ok (.aload_n 0, 1) := by decide +kernel
theorem dX6_tick_1 : decode cX6_tick 1 = .ok (.getfield 19, 3) := by decide +kernel
theorem dX6_tick_4 : decode cX6_tick 4 = .ok (.invokevirtual 101, 3) := by decide +kernel
theorem dX6_tick_7 : decode cX6_tick 7 = .ok (.ifCond .eq 14, 3) := by decide +kernel
theorem dX6_tick_21 : decode cX6_tick 21 = .ok (.iconst (-1), 1) := by decide +kernel
theorem dX6_tick_22 : decode cX6_tick 22 = .ok (.ireturn, 1) := by decide +kernel
theorem dX6_settle_0 : decode cX6_settle 0 = .ok (.aload_n 0, 1) := by decide +kernel
theorem dX6_settle_1 : decode cX6_settle 1 = .ok (.getfield 19, 3) := by decide +kernel
theorem dX6_settle_4 : decode cX6_settle 4 = .ok (.invokevirtual 101, 3) := by decide +kernel
theorem dX6_settle_7 : decode cX6_settle 7 = .ok (.ifCond .ne 5, 3) := by decide +kernel
theorem dX6_settle_10 : decode cX6_settle 10 = .ok (.iconst (-1), 1) := by decide +kernel
theorem dX6_settle_11 : decode cX6_settle 11 = .ok (.ireturn, 1) := by decide +kernel
theorem dX6_lose_0 : decode cX6_lose 0 = .ok (.aload_n 0, 1) := by decide +kernel
theorem dX6_lose_1 : decode cX6_lose 1 = .ok (.getfield 19, 3) := by decide +kernel
theorem dX6_lose_4 : decode cX6_lose 4 = .ok (.iload_n 1, 1) := by decide +kernel
theorem dX6_lose_5 : decode cX6_lose 5 = .ok (.invokevirtual 118, 3) := by decide +kernel
theorem dX6_lose_8 : decode cX6_lose 8 = .ok (.ifCond .eq 13, 3) := by decide +kernel
theorem dX6_lose_21 : decode cX6_lose 21 = .ok (.iconst (-1), 1) := by decide +kernel
theorem dX6_lose_22 : decode cX6_lose 22 = .ok (.ireturn, 1) := by decide +kernel
theorem dX6_wear_0 : decode cX6_wear 0 = .ok (.aload_n 0, 1) := by decide +kernel
theorem dX6_wear_1 : decode cX6_wear 1 = .ok (.getfield 19, 3) := by decide +kernel
theorem dX6_wear_4 : decode cX6_wear 4 = .ok (.iload_n 1, 1) := by decide +kernel
theorem dX6_wear_5 : decode cX6_wear 5 = .ok (.iload_n 2, 1) := by decide +kernel
theorem dX6_wear_6 : decode cX6_wear 6 = .ok (.invokevirtual 130, 3) := by decide +kernel
theorem dX6_wear_9 : decode cX6_wear 9 = .ok (.ifCond .eq 7, 3) := by decide +kernel
theorem dX6_wear_16 : decode cX6_wear 16 = .ok (.iconst (-1), 1) := by decide +kernel
theorem dX6_wear_17 : decode cX6_wear 17 = .ok (.ireturn, 1) := by decide +kernel
theorem dX6_mend_0 : decode cX6_mend 0 = .ok (.aload_n 0, 1) := by decide +kernel
theorem dX6_mend_1 : decode cX6_mend 1 = .ok (.getfield 19, 3) := by decide +kernel
theorem dX6_mend_4 : decode cX6_mend 4 = .ok (.iload_n 1, 1) := by decide +kernel
theorem dX6_mend_5 : decode cX6_mend 5 = .ok (.iload_n 2, 1) := by decide +kernel
theorem dX6_mend_6 : decode cX6_mend 6 = .ok (.invokevirtual 130, 3) := by decide +kernel
theorem dX6_mend_9 : decode cX6_mend 9 = .ok (.ifCond .ne 5, 3) := by decide +kernel
theorem dX6_mend_12 : decode cX6_mend 12 = .ok (.iconst (-1), 1) := by decide +kernel
theorem dX6_mend_13 : decode cX6_mend 13 = .ok (.ireturn, 1) := by decide +kernel
theorem dX6_limit_0 : decode cX6_limit 0 = .ok (.aload_n 0, 1) := by decide +kernel
theorem dX6_limit_1 : decode cX6_limit 1 = .ok (.getfield 19, 3) := by decide +kernel
theorem dX6_limit_4 : decode cX6_limit 4 = .ok (.invokevirtual 101, 3) := by decide +kernel
theorem dX6_limit_7 : decode cX6_limit 7 = .ok (.ifCond .eq 14, 3) := by decide +kernel
theorem dX6_limit_21 : decode cX6_limit 21 = .ok (.iconst (-1), 1) := by decide +kernel
theorem dX6_limit_22 : decode cX6_limit 22 = .ok (.ireturn, 1) := by decide +kernel
theorem dX6_exchange_0 : decode cX6_exchange 0 = .ok (.aload_n 0, 1) := by decide +kernel
theorem dX6_exchange_1 : decode cX6_exchange 1 = .ok (.getfield 19, 3) := by decide +kernel
theorem dX6_exchange_4 : decode cX6_exchange 4 = .ok (.iload_n 1, 1) := by decide +kernel
theorem dX6_exchange_5 : decode cX6_exchange 5 = .ok (.iload_n 2, 1) := by decide +kernel
theorem dX6_exchange_6 : decode cX6_exchange 6 = .ok (.invokevirtual 149, 3) := by decide +kernel
theorem dX6_exchange_9 : decode cX6_exchange 9 = .ok (.ifCond .eq 20, 3) := by decide +kernel
theorem dX6_exchange_29 : decode cX6_exchange 29 = .ok (.iconst (-1), 1) := by decide +kernel
theorem dX6_exchange_30 : decode cX6_exchange 30 = .ok (.ireturn, 1) := by decide +kernel
theorem dX6_cell_0 : decode cX6_cell 0 = .ok (.aload_n 0, 1) := by decide +kernel
theorem dX6_cell_1 : decode cX6_cell 1 = .ok (.getfield 19, 3) := by decide +kernel
theorem dX6_cell_4 : decode cX6_cell 4 = .ok (.iload_n 1, 1) := by decide +kernel
theorem dX6_cell_5 : decode cX6_cell 5 = .ok (.invokevirtual 118, 3) := by decide +kernel
theorem dX6_cell_8 : decode cX6_cell 8 = .ok (.ifCond .ne 5, 3) := by decide +kernel
theorem dX6_cell_11 : decode cX6_cell 11 = .ok (.iconst (-1), 1) := by decide +kernel
theorem dX6_cell_12 : decode cX6_cell 12 = .ok (.ireturn, 1) := by decide +kernel
theorem dX6_drum_0 : decode cX6_drum 0 = .ok (.aload_n 0, 1) := by decide +kernel
theorem dX6_drum_1 : decode cX6_drum 1 = .ok (.getfield 19, 3) := by decide +kernel
theorem dX6_drum_4 : decode cX6_drum 4 = .ok (.iload_n 1, 1) := by decide +kernel
theorem dX6_drum_5 : decode cX6_drum 5 = .ok (.invokevirtual 236, 3) := by decide +kernel
theorem dX6_drum_8 : decode cX6_drum 8 = .ok (.ifCond .ne 5, 3) := by decide +kernel
theorem dX6_drum_11 : decode cX6_drum 11 = .ok (.iconst (-1), 1) := by decide +kernel
theorem dX6_drum_12 : decode cX6_drum 12 = .ok (.ireturn, 1) := by decide +kernel
theorem dX6_sign_0 : decode cX6_sign 0 = .ok (.aload_n 0, 1) := by decide +kernel
theorem dX6_sign_1 : decode cX6_sign 1 = .ok (.getfield 19, 3) := by decide +kernel
theorem dX6_sign_4 : decode cX6_sign 4 = .ok (.iload_n 1, 1) := by decide +kernel
theorem dX6_sign_5 : decode cX6_sign 5 = .ok (.iload_n 2, 1) := by decide +kernel
theorem dX6_sign_6 : decode cX6_sign 6 = .ok (.invokevirtual 254, 3) := by decide +kernel
theorem dX6_sign_9 : decode cX6_sign 9 = .ok (.ireturn, 1) := by decide +kernel
theorem dX6_at_0 : decode cX6_at 0 = .ok (.aload_n 0, 1) := by decide +kernel
theorem dX6_at_1 : decode cX6_at 1 = .ok (.getfield 19, 3) := by decide +kernel
theorem dX6_at_4 : decode cX6_at 4 = .ok (.iload_n 1, 1) := by decide +kernel
theorem dX6_at_5 : decode cX6_at 5 = .ok (.invokevirtual 258, 3) := by decide +kernel
theorem dX6_at_8 : decode cX6_at 8 = .ok (.ifCond .eq 18, 3) := by decide +kernel
theorem dX6_at_26 : decode cX6_at 26 = .ok (.iconst (-1), 1) := by decide +kernel
theorem dX6_at_27 : decode cX6_at 27 = .ok (.ireturn, 1) := by decide +kernel
theorem dX6_left_0 : decode cX6_left 0 = .ok (.aload_n 0, 1) := by decide +kernel
theorem dX6_left_1 : decode cX6_left 1 = .ok (.getfield 19, 3) := by decide +kernel
theorem dX6_left_4 : decode cX6_left 4 = .ok (.invokevirtual 101, 3) := by decide +kernel
theorem dX6_left_7 : decode cX6_left 7 = .ok (.ifCond .ne 5, 3) := by decide +kernel
theorem dX6_left_10 : decode cX6_left 10 = .ok (.iconst (-1), 1) := by decide +kernel
theorem dX6_left_11 : decode cX6_left 11 = .ok (.ireturn, 1) := by decide +kernel
theorem dX6_when_0 : decode cX6_when 0 = .ok (.aload_n 0, 1) := by decide +kernel
theorem dX6_when_1 : decode cX6_when 1 = .ok (.getfield 19, 3) := by decide +kernel
theorem dX6_when_4 : decode cX6_when 4 = .ok (.invokevirtual 101, 3) := by decide +kernel
theorem dX6_when_7 : decode cX6_when 7 = .ok (.ifCond .eq 12, 3) := by decide +kernel
theorem dX6_when_19 : decode cX6_when 19 = .ok (.iconst (-1), 1) := by decide +kernel
theorem dX6_when_20 : decode cX6_when 20 = .ok (.ireturn, 1) := by decide +kernel
theorem dX6_loudest_0 : decode cX6_loudest 0 = .ok (.aload_n 0, 1) := by decide +kernel
theorem dX6_loudest_1 : decode cX6_loudest 1 = .ok (.getfield 19, 3) := by decide +kernel
theorem dX6_loudest_4 : decode cX6_loudest 4 = .ok (.invokevirtual 101, 3) := by decide +kernel
theorem dX6_loudest_7 : decode cX6_loudest 7 = .ok (.ifCond .eq 12, 3) := by decide +kernel
theorem dX6_loudest_19 : decode cX6_loudest 19 = .ok (.iconst (-1), 1) := by decide +kernel
theorem dX6_loudest_20 : decode cX6_loudest 20 = .ok (.ireturn, 1) := by decide +kernel
theorem dX6_total_0 : decode cX6_total 0 = .ok (.aload_n 0, 1) := by decide +kernel
theorem dX6_total_1 : decode cX6_total 1 = .ok (.getfield 19, 3) := by decide +kernel
theorem dX6_total_4 : decode cX6_total 4 = .ok (.invokevirtual 101, 3) := by decide +kernel
theorem dX6_total_7 : decode cX6_total 7 = .ok (.ifCond .ne 5, 3) := by decide +kernel
theorem dX6_total_10 : decode cX6_total 10 = .ok (.iconst (-1), 1) := by decide +kernel
theorem dX6_total_11 : decode cX6_total 11 = .ok (.ireturn, 1) := by decide +kernel
theorem dX6_rests_0 : decode cX6_rests 0 = .ok (.aload_n 0, 1) := by decide +kernel
theorem dX6_rests_1 : decode cX6_rests 1 = .ok (.getfield 19, 3) := by decide +kernel
theorem dX6_rests_4 : decode cX6_rests 4 = .ok (.iload_n 1, 1) := by decide +kernel
theorem dX6_rests_5 : decode cX6_rests 5 = .ok (.invokevirtual 118, 3) := by decide +kernel
theorem dX6_rests_8 : decode cX6_rests 8 = .ok (.ifCond .ne 5, 3) := by decide +kernel
theorem dX6_rests_11 : decode cX6_rests 11 = .ok (.iconst (-1), 1) := by decide +kernel
theorem dX6_rests_12 : decode cX6_rests 12 = .ok (.ireturn, 1) := by decide +kernel
theorem dX6_cost_0 : decode cX6_cost 0 = .ok (.aload_n 0, 1) := by decide +kernel
theorem dX6_cost_1 : decode cX6_cost 1 = .ok (.iload_n 1, 1) := by decide +kernel
theorem dX6_cost_2 : decode cX6_cost 2 = .ok (.invokevirtual 83, 3) := by decide +kernel
theorem dX6_cost_5 : decode cX6_cost 5 = .ok (.istore_n 2, 1) := by decide +kernel
theorem dX6_cost_6 : decode cX6_cost 6 = .ok (.iload_n 2, 1) := by decide +kernel
theorem dX6_cost_7 : decode cX6_cost 7 = .ok (.ifCond .ne 27, 3) := by decide +kernel
theorem dX6_cost_34 : decode cX6_cost 34 = .ok (.iload_n 2, 1) := by decide +kernel
theorem dX6_cost_35 : decode cX6_cost 35 = .ok (.ireturn, 1) := by decide +kernel
theorem dX6_best_0 : decode cX6_best 0 = .ok (.aload_n 0, 1) := by decide +kernel
theorem dX6_best_1 : decode cX6_best 1 = .ok (.getfield 19, 3) := by decide +kernel
theorem dX6_best_4 : decode cX6_best 4 = .ok (.iload_n 1, 1) := by decide +kernel
theorem dX6_best_5 : decode cX6_best 5 = .ok (.invokevirtual 258, 3) := by decide +kernel
theorem dX6_best_8 : decode cX6_best 8 = .ok (.ifCond .eq 12, 3) := by decide +kernel
theorem dX6_best_20 : decode cX6_best 20 = .ok (.iconst (-1), 1) := by decide +kernel
theorem dX6_best_21 : decode cX6_best 21 = .ok (.ireturn, 1) := by decide +kernel
theorem dX6_place_0 : decode cX6_place 0 = .ok (.aload_n 0, 1) := by decide +kernel
theorem dX6_place_1 : decode cX6_place 1 = .ok (.getfield 19, 3) := by decide +kernel
theorem dX6_place_4 : decode cX6_place 4 = .ok (.iload_n 1, 1) := by decide +kernel
theorem dX6_place_5 : decode cX6_place 5 = .ok (.invokevirtual 258, 3) := by decide +kernel
theorem dX6_place_8 : decode cX6_place 8 = .ok (.ifCond .eq 12, 3) := by decide +kernel
theorem dX6_place_20 : decode cX6_place 20 = .ok (.iconst (-1), 1) := by decide +kernel
theorem dX6_place_21 : decode cX6_place 21 = .ok (.ireturn, 1) := by decide +kernel
theorem dX6_log_0 : decode cX6_log 0 = .ok (.aload_n 0, 1) := by decide +kernel
theorem dX6_log_1 : decode cX6_log 1 = .ok (.getfield 19, 3) := by decide +kernel
theorem dX6_log_4 : decode cX6_log 4 = .ok (.iload_n 1, 1) := by decide +kernel
theorem dX6_log_5 : decode cX6_log 5 = .ok (.invokevirtual 236, 3) := by decide +kernel
theorem dX6_log_8 : decode cX6_log 8 = .ok (.ifCond .ne 5, 3) := by decide +kernel
theorem dX6_log_11 : decode cX6_log 11 = .ok (.iconst (-1), 1) := by decide +kernel
theorem dX6_log_12 : decode cX6_log 12 = .ok (.ireturn, 1) := by decide +kernel
theorem dX6_usual_0 : decode cX6_usual 0 = .ok (.aload_n 0, 1) := by decide +kernel
theorem dX6_usual_1 : decode cX6_usual 1 = .ok (.getfield 19, 3) := by decide +kernel
theorem dX6_usual_4 : decode cX6_usual 4 = .ok (.iload_n 1, 1) := by decide +kernel
theorem dX6_usual_5 : decode cX6_usual 5 = .ok (.invokevirtual 236, 3) := by decide +kernel
theorem dX6_usual_8 : decode cX6_usual 8 = .ok (.ifCond .eq 12, 3) := by decide +kernel
theorem dX6_usual_20 : decode cX6_usual 20 = .ok (.iconst (-1), 1) := by decide +kernel
theorem dX6_usual_21 : decode cX6_usual 21 = .ok (.ireturn, 1) := by decide +kernel
theorem dX6_better_0 : decode cX6_better 0 = .ok (.aload_n 0, 1) := by decide +kernel
theorem dX6_better_1 : decode cX6_better 1 = .ok (.getfield 19, 3) := by decide +kernel
theorem dX6_better_4 : decode cX6_better 4 = .ok (.iload_n 1, 1) := by decide +kernel
theorem dX6_better_5 : decode cX6_better 5 = .ok (.invokevirtual 236, 3) := by decide +kernel
theorem dX6_better_8 : decode cX6_better 8 = .ok (.ifCond .eq 12, 3) := by decide +kernel
theorem dX6_better_20 : decode cX6_better 20 = .ok (.iconst (-1), 1) := by decide +kernel
theorem dX6_better_21 : decode cX6_better 21 = .ok (.ireturn, 1) := by decide +kernel
theorem dX6_farthest_0 : decode cX6_farthest 0 = .ok (.aload_n 0, 1) := by decide +kernel
theorem dX6_farthest_1 : decode cX6_farthest 1 = .ok (.getfield 19, 3) := by decide +kernel
theorem dX6_farthest_4 : decode cX6_farthest 4 = .ok (.iload_n 1, 1) := by decide +kernel
theorem dX6_farthest_5 : decode cX6_farthest 5 = .ok (.invokevirtual 118, 3) := by decide +kernel
theorem dX6_farthest_8 : decode cX6_farthest 8 = .ok (.ifCond .eq 12, 3) := by decide +kernel
theorem dX6_farthest_20 : decode cX6_farthest 20 = .ok (.iconst (-1), 1) := by decide +kernel
theorem dX6_farthest_21 : decode cX6_farthest 21 = .ok (.ireturn, 1) := by decide +kernel
theorem dX6_lacks_0 : decode cX6_lacks 0 = .ok (.aload_n 0, 1) := by decide +kernel
theorem dX6_lacks_1 : decode cX6_lacks 1 = .ok (.getfield 19, 3) := by decide +kernel
theorem dX6_lacks_4 : decode cX6_lacks 4 = .ok (.iload_n 1, 1) := by decide +kernel
theorem dX6_lacks_5 : decode cX6_lacks 5 = .ok (.invokevirtual 118, 3) := by decide +kernel
theorem dX6_lacks_8 : decode cX6_lacks 8 = .ok (.ifCond .eq 12, 3) := by decide +kernel
theorem dX6_lacks_20 : decode cX6_lacks 20 = .ok (.iconst (-1), 1) := by decide +kernel
theorem dX6_lacks_21 : decode cX6_lacks 21 = .ok (.ireturn, 1) := by decide +kernel
theorem dX6_unlike_0 : decode cX6_unlike 0 = .ok (.aload_n 0, 1) := by decide +kernel
theorem dX6_unlike_1 : decode cX6_unlike 1 = .ok (.getfield 19, 3) := by decide +kernel
theorem dX6_unlike_4 : decode cX6_unlike 4 = .ok (.iload_n 1, 1) := by decide +kernel
theorem dX6_unlike_5 : decode cX6_unlike 5 = .ok (.invokevirtual 258, 3) := by decide +kernel
theorem dX6_unlike_8 : decode cX6_unlike 8 = .ok (.ifCond .eq 19, 3) := by decide +kernel
theorem dX6_unlike_27 : decode cX6_unlike 27 = .ok (.iconst (-1), 1) := by decide +kernel
theorem dX6_unlike_28 : decode cX6_unlike 28 = .ok (.ireturn, 1) := by decide +kernel
theorem dX6_worn_0 : decode cX6_worn 0 = .ok (.aload_n 0, 1) := by decide +kernel
theorem dX6_worn_1 : decode cX6_worn 1 = .ok (.getfield 19, 3) := by decide +kernel
theorem dX6_worn_4 : decode cX6_worn 4 = .ok (.iload_n 1, 1) := by decide +kernel
theorem dX6_worn_5 : decode cX6_worn 5 = .ok (.invokevirtual 118, 3) := by decide +kernel
theorem dX6_worn_8 : decode cX6_worn 8 = .ok (.ifCond .eq 15, 3) := by decide +kernel
theorem dX6_worn_23 : decode cX6_worn 23 = .ok (.ldc2_w 234, 3) := by decide +kernel
theorem dX6_worn_26 : decode cX6_worn 26 = .ok (.lreturn, 1) := by decide +kernel
theorem dX6_which_0 : decode cX6_which 0 = .ok (.aload_n 0, 1) := by decide +kernel
theorem dX6_which_1 : decode cX6_which 1 = .ok (.getfield 19, 3) := by decide +kernel
theorem dX6_which_4 : decode cX6_which 4 = .ok (.invokevirtual 101, 3) := by decide +kernel
theorem dX6_which_7 : decode cX6_which 7 = .ok (.ifCond .eq 12, 3) := by decide +kernel
theorem dX6_which_19 : decode cX6_which 19 = .ok (.ldc2_w 234, 3) := by decide +kernel
theorem dX6_which_22 : decode cX6_which 22 = .ok (.lreturn, 1) := by decide +kernel
theorem dX6_often_0 : decode cX6_often 0 = .ok (.aload_n 0, 1) := by decide +kernel
theorem dX6_often_1 : decode cX6_often 1 = .ok (.getfield 19, 3) := by decide +kernel
theorem dX6_often_4 : decode cX6_often 4 = .ok (.iload_n 1, 1) := by decide +kernel
theorem dX6_often_5 : decode cX6_often 5 = .ok (.invokevirtual 236, 3) := by decide +kernel
theorem dX6_often_8 : decode cX6_often 8 = .ok (.ifCond .eq 19, 3) := by decide +kernel
theorem dX6_often_27 : decode cX6_often 27 = .ok (.iconst (-1), 1) := by decide +kernel
theorem dX6_often_28 : decode cX6_often 28 = .ok (.ireturn, 1) := by decide +kernel
theorem dX6_undo_0 : decode cX6_undo 0 = .ok (.aload_n 0, 1) := by decide +kernel
theorem dX6_undo_1 : decode cX6_undo 1 = .ok (.getfield 43, 3) := by decide +kernel
theorem dX6_undo_4 : decode cX6_undo 4 = .ok (.aload_n 0, 1) := by decide +kernel
theorem dX6_undo_5 : decode cX6_undo 5 = .ok (.getfield 19, 3) := by decide +kernel
theorem dX6_undo_8 : decode cX6_undo 8 = .ok (.invokevirtual 197, 3) := by decide +kernel
theorem dX6_undo_11 : decode cX6_undo 11 = .ok (.ifCond .eq 13, 3) := by decide +kernel
theorem dX6_undo_24 : decode cX6_undo 24 = .ok (.iconst (-1), 1) := by decide +kernel
theorem dX6_undo_25 : decode cX6_undo 25 = .ok (.ireturn, 1) := by decide +kernel
theorem dX6_digest_0 : decode cX6_digest 0 = .ok (.ldc2_w 373, 3) := by decide +kernel
theorem dX6_digest_3 : decode cX6_digest 3 = .ok (.lstore_n 1, 1) := by decide +kernel
theorem dX6_digest_4 : decode cX6_digest 4 = .ok (.iconst 0, 1) := by decide +kernel
theorem dX6_digest_5 : decode cX6_digest 5 = .ok (.istore_n 3, 1) := by decide +kernel
theorem dX6_digest_6 : decode cX6_digest 6 = .ok (.iload_n 3, 1) := by decide +kernel
theorem dX6_digest_7 : decode cX6_digest 7 = .ok (.aload_n 0, 1) := by decide +kernel
theorem dX6_digest_8 : decode cX6_digest 8 = .ok (.getfield 19, 3) := by decide +kernel
theorem dX6_digest_11 : decode cX6_digest 11 = .ok (.invokevirtual 207, 3) := by decide +kernel
theorem dX6_digest_14 : decode cX6_digest 14 = .ok (.if_icmp .ge 110, 3) := by decide +kernel
theorem dX6_digest_124 : decode cX6_digest 124 = .ok (.lload_n 1, 1) := by decide +kernel
theorem dX6_digest_125 : decode cX6_digest 125 = .ok (.lreturn, 1) := by decide +kernel
theorem dX6_end_0 : decode cX6_end 0 = .ok (.iload_n 1, 1) := by decide +kernel
theorem dX6_end_1 : decode cX6_end 1 = .ok (.ifCond .lt 14, 3) := by decide +kernel
theorem dX6_end_4 : decode cX6_end 4 = .ok (.iload_n 1, 1) := by decide +kernel
theorem dX6_end_5 : decode cX6_end 5 = .ok (.aload_n 0, 1) := by decide +kernel
theorem dX6_end_6 : decode cX6_end 6 = .ok (.getfield 10, 3) := by decide +kernel
theorem dX6_end_9 : decode cX6_end 9 = .ok (.getfield 51, 3) := by decide +kernel
theorem dX6_end_12 : decode cX6_end 12 = .ok (.if_icmp .le 5, 3) := by decide +kernel
theorem dX6_end_15 : decode cX6_end 15 = .ok (.iconst (-1), 1) := by decide +kernel
theorem dX6_end_16 : decode cX6_end 16 = .ok (.ireturn, 1) := by decide +kernel
theorem dX6_end_17 : decode cX6_end 17 = .ok (.aload_n 0, 1) := by decide +kernel
theorem dX6_end_18 : decode cX6_end 18 = .ok (.getfield 10, 3) := by decide +kernel
theorem dX6_end_21 : decode cX6_end 21 = .ok (.iload_n 1, 1) := by decide +kernel
theorem dX6_end_22 : decode cX6_end 22 = .ok (.putfield 51, 3) := by decide +kernel
theorem dX6_end_25 : decode cX6_end 25 = .ok (.iload_n 1, 1) := by decide +kernel
theorem dX6_end_26 : decode cX6_end 26 = .ok (.ireturn, 1) := by decide +kernel
theorem dX6_row_0 : decode cX6_row 0 = .ok (.aload_n 0, 1) := by decide +kernel
theorem dX6_row_1 : decode cX6_row 1 = .ok (.iload_n 1, 1) := by decide +kernel
theorem dX6_row_2 : decode cX6_row 2 = .ok (.invokevirtual 83, 3) := by decide +kernel
theorem dX6_row_5 : decode cX6_row 5 = .ok (.istore_n 2, 1) := by decide +kernel
theorem dX6_row_6 : decode cX6_row 6 = .ok (.iload_n 2, 1) := by decide +kernel
theorem dX6_row_7 : decode cX6_row 7 = .ok (.ifCond .ne 35, 3) := by decide +kernel
theorem dX6_row_42 : decode cX6_row 42 = .ok (.aload_n 0, 1) := by decide +kernel
theorem dX6_row_43 : decode cX6_row 43 = .ok (.getfield 10, 3) := by decide +kernel
theorem dX6_row_46 : decode cX6_row 46 = .ok (.iconst 0, 1) := by decide +kernel
theorem dX6_row_47 : decode cX6_row 47 = .ok (.putfield 51, 3) := by decide +kernel
theorem dX6_row_50 : decode cX6_row 50 = .ok (.iload_n 2, 1) := by decide +kernel
theorem dX6_row_51 : decode cX6_row 51 = .ok (.ireturn, 1) := by decide +kernel
theorem dX6_scroll_0 : decode cX6_scroll 0 = .ok (.aload_n 0, 1) := by decide +kernel
theorem dX6_scroll_1 : decode cX6_scroll 1 = .ok (.aload_n 0, 1) := by decide +kernel
theorem dX6_scroll_2 : decode cX6_scroll 2 = .ok (.getfield 19, 3) := by decide +kernel
theorem dX6_scroll_5 : decode cX6_scroll 5 = .ok (.getfield 94, 3) := by decide +kernel
theorem dX6_scroll_8 : decode cX6_scroll 8 = .ok (.iconst 1, 1) := by decide +kernel
theorem dX6_scroll_9 : decode cX6_scroll 9 = .ok (.isub, 1) := by decide +kernel
theorem dX6_scroll_10 : decode cX6_scroll 10 = .ok (.invokevirtual 83, 3) := by decide +kernel
theorem dX6_scroll_13 : decode cX6_scroll 13 = .ok (.istore_n 1, 1) := by decide +kernel
theorem dX6_scroll_14 : decode cX6_scroll 14 = .ok (.iload_n 1, 1) := by decide +kernel
theorem dX6_scroll_15 : decode cX6_scroll 15 = .ok (.ifCond .ne 34, 3) := by decide +kernel
theorem dX6_scroll_49 : decode cX6_scroll 49 = .ok (.aload_n 0, 1) := by decide +kernel
theorem dX6_scroll_50 : decode cX6_scroll 50 = .ok (.getfield 10, 3) := by decide +kernel
theorem dX6_scroll_53 : decode cX6_scroll 53 = .ok (.iconst 0, 1) := by decide +kernel
theorem dX6_scroll_54 : decode cX6_scroll 54 = .ok (.putfield 51, 3) := by decide +kernel
theorem dX6_scroll_57 : decode cX6_scroll 57 = .ok (.iload_n 1, 1) := by decide +kernel
theorem dX6_scroll_58 : decode cX6_scroll 58 = .ok (.ireturn, 1) := by decide +kernel
theorem dX6_whyNotProgram_0 : decode cX6_whyNotProgram 0 = .ok (.aload_n 0, 1) := by decide +kernel
theorem dX6_whyNotProgram_1 : decode cX6_whyNotProgram 1 = .ok (.getfield 19, 3) := by decide +kernel
theorem dX6_whyNotProgram_4 : decode cX6_whyNotProgram 4 = .ok (.invokevirtual 101, 3) := by decide +kernel
theorem dX6_whyNotProgram_7 : decode cX6_whyNotProgram 7 = .ok (.ifCond .ne 5, 3) := by decide +kernel
theorem dX6_whyNotProgram_10 : decode cX6_whyNotProgram 10 = .ok (.iconst (-1), 1) := by decide +kernel
theorem dX6_whyNotProgram_11 : decode cX6_whyNotProgram 11 = .ok (.ireturn, 1) := by decide +kernel
theorem dX6_run_0 : decode cX6_run 0 = .ok (.aload_n 0, 1) := by decide +kernel
theorem dX6_run_1 : decode cX6_run 1 = .ok (.invokevirtual 156, 3) := by decide +kernel
theorem dX6_run_4 : decode cX6_run 4 = .ok (.istore_n 1, 1) := by decide +kernel
theorem dX6_run_5 : decode cX6_run 5 = .ok (.iload_n 1, 1) := by decide +kernel
theorem dX6_run_6 : decode cX6_run 6 = .ok (.ifCond .ne 19, 3) := by decide +kernel
theorem dX6_run_25 : decode cX6_run 25 = .ok (.aload_n 0, 1) := by decide +kernel
theorem dX6_run_26 : decode cX6_run 26 = .ok (.getfield 10, 3) := by decide +kernel
theorem dX6_run_29 : decode cX6_run 29 = .ok (.iconst 0, 1) := by decide +kernel
theorem dX6_run_30 : decode cX6_run 30 = .ok (.putfield 51, 3) := by decide +kernel
theorem dX6_run_33 : decode cX6_run 33 = .ok (.iload_n 1, 1) := by decide +kernel
theorem dX6_run_34 : decode cX6_run 34 = .ok (.ireturn, 1) := by decide +kernel
theorem dX6_back_0 : decode cX6_back 0 = .ok (.iload_n 1, 1) := by decide +kernel
theorem dX6_back_1 : decode cX6_back 1 = .ok (.invokestatic 201, 3) := by decide +kernel
theorem dX6_back_4 : decode cX6_back 4 = .ok (.ifCond .ne 5, 3) := by decide +kernel
theorem dX6_back_7 : decode cX6_back 7 = .ok (.iconst (-1), 1) := by decide +kernel
theorem dX6_back_8 : decode cX6_back 8 = .ok (.ireturn, 1) := by decide +kernel
theorem dX6_back_9 : decode cX6_back 9 = .ok (.aload_n 0, 1) := by decide +kernel
theorem dX6_back_10 : decode cX6_back 10 = .ok (.getfield 47, 3) := by decide +kernel
theorem dX6_back_13 : decode cX6_back 13 = .ok (.iload_n 1, 1) := by decide +kernel
theorem dX6_back_14 : decode cX6_back 14 = .ok (.aaload, 1) := by decide +kernel
theorem dX6_back_15 : decode cX6_back 15 = .ok (.astore_n 2, 1) := by decide +kernel
theorem dX6_back_16 : decode cX6_back 16 = .ok (.aload_n 2, 1) := by decide +kernel
theorem dX6_back_17 : decode cX6_back 17 = .ok (.ifnonnull 6, 3) := by decide +kernel
theorem dX6_back_20 : decode cX6_back 20 = .ok (.bipush (-2), 2) := by decide +kernel
theorem dX6_back_22 : decode cX6_back 22 = .ok (.ireturn, 1) := by decide +kernel
theorem dX6_letter_0 : decode cX6_letter 0 = .ok (.iload_n 1, 1) := by decide +kernel
theorem dX6_letter_1 : decode cX6_letter 1 = .ok (.ifCond .lt 13, 3) := by decide +kernel
theorem dX6_letter_4 : decode cX6_letter 4 = .ok (.iload_n 1, 1) := by decide +kernel
theorem dX6_letter_5 : decode cX6_letter 5 = .ok (.iconst 1, 1) := by decide +kernel
theorem dX6_letter_6 : decode cX6_letter 6 = .ok (.if_icmp .gt 8, 3) := by decide +kernel
theorem dX6_letter_9 : decode cX6_letter 9 = .ok (.iload_n 2, 1) := by decide +kernel
theorem dX6_letter_10 : decode cX6_letter 10 = .ok (.iconst (-1), 1) := by decide +kernel
theorem dX6_letter_11 : decode cX6_letter 11 = .ok (.if_icmp .ge 5, 3) := by decide +kernel
theorem dX6_letter_14 : decode cX6_letter 14 = .ok (.iconst (-1), 1) := by decide +kernel
theorem dX6_letter_15 : decode cX6_letter 15 = .ok (.ireturn, 1) := by decide +kernel
theorem dX6_letter_16 : decode cX6_letter 16 = .ok (.aload_n 0, 1) := by decide +kernel
theorem dX6_letter_17 : decode cX6_letter 17 = .ok (.getfield 19, 3) := by decide +kernel
theorem dX6_letter_20 : decode cX6_letter 20 = .ok (.invokevirtual 101, 3) := by decide +kernel
theorem dX6_letter_23 : decode cX6_letter 23 = .ok (.ifCond .eq 23, 3) := by decide +kernel
theorem dX6_letter_46 : decode cX6_letter 46 = .ok (.iconst 0, 1) := by decide +kernel
theorem dX6_letter_47 : decode cX6_letter 47 = .ok (.istore_n 3, 1) := by decide +kernel
theorem dX6_letter_48 : decode cX6_letter 48 = .ok (.iload_n 2, 1) := by decide +kernel
theorem dX6_letter_49 : decode cX6_letter 49 = .ok (.iconst (-1), 1) := by decide +kernel
theorem dX6_letter_50 : decode cX6_letter 50 = .ok (.if_icmp .ne 5, 3) := by decide +kernel
theorem dX6_letter_53 : decode cX6_letter 53 = .ok (.iload_n 3, 1) := by decide +kernel
theorem dX6_letter_54 : decode cX6_letter 54 = .ok (.ireturn, 1) := by decide +kernel
theorem dX6_letter_55 : decode cX6_letter 55 = .ok (.iload_n 2, 1) := by decide +kernel
theorem dX6_letter_56 : decode cX6_letter 56 = .ok (.iload_n 3, 1) := by decide +kernel
theorem dX6_letter_57 : decode cX6_letter 57 = .ok (.if_icmp .lt 6, 3) := by decide +kernel
theorem dX6_letter_60 : decode cX6_letter 60 = .ok (.bipush (-2), 2) := by decide +kernel
theorem dX6_letter_62 : decode cX6_letter 62 = .ok (.ireturn, 1) := by decide +kernel
theorem dX6_feed_0 : decode cX6_feed 0 = .ok (.aload_n 0, 1) := by decide +kernel
theorem dX6_feed_1 : decode cX6_feed 1 = .ok (.getfield 10, 3) := by decide +kernel
theorem dX6_feed_4 : decode cX6_feed 4 = .ok (.getfield 51, 3) := by decide +kernel
theorem dX6_feed_7 : decode cX6_feed 7 = .ok (.bipush 20, 2) := by decide +kernel
theorem dX6_feed_9 : decode cX6_feed 9 = .ok (.iadd, 1) := by decide +kernel
theorem dX6_feed_10 : decode cX6_feed 10 = .ok (.sipush 400, 3) := by decide +kernel
theorem dX6_feed_13 : decode cX6_feed 13 = .ok (.if_icmp .le 5, 3) := by decide +kernel
theorem dX6_feed_18 : decode cX6_feed 18 = .ok (.aload_n 0, 1) := by decide +kernel
theorem dX6_feed_19 : decode cX6_feed 19 = .ok (.getfield 10, 3) := by decide +kernel
theorem dX6_feed_22 : decode cX6_feed 22 = .ok (.iload_n 1, 1) := by decide +kernel
theorem dX6_feed_23 : decode cX6_feed 23 = .ok (.invokevirtual 55, 3) := by decide +kernel
theorem dX6_feed_26 : decode cX6_feed 26 = .ok (.aload_n 0, 1) := by decide +kernel
theorem dX6_feed_27 : decode cX6_feed 27 = .ok (.getfield 10, 3) := by decide +kernel
theorem dX6_feed_30 : decode cX6_feed 30 = .ok (.iload_n 2, 1) := by decide +kernel
theorem dX6_feed_31 : decode cX6_feed 31 = .ok (.invokevirtual 55, 3) := by decide +kernel
theorem dX6_feed_34 : decode cX6_feed 34 = .ok (.aload_n 0, 1) := by decide +kernel
theorem dX6_feed_35 : decode cX6_feed 35 = .ok (.getfield 10, 3) := by decide +kernel
theorem dX6_feed_38 : decode cX6_feed 38 = .ok (.iload_n 3, 1) := by decide +kernel
theorem dX6_feed_39 : decode cX6_feed 39 = .ok (.invokevirtual 55, 3) := by decide +kernel
theorem dX6_feed_42 : decode cX6_feed 42 = .ok (.aload_n 0, 1) := by decide +kernel
theorem dX6_feed_43 : decode cX6_feed 43 = .ok (.getfield 10, 3) := by decide +kernel
theorem dX6_feed_46 : decode cX6_feed 46 = .ok (.iload 4, 2) := by decide +kernel
theorem dX6_feed_48 : decode cX6_feed 48 = .ok (.invokevirtual 55, 3) := by decide +kernel
theorem dX6_feed_51 : decode cX6_feed 51 = .ok (.aload_n 0, 1) := by decide +kernel
theorem dX6_feed_52 : decode cX6_feed 52 = .ok (.getfield 10, 3) := by decide +kernel
theorem dX6_feed_55 : decode cX6_feed 55 = .ok (.iload 5, 2) := by decide +kernel
theorem dX6_feed_57 : decode cX6_feed 57 = .ok (.invokevirtual 55, 3) := by decide +kernel
theorem dX6_feed_60 : decode cX6_feed 60 = .ok (.aload_n 0, 1) := by decide +kernel
theorem dX6_feed_61 : decode cX6_feed 61 = .ok (.getfield 10, 3) := by decide +kernel
theorem dX6_feed_64 : decode cX6_feed 64 = .ok (.getfield 51, 3) := by decide +kernel
theorem dX6_feed_67 : decode cX6_feed 67 = .ok (.ireturn, 1) := by decide +kernel
theorem dX6_count_0 : decode cX6_count 0 = .ok (.iload_n 1, 1) := by decide +kernel
theorem dX6_count_1 : decode cX6_count 1 = .ok (.tableswitch 131 0 8 #[51, 59, 67, 75, 83, 91, 99, 107, 112], 51) := by decide +kernel
theorem dX6_count_52 : decode cX6_count 52 = .ok (.aload_n 0, 1) := by decide +kernel
theorem dX6_count_53 : decode cX6_count 53 = .ok (.getfield 19, 3) := by decide +kernel
theorem dX6_count_56 : decode cX6_count 56 = .ok (.getfield 94, 3) := by decide +kernel
theorem dX6_count_59 : decode cX6_count 59 = .ok (.ireturn, 1) := by decide +kernel
theorem dX6_count_60 : decode cX6_count 60 = .ok (.aload_n 0, 1) := by decide +kernel
theorem dX6_count_61 : decode cX6_count 61 = .ok (.getfield 19, 3) := by decide +kernel
theorem dX6_count_64 : decode cX6_count 64 = .ok (.getfield 261, 3) := by decide +kernel
theorem dX6_count_67 : decode cX6_count 67 = .ok (.ireturn, 1) := by decide +kernel
theorem dX6_count_68 : decode cX6_count 68 = .ok (.aload_n 0, 1) := by decide +kernel
theorem dX6_count_69 : decode cX6_count 69 = .ok (.getfield 19, 3) := by decide +kernel
theorem dX6_count_72 : decode cX6_count 72 = .ok (.invokevirtual 207, 3) := by decide +kernel
theorem dX6_count_75 : decode cX6_count 75 = .ok (.ireturn, 1) := by decide +kernel
theorem dX6_count_76 : decode cX6_count 76 = .ok (.aload_n 0, 1) := by decide +kernel
theorem dX6_count_77 : decode cX6_count 77 = .ok (.getfield 19, 3) := by decide +kernel
theorem dX6_count_80 : decode cX6_count 80 = .ok (.getfield 146, 3) := by decide +kernel
theorem dX6_count_83 : decode cX6_count 83 = .ok (.ireturn, 1) := by decide +kernel
theorem dX6_count_84 : decode cX6_count 84 = .ok (.aload_n 0, 1) := by decide +kernel
theorem dX6_count_85 : decode cX6_count 85 = .ok (.getfield 19, 3) := by decide +kernel
theorem dX6_count_88 : decode cX6_count 88 = .ok (.getfield 80, 3) := by decide +kernel
theorem dX6_count_91 : decode cX6_count 91 = .ok (.ireturn, 1) := by decide +kernel
theorem dX6_count_92 : decode cX6_count 92 = .ok (.aload_n 0, 1) := by decide +kernel
theorem dX6_count_93 : decode cX6_count 93 = .ok (.getfield 43, 3) := by decide +kernel
theorem dX6_count_96 : decode cX6_count 96 = .ok (.getfield 79, 3) := by decide +kernel
theorem dX6_count_99 : decode cX6_count 99 = .ok (.ireturn, 1) := by decide +kernel
theorem dX6_count_100 : decode cX6_count 100 = .ok (.aload_n 0, 1) := by decide +kernel
theorem dX6_count_101 : decode cX6_count 101 = .ok (.getfield 10, 3) := by decide +kernel
theorem dX6_count_104 : decode cX6_count 104 = .ok (.getfield 51, 3) := by decide +kernel
theorem dX6_count_107 : decode cX6_count 107 = .ok (.ireturn, 1) := by decide +kernel
theorem dX6_count_108 : decode cX6_count 108 = .ok (.aload_n 0, 1) := by decide +kernel
theorem dX6_count_109 : decode cX6_count 109 = .ok (.invokevirtual 377, 3) := by decide +kernel
theorem dX6_count_112 : decode cX6_count 112 = .ok (.ireturn, 1) := by decide +kernel
theorem dX6_count_113 : decode cX6_count 113 = .ok (.aload_n 0, 1) := by decide +kernel
theorem dX6_count_114 : decode cX6_count 114 = .ok (.getfield 29, 3) := by decide +kernel
theorem dX6_count_117 : decode cX6_count 117 = .ok (.aload_n 0, 1) := by decide +kernel
theorem dX6_count_118 : decode cX6_count 118 = .ok (.getfield 19, 3) := by decide +kernel
theorem dX6_count_121 : decode cX6_count 121 = .ok (.invokevirtual 111, 3) := by decide +kernel
theorem dX6_count_124 : decode cX6_count 124 = .ok (.aload_n 0, 1) := by decide +kernel
theorem dX6_count_125 : decode cX6_count 125 = .ok (.getfield 29, 3) := by decide +kernel
theorem dX6_count_128 : decode cX6_count 128 = .ok (.getfield 114, 3) := by decide +kernel
theorem dX6_count_131 : decode cX6_count 131 = .ok (.ireturn, 1) := by decide +kernel
theorem dX6_count_132 : decode cX6_count 132 = .ok (.iconst (-1), 1) := by decide +kernel
theorem dX6_count_133 : decode cX6_count 133 = .ok (.ireturn, 1) := by decide +kernel
