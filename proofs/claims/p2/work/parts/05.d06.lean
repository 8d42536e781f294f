theorem dX7_limit_22 : decode cX7_limit 22 = .ok (.getfield 7, 3) := by decide +kernel
theorem dX7_limit_25 : decode cX7_limit 25 = .ok (.iconst 2, 1) := by decide +kernel
theorem dX7_limit_26 : decode cX7_limit 26 = .ok (.laload, 1) := by decide +kernel
theorem dX7_limit_27 : decode cX7_limit 27 = .ok (.l2i, 1) := by decide +kernel
theorem dX7_limit_28 : decode cX7_limit 28 = .ok (.istore_n 2, 1) := by decide +kernel
theorem dX7_limit_29 : decode cX7_limit 29 = .ok (.iload_n 2, 1) := by decide +kernel
theorem dX7_limit_30 : decode cX7_limit 30 = .ok (.iload_n 1, 1) := by decide +kernel
theorem dX7_limit_31 : decode cX7_limit 31 = .ok (.if_icmp .ne 6, 3) := by decide +kernel
theorem dX7_limit_34 : decode cX7_limit 34 = .ok (.bipush (-2), 2) := by decide +kernel
theorem dX7_limit_36 : decode cX7_limit 36 = .ok (.ireturn, 1) := by decide +kernel
theorem dX7_limit_37 : decode cX7_limit 37 = .ok (.aload_n 0, 1) := by decide +kernel
theorem dX7_limit_38 : decode cX7_limit 38 = .ok (.invokevirtual 144, 3) := by decide +kernel
theorem dX7_limit_41 : decode cX7_limit 41 = .ok (.aload_n 0, 1) := by decide +kernel
theorem dX7_limit_42 : decode cX7_limit 42 = .ok (.getfield 7, 3) := by decide +kernel
theorem dX7_limit_45 : decode cX7_limit 45 = .ok (.iconst 2, 1) := by decide +kernel
theorem dX7_limit_46 : decode cX7_limit 46 = .ok (.iload_n 1, 1) := by decide +kernel
theorem dX7_limit_47 : decode cX7_limit 47 = .ok (.i2l, 1) := by decide +kernel
theorem dX7_limit_48 : decode cX7_limit 48 = .ok (.lastore, 1) := by decide +kernel
theorem dX7_limit_49 : decode cX7_limit 49 = .ok (.iload_n 2, 1) := by decide +kernel
theorem dX7_limit_50 : decode cX7_limit 50 = .ok (.ireturn, 1) := by decide +kernel
theorem dX7_exchange_0 : decode cX7_exchange 0 = .ok (.aload_n 0, 1) := by decide +kernel
theorem dX7_exchange_1 : decode cX7_exchange 1 = .ok (.iload_n 1, 1) := by decide +kernel
theorem dX7_exchange_2 : decode cX7_exchange 2 = .ok (.invokevirtual 180, 3) := by decide +kernel
theorem dX7_exchange_5 : decode cX7_exchange 5 = .ok (.ifCond .eq 42, 3) := by decide +kernel
theorem dX7_exchange_8 : decode cX7_exchange 8 = .ok (.iload_n 2, 1) := by decide +kernel
theorem dX7_exchange_9 : decode cX7_exchange 9 = .ok (.i2l, 1) := by decide +kernel
theorem dX7_exchange_10 : decode cX7_exchange 10 = .ok (.lconst 1, 1) := by decide +kernel
theorem dX7_exchange_11 : decode cX7_exchange 11 = .ok (.aload_n 0, 1) := by decide +kernel
theorem dX7_exchange_12 : decode cX7_exchange 12 = .ok (.iload_n 1, 1) := by decide +kernel
theorem dX7_exchange_13 : decode cX7_exchange 13 = .ok (.invokevirtual 60, 3) := by decide +kernel
theorem dX7_exchange_16 : decode cX7_exchange 16 = .ok (.iconst 1, 1) := by decide +kernel
theorem dX7_exchange_17 : decode cX7_exchange 17 = .ok (.isub, 1) := by decide +kernel
theorem dX7_exchange_18 : decode cX7_exchange 18 = .ok (.i2l, 1) := by decide +kernel
theorem dX7_exchange_19 : decode cX7_exchange 19 = .ok (.invokestatic 39, 3) := by decide +kernel
theorem dX7_exchange_22 : decode cX7_exchange 22 = .ok (.ifCond .eq 25, 3) := by decide +kernel
theorem dX7_exchange_25 : decode cX7_exchange 25 = .ok (.iload_n 3, 1) := by decide +kernel
theorem dX7_exchange_26 : decode cX7_exchange 26 = .ok (.i2l, 1) := by decide +kernel
theorem dX7_exchange_27 : decode cX7_exchange 27 = .ok (.lconst 1, 1) := by decide +kernel
theorem dX7_exchange_28 : decode cX7_exchange 28 = .ok (.aload_n 0, 1) := by decide +kernel
theorem dX7_exchange_29 : decode cX7_exchange 29 = .ok (.iload_n 1, 1) := by decide +kernel
theorem dX7_exchange_30 : decode cX7_exchange 30 = .ok (.invokevirtual 60, 3) := by decide +kernel
theorem dX7_exchange_33 : decode cX7_exchange 33 = .ok (.iconst 1, 1) := by decide +kernel
theorem dX7_exchange_34 : decode cX7_exchange 34 = .ok (.isub, 1) := by decide +kernel
theorem dX7_exchange_35 : decode cX7_exchange 35 = .ok (.i2l, 1) := by decide +kernel
theorem dX7_exchange_36 : decode cX7_exchange 36 = .ok (.invokestatic 39, 3) := by decide +kernel
theorem dX7_exchange_39 : decode cX7_exchange 39 = .ok (.ifCond .eq 8, 3) := by decide +kernel
theorem dX7_exchange_42 : decode cX7_exchange 42 = .ok (.iload_n 2, 1) := by decide +kernel
theorem dX7_exchange_43 : decode cX7_exchange 43 = .ok (.iload_n 3, 1) := by decide +kernel
theorem dX7_exchange_44 : decode cX7_exchange 44 = .ok (.if_icmp .ne 5, 3) := by decide +kernel
theorem dX7_exchange_47 : decode cX7_exchange 47 = .ok (.iconst (-1), 1) := by decide +kernel
theorem dX7_exchange_48 : decode cX7_exchange 48 = .ok (.ireturn, 1) := by decide +kernel
theorem dX7_exchange_49 : decode cX7_exchange 49 = .ok (.aload_n 0, 1) := by decide +kernel
theorem dX7_exchange_50 : decode cX7_exchange 50 = .ok (.invokevirtual 144, 3) := by decide +kernel
theorem dX7_exchange_53 : decode cX7_exchange 53 = .ok (.bipush 8, 2) := by decide +kernel
theorem dX7_exchange_55 : decode cX7_exchange 55 = .ok (.bipush 42, 2) := by decide +kernel
theorem dX7_exchange_57 : decode cX7_exchange 57 = .ok (.iload_n 1, 1) := by decide +kernel
theorem dX7_exchange_58 : decode cX7_exchange 58 = .ok (.imul, 1) := by decide +kernel
theorem dX7_exchange_59 : decode cX7_exchange 59 = .ok (.iadd, 1) := by decide +kernel
theorem dX7_exchange_60 : decode cX7_exchange 60 = .ok (.iconst 2, 1) := by decide +kernel
theorem dX7_exchange_61 : decode cX7_exchange 61 = .ok (.iadd, 1) := by decide +kernel
theorem dX7_exchange_62 : decode cX7_exchange 62 = .ok (.istore 4, 2) := by decide +kernel
theorem dX7_exchange_64 : decode cX7_exchange 64 = .ok (.aload_n 0, 1) := by decide +kernel
theorem dX7_exchange_65 : decode cX7_exchange 65 = .ok (.getfield 7, 3) := by decide +kernel
theorem dX7_exchange_68 : decode cX7_exchange 68 = .ok (.iload 4, 2) := by decide +kernel
theorem dX7_exchange_70 : decode cX7_exchange 70 = .ok (.iload_n 2, 1) := by decide +kernel
theorem dX7_exchange_71 : decode cX7_exchange 71 = .ok (.iadd, 1) := by decide +kernel
theorem dX7_exchange_72 : decode cX7_exchange 72 = .ok (.laload, 1) := by decide +kernel
theorem dX7_exchange_73 : decode cX7_exchange 73 = .ok (.lstore 5, 2) := by decide +kernel
theorem dX7_exchange_75 : decode cX7_exchange 75 = .ok (.aload_n 0, 1) := by decide +kernel
theorem dX7_exchange_76 : decode cX7_exchange 76 = .ok (.getfield 7, 3) := by decide +kernel
theorem dX7_exchange_79 : decode cX7_exchange 79 = .ok (.iload 4, 2) := by decide +kernel
theorem dX7_exchange_81 : decode cX7_exchange 81 = .ok (.iload_n 2, 1) := by decide +kernel
theorem dX7_exchange_82 : decode cX7_exchange 82 = .ok (.iadd, 1) := by decide +kernel
theorem dX7_exchange_83 : decode cX7_exchange 83 = .ok (.aload_n 0, 1) := by decide +kernel
theorem dX7_exchange_84 : decode cX7_exchange 84 = .ok (.getfield 7, 3) := by decide +kernel
theorem dX7_exchange_87 : decode cX7_exchange 87 = .ok (.iload 4, 2) := by decide +kernel
theorem dX7_exchange_89 : decode cX7_exchange 89 = .ok (.iload_n 3, 1) := by decide +kernel
theorem dX7_exchange_90 : decode cX7_exchange 90 = .ok (.iadd, 1) := by decide +kernel
theorem dX7_exchange_91 : decode cX7_exchange 91 = .ok (.laload, 1) := by decide +kernel
theorem dX7_exchange_92 : decode cX7_exchange 92 = .ok (.lastore, 1) := by decide +kernel
theorem dX7_exchange_93 : decode cX7_exchange 93 = .ok (.aload_n 0, 1) := by decide +kernel
theorem dX7_exchange_94 : decode cX7_exchange 94 = .ok (.getfield 7, 3) := by decide +kernel
theorem dX7_exchange_97 : decode cX7_exchange 97 = .ok (.iload 4, 2) := by decide +kernel
theorem dX7_exchange_99 : decode cX7_exchange 99 = .ok (.iload_n 3, 1) := by decide +kernel
theorem dX7_exchange_100 : decode cX7_exchange 100 = .ok (.iadd, 1) := by decide +kernel
theorem dX7_exchange_101 : decode cX7_exchange 101 = .ok (.lload 5, 2) := by decide +kernel
theorem dX7_exchange_103 : decode cX7_exchange 103 = .ok (.lastore, 1) := by decide +kernel
theorem dX7_exchange_104 : decode cX7_exchange 104 = .ok (.sipush 496, 3) := by decide +kernel
theorem dX7_exchange_107 : decode cX7_exchange 107 = .ok (.istore 7, 2) := by decide +kernel
theorem dX7_exchange_109 : decode cX7_exchange 109 = .ok (.iload 7, 2) := by decide +kernel
theorem dX7_exchange_111 : decode cX7_exchange 111 = .ok (.sipush 6896, 3) := by decide +kernel
theorem dX7_exchange_114 : decode cX7_exchange 114 = .ok (.if_icmp .ge 17, 3) := by decide +kernel
theorem dX7_exchange_117 : decode cX7_exchange 117 = .ok (.aload_n 0, 1) := by decide +kernel
theorem dX7_exchange_118 : decode cX7_exchange 118 = .ok (.getfield 7, 3) := by decide +kernel
theorem dX7_exchange_121 : decode cX7_exchange 121 = .ok (.iload 7, 2) := by decide +kernel
theorem dX7_exchange_123 : decode cX7_exchange 123 = .ok (.lconst 0, 1) := by decide +kernel
theorem dX7_exchange_124 : decode cX7_exchange 124 = .ok (.lastore, 1) := by decide +kernel
theorem dX7_exchange_125 : decode cX7_exchange 125 = .ok (.iinc 7 1, 3) := by decide +kernel
theorem dX7_exchange_128 : decode cX7_exchange 128 = .ok (.goto (-19), 3) := by decide +kernel
theorem dX7_exchange_131 : decode cX7_exchange 131 = .ok (.iconst 1, 1) := by decide +kernel
theorem dX7_exchange_132 : decode cX7_exchange 132 = .ok (.ireturn, 1) := by decide +kernel
theorem dX7_undo_0 : decode cX7_undo 0 = .ok (.aload_n 0, 1) := by decide +kernel
theorem dX7_undo_1 : decode cX7_undo 1 = .ok (.getfield 124, 3) := by decide +kernel
theorem dX7_undo_4 : decode cX7_undo 4 = .ok (.ifCond .ne 5, 3) := by decide +kernel
theorem dX7_undo_7 : decode cX7_undo 7 = .ok (.iconst (-1), 1) := by decide +kernel
theorem dX7_undo_8 : decode cX7_undo 8 = .ok (.ireturn, 1) := by decide +kernel
theorem dX7_undo_9 : decode cX7_undo 9 = .ok (.aload_n 0, 1) := by decide +kernel
theorem dX7_undo_10 : decode cX7_undo 10 = .ok (.dup, 1) := by decide +kernel
theorem dX7_undo_11 : decode cX7_undo 11 = .ok (.getfield 124, 3) := by decide +kernel
theorem dX7_undo_14 : decode cX7_undo 14 = .ok (.iconst 1, 1) := by decide +kernel
theorem dX7_undo_15 : decode cX7_undo 15 = .ok (.isub, 1) := by decide +kernel
theorem dX7_undo_16 : decode cX7_undo 16 = .ok (.putfield 124, 3) := by decide +kernel
theorem dX7_undo_19 : decode cX7_undo 19 = .ok (.iconst 0, 1) := by decide +kernel
theorem dX7_undo_20 : decode cX7_undo 20 = .ok (.istore_n 1, 1) := by decide +kernel
theorem dX7_undo_21 : decode cX7_undo 21 = .ok (.iload_n 1, 1) := by decide +kernel
theorem dX7_undo_22 : decode cX7_undo 22 = .ok (.sipush 6896, 3) := by decide +kernel
theorem dX7_undo_25 : decode cX7_undo 25 = .ok (.if_icmp .ge 30, 3) := by decide +kernel
theorem dX7_undo_28 : decode cX7_undo 28 = .ok (.aload_n 0, 1) := by decide +kernel
theorem dX7_undo_29 : decode cX7_undo 29 = .ok (.getfield 7, 3) := by decide +kernel
theorem dX7_undo_32 : decode cX7_undo 32 = .ok (.iload_n 1, 1) := by decide +kernel
theorem dX7_undo_33 : decode cX7_undo 33 = .ok (.aload_n 0, 1) := by decide +kernel
theorem dX7_undo_34 : decode cX7_undo 34 = .ok (.getfield 14, 3) := by decide +kernel
theorem dX7_undo_37 : decode cX7_undo 37 = .ok (.sipush 6896, 3) := by decide +kernel
theorem dX7_undo_40 : decode cX7_undo 40 = .ok (.aload_n 0, 1) := by decide +kernel
theorem dX7_undo_41 : decode cX7_undo 41 = .ok (.getfield 124, 3) := by decide +kernel
theorem dX7_undo_44 : decode cX7_undo 44 = .ok (.imul, 1) := by decide +kernel
theorem dX7_undo_45 : decode cX7_undo 45 = .ok (.iload_n 1, 1) := by decide +kernel
theorem dX7_undo_46 : decode cX7_undo 46 = .ok (.iadd, 1) := by decide +kernel
theorem dX7_undo_47 : decode cX7_undo 47 = .ok (.laload, 1) := by decide +kernel
theorem dX7_undo_48 : decode cX7_undo 48 = .ok (.lastore, 1) := by decide +kernel
theorem dX7_undo_49 : decode cX7_undo 49 = .ok (.iinc 1 1, 3) := by decide +kernel
theorem dX7_undo_52 : decode cX7_undo 52 = .ok (.goto (-31), 3) := by decide +kernel
theorem dX7_undo_55 : decode cX7_undo 55 = .ok (.aload_n 0, 1) := by decide +kernel
theorem dX7_undo_56 : decode cX7_undo 56 = .ok (.getfield 124, 3) := by decide +kernel
theorem dX7_undo_59 : decode cX7_undo 59 = .ok (.ireturn, 1) := by decide +kernel
theorem dX7_keep_0 : decode cX7_keep 0 = .ok (.iload_n 1, 1) := by decide +kernel
theorem dX7_keep_1 : decode cX7_keep 1 = .ok (.i2l, 1) := by decide +kernel
theorem dX7_keep_2 : decode cX7_keep 2 = .ok (.lconst 0, 1) := by decide +kernel
theorem dX7_keep_3 : decode cX7_keep 3 = .ok (.lconst 1, 1) := by decide +kernel
theorem dX7_keep_4 : decode cX7_keep 4 = .ok (.invokestatic 39, 3) := by decide +kernel
theorem dX7_keep_7 : decode cX7_keep 7 = .ok (.ifCond .ne 5, 3) := by decide +kernel
theorem dX7_keep_10 : decode cX7_keep 10 = .ok (.iconst (-1), 1) := by decide +kernel
theorem dX7_keep_11 : decode cX7_keep 11 = .ok (.ireturn, 1) := by decide +kernel
theorem dX7_keep_12 : decode cX7_keep 12 = .ok (.iconst 0, 1) := by decide +kernel
theorem dX7_keep_13 : decode cX7_keep 13 = .ok (.istore_n 2, 1) := by decide +kernel
theorem dX7_keep_14 : decode cX7_keep 14 = .ok (.iload_n 2, 1) := by decide +kernel
theorem dX7_keep_15 : decode cX7_keep 15 = .ok (.sipush 6896, 3) := by decide +kernel
theorem dX7_keep_18 : decode cX7_keep 18 = .ok (.if_icmp .ge 27, 3) := by decide +kernel
theorem dX7_keep_21 : decode cX7_keep 21 = .ok (.aload_n 0, 1) := by decide +kernel
theorem dX7_keep_22 : decode cX7_keep 22 = .ok (.getfield 17, 3) := by decide +kernel
theorem dX7_keep_25 : decode cX7_keep 25 = .ok (.sipush 6896, 3) := by decide +kernel
theorem dX7_keep_28 : decode cX7_keep 28 = .ok (.iload_n 1, 1) := by decide +kernel
theorem dX7_keep_29 : decode cX7_keep 29 = .ok (.imul, 1) := by decide +kernel
theorem dX7_keep_30 : decode cX7_keep 30 = .ok (.iload_n 2, 1) := by decide +kernel
theorem dX7_keep_31 : decode cX7_keep 31 = .ok (.iadd, 1) := by decide +kernel
theorem dX7_keep_32 : decode cX7_keep 32 = .ok (.aload_n 0, 1) := by decide +kernel
theorem dX7_keep_33 : decode cX7_keep 33 = .ok (.getfield 7, 3) := by decide +kernel
theorem dX7_keep_36 : decode cX7_keep 36 = .ok (.iload_n 2, 1) := by decide +kernel
theorem dX7_keep_37 : decode cX7_keep 37 = .ok (.laload, 1) := by decide +kernel
theorem dX7_keep_38 : decode cX7_keep 38 = .ok (.lastore, 1) := by decide +kernel
theorem dX7_keep_39 : decode cX7_keep 39 = .ok (.iinc 2 1, 3) := by decide +kernel
theorem dX7_keep_42 : decode cX7_keep 42 = .ok (.goto (-28), 3) := by decide +kernel
theorem dX7_keep_45 : decode cX7_keep 45 = .ok (.aload_n 0, 1) := by decide +kernel
theorem dX7_keep_46 : decode cX7_keep 46 = .ok (.getfield 20, 3) := by decide +kernel
theorem dX7_keep_49 : decode cX7_keep 49 = .ok (.iload_n 1, 1) := by decide +kernel
theorem dX7_keep_50 : decode cX7_keep 50 = .ok (.iconst 1, 1) := by decide +kernel
theorem dX7_keep_51 : decode cX7_keep 51 = .ok (.bastore, 1) := by decide +kernel
theorem dX7_keep_52 : decode cX7_keep 52 = .ok (.aload_n 0, 1) := by decide +kernel
theorem dX7_keep_53 : decode cX7_keep 53 = .ok (.invokevirtual 53, 3) := by decide +kernel
theorem dX7_keep_56 : decode cX7_keep 56 = .ok (.ireturn, 1) := by decide +kernel
theorem dX7_back_0 : decode cX7_back 0 = .ok (.iload_n 1, 1) := by decide +kernel
theorem dX7_back_1 : decode cX7_back 1 = .ok (.i2l, 1) := by decide +kernel
theorem dX7_back_2 : decode cX7_back 2 = .ok (.lconst 0, 1) := by decide +kernel
theorem dX7_back_3 : decode cX7_back 3 = .ok (.lconst 1, 1) := by decide +kernel
theorem dX7_back_4 : decode cX7_back 4 = .ok (.invokestatic 39, 3) := by decide +kernel
theorem dX7_back_7 : decode cX7_back 7 = .ok (.ifCond .ne 5, 3) := by decide +kernel
theorem dX7_back_10 : decode cX7_back 10 = .ok (.iconst (-1), 1) := by decide +kernel
theorem dX7_back_11 : decode cX7_back 11 = .ok (.ireturn, 1) := by decide +kernel
theorem dX7_back_12 : decode cX7_back 12 = .ok (.aload_n 0, 1) := by decide +kernel
theorem dX7_back_13 : decode cX7_back 13 = .ok (.getfield 20, 3) := by decide +kernel
theorem dX7_back_16 : decode cX7_back 16 = .ok (.iload_n 1, 1) := by decide +kernel
theorem dX7_back_17 : decode cX7_back 17 = .ok (.baload, 1) := by decide +kernel
theorem dX7_back_18 : decode cX7_back 18 = .ok (.ifCond .ne 6, 3) := by decide +kernel
theorem dX7_back_21 : decode cX7_back 21 = .ok (.bipush (-2), 2) := by decide +kernel
theorem dX7_back_23 : decode cX7_back 23 = .ok (.ireturn, 1) := by decide +kernel
theorem dX7_back_24 : decode cX7_back 24 = .ok (.iconst 0, 1) := by decide +kernel
theorem dX7_back_25 : decode cX7_back 25 = .ok (.istore_n 2, 1) := by decide +kernel
theorem dX7_back_26 : decode cX7_back 26 = .ok (.iload_n 2, 1) := by decide +kernel
theorem dX7_back_27 : decode cX7_back 27 = .ok (.sipush 6896, 3) := by decide +kernel
theorem dX7_back_30 : decode cX7_back 30 = .ok (.if_icmp .ge 27, 3) := by decide +kernel
theorem dX7_back_33 : decode cX7_back 33 = .ok (.aload_n 0, 1) := by decide +kernel
theorem dX7_back_34 : decode cX7_back 34 = .ok (.getfield 7, 3) := by decide +kernel
theorem dX7_back_37 : decode cX7_back 37 = .ok (.iload_n 2, 1) := by decide +kernel
theorem dX7_back_38 : decode cX7_back 38 = .ok (.aload_n 0, 1) := by decide +kernel
theorem dX7_back_39 : decode cX7_back 39 = .ok (.getfield 17, 3) := by decide +kernel
theorem dX7_back_42 : decode cX7_back 42 = .ok (.sipush 6896, 3) := by decide +kernel
theorem dX7_back_45 : decode cX7_back 45 = .ok (.iload_n 1, 1) := by decide +kernel
theorem dX7_back_46 : decode cX7_back 46 = .ok (.imul, 1) := by decide +kernel
theorem dX7_back_47 : decode cX7_back 47 = .ok (.iload_n 2, 1) := by decide +kernel
theorem dX7_back_48 : decode cX7_back 48 = .ok (.iadd, 1) := by decide +kernel
theorem dX7_back_49 : decode cX7_back 49 = .ok (.laload, 1) := by decide +kernel
theorem dX7_back_50 : decode cX7_back 50 = .ok (.lastore, 1) := by decide +kernel
theorem dX7_back_51 : decode cX7_back 51 = .ok (.iinc 2 1, 3) := by decide +kernel
theorem dX7_back_54 : decode cX7_back 54 = .ok (.goto (-28), 3) := by decide +kernel
theorem dX7_back_57 : decode cX7_back 57 = .ok (.aload_n 0, 1) := by decide +kernel
theorem dX7_back_58 : decode cX7_back 58 = .ok (.iconst 0, 1) := by decide +kernel
theorem dX7_back_59 : decode cX7_back 59 = .ok (.putfield 124, 3) := by decide +kernel
theorem dX7_back_62 : decode cX7_back 62 = .ok (.aload_n 0, 1) := by decide +kernel
theorem dX7_back_63 : decode cX7_back 63 = .ok (.invokevirtual 53, 3) := by decide +kernel
theorem dX7_back_66 : decode cX7_back 66 = .ok (.ireturn, 1) := by decide +kernel
theorem dX7_cell_0 : decode cX7_cell 0 = .ok (.aload_n 0, 1) := by decide +kernel
theorem dX7_cell_1 : decode cX7_cell 1 = .ok (.iload_n 1, 1) := by decide +kernel
theorem dX7_cell_2 : decode cX7_cell 2 = .ok (.invokevirtual 162, 3) := by decide +kernel
theorem dX7_cell_5 : decode cX7_cell 5 = .ok (.ifCond .ne 5, 3) := by decide +kernel
theorem dX7_cell_8 : decode cX7_cell 8 = .ok (.iconst (-1), 1) := by decide +kernel
theorem dX7_cell_9 : decode cX7_cell 9 = .ok (.ireturn, 1) := by decide +kernel
theorem dX7_cell_10 : decode cX7_cell 10 = .ok (.iload_n 2, 1) := by decide +kernel
theorem dX7_cell_11 : decode cX7_cell 11 = .ok (.tableswitch 93 0 8 #[49, 49, 49, 49, 56, 62, 69, 76, 84], 49) := by decide +kernel
theorem dX7_cell_60 : decode cX7_cell 60 = .ok (.aload_n 0, 1) := by decide +kernel
theorem dX7_cell_61 : decode cX7_cell 61 = .ok (.iload_n 1, 1) := by decide +kernel
theorem dX7_cell_62 : decode cX7_cell 62 = .ok (.iload_n 2, 1) := by decide +kernel
theorem dX7_cell_63 : decode cX7_cell 63 = .ok (.invokevirtual 56, 3) := by decide +kernel
theorem dX7_cell_66 : decode cX7_cell 66 = .ok (.ireturn, 1) := by decide +kernel
theorem dX7_cell_67 : decode cX7_cell 67 = .ok (.aload_n 0, 1) := by decide +kernel
theorem dX7_cell_68 : decode cX7_cell 68 = .ok (.iload_n 1, 1) := by decide +kernel
theorem dX7_cell_69 : decode cX7_cell 69 = .ok (.invokevirtual 93, 3) := by decide +kernel
theorem dX7_cell_72 : decode cX7_cell 72 = .ok (.ireturn, 1) := by decide +kernel
theorem dX7_cell_73 : decode cX7_cell 73 = .ok (.aload_n 0, 1) := by decide +kernel
theorem dX7_cell_74 : decode cX7_cell 74 = .ok (.iload_n 1, 1) := by decide +kernel
theorem dX7_cell_75 : decode cX7_cell 75 = .ok (.iconst 4, 1) := by decide +kernel
theorem dX7_cell_76 : decode cX7_cell 76 = .ok (.invokevirtual 56, 3) := by decide +kernel
theorem dX7_cell_79 : decode cX7_cell 79 = .ok (.ireturn, 1) := by decide +kernel
theorem dX7_cell_80 : decode cX7_cell 80 = .ok (.aload_n 0, 1) := by decide +kernel
theorem dX7_cell_81 : decode cX7_cell 81 = .ok (.iload_n 1, 1) := by decide +kernel
theorem dX7_cell_82 : decode cX7_cell 82 = .ok (.iconst 5, 1) := by decide +kernel
theorem dX7_cell_83 : decode cX7_cell 83 = .ok (.invokevirtual 56, 3) := by decide +kernel
theorem dX7_cell_86 : decode cX7_cell 86 = .ok (.ireturn, 1) := by decide +kernel
theorem dX7_cell_87 : decode cX7_cell 87 = .ok (.aload_n 0, 1) := by decide +kernel
theorem dX7_cell_88 : decode cX7_cell 88 = .ok (.iload_n 1, 1) := by decide +kernel
theorem dX7_cell_89 : decode cX7_cell 89 = .ok (.bipush 6, 2) := by decide +kernel
theorem dX7_cell_91 : decode cX7_cell 91 = .ok (.invokevirtual 56, 3) := by decide +kernel
theorem dX7_cell_94 : decode cX7_cell 94 = .ok (.ireturn, 1) := by decide +kernel
theorem dX7_cell_95 : decode cX7_cell 95 = .ok (.aload_n 0, 1) := by decide +kernel
theorem dX7_cell_96 : decode cX7_cell 96 = .ok (.iload_n 1, 1) := by decide +kernel
theorem dX7_cell_97 : decode cX7_cell 97 = .ok (.invokevirtual 109, 3) := by decide +kernel
theorem dX7_cell_100 : decode cX7_cell 100 = .ok (.invokestatic 174, 3) := by decide +kernel
theorem dX7_cell_103 : decode cX7_cell 103 = .ok (.ireturn, 1) := by decide +kernel
theorem dX7_cell_104 : decode cX7_cell 104 = .ok (.iconst (-1), 1) := by decide +kernel
theorem dX7_cell_105 : decode cX7_cell 105 = .ok (.ireturn, 1) := by decide +kernel
theorem dX7_worn_0 : decode cX7_worn 0 = .ok (.aload_n 0, 1) := by decide +kernel
theorem dX7_worn_1 : decode cX7_worn 1 = .ok (.iload_n 1, 1) := by decide +kernel
theorem dX7_worn_2 : decode cX7_worn 2 = .ok (.invokevirtual 162, 3) := by decide +kernel
theorem dX7_worn_5 : decode cX7_worn 5 = .ok (.ifCond .eq 11, 3) := by decide +kernel
theorem dX7_worn_8 : decode cX7_worn 8 = .ok (.aload_n 0, 1) := by decide +kernel
theorem dX7_worn_9 : decode cX7_worn 9 = .ok (.iload_n 1, 1) := by decide +kernel
theorem dX7_worn_10 : decode cX7_worn 10 = .ok (.invokevirtual 109, 3) := by decide +kernel
theorem dX7_worn_13 : decode cX7_worn 13 = .ok (.goto 6, 3) := by decide +kernel
theorem dX7_worn_16 : decode cX7_worn 16 = .ok (.ldc2_w 178, 3) := by decide +kernel
theorem dX7_worn_19 : decode cX7_worn 19 = .ok (.lreturn, 1) := by decide +kernel
theorem dX7_cellsWith_0 : decode cX7_cellsWith 0 = .ok (.iconst 0, 1) := by decide +kernel
theorem dX7_cellsWith_1 : decode cX7_cellsWith 1 = .ok (.istore_n 2, 1) := by decide +kernel
theorem dX7_cellsWith_2 : decode cX7_cellsWith 2 = .ok (.iconst 0, 1) := by decide +kernel
theorem dX7_cellsWith_3 : decode cX7_cellsWith 3 = .ok (.istore_n 3, 1) := by decide +kernel
theorem dX7_cellsWith_4 : decode cX7_cellsWith 4 = .ok (.iload_n 3, 1) := by decide +kernel
theorem dX7_cellsWith_5 : decode cX7_cellsWith 5 = .ok (.aload_n 0, 1) := by decide +kernel
theorem dX7_cellsWith_6 : decode cX7_cellsWith 6 = .ok (.invokevirtual 53, 3) := by decide +kernel
theorem dX7_cellsWith_9 : decode cX7_cellsWith 9 = .ok (.if_icmp .ge 27, 3) := by decide +kernel
theorem dX7_cellsWith_12 : decode cX7_cellsWith 12 = .ok (.iload_n 2, 1) := by decide +kernel
theorem dX7_cellsWith_13 : decode cX7_cellsWith 13 = .ok (.aload_n 0, 1) := by decide +kernel
theorem dX7_cellsWith_14 : decode cX7_cellsWith 14 = .ok (.iload_n 3, 1) := by decide +kernel
theorem dX7_cellsWith_15 : decode cX7_cellsWith 15 = .ok (.iconst 0, 1) := by decide +kernel
theorem dX7_cellsWith_16 : decode cX7_cellsWith 16 = .ok (.invokevirtual 56, 3) := by decide +kernel
theorem dX7_cellsWith_19 : decode cX7_cellsWith 19 = .ok (.iload_n 1, 1) := by decide +kernel
theorem dX7_cellsWith_20 : decode cX7_cellsWith 20 = .ok (.if_icmp .ne 7, 3) := by decide +kernel
theorem dX7_cellsWith_23 : decode cX7_cellsWith 23 = .ok (.iconst 1, 1) := by decide +kernel
theorem dX7_cellsWith_24 : decode cX7_cellsWith 24 = .ok (.goto 4, 3) := by decide +kernel
theorem dX7_cellsWith_27 : decode cX7_cellsWith 27 = .ok (.iconst 0, 1) := by decide +kernel
theorem dX7_cellsWith_28 : decode cX7_cellsWith 28 = .ok (.iadd, 1) := by decide +kernel
theorem dX7_cellsWith_29 : decode cX7_cellsWith 29 = .ok (.istore_n 2, 1) := by decide +kernel
theorem dX7_cellsWith_30 : decode cX7_cellsWith 30 = .ok (.iinc 3 1, 3) := by decide +kernel
theorem dX7_cellsWith_33 : decode cX7_cellsWith 33 = .ok (.goto (-29), 3) := by decide +kernel
theorem dX7_cellsWith_36 : decode cX7_cellsWith 36 = .ok (.iload_n 2, 1) := by decide +kernel
theorem dX7_cellsWith_37 : decode cX7_cellsWith 37 = .ok (.ireturn, 1) := by decide +kernel
theorem dX7_manyWith_0 : decode cX7_manyWith 0 = .ok (.iconst 0, 1) := by decide +kernel
theorem dX7_manyWith_1 : decode cX7_manyWith 1 = .ok (.istore_n 3, 1) := by decide +kernel
theorem dX7_manyWith_2 : decode cX7_manyWith 2 = .ok (.iconst 0, 1) := by decide +kernel
theorem dX7_manyWith_3 : decode cX7_manyWith 3 = .ok (.istore 4, 2) := by decide +kernel
theorem dX7_manyWith_5 : decode cX7_manyWith 5 = .ok (.iload 4, 2) := by decide +kernel
theorem dX7_manyWith_7 : decode cX7_manyWith 7 = .ok (.aload_n 0, 1) := by decide +kernel
theorem dX7_manyWith_8 : decode cX7_manyWith 8 = .ok (.iload_n 1, 1) := by decide +kernel
theorem dX7_manyWith_9 : decode cX7_manyWith 9 = .ok (.invokevirtual 60, 3) := by decide +kernel
theorem dX7_manyWith_12 : decode cX7_manyWith 12 = .ok (.if_icmp .ge 28, 3) := by decide +kernel
theorem dX7_manyWith_15 : decode cX7_manyWith 15 = .ok (.iload_n 3, 1) := by decide +kernel
theorem dX7_manyWith_16 : decode cX7_manyWith 16 = .ok (.aload_n 0, 1) := by decide +kernel
theorem dX7_manyWith_17 : decode cX7_manyWith 17 = .ok (.iload_n 1, 1) := by decide +kernel
theorem dX7_manyWith_18 : decode cX7_manyWith 18 = .ok (.iload 4, 2) := by decide +kernel
theorem dX7_manyWith_20 : decode cX7_manyWith 20 = .ok (.invokevirtual 106, 3) := by decide +kernel
theorem dX7_manyWith_23 : decode cX7_manyWith 23 = .ok (.iload_n 2, 1) := by decide +kernel
theorem dX7_manyWith_24 : decode cX7_manyWith 24 = .ok (.if_icmp .ne 7, 3) := by decide +kernel
theorem dX7_manyWith_27 : decode cX7_manyWith 27 = .ok (.iconst 1, 1) := by decide +kernel
theorem dX7_manyWith_28 : decode cX7_manyWith 28 = .ok (.goto 4, 3) := by decide +kernel
theorem dX7_manyWith_31 : decode cX7_manyWith 31 = .ok (.iconst 0, 1) := by decide +kernel
theorem dX7_manyWith_32 : decode cX7_manyWith 32 = .ok (.iadd, 1) := by decide +kernel
theorem dX7_manyWith_33 : decode cX7_manyWith 33 = .ok (.istore_n 3, 1) := by decide +kernel
theorem dX7_manyWith_34 : decode cX7_manyWith 34 = .ok (.iinc 4 1, 3) := by decide +kernel
theorem dX7_manyWith_37 : decode cX7_manyWith 37 = .ok (.goto (-32), 3) := by decide +kernel
theorem dX7_manyWith_40 : decode cX7_manyWith 40 = .ok (.iload_n 3, 1) := by decide +kernel
theorem dX7_manyWith_41 : decode cX7_manyWith 41 = .ok (.ireturn, 1) := by decide +kernel
theorem dX7_signsOf_0 : decode cX7_signsOf 0 = .ok (.iconst 0, 1) := by decide +kernel
theorem dX7_signsOf_1 : decode cX7_signsOf 1 = .ok (.istore_n 3, 1) := by decide +kernel
theorem dX7_signsOf_2 : decode cX7_signsOf 2 = .ok (.bipush 32, 2) := by decide +kernel
theorem dX7_signsOf_4 : decode cX7_signsOf 4 = .ok (.istore 4, 2) := by decide +kernel
theorem dX7_signsOf_6 : decode cX7_signsOf 6 = .ok (.iload 4, 2) := by decide +kernel
theorem dX7_signsOf_8 : decode cX7_signsOf 8 = .ok (.bipush 127, 2) := by decide +kernel
theorem dX7_signsOf_10 : decode cX7_signsOf 10 = .ok (.if_icmp .ge 47, 3) := by decide +kernel
theorem dX7_signsOf_13 : decode cX7_signsOf 13 = .ok (.aload_n 0, 1) := by decide +kernel
theorem dX7_signsOf_14 : decode cX7_signsOf 14 = .ok (.iload_n 1, 1) := by decide +kernel
theorem dX7_signsOf_15 : decode cX7_signsOf 15 = .ok (.iload 4, 2) := by decide +kernel
theorem dX7_signsOf_17 : decode cX7_signsOf 17 = .ok (.invokevirtual 183, 3) := by decide +kernel
theorem dX7_signsOf_20 : decode cX7_signsOf 20 = .ok (.istore 5, 2) := by decide +kernel
theorem dX7_signsOf_22 : decode cX7_signsOf 22 = .ok (.iload_n 2, 1) := by decide +kernel
theorem dX7_signsOf_23 : decode cX7_signsOf 23 = .ok (.ifCond .ne 19, 3) := by decide +kernel
theorem dX7_signsOf_26 : decode cX7_signsOf 26 = .ok (.iload_n 3, 1) := by decide +kernel
theorem dX7_signsOf_27 : decode cX7_signsOf 27 = .ok (.iload 5, 2) := by decide +kernel
theorem dX7_signsOf_29 : decode cX7_signsOf 29 = .ok (.ifCond .le 7, 3) := by decide +kernel
theorem dX7_signsOf_32 : decode cX7_signsOf 32 = .ok (.iconst 1, 1) := by decide +kernel
theorem dX7_signsOf_33 : decode cX7_signsOf 33 = .ok (.goto 4, 3) := by decide +kernel
theorem dX7_signsOf_36 : decode cX7_signsOf 36 = .ok (.iconst 0, 1) := by decide +kernel
theorem dX7_signsOf_37 : decode cX7_signsOf 37 = .ok (.iadd, 1) := by decide +kernel
theorem dX7_signsOf_38 : decode cX7_signsOf 38 = .ok (.istore_n 3, 1) := by decide +kernel
theorem dX7_signsOf_39 : decode cX7_signsOf 39 = .ok (.goto 12, 3) := by decide +kernel
theorem dX7_signsOf_42 : decode cX7_signsOf 42 = .ok (.iload 5, 2) := by decide +kernel
theorem dX7_signsOf_44 : decode cX7_signsOf 44 = .ok (.iload_n 3, 1) := by decide +kernel
theorem dX7_signsOf_45 : decode cX7_signsOf 45 = .ok (.if_icmp .le 6, 3) := by decide +kernel
theorem dX7_signsOf_48 : decode cX7_signsOf 48 = .ok (.iload 5, 2) := by decide +kernel
theorem dX7_signsOf_50 : decode cX7_signsOf 50 = .ok (.istore_n 3, 1) := by decide +kernel
theorem dX7_signsOf_51 : decode cX7_signsOf 51 = .ok (.iinc 4 1, 3) := by decide +kernel
theorem dX7_signsOf_54 : decode cX7_signsOf 54 = .ok (.goto (-48), 3) := by decide +kernel
theorem dX7_signsOf_57 : decode cX7_signsOf 57 = .ok (.iload_n 3, 1) := by decide +kernel
theorem dX7_signsOf_58 : decode cX7_signsOf 58 = .ok (.ireturn, 1) := by decide +kernel
theorem dX7_drum_0 : decode cX7_drum 0 = .ok (.aload_n 0, 1) := by decide +kernel
theorem dX7_drum_1 : decode cX7_drum 1 = .ok (.iload_n 1, 1) := by decide +kernel
theorem dX7_drum_2 : decode cX7_drum 2 = .ok (.invokevirtual 180, 3) := by decide +kernel
theorem dX7_drum_5 : decode cX7_drum 5 = .ok (.ifCond .ne 5, 3) := by decide +kernel
theorem dX7_drum_8 : decode cX7_drum 8 = .ok (.iconst (-1), 1) := by decide +kernel
theorem dX7_drum_9 : decode cX7_drum 9 = .ok (.ireturn, 1) := by decide +kernel
theorem dX7_drum_10 : decode cX7_drum 10 = .ok (.iload_n 2, 1) := by decide +kernel
theorem dX7_drum_11 : decode cX7_drum 11 = .ok (.tableswitch 65 0 4 #[33, 39, 45, 51, 58], 33) := by decide +kernel
theorem dX7_drum_44 : decode cX7_drum 44 = .ok (.aload_n 0, 1) := by decide +kernel
theorem dX7_drum_45 : decode cX7_drum 45 = .ok (.iload_n 1, 1) := by decide +kernel
theorem dX7_drum_46 : decode cX7_drum 46 = .ok (.invokevirtual 64, 3) := by decide +kernel
theorem dX7_drum_49 : decode cX7_drum 49 = .ok (.ireturn, 1) := by decide +kernel
theorem dX7_drum_50 : decode cX7_drum 50 = .ok (.aload_n 0, 1) := by decide +kernel
theorem dX7_drum_51 : decode cX7_drum 51 = .ok (.iload_n 1, 1) := by decide +kernel
theorem dX7_drum_52 : decode cX7_drum 52 = .ok (.invokevirtual 60, 3) := by decide +kernel
theorem dX7_drum_55 : decode cX7_drum 55 = .ok (.ireturn, 1) := by decide +kernel
theorem dX7_drum_56 : decode cX7_drum 56 = .ok (.aload_n 0, 1) := by decide +kernel
theorem dX7_drum_57 : decode cX7_drum 57 = .ok (.iload_n 1, 1) := by decide +kernel
theorem dX7_drum_58 : decode cX7_drum 58 = .ok (.invokevirtual 186, 3) := by decide +kernel
theorem dX7_drum_61 : decode cX7_drum 61 = .ok (.ireturn, 1) := by decide +kernel
theorem dX7_drum_62 : decode cX7_drum 62 = .ok (.aload_n 0, 1) := by decide +kernel
theorem dX7_drum_63 : decode cX7_drum 63 = .ok (.iload_n 1, 1) := by decide +kernel
theorem dX7_drum_64 : decode cX7_drum 64 = .ok (.iconst 0, 1) := by decide +kernel
theorem dX7_drum_65 : decode cX7_drum 65 = .ok (.invokevirtual 189, 3) := by decide +kernel
theorem dX7_drum_68 : decode cX7_drum 68 = .ok (.ireturn, 1) := by decide +kernel
theorem dX7_drum_69 : decode cX7_drum 69 = .ok (.aload_n 0, 1) := by decide +kernel
theorem dX7_drum_70 : decode cX7_drum 70 = .ok (.iload_n 1, 1) := by decide +kernel
theorem dX7_drum_71 : decode cX7_drum 71 = .ok (.iconst 1, 1) := by decide +kernel
theorem dX7_drum_72 : decode cX7_drum 72 = .ok (.invokevirtual 189, 3) := by decide +kernel
theorem dX7_drum_75 : decode cX7_drum 75 = .ok (.ireturn, 1) := by decide +kernel
theorem dX7_drum_76 : decode cX7_drum 76 = .ok (.iconst (-1), 1) := by decide +kernel
theorem dX7_drum_77 : decode cX7_drum 77 = .ok (.ireturn, 1) := by decide +kernel
theorem dX7_sign_0 : decode cX7_sign 0 = .ok (.aload_n 0, 1) := by decide +kernel
theorem dX7_sign_1 : decode cX7_sign 1 = .ok (.iload_n 1, 1) := by decide +kernel
theorem dX7_sign_2 : decode cX7_sign 2 = .ok (.invokevirtual 180, 3) := by decide +kernel
theorem dX7_sign_5 : decode cX7_sign 5 = .ok (.ifCond .eq 29, 3) := by decide +kernel
theorem dX7_sign_8 : decode cX7_sign 8 = .ok (.iload_n 2, 1) := by decide +kernel
theorem dX7_sign_9 : decode cX7_sign 9 = .ok (.i2l, 1) := by decide +kernel
theorem dX7_sign_10 : decode cX7_sign 10 = .ok (.lconst 0, 1) := by decide +kernel
theorem dX7_sign_11 : decode cX7_sign 11 = .ok (.aload_n 0, 1) := by decide +kernel
theorem dX7_sign_12 : decode cX7_sign 12 = .ok (.iload_n 1, 1) := by decide +kernel
theorem dX7_sign_13 : decode cX7_sign 13 = .ok (.invokevirtual 60, 3) := by decide +kernel
theorem dX7_sign_16 : decode cX7_sign 16 = .ok (.iconst 1, 1) := by decide +kernel
theorem dX7_sign_17 : decode cX7_sign 17 = .ok (.isub, 1) := by decide +kernel
theorem dX7_sign_18 : decode cX7_sign 18 = .ok (.i2l, 1) := by decide +kernel
theorem dX7_sign_19 : decode cX7_sign 19 = .ok (.invokestatic 39, 3) := by decide +kernel
theorem dX7_sign_22 : decode cX7_sign 22 = .ok (.ifCond .eq 12, 3) := by decide +kernel
theorem dX7_sign_25 : decode cX7_sign 25 = .ok (.aload_n 0, 1) := by decide +kernel
theorem dX7_sign_26 : decode cX7_sign 26 = .ok (.iload_n 1, 1) := by decide +kernel
theorem dX7_sign_27 : decode cX7_sign 27 = .ok (.iload_n 2, 1) := by decide +kernel
theorem dX7_sign_28 : decode cX7_sign 28 = .ok (.invokevirtual 106, 3) := by decide +kernel
theorem dX7_sign_31 : decode cX7_sign 31 = .ok (.goto 4, 3) := by decide +kernel
theorem dX7_sign_34 : decode cX7_sign 34 = .ok (.iconst (-1), 1) := by decide +kernel
theorem dX7_sign_35 : decode cX7_sign 35 = .ok (.ireturn, 1) := by decide +kernel
theorem dX7_signAt_0 : decode cX7_signAt 0 = .ok (.aload_n 0, 1) := by decide +kernel
theorem dX7_signAt_1 : decode cX7_signAt 1 = .ok (.aload_n 0, 1) := by decide +kernel
theorem dX7_signAt_2 : decode cX7_signAt 2 = .ok (.iload_n 1, 1) := by decide +kernel
theorem dX7_signAt_3 : decode cX7_signAt 3 = .ok (.iconst 0, 1) := by decide +kernel
theorem dX7_signAt_4 : decode cX7_signAt 4 = .ok (.invokevirtual 56, 3) := by decide +kernel
theorem dX7_signAt_7 : decode cX7_signAt 7 = .ok (.aload_n 0, 1) := by decide +kernel
theorem dX7_signAt_8 : decode cX7_signAt 8 = .ok (.iload_n 1, 1) := by decide +kernel
theorem dX7_signAt_9 : decode cX7_signAt 9 = .ok (.iconst 1, 1) := by decide +kernel
theorem dX7_signAt_10 : decode cX7_signAt 10 = .ok (.iload_n 2, 1) := by decide +kernel
theorem dX7_signAt_11 : decode cX7_signAt 11 = .ok (.iadd, 1) := by decide +kernel
theorem dX7_signAt_12 : decode cX7_signAt 12 = .ok (.invokevirtual 56, 3) := by decide +kernel
theorem dX7_signAt_15 : decode cX7_signAt 15 = .ok (.invokevirtual 106, 3) := by decide +kernel
theorem dX7_signAt_18 : decode cX7_signAt 18 = .ok (.ireturn, 1) := by decide +kernel
theorem dX7_at_0 : decode cX7_at 0 = .ok (.aload_n 0, 1) := by decide +kernel
theorem dX7_at_1 : decode cX7_at 1 = .ok (.iload_n 1, 1) := by decide +kernel
theorem dX7_at_2 : decode cX7_at 2 = .ok (.invokevirtual 138, 3) := by decide +kernel
theorem dX7_at_5 : decode cX7_at 5 = .ok (.ifCond .eq 47, 3) := by decide +kernel
theorem dX7_at_8 : decode cX7_at 8 = .ok (.iload_n 2, 1) := by decide +kernel
theorem dX7_at_9 : decode cX7_at 9 = .ok (.i2l, 1) := by decide +kernel
theorem dX7_at_10 : decode cX7_at 10 = .ok (.lconst 0, 1) := by decide +kernel
theorem dX7_at_11 : decode cX7_at 11 = .ok (.aload_n 0, 1) := by decide +kernel
theorem dX7_at_12 : decode cX7_at 12 = .ok (.invokevirtual 47, 3) := by decide +kernel
theorem dX7_at_15 : decode cX7_at 15 = .ok (.iconst 1, 1) := by decide +kernel
theorem dX7_at_16 : decode cX7_at 16 = .ok (.isub, 1) := by decide +kernel
theorem dX7_at_17 : decode cX7_at 17 = .ok (.i2l, 1) := by decide +kernel
theorem dX7_at_18 : decode cX7_at 18 = .ok (.invokestatic 39, 3) := by decide +kernel
theorem dX7_at_21 : decode cX7_at 21 = .ok (.ifCond .eq 31, 3) := by decide +kernel
theorem dX7_at_24 : decode cX7_at 24 = .ok (.iload_n 3, 1) := by decide +kernel
theorem dX7_at_25 : decode cX7_at 25 = .ok (.i2l, 1) := by decide +kernel
theorem dX7_at_26 : decode cX7_at 26 = .ok (.lconst 0, 1) := by decide +kernel
theorem dX7_at_27 : decode cX7_at 27 = .ok (.ldc2_w 193, 3) := by decide +kernel
theorem dX7_at_30 : decode cX7_at 30 = .ok (.invokestatic 39, 3) := by decide +kernel
theorem dX7_at_33 : decode cX7_at 33 = .ok (.ifCond .eq 19, 3) := by decide +kernel
theorem dX7_at_36 : decode cX7_at 36 = .ok (.aload_n 0, 1) := by decide +kernel
theorem dX7_at_37 : decode cX7_at 37 = .ok (.aload_n 0, 1) := by decide +kernel
theorem dX7_at_38 : decode cX7_at 38 = .ok (.invokevirtual 47, 3) := by decide +kernel
theorem dX7_at_41 : decode cX7_at 41 = .ok (.iload_n 1, 1) := by decide +kernel
theorem dX7_at_42 : decode cX7_at 42 = .ok (.imul, 1) := by decide +kernel
theorem dX7_at_43 : decode cX7_at 43 = .ok (.iload_n 2, 1) := by decide +kernel
theorem dX7_at_44 : decode cX7_at 44 = .ok (.iadd, 1) := by decide +kernel
theorem dX7_at_45 : decode cX7_at 45 = .ok (.iload_n 3, 1) := by decide +kernel
theorem dX7_at_46 : decode cX7_at 46 = .ok (.invokevirtual 195, 3) := by decide +kernel
theorem dX7_at_49 : decode cX7_at 49 = .ok (.goto 4, 3) := by decide +kernel
theorem dX7_at_52 : decode cX7_at 52 = .ok (.iconst (-1), 1) := by decide +kernel
theorem dX7_at_53 : decode cX7_at 53 = .ok (.ireturn, 1) := by decide +kernel
theorem dX7_isOther_0 : decode cX7_isOther 0 = .ok (.aload_n 0, 1) := by decide +kernel
theorem dX7_isOther_1 : decode cX7_isOther 1 = .ok (.iload_n 1, 1) := by decide +kernel
theorem dX7_isOther_2 : decode cX7_isOther 2 = .ok (.iconst 0, 1) := by decide +kernel
theorem dX7_isOther_3 : decode cX7_isOther 3 = .ok (.invokevirtual 195, 3) := by decide +kernel
theorem dX7_isOther_6 : decode cX7_isOther 6 = .ok (.aload_n 0, 1) := by decide +kernel
theorem dX7_isOther_7 : decode cX7_isOther 7 = .ok (.iload_n 1, 1) := by decide +kernel
theorem dX7_isOther_8 : decode cX7_isOther 8 = .ok (.iconst 2, 1) := by decide +kernel
theorem dX7_isOther_9 : decode cX7_isOther 9 = .ok (.invokevirtual 195, 3) := by decide +kernel
theorem dX7_isOther_12 : decode cX7_isOther 12 = .ok (.if_icmp .eq 7, 3) := by decide +kernel
theorem dX7_isOther_15 : decode cX7_isOther 15 = .ok (.iconst 1, 1) := by decide +kernel
theorem dX7_isOther_16 : decode cX7_isOther 16 = .ok (.goto 4, 3) := by decide +kernel
theorem dX7_isOther_19 : decode cX7_isOther 19 = .ok (.iconst 0, 1) := by decide +kernel
theorem dX7_isOther_20 : decode cX7_isOther 20 = .ok (.ireturn, 1) := by decide +kernel
theorem dX7_isSuch_0 : decode cX7_isSuch 0 = .ok (.iload_n 2, 1) := by decide +kernel
theorem dX7_isSuch_1 : decode cX7_isSuch 1 = .ok (.tableswitch 81 0 3 #[31, 45, 66, 72], 31) := by decide +kernel
theorem dX7_isSuch_32 : decode cX7_isSuch 32 = .ok (.aload_n 0, 1) := by decide +kernel
theorem dX7_isSuch_33 : decode cX7_isSuch 33 = .ok (.iload_n 1, 1) := by decide +kernel
theorem dX7_isSuch_34 : decode cX7_isSuch 34 = .ok (.invokevirtual 93, 3) := by decide +kernel
theorem dX7_isSuch_37 : decode cX7_isSuch 37 = .ok (.ifCond .le 7, 3) := by decide +kernel
theorem dX7_isSuch_40 : decode cX7_isSuch 40 = .ok (.iconst 1, 1) := by decide +kernel
theorem dX7_isSuch_41 : decode cX7_isSuch 41 = .ok (.goto 4, 3) := by decide +kernel
theorem dX7_isSuch_44 : decode cX7_isSuch 44 = .ok (.iconst 0, 1) := by decide +kernel
theorem dX7_isSuch_45 : decode cX7_isSuch 45 = .ok (.ireturn, 1) := by decide +kernel
theorem dX7_isSuch_46 : decode cX7_isSuch 46 = .ok (.aload_n 0, 1) := by decide +kernel
theorem dX7_isSuch_47 : decode cX7_isSuch 47 = .ok (.iload_n 1, 1) := by decide +kernel
theorem dX7_isSuch_48 : decode cX7_isSuch 48 = .ok (.iconst 1, 1) := by decide +kernel
theorem dX7_isSuch_49 : decode cX7_isSuch 49 = .ok (.invokevirtual 56, 3) := by decide +kernel
theorem dX7_isSuch_52 : decode cX7_isSuch 52 = .ok (.aload_n 0, 1) := by decide +kernel
theorem dX7_isSuch_53 : decode cX7_isSuch 53 = .ok (.iload_n 1, 1) := by decide +kernel
theorem dX7_isSuch_54 : decode cX7_isSuch 54 = .ok (.iconst 2, 1) := by decide +kernel
theorem dX7_isSuch_55 : decode cX7_isSuch 55 = .ok (.invokevirtual 56, 3) := by decide +kernel
theorem dX7_isSuch_58 : decode cX7_isSuch 58 = .ok (.if_icmp .eq 7, 3) := by decide +kernel
theorem dX7_isSuch_61 : decode cX7_isSuch 61 = .ok (.iconst 1, 1) := by decide +kernel
theorem dX7_isSuch_62 : decode cX7_isSuch 62 = .ok (.goto 4, 3) := by decide +kernel
theorem dX7_isSuch_65 : decode cX7_isSuch 65 = .ok (.iconst 0, 1) := by decide +kernel
theorem dX7_isSuch_66 : decode cX7_isSuch 66 = .ok (.ireturn, 1) := by decide +kernel
theorem dX7_isSuch_67 : decode cX7_isSuch 67 = .ok (.aload_n 0, 1) := by decide +kernel
theorem dX7_isSuch_68 : decode cX7_isSuch 68 = .ok (.iload_n 1, 1) := by decide +kernel
theorem dX7_isSuch_69 : decode cX7_isSuch 69 = .ok (.invokevirtual 198, 3) := by decide +kernel
theorem dX7_isSuch_72 : decode cX7_isSuch 72 = .ok (.ireturn, 1) := by decide +kernel
theorem dX7_isSuch_73 : decode cX7_isSuch 73 = .ok (.aload_n 0, 1) := by decide +kernel
theorem dX7_isSuch_74 : decode cX7_isSuch 74 = .ok (.getfield 82, 3) := by decide +kernel
theorem dX7_isSuch_77 : decode cX7_isSuch 77 = .ok (.iload_n 1, 1) := by decide +kernel
theorem dX7_isSuch_78 : decode cX7_isSuch 78 = .ok (.invokestatic 74, 3) := by decide +kernel
theorem dX7_isSuch_81 : decode cX7_isSuch 81 = .ok (.ireturn, 1) := by decide +kernel
theorem dX7_isSuch_82 : decode cX7_isSuch 82 = .ok (.aload_n 0, 1) := by decide +kernel
theorem dX7_isSuch_83 : decode cX7_isSuch 83 = .ok (.iload_n 1, 1) := by decide +kernel
theorem dX7_isSuch_84 : decode cX7_isSuch 84 = .ok (.invokevirtual 96, 3) := by decide +kernel
theorem dX7_isSuch_87 : decode cX7_isSuch 87 = .ok (.i2l, 1) := by decide +kernel
theorem dX7_isSuch_88 : decode cX7_isSuch 88 = .ok (.aload_n 0, 1) := by decide +kernel
theorem dX7_isSuch_89 : decode cX7_isSuch 89 = .ok (.getfield 7, 3) := by decide +kernel
theorem dX7_isSuch_92 : decode cX7_isSuch 92 = .ok (.iconst 2, 1) := by decide +kernel
theorem dX7_isSuch_93 : decode cX7_isSuch 93 = .ok (.laload, 1) := by decide +kernel
theorem dX7_isSuch_94 : decode cX7_isSuch 94 = .ok (.lcmp, 1) := by decide +kernel
theorem dX7_isSuch_95 : decode cX7_isSuch 95 = .ok (.ifCond .le 7, 3) := by decide +kernel
theorem dX7_isSuch_98 : decode cX7_isSuch 98 = .ok (.iconst 1, 1) := by decide +kernel
theorem dX7_isSuch_99 : decode cX7_isSuch 99 = .ok (.goto 4, 3) := by decide +kernel
theorem dX7_isSuch_102 : decode cX7_isSuch 102 = .ok (.iconst 0, 1) := by decide +kernel
theorem dX7_isSuch_103 : decode cX7_isSuch 103 = .ok (.ireturn, 1) := by decide +kernel
theorem dX7_which_0 : decode cX7_which 0 = .ok (.aload_n 0, 1) := by decide +kernel
theorem dX7_which_1 : decode cX7_which 1 = .ok (.invokevirtual 147, 3) := by decide +kernel
theorem dX7_which_4 : decode cX7_which 4 = .ok (.ifCond .eq 15, 3) := by decide +kernel
theorem dX7_which_7 : decode cX7_which 7 = .ok (.iload_n 1, 1) := by decide +kernel
theorem dX7_which_8 : decode cX7_which 8 = .ok (.i2l, 1) := by decide +kernel
theorem dX7_which_9 : decode cX7_which 9 = .ok (.lconst 0, 1) := by decide +kernel
theorem dX7_which_10 : decode cX7_which 10 = .ok (.ldc2_w 201, 3) := by decide +kernel
theorem dX7_which_13 : decode cX7_which 13 = .ok (.invokestatic 39, 3) := by decide +kernel
theorem dX7_which_16 : decode cX7_which 16 = .ok (.ifCond .ne 7, 3) := by decide +kernel
theorem dX7_which_19 : decode cX7_which 19 = .ok (.ldc2_w 178, 3) := by decide +kernel
theorem dX7_which_22 : decode cX7_which 22 = .ok (.lreturn, 1) := by decide +kernel
theorem dX7_which_23 : decode cX7_which 23 = .ok (.aload_n 0, 1) := by decide +kernel
theorem dX7_which_24 : decode cX7_which 24 = .ok (.invokevirtual 99, 3) := by decide +kernel
theorem dX7_which_27 : decode cX7_which 27 = .ok (.lconst 0, 1) := by decide +kernel
theorem dX7_which_28 : decode cX7_which 28 = .ok (.lstore_n 2, 1) := by decide +kernel
theorem dX7_which_29 : decode cX7_which 29 = .ok (.iconst 0, 1) := by decide +kernel
theorem dX7_which_30 : decode cX7_which 30 = .ok (.istore 4, 2) := by decide +kernel
theorem dX7_which_32 : decode cX7_which 32 = .ok (.iload 4, 2) := by decide +kernel
theorem dX7_which_34 : decode cX7_which 34 = .ok (.aload_n 0, 1) := by decide +kernel
theorem dX7_which_35 : decode cX7_which 35 = .ok (.invokevirtual 53, 3) := by decide +kernel
theorem dX7_which_38 : decode cX7_which 38 = .ok (.if_icmp .ge 26, 3) := by decide +kernel
theorem dX7_which_41 : decode cX7_which 41 = .ok (.aload_n 0, 1) := by decide +kernel
theorem dX7_which_42 : decode cX7_which 42 = .ok (.iload 4, 2) := by decide +kernel
theorem dX7_which_44 : decode cX7_which 44 = .ok (.iload_n 1, 1) := by decide +kernel
theorem dX7_which_45 : decode cX7_which 45 = .ok (.invokevirtual 203, 3) := by decide +kernel
theorem dX7_which_48 : decode cX7_which 48 = .ok (.ifCond .eq 10, 3) := by decide +kernel
theorem dX7_which_51 : decode cX7_which 51 = .ok (.lload_n 2, 1) := by decide +kernel
theorem dX7_which_52 : decode cX7_which 52 = .ok (.lconst 1, 1) := by decide +kernel
theorem dX7_which_53 : decode cX7_which 53 = .ok (.iload 4, 2) := by decide +kernel
theorem dX7_which_55 : decode cX7_which 55 = .ok (.lshl, 1) := by decide +kernel
theorem dX7_which_56 : decode cX7_which 56 = .ok (.lor, 1) := by decide +kernel
theorem dX7_which_57 : decode cX7_which 57 = .ok (.lstore_n 2, 1) := by decide +kernel
theorem dX7_which_58 : decode cX7_which 58 = .ok (.iinc 4 1, 3) := by decide +kernel
theorem dX7_which_61 : decode cX7_which 61 = .ok (.goto (-29), 3) := by decide +kernel
theorem dX7_which_64 : decode cX7_which 64 = .ok (.lload_n 2, 1) := by decide +kernel
theorem dX7_which_65 : decode cX7_which 65 = .ok (.lreturn, 1) := by decide +kernel
theorem dX7_left_0 : decode cX7_left 0 = .ok (.aload_n 0, 1) := by decide +kernel
theorem dX7_left_1 : decode cX7_left 1 = .ok (.invokevirtual 147, 3) := by decide +kernel
theorem dX7_left_4 : decode cX7_left 4 = .ok (.ifCond .eq 15, 3) := by decide +kernel
theorem dX7_left_7 : decode cX7_left 7 = .ok (.iload_n 1, 1) := by decide +kernel
theorem dX7_left_8 : decode cX7_left 8 = .ok (.i2l, 1) := by decide +kernel
theorem dX7_left_9 : decode cX7_left 9 = .ok (.lconst 0, 1) := by decide +kernel
theorem dX7_left_10 : decode cX7_left 10 = .ok (.ldc2_w 206, 3) := by decide +kernel
theorem dX7_left_13 : decode cX7_left 13 = .ok (.invokestatic 39, 3) := by decide +kernel
theorem dX7_left_16 : decode cX7_left 16 = .ok (.ifCond .ne 5, 3) := by decide +kernel
theorem dX7_left_19 : decode cX7_left 19 = .ok (.iconst (-1), 1) := by decide +kernel
theorem dX7_left_20 : decode cX7_left 20 = .ok (.ireturn, 1) := by decide +kernel
theorem dX7_left_21 : decode cX7_left 21 = .ok (.iconst 0, 1) := by decide +kernel
theorem dX7_left_22 : decode cX7_left 22 = .ok (.istore_n 2, 1) := by decide +kernel
theorem dX7_left_23 : decode cX7_left 23 = .ok (.iconst 0, 1) := by decide +kernel
theorem dX7_left_24 : decode cX7_left 24 = .ok (.istore_n 3, 1) := by decide +kernel
theorem dX7_left_25 : decode cX7_left 25 = .ok (.iconst 0, 1) := by decide +kernel
theorem dX7_left_26 : decode cX7_left 26 = .ok (.istore 4, 2) := by decide +kernel
theorem dX7_left_28 : decode cX7_left 28 = .ok (.iconst 0, 1) := by decide +kernel
theorem dX7_left_29 : decode cX7_left 29 = .ok (.istore 5, 2) := by decide +kernel
theorem dX7_left_31 : decode cX7_left 31 = .ok (.iload 5, 2) := by decide +kernel
theorem dX7_left_33 : decode cX7_left 33 = .ok (.aload_n 0, 1) := by decide +kernel
theorem dX7_left_34 : decode cX7_left 34 = .ok (.invokevirtual 53, 3) := by decide +kernel
theorem dX7_left_37 : decode cX7_left 37 = .ok (.if_icmp .ge 53, 3) := by decide +kernel
theorem dX7_left_40 : decode cX7_left 40 = .ok (.iload_n 2, 1) := by decide +kernel
theorem dX7_left_41 : decode cX7_left 41 = .ok (.aload_n 0, 1) := by decide +kernel
theorem dX7_left_42 : decode cX7_left 42 = .ok (.iload 5, 2) := by decide +kernel
theorem dX7_left_44 : decode cX7_left 44 = .ok (.invokevirtual 93, 3) := by decide +kernel
theorem dX7_left_47 : decode cX7_left 47 = .ok (.iadd, 1) := by decide +kernel
theorem dX7_left_48 : decode cX7_left 48 = .ok (.istore_n 2, 1) := by decide +kernel
theorem dX7_left_49 : decode cX7_left 49 = .ok (.iload 4, 2) := by decide +kernel
theorem dX7_left_51 : decode cX7_left 51 = .ok (.aload_n 0, 1) := by decide +kernel
theorem dX7_left_52 : decode cX7_left 52 = .ok (.iload 5, 2) := by decide +kernel
theorem dX7_left_54 : decode cX7_left 54 = .ok (.invokevirtual 93, 3) := by decide +kernel
theorem dX7_left_57 : decode cX7_left 57 = .ok (.aload_n 0, 1) := by decide +kernel
theorem dX7_left_58 : decode cX7_left 58 = .ok (.iload 5, 2) := by decide +kernel
theorem dX7_left_60 : decode cX7_left 60 = .ok (.invokevirtual 96, 3) := by decide +kernel
theorem dX7_left_63 : decode cX7_left 63 = .ok (.imul, 1) := by decide +kernel
theorem dX7_left_64 : decode cX7_left 64 = .ok (.iadd, 1) := by decide +kernel
theorem dX7_left_65 : decode cX7_left 65 = .ok (.istore 4, 2) := by decide +kernel
theorem dX7_left_67 : decode cX7_left 67 = .ok (.aload_n 0, 1) := by decide +kernel
theorem dX7_left_68 : decode cX7_left 68 = .ok (.iload 5, 2) := by decide +kernel
theorem dX7_left_70 : decode cX7_left 70 = .ok (.invokevirtual 93, 3) := by decide +kernel
theorem dX7_left_73 : decode cX7_left 73 = .ok (.iload_n 3, 1) := by decide +kernel
theorem dX7_left_74 : decode cX7_left 74 = .ok (.if_icmp .le 10, 3) := by decide +kernel
theorem dX7_left_77 : decode cX7_left 77 = .ok (.aload_n 0, 1) := by decide +kernel
theorem dX7_left_78 : decode cX7_left 78 = .ok (.iload 5, 2) := by decide +kernel
theorem dX7_left_80 : decode cX7_left 80 = .ok (.invokevirtual 93, 3) := by decide +kernel
theorem dX7_left_83 : decode cX7_left 83 = .ok (.istore_n 3, 1) := by decide +kernel
theorem dX7_left_84 : decode cX7_left 84 = .ok (.iinc 5 1, 3) := by decide +kernel
theorem dX7_left_87 : decode cX7_left 87 = .ok (.goto (-56), 3) := by decide +kernel
theorem dX7_left_90 : decode cX7_left 90 = .ok (.iload 4, 2) := by decide +kernel
theorem dX7_left_92 : decode cX7_left 92 = .ok (.i2l, 1) := by decide +kernel
theorem dX7_left_93 : decode cX7_left 93 = .ok (.aload_n 0, 1) := by decide +kernel
theorem dX7_left_94 : decode cX7_left 94 = .ok (.getfield 7, 3) := by decide +kernel
theorem dX7_left_97 : decode cX7_left 97 = .ok (.iconst 2, 1) := by decide +kernel
theorem dX7_left_98 : decode cX7_left 98 = .ok (.laload, 1) := by decide +kernel
theorem dX7_left_99 : decode cX7_left 99 = .ok (.ladd, 1) := by decide +kernel
theorem dX7_left_100 : decode cX7_left 100 = .ok (.lconst 1, 1) := by decide +kernel
theorem dX7_left_101 : decode cX7_left 101 = .ok (.lsub, 1) := by decide +kernel
theorem dX7_left_102 : decode cX7_left 102 = .ok (.aload_n 0, 1) := by decide +kernel
theorem dX7_left_103 : decode cX7_left 103 = .ok (.getfield 7, 3) := by decide +kernel
theorem dX7_left_106 : decode cX7_left 106 = .ok (.iconst 2, 1) := by decide +kernel
theorem dX7_left_107 : decode cX7_left 107 = .ok (.laload, 1) := by decide +kernel
theorem dX7_left_108 : decode cX7_left 108 = .ok (.ldiv, 1) := by decide +kernel
theorem dX7_left_109 : decode cX7_left 109 = .ok (.l2i, 1) := by decide +kernel
theorem dX7_left_110 : decode cX7_left 110 = .ok (.istore 5, 2) := by decide +kernel
theorem dX7_left_112 : decode cX7_left 112 = .ok (.iload_n 1, 1) := by decide +kernel
theorem dX7_left_113 : decode cX7_left 113 = .ok (.ifCond .ne 7, 3) := by decide +kernel
theorem dX7_left_116 : decode cX7_left 116 = .ok (.iload_n 2, 1) := by decide +kernel
theorem dX7_left_117 : decode cX7_left 117 = .ok (.goto 34, 3) := by decide +kernel
theorem dX7_left_120 : decode cX7_left 120 = .ok (.iload_n 1, 1) := by decide +kernel
theorem dX7_left_121 : decode cX7_left 121 = .ok (.iconst 1, 1) := by decide +kernel
theorem dX7_left_122 : decode cX7_left 122 = .ok (.if_icmp .ne 7, 3) := by decide +kernel
theorem dX7_left_125 : decode cX7_left 125 = .ok (.iload_n 3, 1) := by decide +kernel
theorem dX7_left_126 : decode cX7_left 126 = .ok (.goto 25, 3) := by decide +kernel
theorem dX7_left_129 : decode cX7_left 129 = .ok (.iload_n 1, 1) := by decide +kernel
theorem dX7_left_130 : decode cX7_left 130 = .ok (.iconst 2, 1) := by decide +kernel
theorem dX7_left_131 : decode cX7_left 131 = .ok (.if_icmp .ne 8, 3) := by decide +kernel
theorem dX7_left_134 : decode cX7_left 134 = .ok (.iload 4, 2) := by decide +kernel
theorem dX7_left_136 : decode cX7_left 136 = .ok (.goto 15, 3) := by decide +kernel
theorem dX7_left_139 : decode cX7_left 139 = .ok (.iload 5, 2) := by decide +kernel
theorem dX7_left_141 : decode cX7_left 141 = .ok (.iload_n 3, 1) := by decide +kernel
theorem dX7_left_142 : decode cX7_left 142 = .ok (.if_icmp .le 8, 3) := by decide +kernel
theorem dX7_left_145 : decode cX7_left 145 = .ok (.iload 5, 2) := by decide +kernel
theorem dX7_left_147 : decode cX7_left 147 = .ok (.goto 4, 3) := by decide +kernel
theorem dX7_left_150 : decode cX7_left 150 = .ok (.iload_n 3, 1) := by decide +kernel
theorem dX7_left_151 : decode cX7_left 151 = .ok (.ireturn, 1) := by decide +kernel
theorem dX7_putsAside_0 : decode cX7_putsAside 0 = .ok (.iconst 0, 1) := by decide +kernel
theorem dX7_putsAside_1 : decode cX7_putsAside 1 = .ok (.istore_n 1, 1) := by decide +kernel
theorem dX7_putsAside_2 : decode cX7_putsAside 2 = .ok (.iload_n 1, 1) := by decide +kernel
theorem dX7_putsAside_3 : decode cX7_putsAside 3 = .ok (.sipush 6896, 3) := by decide +kernel
theorem dX7_putsAside_6 : decode cX7_putsAside 6 = .ok (.if_icmp .ge 21, 3) := by decide +kernel
theorem dX7_putsAside_9 : decode cX7_putsAside 9 = .ok (.aload_n 0, 1) := by decide +kernel
theorem dX7_putsAside_10 : decode cX7_putsAside 10 = .ok (.getfield 24, 3) := by decide +kernel
theorem dX7_putsAside_13 : decode cX7_putsAside 13 = .ok (.iload_n 1, 1) := by decide +kernel
theorem dX7_putsAside_14 : decode cX7_putsAside 14 = .ok (.aload_n 0, 1) := by decide +kernel
theorem dX7_putsAside_15 : decode cX7_putsAside 15 = .ok (.getfield 7, 3) := by decide +kernel
theorem dX7_putsAside_18 : decode cX7_putsAside 18 = .ok (.iload_n 1, 1) := by decide +kernel
theorem dX7_putsAside_19 : decode cX7_putsAside 19 = .ok (.laload, 1) := by decide +kernel
theorem dX7_putsAside_20 : decode cX7_putsAside 20 = .ok (.lastore, 1) := by decide +kernel
theorem dX7_putsAside_21 : decode cX7_putsAside 21 = .ok (.iinc 1 1, 3) := by decide +kernel
theorem dX7_putsAside_24 : decode cX7_putsAside 24 = .ok (.goto (-22), 3) := by decide +kernel
theorem dX7_putsAside_27 : decode cX7_putsAside 27 = .ok (.return_, 1) := by decide +kernel
theorem dX7_takesBack_0 : decode cX7_takesBack 0 = .ok (.iconst 0, 1) := by decide +kernel
theorem dX7_takesBack_1 : decode cX7_takesBack 1 = .ok (.istore_n 1, 1) := by decide +kernel
theorem dX7_takesBack_2 : decode cX7_takesBack 2 = .ok (.iload_n 1, 1) := by decide +kernel
theorem dX7_takesBack_3 : decode cX7_takesBack 3 = .ok (.sipush 6896, 3) := by decide +kernel
theorem dX7_takesBack_6 : decode cX7_takesBack 6 = .ok (.if_icmp .ge 21, 3) := by decide +kernel
theorem dX7_takesBack_9 : decode cX7_takesBack 9 = .ok (.aload_n 0, 1) := by decide +kernel
theorem dX7_takesBack_10 : decode cX7_takesBack 10 = .ok (.getfield 7, 3) := by decide +kernel
theorem dX7_takesBack_13 : decode cX7_takesBack 13 = .ok (.iload_n 1, 1) := by decide +kernel
theorem dX7_takesBack_14 : decode cX7_takesBack 14 = .ok (.aload_n 0, 1) := by decide +kernel
theorem dX7_takesBack_15 : decode cX7_takesBack 15 = .ok (.getfield 24, 3) := by decide +kernel
theorem dX7_takesBack_18 : decode cX7_takesBack 18 = .ok (.iload_n 1, 1) := by decide +kernel
theorem dX7_takesBack_19 : decode cX7_takesBack 19 = .ok (.laload, 1) := by decide +kernel
theorem dX7_takesBack_20 : decode cX7_takesBack 20 = .ok (.lastore, 1) := by decide +kernel
theorem dX7_takesBack_21 : decode cX7_takesBack 21 = .ok (.iinc 1 1, 3) := by decide +kernel
theorem dX7_takesBack_24 : decode cX7_takesBack 24 = .ok (.goto (-22), 3) := by decide +kernel
theorem dX7_takesBack_27 : decode cX7_takesBack 27 = .ok (.return_, 1) := by decide +kernel
theorem dX7_others_0 : decode cX7_others 0 = .ok (.iconst 0, 1) := by decide +kernel
theorem dX7_others_1 : decode cX7_others 1 = .ok (.istore_n 1, 1) := by decide +kernel
theorem dX7_others_2 : decode cX7_others 2 = .ok (.iconst 0, 1) := by decide +kernel
theorem dX7_others_3 : decode cX7_others 3 = .ok (.istore_n 2, 1) := by decide +kernel
theorem dX7_others_4 : decode cX7_others 4 = .ok (.iload_n 2, 1) := by decide +kernel
theorem dX7_others_5 : decode cX7_others 5 = .ok (.aload_n 0, 1) := by decide +kernel
theorem dX7_others_6 : decode cX7_others 6 = .ok (.invokevirtual 53, 3) := by decide +kernel
theorem dX7_others_9 : decode cX7_others 9 = .ok (.if_icmp .ge 25, 3) := by decide +kernel
theorem dX7_others_12 : decode cX7_others 12 = .ok (.iload_n 1, 1) := by decide +kernel
theorem dX7_others_13 : decode cX7_others 13 = .ok (.aload_n 0, 1) := by decide +kernel
theorem dX7_others_14 : decode cX7_others 14 = .ok (.iload_n 2, 1) := by decide +kernel
theorem dX7_others_15 : decode cX7_others 15 = .ok (.invokevirtual 198, 3) := by decide +kernel
theorem dX7_others_18 : decode cX7_others 18 = .ok (.ifCond .eq 7, 3) := by decide +kernel
theorem dX7_others_21 : decode cX7_others 21 = .ok (.iconst 1, 1) := by decide +kernel
theorem dX7_others_22 : decode cX7_others 22 = .ok (.goto 4, 3) := by decide +kernel
theorem dX7_others_25 : decode cX7_others 25 = .ok (.iconst 0, 1) := by decide +kernel
theorem dX7_others_26 : decode cX7_others 26 = .ok (.iadd, 1) := by decide +kernel
theorem dX7_others_27 : decode cX7_others 27 = .ok (.istore_n 1, 1) := by decide +kernel
theorem dX7_others_28 : decode cX7_others 28 = .ok (.iinc 2 1, 3) := by decide +kernel
theorem dX7_others_31 : decode cX7_others 31 = .ok (.goto (-27), 3) := by decide +kernel
theorem dX7_others_34 : decode cX7_others 34 = .ok (.iload_n 1, 1) := by decide +kernel
theorem dX7_others_35 : decode cX7_others 35 = .ok (.ireturn, 1) := by decide +kernel
theorem dX7_when_0 : decode cX7_when 0 = .ok (.aload_n 0, 1) := by decide +kernel
theorem dX7_when_1 : decode cX7_when 1 = .ok (.invokevirtual 147, 3) := by decide +kernel
theorem dX7_when_4 : decode cX7_when 4 = .ok (.ifCond .eq 15, 3) := by decide +kernel
theorem dX7_when_7 : decode cX7_when 7 = .ok (.iload_n 1, 1) := by decide +kernel
theorem dX7_when_8 : decode cX7_when 8 = .ok (.i2l, 1) := by decide +kernel
theorem dX7_when_9 : decode cX7_when 9 = .ok (.lconst 0, 1) := by decide +kernel
theorem dX7_when_10 : decode cX7_when 10 = .ok (.ldc2_w 208, 3) := by decide +kernel
theorem dX7_when_13 : decode cX7_when 13 = .ok (.invokestatic 39, 3) := by decide +kernel
theorem dX7_when_16 : decode cX7_when 16 = .ok (.ifCond .ne 5, 3) := by decide +kernel
theorem dX7_when_19 : decode cX7_when 19 = .ok (.iconst (-1), 1) := by decide +kernel
theorem dX7_when_20 : decode cX7_when 20 = .ok (.ireturn, 1) := by decide +kernel
theorem dX7_when_21 : decode cX7_when 21 = .ok (.aload_n 0, 1) := by decide +kernel
theorem dX7_when_22 : decode cX7_when 22 = .ok (.invokevirtual 210, 3) := by decide +kernel
theorem dX7_when_25 : decode cX7_when 25 = .ok (.iconst 0, 1) := by decide +kernel
theorem dX7_when_26 : decode cX7_when 26 = .ok (.istore_n 2, 1) := by decide +kernel
theorem dX7_when_27 : decode cX7_when 27 = .ok (.iconst 0, 1) := by decide +kernel
theorem dX7_when_28 : decode cX7_when 28 = .ok (.istore_n 3, 1) := by decide +kernel
theorem dX7_when_29 : decode cX7_when 29 = .ok (.iconst 0, 1) := by decide +kernel
theorem dX7_when_30 : decode cX7_when 30 = .ok (.istore 4, 2) := by decide +kernel
theorem dX7_when_32 : decode cX7_when 32 = .ok (.aload_n 0, 1) := by decide +kernel
theorem dX7_when_33 : decode cX7_when 33 = .ok (.invokevirtual 156, 3) := by decide +kernel
theorem dX7_when_36 : decode cX7_when 36 = .ok (.ifCond .le 36, 3) := by decide +kernel
theorem dX7_when_39 : decode cX7_when 39 = .ok (.iinc 2 1, 3) := by decide +kernel
theorem dX7_when_42 : decode cX7_when 42 = .ok (.iload_n 3, 1) := by decide +kernel
theorem dX7_when_43 : decode cX7_when 43 = .ok (.aload_n 0, 1) := by decide +kernel
