theorem dX7_isSuch_52 : decode cX7_isSuch 52 = .ok (.aload_n 0, 1) := by decide +kernel
theorem dX7_isSuch_53 : decode cX7_isSuch 53 = .ok (.iload_n 1, 1) := by decide +kernel
theorem dX7_isSuch_54 : decode cX7_isSuch 54 = .ok (.iconst 2, 1) := by decide +kernel
theorem dX7_isSuch_55 : decode cX7_isSuch 55 = .ok (.invokevirtual 56, 3) := by decide +kernel
theorem dX7_isSuch_58 : decode cX7_isSuch 58 = .ok (.if_icmp .eq 7, 3) := by decide +kernel
theorem dX7_isSuch_61 : decode cX7_isSuch 61 = .ok (.iconst 1, 1) := by decide +kernel
theorem dX7_isSuch_62 : decode cX7_isSuch 62 = .ok (.goto 4, 3) := by decide +kernel
theorem dX7_isSuch_65 : decode cX7_isSuch 65 = .ok (.iconst 0, 1) := by decide +kernel
theorem dX7_isSuch_66 : decode cX7_isSuch 66 = .ok (.ireturn, 1) := by decide +kernel
theorem dX7_isSuch_67 : decode cX7_isSuch 67 = .ok (.aload_n 0, 1) := by decide +kernel
theorem dX7_isSuch_68 : decode cX7_isSuch 68 = .ok (.iload_n 1, 1) := by decide +kernel
theorem dX7_isSuch_69 : decode cX7_isSuch 69 = .ok (.invokevirtual 198, 3) := by decide +kernel
theorem dX7_isSuch_72 : decode cX7_isSuch 72 = .ok (.ireturn, 1) := by decide +kernel
theorem dX7_isSuch_73 : decode cX7_isSuch 73 = .ok (.aload_n 0, 1) := by decide +kernel
theorem dX7_isSuch_74 : decode cX7_isSuch 74 = .ok (.getfield 82, 3) := by decide +kernel
theorem dX7_isSuch_77 : decode cX7_isSuch 77 = .ok (.iload_n 1, 1) := by decide +kernel
theorem dX7_isSuch_78 : decode cX7_isSuch 78 = .ok (.invokestatic 74, 3) := by decide +kernel
theorem dX7_isSuch_81 : decode cX7_isSuch 81 = .ok (.ireturn, 1) := by decide +kernel
theorem dX7_isSuch_82 : decode cX7_isSuch 82 = .ok (.aload_n 0, 1) := by decide +kernel
theorem dX7_isSuch_83 : decode cX7_isSuch 83 = .ok (.iload_n 1, 1) := by decide +kernel
theorem dX7_isSuch_84 : decode cX7_isSuch 84 = .ok (.invokevirtual 96, 3) := by decide +kernel
theorem dX7_isSuch_87 : decode cX7_isSuch 87 = .ok (.i2l, 1) := by decide +kernel
theorem dX7_isSuch_88 : decode cX7_isSuch 88 = .ok (.aload_n 0, 1) := by decide +kernel
theorem dX7_isSuch_89 : decode cX7_isSuch 89 = .ok (.getfield 7, 3) := by decide +kernel
theorem dX7_isSuch_92 : decode cX7_isSuch 92 = .ok (.iconst 2, 1) := by decide +kernel
theorem dX7_isSuch_93 : decode cX7_isSuch 93 = .ok (.laload, 1) := by decide +kernel
theorem dX7_isSuch_94 : decode cX7_isSuch 94 = .ok (.lcmp, 1) := by decide +kernel
theorem dX7_isSuch_95 : decode cX7_isSuch 95 = .ok (.ifCond .le 7, 3) := by decide +kernel
theorem dX7_isSuch_98 : decode cX7_isSuch 98 = .ok (.iconst 1, 1) := by decide +kernel
theorem dX7_isSuch_99 : decode cX7_isSuch 99 = .ok (.goto 4, 3) := by decide +kernel
theorem dX7_isSuch_102 : decode cX7_isSuch 102 = .ok (.iconst 0, 1) := by decide +kernel
theorem dX7_isSuch_103 : decode cX7_isSuch 103 = .ok (.ireturn, 1) := by decide +kernel
theorem dX7_which_0 : decode cX7_which 0 = .ok (.aload_n 0, 1) := by decide +kernel
theorem dX7_which_1 : decode cX7_which 1 = .ok (.invokevirtual 147, 3) := by decide +kernel
theorem dX7_which_4 : decode cX7_which 4 = .ok (.ifCond .eq 15, 3) := by decide +kernel
theorem dX7_which_7 : decode cX7_which 7 = .ok (.iload_n 1, 1) := by decide +kernel
theorem dX7_which_8 : decode cX7_which 8 = .ok (.i2l, 1) := by decide +kernel
theorem dX7_which_9 : decode cX7_which 9 = .ok (.lconst 0, 1) := by decide +kernel
theorem dX7_which_10 : decode cX7_which 10 = .ok (.ldc2_w 201, 3) := by decide +kernel
theorem dX7_which_13 : decode cX7_which 13 = .ok (.invokestatic 39, 3) := by decide +kernel
theorem dX7_which_16 : decode cX7_which 16 = .ok (.ifCond .ne 7, 3) := by decide +kernel
theorem dX7_which_19 : decode cX7_which 19 = .ok (.ldc2_w 178, 3) := by decide +kernel
theorem dX7_which_22 : decode cX7_which 22 = .ok (.lreturn, 1) := by decide +kernel
theorem dX7_which_23 : decode cX7_which 23 = .ok (.aload_n 0, 1) := by decide +kernel
theorem dX7_which_24 : decode cX7_which 24 = .ok (.invokevirtual 99, 3) := by decide +kernel
theorem dX7_which_27 : decode cX7_which 27 = .ok (.lconst 0, 1) := by decide +kernel
theorem dX7_which_28 : decode cX7_which 28 = .ok (.lstore_n 2, 1) := by decide +kernel
theorem dX7_which_29 : decode cX7_which 29 = .ok (.iconst 0, 1) := by decide +kernel
theorem dX7_which_30 : decode cX7_which 30 = .ok (.istore 4, 2) := by decide +kernel
theorem dX7_which_32 : decode cX7_which 32 = .ok (.iload 4, 2) := by decide +kernel
theorem dX7_which_34 : decode cX7_which 34 = .ok (.aload_n 0, 1) := by decide +kernel
theorem dX7_which_35 : decode cX7_which 35 = .ok (.invokevirtual 53, 3) := by decide +kernel
theorem dX7_which_38 : decode cX7_which 38 = .ok (.if_icmp .ge 26, 3) := by decide +kernel
theorem dX7_which_41 : decode cX7_which 41 = .ok (.aload_n 0, 1) := by decide +kernel
theorem dX7_which_42 : decode cX7_which 42 = .ok (.iload 4, 2) := by decide +kernel
theorem dX7_which_44 : decode cX7_which 44 = .ok (.iload_n 1, 1) := by decide +kernel
theorem dX7_which_45 : decode cX7_which 45 = .ok (.invokevirtual 203, 3) := by decide +kernel
theorem dX7_which_48 : decode cX7_which 48 = .ok (.ifCond .eq 10, 3) := by decide +kernel
theorem dX7_which_51 : decode cX7_which 51 = .ok (.lload_n 2, 1) := by decide +kernel
theorem dX7_which_52 : decode cX7_which 52 = .ok (.lconst 1, 1) := by decide +kernel
theorem dX7_which_53 : decode cX7_which 53 = .ok (.iload 4, 2) := by decide +kernel
theorem dX7_which_55 : decode cX7_which 55 = .ok (.lshl, 1) := by decide +kernel
theorem dX7_which_56 : decode cX7_which 56 = .ok (.lor, 1) := by decide +kernel
theorem dX7_which_57 : decode cX7_which 57 = .ok (.lstore_n 2, 1) := by decide +kernel
theorem dX7_which_58 : decode cX7_which 58 = .ok (.iinc 4 1, 3) := by decide +kernel
theorem dX7_which_61 : decode cX7_which 61 = .ok (.goto (-29), 3) := by decide +kernel
theorem dX7_which_64 : decode cX7_which 64 = .ok (.lload_n 2, 1) := by decide +kernel
theorem dX7_which_65 : decode cX7_which 65 = .ok (.lreturn, 1) := by decide +kernel
theorem dX7_left_0 : decode cX7_left 0 = .ok (.aload_n 0, 1) := by decide +kernel
theorem dX7_left_1 : decode cX7_left 1 = .ok (.invokevirtual 147, 3) := by decide +kernel
theorem dX7_left_4 : decode cX7_left 4 = .ok (.ifCond .eq 15, 3) := by decide +kernel
theorem dX7_left_7 : decode cX7_left 7 = .ok (.iload_n 1, 1) := by decide +kernel
theorem dX7_left_8 : decode cX7_left 8 = .ok (.i2l, 1) := by decide +kernel
theorem dX7_left_9 : decode cX7_left 9 = .ok (.lconst 0, 1) := by decide +kernel
theorem dX7_left_10 : decode cX7_left 10 = .ok (.ldc2_w 206, 3) := by decide +kernel
theorem dX7_left_13 : decode cX7_left 13 = .ok (.invokestatic 39, 3) := by decide +kernel
theorem dX7_left_16 : decode cX7_left 16 = .ok (.ifCond .ne 5, 3) := by decide +kernel
theorem dX7_left_19 : decode cX7_left 19 = .ok (.iconst (-1), 1) := by decide +kernel
theorem dX7_left_20 : decode cX7_left 20 = .ok (.ireturn, 1) := by decide +kernel
theorem dX7_left_21 : decode cX7_left 21 = .ok (.iconst 0, 1) := by decide +kernel
theorem dX7_left_22 : decode cX7_left 22 = .ok (.istore_n 2, 1) := by decide +kernel
theorem dX7_left_23 : decode cX7_left 23 = .ok (.iconst 0, 1) := by decide +kernel
theorem dX7_left_24 : decode cX7_left 24 = .ok (.istore_n 3, 1) := by decide +kernel
theorem dX7_left_25 : decode cX7_left 25 = .ok (.iconst 0, 1) := by decide +kernel
theorem dX7_left_26 : decode cX7_left 26 = .ok (.istore 4, 2) := by decide +kernel
theorem dX7_left_28 : decode cX7_left 28 = .ok (.iconst 0, 1) := by decide +kernel
theorem dX7_left_29 : decode cX7_left 29 = .ok (.istore 5, 2) := by decide +kernel
theorem dX7_left_31 : decode cX7_left 31 = .ok (.iload 5, 2) := by decide +kernel
theorem dX7_left_33 : decode cX7_left 33 = .ok (.aload_n 0, 1) := by decide +kernel
theorem dX7_left_34 : decode cX7_left 34 = .ok (.invokevirtual 53, 3) := by decide +kernel
theorem dX7_left_37 : decode cX7_left 37 = .ok (.if_icmp .ge 53, 3) := by decide +kernel
theorem dX7_left_40 : decode cX7_left 40 = .ok (.iload_n 2, 1) := by decide +kernel
theorem dX7_left_41 : decode cX7_left 41 = .ok (.aload_n 0, 1) := by decide +kernel
theorem dX7_left_42 : decode cX7_left 42 = .ok (.iload 5, 2) := by decide +kernel
theorem dX7_left_44 : decode cX7_left 44 = .ok (.invokevirtual 93, 3) := by decide +kernel
theorem dX7_left_47 : decode cX7_left 47 = .ok (.iadd, 1) := by decide +kernel
theorem dX7_left_48 : decode cX7_left 48 = .ok (.istore_n 2, 1) := by decide +kernel
theorem dX7_left_49 : decode cX7_left 49 = .ok (.iload 4, 2) := by decide +kernel
theorem dX7_left_51 : decode cX7_left 51 = .ok (.aload_n 0, 1) := by decide +kernel
theorem dX7_left_52 : decode cX7_left 52 = .ok (.iload 5, 2) := by decide +kernel
theorem dX7_left_54 : decode cX7_left 54 = .ok (.invokevirtual 93, 3) := by decide +kernel
theorem dX7_left_57 : decode cX7_left 57 = .ok (.aload_n 0, 1) := by decide +kernel
theorem dX7_left_58 : decode cX7_left 58 = .ok (.iload 5, 2) := by decide +kernel
theorem dX7_left_60 : decode cX7_left 60 = .ok (.invokevirtual 96, 3) := by decide +kernel
theorem dX7_left_63 : decode cX7_left 63 = .ok (.imul, 1) := by decide +kernel
theorem dX7_left_64 : decode cX7_left 64 = .ok (.iadd, 1) := by decide +kernel
theorem dX7_left_65 : decode cX7_left 65 = .ok (.istore 4, 2) := by decide +kernel
theorem dX7_left_67 : decode cX7_left 67 = .ok (.aload_n 0, 1) := by decide +kernel
theorem dX7_left_68 : decode cX7_left 68 = .ok (.iload 5, 2) := by decide +kernel
theorem dX7_left_70 : decode cX7_left 70 = .ok (.invokevirtual 93, 3) := by decide +kernel
theorem dX7_left_73 : decode cX7_left 73 = .ok (.iload_n 3, 1) := by decide +kernel
theorem dX7_left_74 : decode cX7_left 74 = .ok (.if_icmp .le 10, 3) := by decide +kernel
theorem dX7_left_77 : decode cX7_left 77 = .ok (.aload_n 0, 1) := by decide +kernel
theorem dX7_left_78 : decode cX7_left 78 = .ok (.iload 5, 2) := by decide +kernel
theorem dX7_left_80 : decode cX7_left 80 = .ok (.invokevirtual 93, 3) := by decide +kernel
theorem dX7_left_83 : decode cX7_left 83 = .ok (.istore_n 3, 1) := by decide +kernel
theorem dX7_left_84 : decode cX7_left 84 = .ok (.iinc 5 1, 3) := by decide +kernel
theorem dX7_left_87 : decode cX7_left 87 = .ok (.goto (-56), 3) := by decide +kernel
theorem dX7_left_90 : decode cX7_left 90 = .ok (.iload 4, 2) := by decide +kernel
theorem dX7_left_92 : decode cX7_left 92 = .ok (.i2l, 1) := by decide +kernel
theorem dX7_left_93 : decode cX7_left 93 = .ok (.aload_n 0, 1) := by decide +kernel
theorem dX7_left_94 : decode cX7_left 94 = .ok (.getfield 7, 3) := by decide +kernel
theorem dX7_left_97 : decode cX7_left 97 = .ok (.iconst 2, 1) := by decide +kernel
theorem dX7_left_98 : decode cX7_left 98 = .ok (.laload, 1) := by decide +kernel
theorem dX7_left_99 : decode cX7_left 99 = .ok (.ladd, 1) := by decide +kernel
theorem dX7_left_100 : decode cX7_left 100 = .ok (.lconst 1, 1) := by decide +kernel
theorem dX7_left_101 : decode cX7_left 101 = .ok (.lsub, 1) := by decide +kernel
theorem dX7_left_102 : decode cX7_left 102 = .ok (.aload_n 0, 1) := by decide +kernel
theorem dX7_left_103 : decode cX7_left 103 = .ok (.getfield 7, 3) := by decide +kernel
theorem dX7_left_106 : decode cX7_left 106 = .ok (.iconst 2, 1) := by decide +kernel
theorem dX7_left_107 : decode cX7_left 107 = .ok (.laload, 1) := by decide +kernel
theorem dX7_left_108 : decode cX7_left 108 = .ok (.ldiv, 1) := by decide +kernel
theorem dX7_left_109 : decode cX7_left 109 = .ok (.l2i, 1) := by decide +kernel
theorem dX7_left_110 : decode cX7_left 110 = .ok (.istore 5, 2) := by decide +kernel
theorem dX7_left_112 : decode cX7_left 112 = .ok (.iload_n 1, 1) := by decide +kernel
theorem dX7_left_113 : decode cX7_left 113 = .ok (.ifCond .ne 7, 3) := by decide +kernel
theorem dX7_left_116 : decode cX7_left 116 = .ok (.iload_n 2, 1) := by decide +kernel
theorem dX7_left_117 : decode cX7_left 117 = .ok (.goto 34, 3) := by decide +kernel
theorem dX7_left_120 : decode cX7_left 120 = .ok (.iload_n 1, 1) := by decide +kernel
theorem dX7_left_121 : decode cX7_left 121 = .ok (.iconst 1, 1) := by decide +kernel
theorem dX7_left_122 : decode cX7_left 122 = .ok (.if_icmp .ne 7, 3) := by decide +kernel
theorem dX7_left_125 : decode cX7_left 125 = .ok (.iload_n 3, 1) := by decide +kernel
theorem dX7_left_126 : decode cX7_left 126 = .ok (.goto 25, 3) := by decide +kernel
theorem dX7_left_129 : decode cX7_left 129 = .ok (.iload_n 1, 1) := by decide +kernel
theorem dX7_left_130 : decode cX7_left 130 = .ok (.iconst 2, 1) := by decide +kernel
theorem dX7_left_131 : decode cX7_left 131 = .ok (.if_icmp .ne 8, 3) := by decide +kernel
theorem dX7_left_134 : decode cX7_left 134 = .ok (.iload 4, 2) := by decide +kernel
theorem dX7_left_136 : decode cX7_left 136 = .ok (.goto 15, 3) := by decide +kernel
theorem dX7_left_139 : decode cX7_left 139 = .ok (.iload 5, 2) := by decide +kernel
theorem dX7_left_141 : decode cX7_left 141 = .ok (.iload_n 3, 1) := by decide +kernel
theorem dX7_left_142 : decode cX7_left 142 = .ok (.if_icmp .le 8, 3) := by decide +kernel
theorem dX7_left_145 : decode cX7_left 145 = .ok (.iload 5, 2) := by decide +kernel
theorem dX7_left_147 : decode cX7_left 147 = .ok (.goto 4, 3) := by decide +kernel
theorem dX7_left_150 : decode cX7_left 150 = .ok (.iload_n 3, 1) := by decide +kernel
theorem dX7_left_151 : decode cX7_left 151 = .ok (.ireturn, 1) := by decide +kernel
theorem dX7_putsAside_0 : decode cX7_putsAside 0 = .ok (.iconst 0, 1) := by decide +kernel
theorem dX7_putsAside_1 : decode cX7_putsAside 1 = .ok (.istore_n 1, 1) := by decide +kernel
theorem dX7_putsAside_2 : decode cX7_putsAside 2 = .ok (.iload_n 1, 1) := by decide +kernel
theorem dX7_putsAside_3 : decode cX7_putsAside 3 = .ok (.sipush 6896, 3) := by decide +kernel
theorem dX7_putsAside_6 : decode cX7_putsAside 6 = .ok (.if_icmp .ge 21, 3) := by decide +kernel
theorem dX7_putsAside_9 : decode cX7_putsAside 9 = .ok (.aload_n 0, 1) := by decide +kernel
theorem dX7_putsAside_10 : decode cX7_putsAside 10 = .ok (.getfield 24, 3) := by decide +kernel
theorem dX7_putsAside_13 : decode cX7_putsAside 13 = .ok (.iload_n 1, 1) := by decide +kernel
theorem dX7_putsAside_14 : decode cX7_putsAside 14 = .ok (.aload_n 0, 1) := by decide +kernel
theorem dX7_putsAside_15 : decode cX7_putsAside 15 = .ok (.getfield 7, 3) := by decide +kernel
theorem dX7_putsAside_18 : decode cX7_putsAside 18 = .ok (.iload_n 1, 1) := by decide +kernel
theorem dX7_putsAside_19 : decode cX7_putsAside 19 = .ok (.laload, 1) := by decide +kernel
theorem dX7_putsAside_20 : decode cX7_putsAside 20 = .ok (.lastore, 1) := by decide +kernel
theorem dX7_putsAside_21 : decode cX7_putsAside 21 = .ok (.iinc 1 1, 3) := by decide +kernel
theorem dX7_putsAside_24 : decode cX7_putsAside 24 = .ok (.goto (-22), 3) := by decide +kernel
theorem dX7_putsAside_27 : decode cX7_putsAside 27 = .ok (.return_, 1) := by decide +kernel
theorem dX7_takesBack_0 : decode cX7_takesBack 0 = .ok (.iconst 0, 1) := by decide +kernel
theorem dX7_takesBack_1 : decode cX7_takesBack 1 = .ok (.istore_n 1, 1) := by decide +kernel
theorem dX7_takesBack_2 : decode cX7_takesBack 2 = .ok (.iload_n 1, 1) := by decide +kernel
theorem dX7_takesBack_3 : decode cX7_takesBack 3 = .ok (.sipush 6896, 3) := by decide +kernel
theorem dX7_takesBack_6 : decode cX7_takesBack 6 = .ok (.if_icmp .ge 21, 3) := by decide +kernel
theorem dX7_takesBack_9 : decode cX7_takesBack 9 = .ok (.aload_n 0, 1) := by decide +kernel
theorem dX7_takesBack_10 : decode cX7_takesBack 10 = .ok (.getfield 7, 3) := by decide +kernel
theorem dX7_takesBack_13 : decode cX7_takesBack 13 = .ok (.iload_n 1, 1) := by decide +kernel
theorem dX7_takesBack_14 : decode cX7_takesBack 14 = .ok (.aload_n 0, 1) := by decide +kernel
theorem dX7_takesBack_15 : decode cX7_takesBack 15 = .ok (.getfield 24, 3) := by decide +kernel
theorem dX7_takesBack_18 : decode cX7_takesBack 18 = .ok (.iload_n 1, 1) := by decide +kernel
theorem dX7_takesBack_19 : decode cX7_takesBack 19 = .ok (.laload, 1) := by decide +kernel
theorem dX7_takesBack_20 : decode cX7_takesBack 20 = .ok (.lastore, 1) := by decide +kernel
theorem dX7_takesBack_21 : decode cX7_takesBack 21 = .ok (.iinc 1 1, 3) := by decide +kernel
theorem dX7_takesBack_24 : decode cX7_takesBack 24 = .ok (.goto (-22), 3) := by decide +kernel
theorem dX7_takesBack_27 : decode cX7_takesBack 27 = .ok (.return_, 1) := by decide +kernel
theorem dX7_others_0 : decode cX7_others 0 = .ok (.iconst 0, 1) := by decide +kernel
theorem dX7_others_1 : decode cX7_others 1 = .ok (.istore_n 1, 1) := by decide +kernel
theorem dX7_others_2 : decode cX7_others 2 = .ok (.iconst 0, 1) := by decide +kernel
theorem dX7_others_3 : decode cX7_others 3 = .ok (.istore_n 2, 1) := by decide +kernel
theorem dX7_others_4 : decode cX7_others 4 = .ok (.iload_n 2, 1) := by decide +kernel
theorem dX7_others_5 : decode cX7_others 5 = .ok (.aload_n 0, 1) := by decide +kernel
theorem dX7_others_6 : decode cX7_others 6 = .ok (.invokevirtual 53, 3) := by decide +kernel
theorem dX7_others_9 : decode cX7_others 9 = .ok (.if_icmp .ge 25, 3) := by decide +kernel
theorem dX7_others_12 : decode cX7_others 12 = .ok (.iload_n 1, 1) := by decide +kernel
theorem dX7_others_13 : decode cX7_others 13 = .ok (.aload_n 0, 1) := by decide +kernel
theorem dX7_others_14 : decode cX7_others 14 = .ok (.iload_n 2, 1) := by decide +kernel
theorem dX7_others_15 : decode cX7_others 15 = .ok (.invokevirtual 198, 3) := by decide +kernel
theorem dX7_others_18 : decode cX7_others 18 = .ok (.ifCond .eq 7, 3) := by decide +kernel
theorem dX7_others_21 : decode cX7_others 21 = .ok (.iconst 1, 1) := by decide +kernel
theorem dX7_others_22 : decode cX7_others 22 = .ok (.goto 4, 3) := by decide +kernel
theorem dX7_others_25 : decode cX7_others 25 = .ok (.iconst 0, 1) := by decide +kernel
theorem dX7_others_26 : decode cX7_others 26 = .ok (.iadd, 1) := by decide +kernel
theorem dX7_others_27 : decode cX7_others 27 = .ok (.istore_n 1, 1) := by decide +kernel
theorem dX7_others_28 : decode cX7_others 28 = .ok (.iinc 2 1, 3) := by decide +kernel
theorem dX7_others_31 : decode cX7_others 31 = .ok (.goto (-27), 3) := by decide +kernel
theorem dX7_others_34 : decode cX7_others 34 = .ok (.iload_n 1, 1) := by decide +kernel
theorem dX7_others_35 : decode cX7_others 35 = .ok (.ireturn, 1) := by decide +kernel
theorem dX7_when_0 : decode cX7_when 0 = .ok (.aload_n 0, 1) := by decide +kernel
theorem dX7_when_1 : decode cX7_when 1 = .ok (.invokevirtual 147, 3) := by decide +kernel
theorem dX7_when_4 : decode cX7_when 4 = .ok (.ifCond .eq 15, 3) := by decide +kernel
theorem dX7_when_7 : decode cX7_when 7 = .ok (.iload_n 1, 1) := by decide +kernel
theorem dX7_when_8 : decode cX7_when 8 = .ok (.i2l, 1) := by decide +kernel
theorem dX7_when_9 : decode cX7_when 9 = .ok (.lconst 0, 1) := by decide +kernel
theorem dX7_when_10 : decode cX7_when 10 = .ok (.ldc2_w 208, 3) := by decide +kernel
theorem dX7_when_13 : decode cX7_when 13 = .ok (.invokestatic 39, 3) := by decide +kernel
theorem dX7_when_16 : decode cX7_when 16 = .ok (.ifCond .ne 5, 3) := by decide +kernel
theorem dX7_when_19 : decode cX7_when 19 = .ok (.iconst (-1), 1) := by decide +kernel
theorem dX7_when_20 : decode cX7_when 20 = .ok (.ireturn, 1) := by decide +kernel
theorem dX7_when_21 : decode cX7_when 21 = .ok (.aload_n 0, 1) := by decide +kernel
theorem dX7_when_22 : decode cX7_when 22 = .ok (.invokevirtual 210, 3) := by decide +kernel
theorem dX7_when_25 : decode cX7_when 25 = .ok (.iconst 0, 1) := by decide +kernel
theorem dX7_when_26 : decode cX7_when 26 = .ok (.istore_n 2, 1) := by decide +kernel
theorem dX7_when_27 : decode cX7_when 27 = .ok (.iconst 0, 1) := by decide +kernel
theorem dX7_when_28 : decode cX7_when 28 = .ok (.istore_n 3, 1) := by decide +kernel
theorem dX7_when_29 : decode cX7_when 29 = .ok (.iconst 0, 1) := by decide +kernel
theorem dX7_when_30 : decode cX7_when 30 = .ok (.istore 4, 2) := by decide +kernel
theorem dX7_when_32 : decode cX7_when 32 = .ok (.aload_n 0, 1) := by decide +kernel
theorem dX7_when_33 : decode cX7_when 33 = .ok (.invokevirtual 156, 3) := by decide +kernel
theorem dX7_when_36 : decode cX7_when 36 = .ok (.ifCond .le 36, 3) := by decide +kernel
theorem dX7_when_39 : decode cX7_when 39 = .ok (.iinc 2 1, 3) := by decide +kernel
theorem dX7_when_42 : decode cX7_when 42 = .ok (.iload_n 3, 1) := by decide +kernel
theorem dX7_when_43 : decode cX7_when 43 = .ok (.aload_n 0, 1) := by decide +kernel
theorem dX7_when_44 : decode cX7_when 44 = .ok (.getfield 86, 3) := by decide +kernel
theorem dX7_when_47 : decode cX7_when 47 = .ok (.aload_n 0, 1) := by decide +kernel
theorem dX7_when_48 : decode cX7_when 48 = .ok (.getfield 86, 3) := by decide +kernel
theorem dX7_when_51 : decode cX7_when 51 = .ok (.imul, 1) := by decide +kernel
theorem dX7_when_52 : decode cX7_when 52 = .ok (.iadd, 1) := by decide +kernel
theorem dX7_when_53 : decode cX7_when 53 = .ok (.istore_n 3, 1) := by decide +kernel
theorem dX7_when_54 : decode cX7_when 54 = .ok (.aload_n 0, 1) := by decide +kernel
theorem dX7_when_55 : decode cX7_when 55 = .ok (.getfield 90, 3) := by decide +kernel
theorem dX7_when_58 : decode cX7_when 58 = .ok (.iload 4, 2) := by decide +kernel
theorem dX7_when_60 : decode cX7_when 60 = .ok (.if_icmp .le (-28), 3) := by decide +kernel
theorem dX7_when_63 : decode cX7_when 63 = .ok (.aload_n 0, 1) := by decide +kernel
theorem dX7_when_64 : decode cX7_when 64 = .ok (.getfield 90, 3) := by decide +kernel
theorem dX7_when_67 : decode cX7_when 67 = .ok (.istore 4, 2) := by decide +kernel
theorem dX7_when_69 : decode cX7_when 69 = .ok (.goto (-37), 3) := by decide +kernel
theorem dX7_when_72 : decode cX7_when 72 = .ok (.aload_n 0, 1) := by decide +kernel
theorem dX7_when_73 : decode cX7_when 73 = .ok (.getfield 7, 3) := by decide +kernel
theorem dX7_when_76 : decode cX7_when 76 = .ok (.bipush 6, 2) := by decide +kernel
theorem dX7_when_78 : decode cX7_when 78 = .ok (.laload, 1) := by decide +kernel
theorem dX7_when_79 : decode cX7_when 79 = .ok (.aload_n 0, 1) := by decide +kernel
theorem dX7_when_80 : decode cX7_when 80 = .ok (.getfield 24, 3) := by decide +kernel
theorem dX7_when_83 : decode cX7_when 83 = .ok (.bipush 6, 2) := by decide +kernel
theorem dX7_when_85 : decode cX7_when 85 = .ok (.laload, 1) := by decide +kernel
theorem dX7_when_86 : decode cX7_when 86 = .ok (.lsub, 1) := by decide +kernel
theorem dX7_when_87 : decode cX7_when 87 = .ok (.l2i, 1) := by decide +kernel
theorem dX7_when_88 : decode cX7_when 88 = .ok (.istore 5, 2) := by decide +kernel
theorem dX7_when_90 : decode cX7_when 90 = .ok (.aload_n 0, 1) := by decide +kernel
theorem dX7_when_91 : decode cX7_when 91 = .ok (.getfield 7, 3) := by decide +kernel
theorem dX7_when_94 : decode cX7_when 94 = .ok (.bipush 7, 2) := by decide +kernel
theorem dX7_when_96 : decode cX7_when 96 = .ok (.laload, 1) := by decide +kernel
theorem dX7_when_97 : decode cX7_when 97 = .ok (.aload_n 0, 1) := by decide +kernel
theorem dX7_when_98 : decode cX7_when 98 = .ok (.getfield 24, 3) := by decide +kernel
theorem dX7_when_101 : decode cX7_when 101 = .ok (.bipush 7, 2) := by decide +kernel
theorem dX7_when_103 : decode cX7_when 103 = .ok (.laload, 1) := by decide +kernel
theorem dX7_when_104 : decode cX7_when 104 = .ok (.lsub, 1) := by decide +kernel
theorem dX7_when_105 : decode cX7_when 105 = .ok (.l2i, 1) := by decide +kernel
theorem dX7_when_106 : decode cX7_when 106 = .ok (.istore 6, 2) := by decide +kernel
theorem dX7_when_108 : decode cX7_when 108 = .ok (.aload_n 0, 1) := by decide +kernel
theorem dX7_when_109 : decode cX7_when 109 = .ok (.invokevirtual 213, 3) := by decide +kernel
theorem dX7_when_112 : decode cX7_when 112 = .ok (.istore 7, 2) := by decide +kernel
theorem dX7_when_114 : decode cX7_when 114 = .ok (.aload_n 0, 1) := by decide +kernel
theorem dX7_when_115 : decode cX7_when 115 = .ok (.invokevirtual 216, 3) := by decide +kernel
theorem dX7_when_118 : decode cX7_when 118 = .ok (.iload_n 1, 1) := by decide +kernel
theorem dX7_when_119 : decode cX7_when 119 = .ok (.tableswitch 46 0 4 #[33, 35, 38, 40, 43], 33) := by decide +kernel
theorem dX7_when_152 : decode cX7_when 152 = .ok (.iload_n 2, 1) := by decide +kernel
theorem dX7_when_153 : decode cX7_when 153 = .ok (.ireturn, 1) := by decide +kernel
theorem dX7_when_154 : decode cX7_when 154 = .ok (.iload 5, 2) := by decide +kernel
theorem dX7_when_156 : decode cX7_when 156 = .ok (.ireturn, 1) := by decide +kernel
theorem dX7_when_157 : decode cX7_when 157 = .ok (.iload_n 3, 1) := by decide +kernel
theorem dX7_when_158 : decode cX7_when 158 = .ok (.ireturn, 1) := by decide +kernel
theorem dX7_when_159 : decode cX7_when 159 = .ok (.iload 4, 2) := by decide +kernel
theorem dX7_when_161 : decode cX7_when 161 = .ok (.ireturn, 1) := by decide +kernel
theorem dX7_when_162 : decode cX7_when 162 = .ok (.iload 7, 2) := by decide +kernel
theorem dX7_when_164 : decode cX7_when 164 = .ok (.ireturn, 1) := by decide +kernel
theorem dX7_when_165 : decode cX7_when 165 = .ok (.iload 6, 2) := by decide +kernel
theorem dX7_when_167 : decode cX7_when 167 = .ok (.ireturn, 1) := by decide +kernel
theorem dX7_total_0 : decode cX7_total 0 = .ok (.aload_n 0, 1) := by decide +kernel
theorem dX7_total_1 : decode cX7_total 1 = .ok (.invokevirtual 147, 3) := by decide +kernel
theorem dX7_total_4 : decode cX7_total 4 = .ok (.ifCond .eq 27, 3) := by decide +kernel
theorem dX7_total_7 : decode cX7_total 7 = .ok (.iload_n 1, 1) := by decide +kernel
theorem dX7_total_8 : decode cX7_total 8 = .ok (.i2l, 1) := by decide +kernel
theorem dX7_total_9 : decode cX7_total 9 = .ok (.lconst 0, 1) := by decide +kernel
theorem dX7_total_10 : decode cX7_total 10 = .ok (.ldc2_w 206, 3) := by decide +kernel
theorem dX7_total_13 : decode cX7_total 13 = .ok (.invokestatic 39, 3) := by decide +kernel
theorem dX7_total_16 : decode cX7_total 16 = .ok (.ifCond .eq 15, 3) := by decide +kernel
theorem dX7_total_19 : decode cX7_total 19 = .ok (.aload_n 0, 1) := by decide +kernel
theorem dX7_total_20 : decode cX7_total 20 = .ok (.getfield 7, 3) := by decide +kernel
theorem dX7_total_23 : decode cX7_total 23 = .ok (.iconst 4, 1) := by decide +kernel
theorem dX7_total_24 : decode cX7_total 24 = .ok (.iload_n 1, 1) := by decide +kernel
theorem dX7_total_25 : decode cX7_total 25 = .ok (.iadd, 1) := by decide +kernel
theorem dX7_total_26 : decode cX7_total 26 = .ok (.laload, 1) := by decide +kernel
theorem dX7_total_27 : decode cX7_total 27 = .ok (.l2i, 1) := by decide +kernel
theorem dX7_total_28 : decode cX7_total 28 = .ok (.goto 4, 3) := by decide +kernel
theorem dX7_total_31 : decode cX7_total 31 = .ok (.iconst (-1), 1) := by decide +kernel
theorem dX7_total_32 : decode cX7_total 32 = .ok (.ireturn, 1) := by decide +kernel
theorem dX7_rests_0 : decode cX7_rests 0 = .ok (.aload_n 0, 1) := by decide +kernel
theorem dX7_rests_1 : decode cX7_rests 1 = .ok (.iload_n 1, 1) := by decide +kernel
theorem dX7_rests_2 : decode cX7_rests 2 = .ok (.invokevirtual 162, 3) := by decide +kernel
theorem dX7_rests_5 : decode cX7_rests 5 = .ok (.ifCond .ne 5, 3) := by decide +kernel
theorem dX7_rests_8 : decode cX7_rests 8 = .ok (.iconst (-1), 1) := by decide +kernel
theorem dX7_rests_9 : decode cX7_rests 9 = .ok (.ireturn, 1) := by decide +kernel
theorem dX7_rests_10 : decode cX7_rests 10 = .ok (.aload_n 0, 1) := by decide +kernel
theorem dX7_rests_11 : decode cX7_rests 11 = .ok (.invokevirtual 210, 3) := by decide +kernel
theorem dX7_rests_14 : decode cX7_rests 14 = .ok (.iconst 0, 1) := by decide +kernel
theorem dX7_rests_15 : decode cX7_rests 15 = .ok (.istore_n 2, 1) := by decide +kernel
theorem dX7_rests_16 : decode cX7_rests 16 = .ok (.aload_n 0, 1) := by decide +kernel
theorem dX7_rests_17 : decode cX7_rests 17 = .ok (.iload_n 1, 1) := by decide +kernel
theorem dX7_rests_18 : decode cX7_rests 18 = .ok (.invokevirtual 93, 3) := by decide +kernel
theorem dX7_rests_21 : decode cX7_rests 21 = .ok (.ifCond .le 23, 3) := by decide +kernel
theorem dX7_rests_24 : decode cX7_rests 24 = .ok (.iload_n 2, 1) := by decide +kernel
theorem dX7_rests_25 : decode cX7_rests 25 = .ok (.sipush 9999, 3) := by decide +kernel
theorem dX7_rests_28 : decode cX7_rests 28 = .ok (.if_icmp .gt 16, 3) := by decide +kernel
theorem dX7_rests_31 : decode cX7_rests 31 = .ok (.aload_n 0, 1) := by decide +kernel
theorem dX7_rests_32 : decode cX7_rests 32 = .ok (.invokevirtual 156, 3) := by decide +kernel
theorem dX7_rests_35 : decode cX7_rests 35 = .ok (.ifCond .le 9, 3) := by decide +kernel
theorem dX7_rests_38 : decode cX7_rests 38 = .ok (.iinc 2 1, 3) := by decide +kernel
theorem dX7_rests_41 : decode cX7_rests 41 = .ok (.goto (-25), 3) := by decide +kernel
theorem dX7_rests_44 : decode cX7_rests 44 = .ok (.aload_n 0, 1) := by decide +kernel
theorem dX7_rests_45 : decode cX7_rests 45 = .ok (.iload_n 1, 1) := by decide +kernel
theorem dX7_rests_46 : decode cX7_rests 46 = .ok (.invokevirtual 93, 3) := by decide +kernel
theorem dX7_rests_49 : decode cX7_rests 49 = .ok (.ifCond .gt 10, 3) := by decide +kernel
theorem dX7_rests_52 : decode cX7_rests 52 = .ok (.iload_n 2, 1) := by decide +kernel
theorem dX7_rests_53 : decode cX7_rests 53 = .ok (.sipush 9999, 3) := by decide +kernel
theorem dX7_rests_56 : decode cX7_rests 56 = .ok (.if_icmp .le 8, 3) := by decide +kernel
theorem dX7_rests_59 : decode cX7_rests 59 = .ok (.bipush (-2), 2) := by decide +kernel
theorem dX7_rests_61 : decode cX7_rests 61 = .ok (.goto 4, 3) := by decide +kernel
theorem dX7_rests_64 : decode cX7_rests 64 = .ok (.iload_n 2, 1) := by decide +kernel
theorem dX7_rests_65 : decode cX7_rests 65 = .ok (.istore_n 3, 1) := by decide +kernel
theorem dX7_rests_66 : decode cX7_rests 66 = .ok (.aload_n 0, 1) := by decide +kernel
theorem dX7_rests_67 : decode cX7_rests 67 = .ok (.invokevirtual 216, 3) := by decide +kernel
theorem dX7_rests_70 : decode cX7_rests 70 = .ok (.iload_n 3, 1) := by decide +kernel
theorem dX7_rests_71 : decode cX7_rests 71 = .ok (.ireturn, 1) := by decide +kernel
theorem dX7_unlike_0 : decode cX7_unlike 0 = .ok (.aload_n 0, 1) := by decide +kernel
theorem dX7_unlike_1 : decode cX7_unlike 1 = .ok (.iload_n 1, 1) := by decide +kernel
theorem dX7_unlike_2 : decode cX7_unlike 2 = .ok (.invokevirtual 138, 3) := by decide +kernel
theorem dX7_unlike_5 : decode cX7_unlike 5 = .ok (.ifCond .eq 16, 3) := by decide +kernel
theorem dX7_unlike_8 : decode cX7_unlike 8 = .ok (.aload_n 0, 1) := by decide +kernel
theorem dX7_unlike_9 : decode cX7_unlike 9 = .ok (.iload_n 2, 1) := by decide +kernel
theorem dX7_unlike_10 : decode cX7_unlike 10 = .ok (.invokevirtual 138, 3) := by decide +kernel
theorem dX7_unlike_13 : decode cX7_unlike 13 = .ok (.ifCond .eq 8, 3) := by decide +kernel
theorem dX7_unlike_16 : decode cX7_unlike 16 = .ok (.iload_n 1, 1) := by decide +kernel
theorem dX7_unlike_17 : decode cX7_unlike 17 = .ok (.iload_n 2, 1) := by decide +kernel
theorem dX7_unlike_18 : decode cX7_unlike 18 = .ok (.if_icmp .ne 5, 3) := by decide +kernel
theorem dX7_unlike_21 : decode cX7_unlike 21 = .ok (.iconst (-1), 1) := by decide +kernel
theorem dX7_unlike_22 : decode cX7_unlike 22 = .ok (.ireturn, 1) := by decide +kernel
theorem dX7_unlike_23 : decode cX7_unlike 23 = .ok (.iconst 0, 1) := by decide +kernel
theorem dX7_unlike_24 : decode cX7_unlike 24 = .ok (.istore_n 3, 1) := by decide +kernel
theorem dX7_unlike_25 : decode cX7_unlike 25 = .ok (.iconst 0, 1) := by decide +kernel
theorem dX7_unlike_26 : decode cX7_unlike 26 = .ok (.istore 4, 2) := by decide +kernel
theorem dX7_unlike_28 : decode cX7_unlike 28 = .ok (.iload 4, 2) := by decide +kernel
theorem dX7_unlike_30 : decode cX7_unlike 30 = .ok (.aload_n 0, 1) := by decide +kernel
theorem dX7_unlike_31 : decode cX7_unlike 31 = .ok (.invokevirtual 47, 3) := by decide +kernel
theorem dX7_unlike_34 : decode cX7_unlike 34 = .ok (.if_icmp .ge 48, 3) := by decide +kernel
theorem dX7_unlike_37 : decode cX7_unlike 37 = .ok (.iload_n 3, 1) := by decide +kernel
theorem dX7_unlike_38 : decode cX7_unlike 38 = .ok (.aload_n 0, 1) := by decide +kernel
theorem dX7_unlike_39 : decode cX7_unlike 39 = .ok (.aload_n 0, 1) := by decide +kernel
theorem dX7_unlike_40 : decode cX7_unlike 40 = .ok (.invokevirtual 47, 3) := by decide +kernel
theorem dX7_unlike_43 : decode cX7_unlike 43 = .ok (.iload_n 1, 1) := by decide +kernel
theorem dX7_unlike_44 : decode cX7_unlike 44 = .ok (.imul, 1) := by decide +kernel
theorem dX7_unlike_45 : decode cX7_unlike 45 = .ok (.iload 4, 2) := by decide +kernel
theorem dX7_unlike_47 : decode cX7_unlike 47 = .ok (.iadd, 1) := by decide +kernel
theorem dX7_unlike_48 : decode cX7_unlike 48 = .ok (.iconst 2, 1) := by decide +kernel
theorem dX7_unlike_49 : decode cX7_unlike 49 = .ok (.invokevirtual 195, 3) := by decide +kernel
theorem dX7_unlike_52 : decode cX7_unlike 52 = .ok (.aload_n 0, 1) := by decide +kernel
theorem dX7_unlike_53 : decode cX7_unlike 53 = .ok (.aload_n 0, 1) := by decide +kernel
theorem dX7_unlike_54 : decode cX7_unlike 54 = .ok (.invokevirtual 47, 3) := by decide +kernel
theorem dX7_unlike_57 : decode cX7_unlike 57 = .ok (.iload_n 2, 1) := by decide +kernel
theorem dX7_unlike_58 : decode cX7_unlike 58 = .ok (.imul, 1) := by decide +kernel
theorem dX7_unlike_59 : decode cX7_unlike 59 = .ok (.iload 4, 2) := by decide +kernel
theorem dX7_unlike_61 : decode cX7_unlike 61 = .ok (.iadd, 1) := by decide +kernel
theorem dX7_unlike_62 : decode cX7_unlike 62 = .ok (.iconst 2, 1) := by decide +kernel
theorem dX7_unlike_63 : decode cX7_unlike 63 = .ok (.invokevirtual 195, 3) := by decide +kernel
theorem dX7_unlike_66 : decode cX7_unlike 66 = .ok (.if_icmp .eq 7, 3) := by decide +kernel
theorem dX7_unlike_69 : decode cX7_unlike 69 = .ok (.iconst 1, 1) := by decide +kernel
theorem dX7_unlike_70 : decode cX7_unlike 70 = .ok (.goto 4, 3) := by decide +kernel
theorem dX7_unlike_73 : decode cX7_unlike 73 = .ok (.iconst 0, 1) := by decide +kernel
theorem dX7_unlike_74 : decode cX7_unlike 74 = .ok (.iadd, 1) := by decide +kernel
theorem dX7_unlike_75 : decode cX7_unlike 75 = .ok (.istore_n 3, 1) := by decide +kernel
theorem dX7_unlike_76 : decode cX7_unlike 76 = .ok (.iinc 4 1, 3) := by decide +kernel
theorem dX7_unlike_79 : decode cX7_unlike 79 = .ok (.goto (-51), 3) := by decide +kernel
theorem dX7_unlike_82 : decode cX7_unlike 82 = .ok (.iload_n 3, 1) := by decide +kernel
theorem dX7_unlike_83 : decode cX7_unlike 83 = .ok (.ireturn, 1) := by decide +kernel
theorem dX7_digest_0 : decode cX7_digest 0 = .ok (.ldc2_w 219, 3) := by decide +kernel
theorem dX7_digest_3 : decode cX7_digest 3 = .ok (.lstore_n 1, 1) := by decide +kernel
theorem dX7_digest_4 : decode cX7_digest 4 = .ok (.iconst 0, 1) := by decide +kernel
theorem dX7_digest_5 : decode cX7_digest 5 = .ok (.istore_n 3, 1) := by decide +kernel
theorem dX7_digest_6 : decode cX7_digest 6 = .ok (.iload_n 3, 1) := by decide +kernel
theorem dX7_digest_7 : decode cX7_digest 7 = .ok (.aload_n 0, 1) := by decide +kernel
theorem dX7_digest_8 : decode cX7_digest 8 = .ok (.invokevirtual 53, 3) := by decide +kernel
theorem dX7_digest_11 : decode cX7_digest 11 = .ok (.if_icmp .ge 51, 3) := by decide +kernel
theorem dX7_digest_14 : decode cX7_digest 14 = .ok (.iconst 0, 1) := by decide +kernel
theorem dX7_digest_15 : decode cX7_digest 15 = .ok (.istore 4, 2) := by decide +kernel
theorem dX7_digest_17 : decode cX7_digest 17 = .ok (.iload 4, 2) := by decide +kernel
theorem dX7_digest_19 : decode cX7_digest 19 = .ok (.iconst 4, 1) := by decide +kernel
theorem dX7_digest_20 : decode cX7_digest 20 = .ok (.if_icmp .gt 24, 3) := by decide +kernel
theorem dX7_digest_23 : decode cX7_digest 23 = .ok (.ldc2_w 221, 3) := by decide +kernel
theorem dX7_digest_26 : decode cX7_digest 26 = .ok (.lload_n 1, 1) := by decide +kernel
theorem dX7_digest_27 : decode cX7_digest 27 = .ok (.lmul, 1) := by decide +kernel
theorem dX7_digest_28 : decode cX7_digest 28 = .ok (.aload_n 0, 1) := by decide +kernel
theorem dX7_digest_29 : decode cX7_digest 29 = .ok (.iload_n 3, 1) := by decide +kernel
theorem dX7_digest_30 : decode cX7_digest 30 = .ok (.iload 4, 2) := by decide +kernel
theorem dX7_digest_32 : decode cX7_digest 32 = .ok (.invokevirtual 56, 3) := by decide +kernel
theorem dX7_digest_35 : decode cX7_digest 35 = .ok (.i2l, 1) := by decide +kernel
theorem dX7_digest_36 : decode cX7_digest 36 = .ok (.ladd, 1) := by decide +kernel
theorem dX7_digest_37 : decode cX7_digest 37 = .ok (.lstore_n 1, 1) := by decide +kernel
theorem dX7_digest_38 : decode cX7_digest 38 = .ok (.iinc 4 1, 3) := by decide +kernel
theorem dX7_digest_41 : decode cX7_digest 41 = .ok (.goto (-24), 3) := by decide +kernel
theorem dX7_digest_44 : decode cX7_digest 44 = .ok (.ldc2_w 221, 3) := by decide +kernel
theorem dX7_digest_47 : decode cX7_digest 47 = .ok (.lload_n 1, 1) := by decide +kernel
theorem dX7_digest_48 : decode cX7_digest 48 = .ok (.lmul, 1) := by decide +kernel
theorem dX7_digest_49 : decode cX7_digest 49 = .ok (.aload_n 0, 1) := by decide +kernel
theorem dX7_digest_50 : decode cX7_digest 50 = .ok (.iload_n 3, 1) := by decide +kernel
theorem dX7_digest_51 : decode cX7_digest 51 = .ok (.invokevirtual 109, 3) := by decide +kernel
theorem dX7_digest_54 : decode cX7_digest 54 = .ok (.ladd, 1) := by decide +kernel
theorem dX7_digest_55 : decode cX7_digest 55 = .ok (.lstore_n 1, 1) := by decide +kernel
theorem dX7_digest_56 : decode cX7_digest 56 = .ok (.iinc 3 1, 3) := by decide +kernel
theorem dX7_digest_59 : decode cX7_digest 59 = .ok (.goto (-53), 3) := by decide +kernel
theorem dX7_digest_62 : decode cX7_digest 62 = .ok (.lload_n 1, 1) := by decide +kernel
theorem dX7_digest_63 : decode cX7_digest 63 = .ok (.lreturn, 1) := by decide +kernel
theorem dX7_letter_0 : decode cX7_letter 0 = .ok (.iload_n 1, 1) := by decide +kernel
theorem dX7_letter_1 : decode cX7_letter 1 = .ok (.i2l, 1) := by decide +kernel
theorem dX7_letter_2 : decode cX7_letter 2 = .ok (.lconst 0, 1) := by decide +kernel
theorem dX7_letter_3 : decode cX7_letter 3 = .ok (.lconst 1, 1) := by decide +kernel
theorem dX7_letter_4 : decode cX7_letter 4 = .ok (.invokestatic 39, 3) := by decide +kernel
theorem dX7_letter_7 : decode cX7_letter 7 = .ok (.ifCond .eq 8, 3) := by decide +kernel
theorem dX7_letter_10 : decode cX7_letter 10 = .ok (.iload_n 2, 1) := by decide +kernel
theorem dX7_letter_11 : decode cX7_letter 11 = .ok (.iconst (-1), 1) := by decide +kernel
theorem dX7_letter_12 : decode cX7_letter 12 = .ok (.if_icmp .ge 5, 3) := by decide +kernel
theorem dX7_letter_15 : decode cX7_letter 15 = .ok (.iconst (-1), 1) := by decide +kernel
theorem dX7_letter_16 : decode cX7_letter 16 = .ok (.ireturn, 1) := by decide +kernel
theorem dX7_letter_17 : decode cX7_letter 17 = .ok (.aload_n 0, 1) := by decide +kernel
theorem dX7_letter_18 : decode cX7_letter 18 = .ok (.invokevirtual 53, 3) := by decide +kernel
theorem dX7_letter_21 : decode cX7_letter 21 = .ok (.ifCond .ne 7, 3) := by decide +kernel
theorem dX7_letter_24 : decode cX7_letter 24 = .ok (.iconst 0, 1) := by decide +kernel
theorem dX7_letter_25 : decode cX7_letter 25 = .ok (.goto 16, 3) := by decide +kernel
theorem dX7_letter_28 : decode cX7_letter 28 = .ok (.aload_n 0, 1) := by decide +kernel
theorem dX7_letter_29 : decode cX7_letter 29 = .ok (.invokevirtual 47, 3) := by decide +kernel
theorem dX7_letter_32 : decode cX7_letter 32 = .ok (.iconst 1, 1) := by decide +kernel
theorem dX7_letter_33 : decode cX7_letter 33 = .ok (.iadd, 1) := by decide +kernel
theorem dX7_letter_34 : decode cX7_letter 34 = .ok (.aload_n 0, 1) := by decide +kernel
theorem dX7_letter_35 : decode cX7_letter 35 = .ok (.invokevirtual 43, 3) := by decide +kernel
theorem dX7_letter_38 : decode cX7_letter 38 = .ok (.imul, 1) := by decide +kernel
theorem dX7_letter_39 : decode cX7_letter 39 = .ok (.iconst 1, 1) := by decide +kernel
theorem dX7_letter_40 : decode cX7_letter 40 = .ok (.isub, 1) := by decide +kernel
theorem dX7_letter_41 : decode cX7_letter 41 = .ok (.istore_n 3, 1) := by decide +kernel
theorem dX7_letter_42 : decode cX7_letter 42 = .ok (.iload_n 2, 1) := by decide +kernel
theorem dX7_letter_43 : decode cX7_letter 43 = .ok (.iconst (-1), 1) := by decide +kernel
theorem dX7_letter_44 : decode cX7_letter 44 = .ok (.if_icmp .ne 5, 3) := by decide +kernel
theorem dX7_letter_47 : decode cX7_letter 47 = .ok (.iload_n 3, 1) := by decide +kernel
theorem dX7_letter_48 : decode cX7_letter 48 = .ok (.ireturn, 1) := by decide +kernel
theorem dX7_letter_49 : decode cX7_letter 49 = .ok (.iload_n 2, 1) := by decide +kernel
theorem dX7_letter_50 : decode cX7_letter 50 = .ok (.iload_n 3, 1) := by decide +kernel
theorem dX7_letter_51 : decode cX7_letter 51 = .ok (.if_icmp .lt 6, 3) := by decide +kernel
theorem dX7_letter_54 : decode cX7_letter 54 = .ok (.bipush (-2), 2) := by decide +kernel
theorem dX7_letter_56 : decode cX7_letter 56 = .ok (.ireturn, 1) := by decide +kernel
theorem dX7_letter_57 : decode cX7_letter 57 = .ok (.iload_n 2, 1) := by decide +kernel
theorem dX7_letter_58 : decode cX7_letter 58 = .ok (.aload_n 0, 1) := by decide +kernel
theorem dX7_letter_59 : decode cX7_letter 59 = .ok (.invokevirtual 47, 3) := by decide +kernel
theorem dX7_letter_62 : decode cX7_letter 62 = .ok (.iconst 1, 1) := by decide +kernel
theorem dX7_letter_63 : decode cX7_letter 63 = .ok (.iadd, 1) := by decide +kernel
theorem dX7_letter_64 : decode cX7_letter 64 = .ok (.irem, 1) := by decide +kernel
theorem dX7_letter_65 : decode cX7_letter 65 = .ok (.istore 4, 2) := by decide +kernel
theorem dX7_letter_67 : decode cX7_letter 67 = .ok (.iload 4, 2) := by decide +kernel
theorem dX7_letter_69 : decode cX7_letter 69 = .ok (.aload_n 0, 1) := by decide +kernel
theorem dX7_letter_70 : decode cX7_letter 70 = .ok (.invokevirtual 47, 3) := by decide +kernel
theorem dX7_letter_73 : decode cX7_letter 73 = .ok (.if_icmp .ne 8, 3) := by decide +kernel
theorem dX7_letter_76 : decode cX7_letter 76 = .ok (.bipush 47, 2) := by decide +kernel
theorem dX7_letter_78 : decode cX7_letter 78 = .ok (.goto 26, 3) := by decide +kernel
theorem dX7_letter_81 : decode cX7_letter 81 = .ok (.aload_n 0, 1) := by decide +kernel
theorem dX7_letter_82 : decode cX7_letter 82 = .ok (.iload_n 2, 1) := by decide +kernel
theorem dX7_letter_83 : decode cX7_letter 83 = .ok (.aload_n 0, 1) := by decide +kernel
theorem dX7_letter_84 : decode cX7_letter 84 = .ok (.invokevirtual 47, 3) := by decide +kernel
theorem dX7_letter_87 : decode cX7_letter 87 = .ok (.iconst 1, 1) := by decide +kernel
theorem dX7_letter_88 : decode cX7_letter 88 = .ok (.iadd, 1) := by decide +kernel
theorem dX7_letter_89 : decode cX7_letter 89 = .ok (.idiv, 1) := by decide +kernel
theorem dX7_letter_90 : decode cX7_letter 90 = .ok (.aload_n 0, 1) := by decide +kernel
theorem dX7_letter_91 : decode cX7_letter 91 = .ok (.invokevirtual 47, 3) := by decide +kernel
theorem dX7_letter_94 : decode cX7_letter 94 = .ok (.imul, 1) := by decide +kernel
theorem dX7_letter_95 : decode cX7_letter 95 = .ok (.iload 4, 2) := by decide +kernel
theorem dX7_letter_97 : decode cX7_letter 97 = .ok (.iadd, 1) := by decide +kernel
theorem dX7_letter_98 : decode cX7_letter 98 = .ok (.iconst 2, 1) := by decide +kernel
theorem dX7_letter_99 : decode cX7_letter 99 = .ok (.iload_n 1, 1) := by decide +kernel
theorem dX7_letter_100 : decode cX7_letter 100 = .ok (.imul, 1) := by decide +kernel
theorem dX7_letter_101 : decode cX7_letter 101 = .ok (.invokevirtual 195, 3) := by decide +kernel
theorem dX7_letter_104 : decode cX7_letter 104 = .ok (.ireturn, 1) := by decide +kernel
theorem dX7_count_0 : decode cX7_count 0 = .ok (.iload_n 1, 1) := by decide +kernel
theorem dX7_count_1 : decode cX7_count 1 = .ok (.tableswitch 128 0 8 #[51, 56, 61, 66, 74, 79, 84, 89, 119], 51) := by decide +kernel
theorem dX7_count_52 : decode cX7_count 52 = .ok (.aload_n 0, 1) := by decide +kernel
theorem dX7_count_53 : decode cX7_count 53 = .ok (.invokevirtual 43, 3) := by decide +kernel
theorem dX7_count_56 : decode cX7_count 56 = .ok (.ireturn, 1) := by decide +kernel
theorem dX7_count_57 : decode cX7_count 57 = .ok (.aload_n 0, 1) := by decide +kernel
theorem dX7_count_58 : decode cX7_count 58 = .ok (.invokevirtual 47, 3) := by decide +kernel
theorem dX7_count_61 : decode cX7_count 61 = .ok (.ireturn, 1) := by decide +kernel
theorem dX7_count_62 : decode cX7_count 62 = .ok (.aload_n 0, 1) := by decide +kernel
theorem dX7_count_63 : decode cX7_count 63 = .ok (.invokevirtual 53, 3) := by decide +kernel
theorem dX7_count_66 : decode cX7_count 66 = .ok (.ireturn, 1) := by decide +kernel
theorem dX7_count_67 : decode cX7_count 67 = .ok (.aload_n 0, 1) := by decide +kernel
theorem dX7_count_68 : decode cX7_count 68 = .ok (.getfield 7, 3) := by decide +kernel
theorem dX7_count_71 : decode cX7_count 71 = .ok (.iconst 2, 1) := by decide +kernel
theorem dX7_count_72 : decode cX7_count 72 = .ok (.laload, 1) := by decide +kernel
theorem dX7_count_73 : decode cX7_count 73 = .ok (.l2i, 1) := by decide +kernel
theorem dX7_count_74 : decode cX7_count 74 = .ok (.ireturn, 1) := by decide +kernel
theorem dX7_count_75 : decode cX7_count 75 = .ok (.aload_n 0, 1) := by decide +kernel
theorem dX7_count_76 : decode cX7_count 76 = .ok (.invokevirtual 50, 3) := by decide +kernel
theorem dX7_count_79 : decode cX7_count 79 = .ok (.ireturn, 1) := by decide +kernel
theorem dX7_count_80 : decode cX7_count 80 = .ok (.aload_n 0, 1) := by decide +kernel
theorem dX7_count_81 : decode cX7_count 81 = .ok (.getfield 124, 3) := by decide +kernel
theorem dX7_count_84 : decode cX7_count 84 = .ok (.ireturn, 1) := by decide +kernel
theorem dX7_count_85 : decode cX7_count 85 = .ok (.aload_n 0, 1) := by decide +kernel
theorem dX7_count_86 : decode cX7_count 86 = .ok (.getfield 135, 3) := by decide +kernel
theorem dX7_count_89 : decode cX7_count 89 = .ok (.ireturn, 1) := by decide +kernel
theorem dX7_count_90 : decode cX7_count 90 = .ok (.aload_n 0, 1) := by decide +kernel
theorem dX7_count_91 : decode cX7_count 91 = .ok (.getfield 20, 3) := by decide +kernel
theorem dX7_count_94 : decode cX7_count 94 = .ok (.iconst 0, 1) := by decide +kernel
theorem dX7_count_95 : decode cX7_count 95 = .ok (.baload, 1) := by decide +kernel
theorem dX7_count_96 : decode cX7_count 96 = .ok (.ifCond .eq 7, 3) := by decide +kernel
theorem dX7_count_99 : decode cX7_count 99 = .ok (.iconst 1, 1) := by decide +kernel
theorem dX7_count_100 : decode cX7_count 100 = .ok (.goto 4, 3) := by decide +kernel
theorem dX7_count_103 : decode cX7_count 103 = .ok (.iconst 0, 1) := by decide +kernel
theorem dX7_count_104 : decode cX7_count 104 = .ok (.aload_n 0, 1) := by decide +kernel
theorem dX7_count_105 : decode cX7_count 105 = .ok (.getfield 20, 3) := by decide +kernel
theorem dX7_count_108 : decode cX7_count 108 = .ok (.iconst 1, 1) := by decide +kernel
theorem dX7_count_109 : decode cX7_count 109 = .ok (.baload, 1) := by decide +kernel
theorem dX7_count_110 : decode cX7_count 110 = .ok (.ifCond .eq 7, 3) := by decide +kernel
theorem dX7_count_113 : decode cX7_count 113 = .ok (.iconst 2, 1) := by decide +kernel
theorem dX7_count_114 : decode cX7_count 114 = .ok (.goto 4, 3) := by decide +kernel
theorem dX7_count_117 : decode cX7_count 117 = .ok (.iconst 0, 1) := by decide +kernel
theorem dX7_count_118 : decode cX7_count 118 = .ok (.iadd, 1) := by decide +kernel
theorem dX7_count_119 : decode cX7_count 119 = .ok (.ireturn, 1) := by decide +kernel
theorem dX7_count_120 : decode cX7_count 120 = .ok (.aload_n 0, 1) := by decide +kernel
theorem dX7_count_121 : decode cX7_count 121 = .ok (.invokevirtual 99, 3) := by decide +kernel
theorem dX7_count_124 : decode cX7_count 124 = .ok (.aload_n 0, 1) := by decide +kernel
theorem dX7_count_125 : decode cX7_count 125 = .ok (.getfield 86, 3) := by decide +kernel
theorem dX7_count_128 : decode cX7_count 128 = .ok (.ireturn, 1) := by decide +kernel
theorem dX7_count_129 : decode cX7_count 129 = .ok (.iconst (-1), 1) := by decide +kernel
theorem dX7_count_130 : decode cX7_count 130 = .ok (.ireturn, 1) := by decide +kernel
theorem dX7_asks_0 : decode cX7_asks 0 = .ok (.aload_n 0, 1) := by decide +kernel
theorem dX7_asks_1 : decode cX7_asks 1 = .ok (.iconst 0, 1) := by decide +kernel
theorem dX7_asks_2 : decode cX7_asks 2 = .ok (.putfield 223, 3) := by decide +kernel
theorem dX7_asks_5 : decode cX7_asks 5 = .ok (.aload_n 0, 1) := by decide +kernel
theorem dX7_asks_6 : decode cX7_asks 6 = .ok (.iconst 0, 1) := by decide +kernel
theorem dX7_asks_7 : decode cX7_asks 7 = .ok (.putfield 226, 3) := by decide +kernel
theorem dX7_asks_10 : decode cX7_asks 10 = .ok (.iconst 0, 1) := by decide +kernel
theorem dX7_asks_11 : decode cX7_asks 11 = .ok (.istore 5, 2) := by decide +kernel
theorem dX7_asks_13 : decode cX7_asks 13 = .ok (.iload 5, 2) := by decide +kernel
theorem dX7_asks_15 : decode cX7_asks 15 = .ok (.aload_n 0, 1) := by decide +kernel
theorem dX7_asks_16 : decode cX7_asks 16 = .ok (.invokevirtual 47, 3) := by decide +kernel
theorem dX7_asks_19 : decode cX7_asks 19 = .ok (.if_icmp .ge 116, 3) := by decide +kernel
theorem dX7_asks_22 : decode cX7_asks 22 = .ok (.aload_n 0, 1) := by decide +kernel
theorem dX7_asks_23 : decode cX7_asks 23 = .ok (.invokevirtual 47, 3) := by decide +kernel
theorem dX7_asks_26 : decode cX7_asks 26 = .ok (.iload_n 1, 1) := by decide +kernel
theorem dX7_asks_27 : decode cX7_asks 27 = .ok (.imul, 1) := by decide +kernel
theorem dX7_asks_28 : decode cX7_asks 28 = .ok (.iload 5, 2) := by decide +kernel
theorem dX7_asks_30 : decode cX7_asks 30 = .ok (.iadd, 1) := by decide +kernel
theorem dX7_asks_31 : decode cX7_asks 31 = .ok (.istore 6, 2) := by decide +kernel
theorem dX7_asks_33 : decode cX7_asks 33 = .ok (.iload 5, 2) := by decide +kernel
theorem dX7_asks_35 : decode cX7_asks 35 = .ok (.iload_n 2, 1) := by decide +kernel
theorem dX7_asks_36 : decode cX7_asks 36 = .ok (.if_icmp .lt 16, 3) := by decide +kernel
theorem dX7_asks_39 : decode cX7_asks 39 = .ok (.iload 5, 2) := by decide +kernel
theorem dX7_asks_41 : decode cX7_asks 41 = .ok (.iload_n 2, 1) := by decide +kernel
theorem dX7_asks_42 : decode cX7_asks 42 = .ok (.iload 4, 2) := by decide +kernel
theorem dX7_asks_44 : decode cX7_asks 44 = .ok (.iadd, 1) := by decide +kernel
theorem dX7_asks_45 : decode cX7_asks 45 = .ok (.if_icmp .ge 7, 3) := by decide +kernel
theorem dX7_asks_48 : decode cX7_asks 48 = .ok (.iconst 1, 1) := by decide +kernel
theorem dX7_asks_49 : decode cX7_asks 49 = .ok (.goto 4, 3) := by decide +kernel
theorem dX7_asks_52 : decode cX7_asks 52 = .ok (.iconst 0, 1) := by decide +kernel
theorem dX7_asks_53 : decode cX7_asks 53 = .ok (.istore 7, 2) := by decide +kernel
theorem dX7_asks_55 : decode cX7_asks 55 = .ok (.iload 7, 2) := by decide +kernel
theorem dX7_asks_57 : decode cX7_asks 57 = .ok (.ifCond .eq 23, 3) := by decide +kernel
theorem dX7_asks_60 : decode cX7_asks 60 = .ok (.aload_n 0, 1) := by decide +kernel
theorem dX7_asks_61 : decode cX7_asks 61 = .ok (.iload 6, 2) := by decide +kernel
theorem dX7_asks_63 : decode cX7_asks 63 = .ok (.aload_n 0, 1) := by decide +kernel
theorem dX7_asks_64 : decode cX7_asks 64 = .ok (.getfield 31, 3) := by decide +kernel
theorem dX7_asks_67 : decode cX7_asks 67 = .ok (.iload_n 3, 1) := by decide +kernel
theorem dX7_asks_68 : decode cX7_asks 68 = .ok (.iload 5, 2) := by decide +kernel
theorem dX7_asks_70 : decode cX7_asks 70 = .ok (.iadd, 1) := by decide +kernel
theorem dX7_asks_71 : decode cX7_asks 71 = .ok (.iload_n 2, 1) := by decide +kernel
theorem dX7_asks_72 : decode cX7_asks 72 = .ok (.isub, 1) := by decide +kernel
theorem dX7_asks_73 : decode cX7_asks 73 = .ok (.baload, 1) := by decide +kernel
theorem dX7_asks_74 : decode cX7_asks 74 = .ok (.invokevirtual 113, 3) := by decide +kernel
theorem dX7_asks_77 : decode cX7_asks 77 = .ok (.goto 4, 3) := by decide +kernel
theorem dX7_asks_80 : decode cX7_asks 80 = .ok (.iconst 0, 1) := by decide +kernel
theorem dX7_asks_81 : decode cX7_asks 81 = .ok (.istore 8, 2) := by decide +kernel
theorem dX7_asks_83 : decode cX7_asks 83 = .ok (.iload 8, 2) := by decide +kernel
theorem dX7_asks_85 : decode cX7_asks 85 = .ok (.iconst (-1), 1) := by decide +kernel
theorem dX7_asks_86 : decode cX7_asks 86 = .ok (.if_icmp .ne 16, 3) := by decide +kernel
theorem dX7_asks_89 : decode cX7_asks 89 = .ok (.aload_n 0, 1) := by decide +kernel
theorem dX7_asks_90 : decode cX7_asks 90 = .ok (.dup, 1) := by decide +kernel
theorem dX7_asks_91 : decode cX7_asks 91 = .ok (.getfield 226, 3) := by decide +kernel
theorem dX7_asks_94 : decode cX7_asks 94 = .ok (.iconst 1, 1) := by decide +kernel
theorem dX7_asks_95 : decode cX7_asks 95 = .ok (.iadd, 1) := by decide +kernel
theorem dX7_asks_96 : decode cX7_asks 96 = .ok (.putfield 226, 3) := by decide +kernel
theorem dX7_asks_99 : decode cX7_asks 99 = .ok (.goto 30, 3) := by decide +kernel
theorem dX7_asks_102 : decode cX7_asks 102 = .ok (.aload_n 0, 1) := by decide +kernel
theorem dX7_asks_103 : decode cX7_asks 103 = .ok (.dup, 1) := by decide +kernel
theorem dX7_asks_104 : decode cX7_asks 104 = .ok (.getfield 223, 3) := by decide +kernel
theorem dX7_asks_107 : decode cX7_asks 107 = .ok (.aload_n 0, 1) := by decide +kernel
theorem dX7_asks_108 : decode cX7_asks 108 = .ok (.iload 6, 2) := by decide +kernel
theorem dX7_asks_110 : decode cX7_asks 110 = .ok (.iconst 2, 1) := by decide +kernel
theorem dX7_asks_111 : decode cX7_asks 111 = .ok (.invokevirtual 56, 3) := by decide +kernel
theorem dX7_asks_114 : decode cX7_asks 114 = .ok (.iload 8, 2) := by decide +kernel
theorem dX7_asks_116 : decode cX7_asks 116 = .ok (.aload_n 0, 1) := by decide +kernel
theorem dX7_asks_117 : decode cX7_asks 117 = .ok (.iload 6, 2) := by decide +kernel
theorem dX7_asks_119 : decode cX7_asks 119 = .ok (.invokevirtual 67, 3) := by decide +kernel
theorem dX7_asks_122 : decode cX7_asks 122 = .ok (.invokestatic 70, 3) := by decide +kernel
theorem dX7_asks_125 : decode cX7_asks 125 = .ok (.iadd, 1) := by decide +kernel
theorem dX7_asks_126 : decode cX7_asks 126 = .ok (.putfield 223, 3) := by decide +kernel
theorem dX7_asks_129 : decode cX7_asks 129 = .ok (.iinc 5 1, 3) := by decide +kernel
theorem dX7_asks_132 : decode cX7_asks 132 = .ok (.goto (-119), 3) := by decide +kernel
theorem dX7_asks_135 : decode cX7_asks 135 = .ok (.return_, 1) := by decide +kernel
theorem dX7_cost_0 : decode cX7_cost 0 = .ok (.aload_n 0, 1) := by decide +kernel
theorem dX7_cost_1 : decode cX7_cost 1 = .ok (.iload_n 1, 1) := by decide +kernel
theorem dX7_cost_2 : decode cX7_cost 2 = .ok (.invokevirtual 138, 3) := by decide +kernel
theorem dX7_cost_5 : decode cX7_cost 5 = .ok (.ifCond .ne 5, 3) := by decide +kernel
theorem dX7_cost_8 : decode cX7_cost 8 = .ok (.iconst (-1), 1) := by decide +kernel
theorem dX7_cost_9 : decode cX7_cost 9 = .ok (.ireturn, 1) := by decide +kernel
theorem dX7_cost_10 : decode cX7_cost 10 = .ok (.aload_n 0, 1) := by decide +kernel
theorem dX7_cost_11 : decode cX7_cost 11 = .ok (.aload_n 0, 1) := by decide +kernel
theorem dX7_cost_12 : decode cX7_cost 12 = .ok (.getfield 135, 3) := by decide +kernel
theorem dX7_cost_15 : decode cX7_cost 15 = .ok (.invokevirtual 141, 3) := by decide +kernel
theorem dX7_cost_18 : decode cX7_cost 18 = .ok (.ifCond .ne 6, 3) := by decide +kernel
theorem dX7_cost_21 : decode cX7_cost 21 = .ok (.bipush (-2), 2) := by decide +kernel
theorem dX7_cost_23 : decode cX7_cost 23 = .ok (.ireturn, 1) := by decide +kernel
theorem dX7_cost_24 : decode cX7_cost 24 = .ok (.aload_n 0, 1) := by decide +kernel
theorem dX7_cost_25 : decode cX7_cost 25 = .ok (.iload_n 1, 1) := by decide +kernel
theorem dX7_cost_26 : decode cX7_cost 26 = .ok (.iconst 0, 1) := by decide +kernel
theorem dX7_cost_27 : decode cX7_cost 27 = .ok (.iconst 0, 1) := by decide +kernel
theorem dX7_cost_28 : decode cX7_cost 28 = .ok (.aload_n 0, 1) := by decide +kernel
theorem dX7_cost_29 : decode cX7_cost 29 = .ok (.getfield 135, 3) := by decide +kernel
theorem dX7_cost_32 : decode cX7_cost 32 = .ok (.invokevirtual 229, 3) := by decide +kernel
theorem dX7_cost_35 : decode cX7_cost 35 = .ok (.aload_n 0, 1) := by decide +kernel
theorem dX7_cost_36 : decode cX7_cost 36 = .ok (.getfield 223, 3) := by decide +kernel
theorem dX7_cost_39 : decode cX7_cost 39 = .ok (.ireturn, 1) := by decide +kernel
theorem dX7_endOf_0 : decode cX7_endOf 0 = .ok (.iload_n 1, 1) := by decide +kernel
theorem dX7_endOf_1 : decode cX7_endOf 1 = .ok (.istore_n 2, 1) := by decide +kernel
theorem dX7_endOf_2 : decode cX7_endOf 2 = .ok (.iload_n 2, 1) := by decide +kernel
theorem dX7_endOf_3 : decode cX7_endOf 3 = .ok (.aload_n 0, 1) := by decide +kernel
theorem dX7_endOf_4 : decode cX7_endOf 4 = .ok (.getfield 135, 3) := by decide +kernel
theorem dX7_endOf_7 : decode cX7_endOf 7 = .ok (.if_icmp .ge 20, 3) := by decide +kernel
theorem dX7_endOf_10 : decode cX7_endOf 10 = .ok (.aload_n 0, 1) := by decide +kernel
theorem dX7_endOf_11 : decode cX7_endOf 11 = .ok (.getfield 31, 3) := by decide +kernel
theorem dX7_endOf_14 : decode cX7_endOf 14 = .ok (.iload_n 2, 1) := by decide +kernel
theorem dX7_endOf_15 : decode cX7_endOf 15 = .ok (.baload, 1) := by decide +kernel
theorem dX7_endOf_16 : decode cX7_endOf 16 = .ok (.bipush 47, 2) := by decide +kernel
theorem dX7_endOf_18 : decode cX7_endOf 18 = .ok (.if_icmp .eq 9, 3) := by decide +kernel
theorem dX7_endOf_21 : decode cX7_endOf 21 = .ok (.iinc 2 1, 3) := by decide +kernel
theorem dX7_endOf_24 : decode cX7_endOf 24 = .ok (.goto (-22), 3) := by decide +kernel
theorem dX7_endOf_27 : decode cX7_endOf 27 = .ok (.iload_n 2, 1) := by decide +kernel
theorem dX7_endOf_28 : decode cX7_endOf 28 = .ok (.ireturn, 1) := by decide +kernel
theorem dX7_best_0 : decode cX7_best 0 = .ok (.aload_n 0, 1) := by decide +kernel
theorem dX7_best_1 : decode cX7_best 1 = .ok (.iload_n 1, 1) := by decide +kernel
theorem dX7_best_2 : decode cX7_best 2 = .ok (.invokevirtual 138, 3) := by decide +kernel
theorem dX7_best_5 : decode cX7_best 5 = .ok (.ifCond .eq 15, 3) := by decide +kernel
theorem dX7_best_8 : decode cX7_best 8 = .ok (.iload_n 2, 1) := by decide +kernel
theorem dX7_best_9 : decode cX7_best 9 = .ok (.i2l, 1) := by decide +kernel
theorem dX7_best_10 : decode cX7_best 10 = .ok (.lconst 0, 1) := by decide +kernel
theorem dX7_best_11 : decode cX7_best 11 = .ok (.ldc2_w 193, 3) := by decide +kernel
theorem dX7_best_14 : decode cX7_best 14 = .ok (.invokestatic 39, 3) := by decide +kernel
theorem dX7_best_17 : decode cX7_best 17 = .ok (.ifCond .ne 5, 3) := by decide +kernel
theorem dX7_best_20 : decode cX7_best 20 = .ok (.iconst (-1), 1) := by decide +kernel
theorem dX7_best_21 : decode cX7_best 21 = .ok (.ireturn, 1) := by decide +kernel
theorem dX7_best_22 : decode cX7_best 22 = .ok (.iconst (-1), 1) := by decide +kernel
theorem dX7_best_23 : decode cX7_best 23 = .ok (.istore_n 3, 1) := by decide +kernel
theorem dX7_best_24 : decode cX7_best 24 = .ok (.iconst 0, 1) := by decide +kernel
theorem dX7_best_25 : decode cX7_best 25 = .ok (.istore 4, 2) := by decide +kernel
theorem dX7_best_27 : decode cX7_best 27 = .ok (.iconst 0, 1) := by decide +kernel
theorem dX7_best_28 : decode cX7_best 28 = .ok (.istore 5, 2) := by decide +kernel
theorem dX7_best_30 : decode cX7_best 30 = .ok (.iconst 0, 1) := by decide +kernel
theorem dX7_best_31 : decode cX7_best 31 = .ok (.istore 6, 2) := by decide +kernel
theorem dX7_best_33 : decode cX7_best 33 = .ok (.iconst 0, 1) := by decide +kernel
theorem dX7_best_34 : decode cX7_best 34 = .ok (.istore 7, 2) := by decide +kernel
theorem dX7_best_36 : decode cX7_best 36 = .ok (.iload 7, 2) := by decide +kernel
theorem dX7_best_38 : decode cX7_best 38 = .ok (.aload_n 0, 1) := by decide +kernel
theorem dX7_best_39 : decode cX7_best 39 = .ok (.getfield 135, 3) := by decide +kernel
theorem dX7_best_42 : decode cX7_best 42 = .ok (.if_icmp .gt 110, 3) := by decide +kernel
theorem dX7_best_45 : decode cX7_best 45 = .ok (.aload_n 0, 1) := by decide +kernel
theorem dX7_best_46 : decode cX7_best 46 = .ok (.iload 7, 2) := by decide +kernel
theorem dX7_best_48 : decode cX7_best 48 = .ok (.invokevirtual 233, 3) := by decide +kernel
theorem dX7_best_51 : decode cX7_best 51 = .ok (.iload 7, 2) := by decide +kernel
theorem dX7_best_53 : decode cX7_best 53 = .ok (.isub, 1) := by decide +kernel
theorem dX7_best_54 : decode cX7_best 54 = .ok (.istore 8, 2) := by decide +kernel
theorem dX7_best_56 : decode cX7_best 56 = .ok (.iload 8, 2) := by decide +kernel
theorem dX7_best_58 : decode cX7_best 58 = .ok (.aload_n 0, 1) := by decide +kernel
theorem dX7_best_59 : decode cX7_best 59 = .ok (.invokevirtual 47, 3) := by decide +kernel
theorem dX7_best_62 : decode cX7_best 62 = .ok (.if_icmp .gt 14, 3) := by decide +kernel
theorem dX7_best_65 : decode cX7_best 65 = .ok (.aload_n 0, 1) := by decide +kernel
theorem dX7_best_66 : decode cX7_best 66 = .ok (.iload 7, 2) := by decide +kernel
