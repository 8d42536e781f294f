theorem dX7_best_68 : decode cX7_best 68 = .ok (.iload 8, 2) := by decide +kernel
theorem dX7_best_70 : decode cX7_best 70 = .ok (.invokevirtual 131, 3) := by decide +kernel
theorem dX7_best_73 : decode cX7_best 73 = .ok (.ifCond .ne 6, 3) := by decide +kernel
theorem dX7_best_76 : decode cX7_best 76 = .ok (.bipush (-2), 2) := by decide +kernel
theorem dX7_best_78 : decode cX7_best 78 = .ok (.ireturn, 1) := by decide +kernel
theorem dX7_best_79 : decode cX7_best 79 = .ok (.aload_n 0, 1) := by decide +kernel
theorem dX7_best_80 : decode cX7_best 80 = .ok (.iload_n 1, 1) := by decide +kernel
theorem dX7_best_81 : decode cX7_best 81 = .ok (.iconst 0, 1) := by decide +kernel
theorem dX7_best_82 : decode cX7_best 82 = .ok (.iload 7, 2) := by decide +kernel
theorem dX7_best_84 : decode cX7_best 84 = .ok (.iload 8, 2) := by decide +kernel
theorem dX7_best_86 : decode cX7_best 86 = .ok (.invokevirtual 229, 3) := by decide +kernel
theorem dX7_best_89 : decode cX7_best 89 = .ok (.iload_n 3, 1) := by decide +kernel
theorem dX7_best_90 : decode cX7_best 90 = .ok (.iconst (-1), 1) := by decide +kernel
theorem dX7_best_91 : decode cX7_best 91 = .ok (.if_icmp .eq 30, 3) := by decide +kernel
theorem dX7_best_94 : decode cX7_best 94 = .ok (.aload_n 0, 1) := by decide +kernel
theorem dX7_best_95 : decode cX7_best 95 = .ok (.getfield 223, 3) := by decide +kernel
theorem dX7_best_98 : decode cX7_best 98 = .ok (.iload 4, 2) := by decide +kernel
theorem dX7_best_100 : decode cX7_best 100 = .ok (.if_icmp .lt 21, 3) := by decide +kernel
theorem dX7_best_103 : decode cX7_best 103 = .ok (.aload_n 0, 1) := by decide +kernel
theorem dX7_best_104 : decode cX7_best 104 = .ok (.getfield 223, 3) := by decide +kernel
theorem dX7_best_107 : decode cX7_best 107 = .ok (.iload 4, 2) := by decide +kernel
theorem dX7_best_109 : decode cX7_best 109 = .ok (.if_icmp .ne 27, 3) := by decide +kernel
theorem dX7_best_112 : decode cX7_best 112 = .ok (.aload_n 0, 1) := by decide +kernel
theorem dX7_best_113 : decode cX7_best 113 = .ok (.getfield 226, 3) := by decide +kernel
theorem dX7_best_116 : decode cX7_best 116 = .ok (.iload 5, 2) := by decide +kernel
theorem dX7_best_118 : decode cX7_best 118 = .ok (.if_icmp .ge 18, 3) := by decide +kernel
theorem dX7_best_121 : decode cX7_best 121 = .ok (.iload 6, 2) := by decide +kernel
theorem dX7_best_123 : decode cX7_best 123 = .ok (.istore_n 3, 1) := by decide +kernel
theorem dX7_best_124 : decode cX7_best 124 = .ok (.aload_n 0, 1) := by decide +kernel
theorem dX7_best_125 : decode cX7_best 125 = .ok (.getfield 223, 3) := by decide +kernel
theorem dX7_best_128 : decode cX7_best 128 = .ok (.istore 4, 2) := by decide +kernel
theorem dX7_best_130 : decode cX7_best 130 = .ok (.aload_n 0, 1) := by decide +kernel
theorem dX7_best_131 : decode cX7_best 131 = .ok (.getfield 226, 3) := by decide +kernel
theorem dX7_best_134 : decode cX7_best 134 = .ok (.istore 5, 2) := by decide +kernel
theorem dX7_best_136 : decode cX7_best 136 = .ok (.iinc 6 1, 3) := by decide +kernel
theorem dX7_best_139 : decode cX7_best 139 = .ok (.aload_n 0, 1) := by decide +kernel
theorem dX7_best_140 : decode cX7_best 140 = .ok (.iload 7, 2) := by decide +kernel
theorem dX7_best_142 : decode cX7_best 142 = .ok (.invokevirtual 233, 3) := by decide +kernel
theorem dX7_best_145 : decode cX7_best 145 = .ok (.iconst 1, 1) := by decide +kernel
theorem dX7_best_146 : decode cX7_best 146 = .ok (.iadd, 1) := by decide +kernel
theorem dX7_best_147 : decode cX7_best 147 = .ok (.istore 7, 2) := by decide +kernel
theorem dX7_best_149 : decode cX7_best 149 = .ok (.goto (-113), 3) := by decide +kernel
theorem dX7_best_152 : decode cX7_best 152 = .ok (.iload_n 2, 1) := by decide +kernel
theorem dX7_best_153 : decode cX7_best 153 = .ok (.ifCond .ne 7, 3) := by decide +kernel
theorem dX7_best_156 : decode cX7_best 156 = .ok (.iload_n 3, 1) := by decide +kernel
theorem dX7_best_157 : decode cX7_best 157 = .ok (.goto 15, 3) := by decide +kernel
theorem dX7_best_160 : decode cX7_best 160 = .ok (.iload_n 2, 1) := by decide +kernel
theorem dX7_best_161 : decode cX7_best 161 = .ok (.iconst 1, 1) := by decide +kernel
theorem dX7_best_162 : decode cX7_best 162 = .ok (.if_icmp .ne 8, 3) := by decide +kernel
theorem dX7_best_165 : decode cX7_best 165 = .ok (.iload 4, 2) := by decide +kernel
theorem dX7_best_167 : decode cX7_best 167 = .ok (.goto 5, 3) := by decide +kernel
theorem dX7_best_170 : decode cX7_best 170 = .ok (.iload 5, 2) := by decide +kernel
theorem dX7_best_172 : decode cX7_best 172 = .ok (.ireturn, 1) := by decide +kernel
theorem dX7_place_0 : decode cX7_place 0 = .ok (.aload_n 0, 1) := by decide +kernel
theorem dX7_place_1 : decode cX7_place 1 = .ok (.iload_n 1, 1) := by decide +kernel
theorem dX7_place_2 : decode cX7_place 2 = .ok (.invokevirtual 138, 3) := by decide +kernel
theorem dX7_place_5 : decode cX7_place 5 = .ok (.ifCond .eq 13, 3) := by decide +kernel
theorem dX7_place_8 : decode cX7_place 8 = .ok (.iload_n 2, 1) := by decide +kernel
theorem dX7_place_9 : decode cX7_place 9 = .ok (.i2l, 1) := by decide +kernel
theorem dX7_place_10 : decode cX7_place 10 = .ok (.lconst 0, 1) := by decide +kernel
theorem dX7_place_11 : decode cX7_place 11 = .ok (.lconst 1, 1) := by decide +kernel
theorem dX7_place_12 : decode cX7_place 12 = .ok (.invokestatic 39, 3) := by decide +kernel
theorem dX7_place_15 : decode cX7_place 15 = .ok (.ifCond .ne 5, 3) := by decide +kernel
theorem dX7_place_18 : decode cX7_place 18 = .ok (.iconst (-1), 1) := by decide +kernel
theorem dX7_place_19 : decode cX7_place 19 = .ok (.ireturn, 1) := by decide +kernel
theorem dX7_place_20 : decode cX7_place 20 = .ok (.aload_n 0, 1) := by decide +kernel
theorem dX7_place_21 : decode cX7_place 21 = .ok (.getfield 135, 3) := by decide +kernel
theorem dX7_place_24 : decode cX7_place 24 = .ok (.ifCond .eq 14, 3) := by decide +kernel
theorem dX7_place_27 : decode cX7_place 27 = .ok (.aload_n 0, 1) := by decide +kernel
theorem dX7_place_28 : decode cX7_place 28 = .ok (.aload_n 0, 1) := by decide +kernel
theorem dX7_place_29 : decode cX7_place 29 = .ok (.getfield 135, 3) := by decide +kernel
theorem dX7_place_32 : decode cX7_place 32 = .ok (.invokevirtual 141, 3) := by decide +kernel
theorem dX7_place_35 : decode cX7_place 35 = .ok (.ifCond .ne 6, 3) := by decide +kernel
theorem dX7_place_38 : decode cX7_place 38 = .ok (.bipush (-2), 2) := by decide +kernel
theorem dX7_place_40 : decode cX7_place 40 = .ok (.ireturn, 1) := by decide +kernel
theorem dX7_place_41 : decode cX7_place 41 = .ok (.iconst (-1), 1) := by decide +kernel
theorem dX7_place_42 : decode cX7_place 42 = .ok (.istore_n 3, 1) := by decide +kernel
theorem dX7_place_43 : decode cX7_place 43 = .ok (.iconst 0, 1) := by decide +kernel
theorem dX7_place_44 : decode cX7_place 44 = .ok (.istore 4, 2) := by decide +kernel
theorem dX7_place_46 : decode cX7_place 46 = .ok (.iconst 0, 1) := by decide +kernel
theorem dX7_place_47 : decode cX7_place 47 = .ok (.istore 5, 2) := by decide +kernel
theorem dX7_place_49 : decode cX7_place 49 = .ok (.iconst 0, 1) := by decide +kernel
theorem dX7_place_50 : decode cX7_place 50 = .ok (.istore 6, 2) := by decide +kernel
theorem dX7_place_52 : decode cX7_place 52 = .ok (.iload 6, 2) := by decide +kernel
theorem dX7_place_54 : decode cX7_place 54 = .ok (.aload_n 0, 1) := by decide +kernel
theorem dX7_place_55 : decode cX7_place 55 = .ok (.getfield 135, 3) := by decide +kernel
theorem dX7_place_58 : decode cX7_place 58 = .ok (.iadd, 1) := by decide +kernel
theorem dX7_place_59 : decode cX7_place 59 = .ok (.aload_n 0, 1) := by decide +kernel
theorem dX7_place_60 : decode cX7_place 60 = .ok (.invokevirtual 47, 3) := by decide +kernel
theorem dX7_place_63 : decode cX7_place 63 = .ok (.if_icmp .gt 71, 3) := by decide +kernel
theorem dX7_place_66 : decode cX7_place 66 = .ok (.aload_n 0, 1) := by decide +kernel
theorem dX7_place_67 : decode cX7_place 67 = .ok (.iload_n 1, 1) := by decide +kernel
theorem dX7_place_68 : decode cX7_place 68 = .ok (.iload 6, 2) := by decide +kernel
theorem dX7_place_70 : decode cX7_place 70 = .ok (.iconst 0, 1) := by decide +kernel
theorem dX7_place_71 : decode cX7_place 71 = .ok (.aload_n 0, 1) := by decide +kernel
theorem dX7_place_72 : decode cX7_place 72 = .ok (.getfield 135, 3) := by decide +kernel
theorem dX7_place_75 : decode cX7_place 75 = .ok (.invokevirtual 229, 3) := by decide +kernel
theorem dX7_place_78 : decode cX7_place 78 = .ok (.iload_n 3, 1) := by decide +kernel
theorem dX7_place_79 : decode cX7_place 79 = .ok (.iconst (-1), 1) := by decide +kernel
theorem dX7_place_80 : decode cX7_place 80 = .ok (.if_icmp .eq 33, 3) := by decide +kernel
theorem dX7_place_83 : decode cX7_place 83 = .ok (.aload_n 0, 1) := by decide +kernel
theorem dX7_place_84 : decode cX7_place 84 = .ok (.getfield 226, 3) := by decide +kernel
theorem dX7_place_87 : decode cX7_place 87 = .ok (.iload 5, 2) := by decide +kernel
theorem dX7_place_89 : decode cX7_place 89 = .ok (.if_icmp .gt 39, 3) := by decide +kernel
theorem dX7_place_92 : decode cX7_place 92 = .ok (.aload_n 0, 1) := by decide +kernel
theorem dX7_place_93 : decode cX7_place 93 = .ok (.getfield 226, 3) := by decide +kernel
theorem dX7_place_96 : decode cX7_place 96 = .ok (.iload 5, 2) := by decide +kernel
theorem dX7_place_98 : decode cX7_place 98 = .ok (.if_icmp .ne 15, 3) := by decide +kernel
theorem dX7_place_101 : decode cX7_place 101 = .ok (.aload_n 0, 1) := by decide +kernel
theorem dX7_place_102 : decode cX7_place 102 = .ok (.getfield 223, 3) := by decide +kernel
theorem dX7_place_105 : decode cX7_place 105 = .ok (.iload 4, 2) := by decide +kernel
theorem dX7_place_107 : decode cX7_place 107 = .ok (.if_icmp .lt 6, 3) := by decide +kernel
theorem dX7_place_110 : decode cX7_place 110 = .ok (.goto 18, 3) := by decide +kernel
theorem dX7_place_113 : decode cX7_place 113 = .ok (.iload 6, 2) := by decide +kernel
theorem dX7_place_115 : decode cX7_place 115 = .ok (.istore_n 3, 1) := by decide +kernel
theorem dX7_place_116 : decode cX7_place 116 = .ok (.aload_n 0, 1) := by decide +kernel
theorem dX7_place_117 : decode cX7_place 117 = .ok (.getfield 223, 3) := by decide +kernel
theorem dX7_place_120 : decode cX7_place 120 = .ok (.istore 4, 2) := by decide +kernel
theorem dX7_place_122 : decode cX7_place 122 = .ok (.aload_n 0, 1) := by decide +kernel
theorem dX7_place_123 : decode cX7_place 123 = .ok (.getfield 226, 3) := by decide +kernel
theorem dX7_place_126 : decode cX7_place 126 = .ok (.istore 5, 2) := by decide +kernel
theorem dX7_place_128 : decode cX7_place 128 = .ok (.iinc 6 1, 3) := by decide +kernel
theorem dX7_place_131 : decode cX7_place 131 = .ok (.goto (-79), 3) := by decide +kernel
theorem dX7_place_134 : decode cX7_place 134 = .ok (.iload_n 2, 1) := by decide +kernel
theorem dX7_place_135 : decode cX7_place 135 = .ok (.ifCond .ne 7, 3) := by decide +kernel
theorem dX7_place_138 : decode cX7_place 138 = .ok (.iload_n 3, 1) := by decide +kernel
theorem dX7_place_139 : decode cX7_place 139 = .ok (.goto 5, 3) := by decide +kernel
theorem dX7_place_142 : decode cX7_place 142 = .ok (.iload 4, 2) := by decide +kernel
theorem dX7_place_144 : decode cX7_place 144 = .ok (.ireturn, 1) := by decide +kernel
theorem dX7_logged_0 : decode cX7_logged 0 = .ok (.aload_n 0, 1) := by decide +kernel
theorem dX7_logged_1 : decode cX7_logged 1 = .ok (.getfield 7, 3) := by decide +kernel
theorem dX7_logged_4 : decode cX7_logged 4 = .ok (.sipush 496, 3) := by decide +kernel
theorem dX7_logged_7 : decode cX7_logged 7 = .ok (.bipush 40, 2) := by decide +kernel
theorem dX7_logged_9 : decode cX7_logged 9 = .ok (.bipush 40, 2) := by decide +kernel
theorem dX7_logged_11 : decode cX7_logged 11 = .ok (.iload_n 1, 1) := by decide +kernel
theorem dX7_logged_12 : decode cX7_logged 12 = .ok (.imul, 1) := by decide +kernel
theorem dX7_logged_13 : decode cX7_logged 13 = .ok (.iload_n 2, 1) := by decide +kernel
theorem dX7_logged_14 : decode cX7_logged 14 = .ok (.iadd, 1) := by decide +kernel
theorem dX7_logged_15 : decode cX7_logged 15 = .ok (.imul, 1) := by decide +kernel
theorem dX7_logged_16 : decode cX7_logged 16 = .ok (.iadd, 1) := by decide +kernel
theorem dX7_logged_17 : decode cX7_logged 17 = .ok (.iload_n 3, 1) := by decide +kernel
theorem dX7_logged_18 : decode cX7_logged 18 = .ok (.iadd, 1) := by decide +kernel
theorem dX7_logged_19 : decode cX7_logged 19 = .ok (.laload, 1) := by decide +kernel
theorem dX7_logged_20 : decode cX7_logged 20 = .ok (.l2i, 1) := by decide +kernel
theorem dX7_logged_21 : decode cX7_logged 21 = .ok (.ireturn, 1) := by decide +kernel
theorem dX7_moved_0 : decode cX7_moved 0 = .ok (.iload_n 0, 1) := by decide +kernel
theorem dX7_moved_1 : decode cX7_moved 1 = .ok (.iload_n 1, 1) := by decide +kernel
theorem dX7_moved_2 : decode cX7_moved 2 = .ok (.if_icmp .ne 7, 3) := by decide +kernel
theorem dX7_moved_5 : decode cX7_moved 5 = .ok (.iload_n 2, 1) := by decide +kernel
theorem dX7_moved_6 : decode cX7_moved 6 = .ok (.goto 13, 3) := by decide +kernel
theorem dX7_moved_9 : decode cX7_moved 9 = .ok (.iload_n 0, 1) := by decide +kernel
theorem dX7_moved_10 : decode cX7_moved 10 = .ok (.iload_n 2, 1) := by decide +kernel
theorem dX7_moved_11 : decode cX7_moved 11 = .ok (.if_icmp .ne 7, 3) := by decide +kernel
theorem dX7_moved_14 : decode cX7_moved 14 = .ok (.iload_n 1, 1) := by decide +kernel
theorem dX7_moved_15 : decode cX7_moved 15 = .ok (.goto 4, 3) := by decide +kernel
theorem dX7_moved_18 : decode cX7_moved 18 = .ok (.iload_n 0, 1) := by decide +kernel
theorem dX7_moved_19 : decode cX7_moved 19 = .ok (.ireturn, 1) := by decide +kernel
theorem dX7_journey_0 : decode cX7_journey 0 = .ok (.aload_n 0, 1) := by decide +kernel
theorem dX7_journey_1 : decode cX7_journey 1 = .ok (.iload_n 1, 1) := by decide +kernel
theorem dX7_journey_2 : decode cX7_journey 2 = .ok (.invokevirtual 60, 3) := by decide +kernel
theorem dX7_journey_5 : decode cX7_journey 5 = .ok (.istore 4, 2) := by decide +kernel
theorem dX7_journey_7 : decode cX7_journey 7 = .ok (.iconst 0, 1) := by decide +kernel
theorem dX7_journey_8 : decode cX7_journey 8 = .ok (.istore 5, 2) := by decide +kernel
theorem dX7_journey_10 : decode cX7_journey 10 = .ok (.iconst 0, 1) := by decide +kernel
theorem dX7_journey_11 : decode cX7_journey 11 = .ok (.istore 6, 2) := by decide +kernel
theorem dX7_journey_13 : decode cX7_journey 13 = .ok (.iload 6, 2) := by decide +kernel
theorem dX7_journey_15 : decode cX7_journey 15 = .ok (.iload 4, 2) := by decide +kernel
theorem dX7_journey_17 : decode cX7_journey 17 = .ok (.if_icmp .ge 71, 3) := by decide +kernel
theorem dX7_journey_20 : decode cX7_journey 20 = .ok (.iconst 0, 1) := by decide +kernel
theorem dX7_journey_21 : decode cX7_journey 21 = .ok (.istore 7, 2) := by decide +kernel
theorem dX7_journey_23 : decode cX7_journey 23 = .ok (.iload 7, 2) := by decide +kernel
theorem dX7_journey_25 : decode cX7_journey 25 = .ok (.iload 4, 2) := by decide +kernel
theorem dX7_journey_27 : decode cX7_journey 27 = .ok (.if_icmp .ge 55, 3) := by decide +kernel
theorem dX7_journey_30 : decode cX7_journey 30 = .ok (.aload_n 0, 1) := by decide +kernel
theorem dX7_journey_31 : decode cX7_journey 31 = .ok (.iload_n 1, 1) := by decide +kernel
theorem dX7_journey_32 : decode cX7_journey 32 = .ok (.iload 6, 2) := by decide +kernel
theorem dX7_journey_34 : decode cX7_journey 34 = .ok (.iload 7, 2) := by decide +kernel
theorem dX7_journey_36 : decode cX7_journey 36 = .ok (.invokevirtual 236, 3) := by decide +kernel
theorem dX7_journey_39 : decode cX7_journey 39 = .ok (.ifCond .le 37, 3) := by decide +kernel
theorem dX7_journey_42 : decode cX7_journey 42 = .ok (.iload 5, 2) := by decide +kernel
theorem dX7_journey_44 : decode cX7_journey 44 = .ok (.aload_n 0, 1) := by decide +kernel
theorem dX7_journey_45 : decode cX7_journey 45 = .ok (.iload_n 1, 1) := by decide +kernel
theorem dX7_journey_46 : decode cX7_journey 46 = .ok (.iload 6, 2) := by decide +kernel
theorem dX7_journey_48 : decode cX7_journey 48 = .ok (.iload 7, 2) := by decide +kernel
theorem dX7_journey_50 : decode cX7_journey 50 = .ok (.invokevirtual 236, 3) := by decide +kernel
theorem dX7_journey_53 : decode cX7_journey 53 = .ok (.iload 6, 2) := by decide +kernel
theorem dX7_journey_55 : decode cX7_journey 55 = .ok (.iload_n 2, 1) := by decide +kernel
theorem dX7_journey_56 : decode cX7_journey 56 = .ok (.iload_n 3, 1) := by decide +kernel
theorem dX7_journey_57 : decode cX7_journey 57 = .ok (.invokestatic 239, 3) := by decide +kernel
theorem dX7_journey_60 : decode cX7_journey 60 = .ok (.iload 7, 2) := by decide +kernel
theorem dX7_journey_62 : decode cX7_journey 62 = .ok (.iload_n 2, 1) := by decide +kernel
theorem dX7_journey_63 : decode cX7_journey 63 = .ok (.iload_n 3, 1) := by decide +kernel
theorem dX7_journey_64 : decode cX7_journey 64 = .ok (.invokestatic 239, 3) := by decide +kernel
theorem dX7_journey_67 : decode cX7_journey 67 = .ok (.iload 4, 2) := by decide +kernel
theorem dX7_journey_69 : decode cX7_journey 69 = .ok (.invokestatic 70, 3) := by decide +kernel
theorem dX7_journey_72 : decode cX7_journey 72 = .ok (.imul, 1) := by decide +kernel
theorem dX7_journey_73 : decode cX7_journey 73 = .ok (.iadd, 1) := by decide +kernel
theorem dX7_journey_74 : decode cX7_journey 74 = .ok (.istore 5, 2) := by decide +kernel
theorem dX7_journey_76 : decode cX7_journey 76 = .ok (.iinc 7 1, 3) := by decide +kernel
theorem dX7_journey_79 : decode cX7_journey 79 = .ok (.goto (-56), 3) := by decide +kernel
theorem dX7_journey_82 : decode cX7_journey 82 = .ok (.iinc 6 1, 3) := by decide +kernel
theorem dX7_journey_85 : decode cX7_journey 85 = .ok (.goto (-72), 3) := by decide +kernel
theorem dX7_journey_88 : decode cX7_journey 88 = .ok (.iload 5, 2) := by decide +kernel
theorem dX7_journey_90 : decode cX7_journey 90 = .ok (.ireturn, 1) := by decide +kernel
theorem dX7_entries_0 : decode cX7_entries 0 = .ok (.iconst 0, 1) := by decide +kernel
theorem dX7_entries_1 : decode cX7_entries 1 = .ok (.istore_n 3, 1) := by decide +kernel
theorem dX7_entries_2 : decode cX7_entries 2 = .ok (.iconst 0, 1) := by decide +kernel
theorem dX7_entries_3 : decode cX7_entries 3 = .ok (.istore 4, 2) := by decide +kernel
theorem dX7_entries_5 : decode cX7_entries 5 = .ok (.iload 4, 2) := by decide +kernel
theorem dX7_entries_7 : decode cX7_entries 7 = .ok (.bipush 40, 2) := by decide +kernel
theorem dX7_entries_9 : decode cX7_entries 9 = .ok (.if_icmp .ge 61, 3) := by decide +kernel
theorem dX7_entries_12 : decode cX7_entries 12 = .ok (.iconst 0, 1) := by decide +kernel
theorem dX7_entries_13 : decode cX7_entries 13 = .ok (.istore 5, 2) := by decide +kernel
theorem dX7_entries_15 : decode cX7_entries 15 = .ok (.iload 5, 2) := by decide +kernel
theorem dX7_entries_17 : decode cX7_entries 17 = .ok (.bipush 40, 2) := by decide +kernel
theorem dX7_entries_19 : decode cX7_entries 19 = .ok (.if_icmp .ge 45, 3) := by decide +kernel
theorem dX7_entries_22 : decode cX7_entries 22 = .ok (.iload_n 3, 1) := by decide +kernel
theorem dX7_entries_23 : decode cX7_entries 23 = .ok (.iload_n 2, 1) := by decide +kernel
theorem dX7_entries_24 : decode cX7_entries 24 = .ok (.ifCond .eq 23, 3) := by decide +kernel
theorem dX7_entries_27 : decode cX7_entries 27 = .ok (.aload_n 0, 1) := by decide +kernel
theorem dX7_entries_28 : decode cX7_entries 28 = .ok (.iload_n 1, 1) := by decide +kernel
theorem dX7_entries_29 : decode cX7_entries 29 = .ok (.iload 4, 2) := by decide +kernel
theorem dX7_entries_31 : decode cX7_entries 31 = .ok (.iload 5, 2) := by decide +kernel
theorem dX7_entries_33 : decode cX7_entries 33 = .ok (.invokevirtual 236, 3) := by decide +kernel
theorem dX7_entries_36 : decode cX7_entries 36 = .ok (.ifCond .le 7, 3) := by decide +kernel
theorem dX7_entries_39 : decode cX7_entries 39 = .ok (.iconst 1, 1) := by decide +kernel
theorem dX7_entries_40 : decode cX7_entries 40 = .ok (.goto 16, 3) := by decide +kernel
theorem dX7_entries_43 : decode cX7_entries 43 = .ok (.iconst 0, 1) := by decide +kernel
theorem dX7_entries_44 : decode cX7_entries 44 = .ok (.goto 12, 3) := by decide +kernel
theorem dX7_entries_47 : decode cX7_entries 47 = .ok (.aload_n 0, 1) := by decide +kernel
theorem dX7_entries_48 : decode cX7_entries 48 = .ok (.iload_n 1, 1) := by decide +kernel
theorem dX7_entries_49 : decode cX7_entries 49 = .ok (.iload 4, 2) := by decide +kernel
theorem dX7_entries_51 : decode cX7_entries 51 = .ok (.iload 5, 2) := by decide +kernel
theorem dX7_entries_53 : decode cX7_entries 53 = .ok (.invokevirtual 236, 3) := by decide +kernel
theorem dX7_entries_56 : decode cX7_entries 56 = .ok (.iadd, 1) := by decide +kernel
theorem dX7_entries_57 : decode cX7_entries 57 = .ok (.istore_n 3, 1) := by decide +kernel
theorem dX7_entries_58 : decode cX7_entries 58 = .ok (.iinc 5 1, 3) := by decide +kernel
theorem dX7_entries_61 : decode cX7_entries 61 = .ok (.goto (-46), 3) := by decide +kernel
theorem dX7_entries_64 : decode cX7_entries 64 = .ok (.iinc 4 1, 3) := by decide +kernel
theorem dX7_entries_67 : decode cX7_entries 67 = .ok (.goto (-62), 3) := by decide +kernel
theorem dX7_entries_70 : decode cX7_entries 70 = .ok (.iload_n 3, 1) := by decide +kernel
theorem dX7_entries_71 : decode cX7_entries 71 = .ok (.ireturn, 1) := by decide +kernel
theorem dX7_log_0 : decode cX7_log 0 = .ok (.aload_n 0, 1) := by decide +kernel
theorem dX7_log_1 : decode cX7_log 1 = .ok (.iload_n 1, 1) := by decide +kernel
theorem dX7_log_2 : decode cX7_log 2 = .ok (.invokevirtual 180, 3) := by decide +kernel
theorem dX7_log_5 : decode cX7_log 5 = .ok (.ifCond .eq 15, 3) := by decide +kernel
theorem dX7_log_8 : decode cX7_log 8 = .ok (.iload_n 2, 1) := by decide +kernel
theorem dX7_log_9 : decode cX7_log 9 = .ok (.i2l, 1) := by decide +kernel
theorem dX7_log_10 : decode cX7_log 10 = .ok (.lconst 0, 1) := by decide +kernel
theorem dX7_log_11 : decode cX7_log 11 = .ok (.ldc2_w 193, 3) := by decide +kernel
theorem dX7_log_14 : decode cX7_log 14 = .ok (.invokestatic 39, 3) := by decide +kernel
theorem dX7_log_17 : decode cX7_log 17 = .ok (.ifCond .ne 5, 3) := by decide +kernel
theorem dX7_log_20 : decode cX7_log 20 = .ok (.iconst (-1), 1) := by decide +kernel
theorem dX7_log_21 : decode cX7_log 21 = .ok (.ireturn, 1) := by decide +kernel
theorem dX7_log_22 : decode cX7_log 22 = .ok (.iload_n 2, 1) := by decide +kernel
theorem dX7_log_23 : decode cX7_log 23 = .ok (.ifCond .ne 13, 3) := by decide +kernel
theorem dX7_log_26 : decode cX7_log 26 = .ok (.aload_n 0, 1) := by decide +kernel
theorem dX7_log_27 : decode cX7_log 27 = .ok (.iload_n 1, 1) := by decide +kernel
theorem dX7_log_28 : decode cX7_log 28 = .ok (.iconst 0, 1) := by decide +kernel
theorem dX7_log_29 : decode cX7_log 29 = .ok (.iconst 0, 1) := by decide +kernel
theorem dX7_log_30 : decode cX7_log 30 = .ok (.invokevirtual 242, 3) := by decide +kernel
theorem dX7_log_33 : decode cX7_log 33 = .ok (.goto 18, 3) := by decide +kernel
theorem dX7_log_36 : decode cX7_log 36 = .ok (.aload_n 0, 1) := by decide +kernel
theorem dX7_log_37 : decode cX7_log 37 = .ok (.iload_n 1, 1) := by decide +kernel
theorem dX7_log_38 : decode cX7_log 38 = .ok (.iload_n 2, 1) := by decide +kernel
theorem dX7_log_39 : decode cX7_log 39 = .ok (.iconst 2, 1) := by decide +kernel
theorem dX7_log_40 : decode cX7_log 40 = .ok (.if_icmp .ne 7, 3) := by decide +kernel
theorem dX7_log_43 : decode cX7_log 43 = .ok (.iconst 1, 1) := by decide +kernel
theorem dX7_log_44 : decode cX7_log 44 = .ok (.goto 4, 3) := by decide +kernel
theorem dX7_log_47 : decode cX7_log 47 = .ok (.iconst 0, 1) := by decide +kernel
theorem dX7_log_48 : decode cX7_log 48 = .ok (.invokevirtual 245, 3) := by decide +kernel
theorem dX7_log_51 : decode cX7_log 51 = .ok (.ireturn, 1) := by decide +kernel
theorem dX7_often_0 : decode cX7_often 0 = .ok (.aload_n 0, 1) := by decide +kernel
theorem dX7_often_1 : decode cX7_often 1 = .ok (.iload_n 1, 1) := by decide +kernel
theorem dX7_often_2 : decode cX7_often 2 = .ok (.invokevirtual 180, 3) := by decide +kernel
theorem dX7_often_5 : decode cX7_often 5 = .ok (.ifCond .eq 20, 3) := by decide +kernel
theorem dX7_often_8 : decode cX7_often 8 = .ok (.iload_n 2, 1) := by decide +kernel
theorem dX7_often_9 : decode cX7_often 9 = .ok (.i2l, 1) := by decide +kernel
theorem dX7_often_10 : decode cX7_often 10 = .ok (.lconst 0, 1) := by decide +kernel
theorem dX7_often_11 : decode cX7_often 11 = .ok (.aload_n 0, 1) := by decide +kernel
theorem dX7_often_12 : decode cX7_often 12 = .ok (.iload_n 1, 1) := by decide +kernel
theorem dX7_often_13 : decode cX7_often 13 = .ok (.invokevirtual 60, 3) := by decide +kernel
theorem dX7_often_16 : decode cX7_often 16 = .ok (.iconst 1, 1) := by decide +kernel
theorem dX7_often_17 : decode cX7_often 17 = .ok (.isub, 1) := by decide +kernel
theorem dX7_often_18 : decode cX7_often 18 = .ok (.i2l, 1) := by decide +kernel
theorem dX7_often_19 : decode cX7_often 19 = .ok (.invokestatic 39, 3) := by decide +kernel
theorem dX7_often_22 : decode cX7_often 22 = .ok (.ifCond .ne 5, 3) := by decide +kernel
theorem dX7_often_25 : decode cX7_often 25 = .ok (.iconst (-1), 1) := by decide +kernel
theorem dX7_often_26 : decode cX7_often 26 = .ok (.ireturn, 1) := by decide +kernel
theorem dX7_often_27 : decode cX7_often 27 = .ok (.iconst 0, 1) := by decide +kernel
theorem dX7_often_28 : decode cX7_often 28 = .ok (.istore 4, 2) := by decide +kernel
theorem dX7_often_30 : decode cX7_often 30 = .ok (.iconst 0, 1) := by decide +kernel
theorem dX7_often_31 : decode cX7_often 31 = .ok (.istore 5, 2) := by decide +kernel
theorem dX7_often_33 : decode cX7_often 33 = .ok (.iload 5, 2) := by decide +kernel
theorem dX7_often_35 : decode cX7_often 35 = .ok (.bipush 40, 2) := by decide +kernel
theorem dX7_often_37 : decode cX7_often 37 = .ok (.if_icmp .ge 37, 3) := by decide +kernel
theorem dX7_often_40 : decode cX7_often 40 = .ok (.iload 4, 2) := by decide +kernel
theorem dX7_often_42 : decode cX7_often 42 = .ok (.iload_n 3, 1) := by decide +kernel
theorem dX7_often_43 : decode cX7_often 43 = .ok (.ifCond .eq 14, 3) := by decide +kernel
theorem dX7_often_46 : decode cX7_often 46 = .ok (.aload_n 0, 1) := by decide +kernel
theorem dX7_often_47 : decode cX7_often 47 = .ok (.iload_n 1, 1) := by decide +kernel
theorem dX7_often_48 : decode cX7_often 48 = .ok (.iload 5, 2) := by decide +kernel
theorem dX7_often_50 : decode cX7_often 50 = .ok (.iload_n 2, 1) := by decide +kernel
theorem dX7_often_51 : decode cX7_often 51 = .ok (.invokevirtual 236, 3) := by decide +kernel
theorem dX7_often_54 : decode cX7_often 54 = .ok (.goto 11, 3) := by decide +kernel
theorem dX7_often_57 : decode cX7_often 57 = .ok (.aload_n 0, 1) := by decide +kernel
theorem dX7_often_58 : decode cX7_often 58 = .ok (.iload_n 1, 1) := by decide +kernel
theorem dX7_often_59 : decode cX7_often 59 = .ok (.iload_n 2, 1) := by decide +kernel
theorem dX7_often_60 : decode cX7_often 60 = .ok (.iload 5, 2) := by decide +kernel
theorem dX7_often_62 : decode cX7_often 62 = .ok (.invokevirtual 236, 3) := by decide +kernel
theorem dX7_often_65 : decode cX7_often 65 = .ok (.iadd, 1) := by decide +kernel
theorem dX7_often_66 : decode cX7_often 66 = .ok (.istore 4, 2) := by decide +kernel
theorem dX7_often_68 : decode cX7_often 68 = .ok (.iinc 5 1, 3) := by decide +kernel
theorem dX7_often_71 : decode cX7_often 71 = .ok (.goto (-38), 3) := by decide +kernel
theorem dX7_often_74 : decode cX7_often 74 = .ok (.iload 4, 2) := by decide +kernel
theorem dX7_often_76 : decode cX7_often 76 = .ok (.ireturn, 1) := by decide +kernel
theorem dX7_better_0 : decode cX7_better 0 = .ok (.aload_n 0, 1) := by decide +kernel
theorem dX7_better_1 : decode cX7_better 1 = .ok (.iload_n 1, 1) := by decide +kernel
theorem dX7_better_2 : decode cX7_better 2 = .ok (.invokevirtual 180, 3) := by decide +kernel
theorem dX7_better_5 : decode cX7_better 5 = .ok (.ifCond .eq 15, 3) := by decide +kernel
theorem dX7_better_8 : decode cX7_better 8 = .ok (.iload_n 2, 1) := by decide +kernel
theorem dX7_better_9 : decode cX7_better 9 = .ok (.i2l, 1) := by decide +kernel
theorem dX7_better_10 : decode cX7_better 10 = .ok (.lconst 0, 1) := by decide +kernel
theorem dX7_better_11 : decode cX7_better 11 = .ok (.ldc2_w 193, 3) := by decide +kernel
theorem dX7_better_14 : decode cX7_better 14 = .ok (.invokestatic 39, 3) := by decide +kernel
theorem dX7_better_17 : decode cX7_better 17 = .ok (.ifCond .ne 5, 3) := by decide +kernel
theorem dX7_better_20 : decode cX7_better 20 = .ok (.iconst (-1), 1) := by decide +kernel
theorem dX7_better_21 : decode cX7_better 21 = .ok (.ireturn, 1) := by decide +kernel
theorem dX7_better_22 : decode cX7_better 22 = .ok (.aload_n 0, 1) := by decide +kernel
theorem dX7_better_23 : decode cX7_better 23 = .ok (.iload_n 1, 1) := by decide +kernel
theorem dX7_better_24 : decode cX7_better 24 = .ok (.iconst 0, 1) := by decide +kernel
theorem dX7_better_25 : decode cX7_better 25 = .ok (.iconst 0, 1) := by decide +kernel
theorem dX7_better_26 : decode cX7_better 26 = .ok (.invokevirtual 242, 3) := by decide +kernel
theorem dX7_better_29 : decode cX7_better 29 = .ok (.istore_n 3, 1) := by decide +kernel
theorem dX7_better_30 : decode cX7_better 30 = .ok (.bipush (-2), 2) := by decide +kernel
theorem dX7_better_32 : decode cX7_better 32 = .ok (.istore 4, 2) := by decide +kernel
theorem dX7_better_34 : decode cX7_better 34 = .ok (.bipush (-2), 2) := by decide +kernel
theorem dX7_better_36 : decode cX7_better 36 = .ok (.istore 5, 2) := by decide +kernel
theorem dX7_better_38 : decode cX7_better 38 = .ok (.iconst 1, 1) := by decide +kernel
theorem dX7_better_39 : decode cX7_better 39 = .ok (.istore 6, 2) := by decide +kernel
theorem dX7_better_41 : decode cX7_better 41 = .ok (.iload 6, 2) := by decide +kernel
theorem dX7_better_43 : decode cX7_better 43 = .ok (.aload_n 0, 1) := by decide +kernel
theorem dX7_better_44 : decode cX7_better 44 = .ok (.iload_n 1, 1) := by decide +kernel
theorem dX7_better_45 : decode cX7_better 45 = .ok (.invokevirtual 60, 3) := by decide +kernel
theorem dX7_better_48 : decode cX7_better 48 = .ok (.if_icmp .ge 62, 3) := by decide +kernel
theorem dX7_better_51 : decode cX7_better 51 = .ok (.iload 6, 2) := by decide +kernel
theorem dX7_better_53 : decode cX7_better 53 = .ok (.iconst 1, 1) := by decide +kernel
theorem dX7_better_54 : decode cX7_better 54 = .ok (.iadd, 1) := by decide +kernel
theorem dX7_better_55 : decode cX7_better 55 = .ok (.istore 7, 2) := by decide +kernel
theorem dX7_better_57 : decode cX7_better 57 = .ok (.iload 7, 2) := by decide +kernel
theorem dX7_better_59 : decode cX7_better 59 = .ok (.aload_n 0, 1) := by decide +kernel
theorem dX7_better_60 : decode cX7_better 60 = .ok (.iload_n 1, 1) := by decide +kernel
theorem dX7_better_61 : decode cX7_better 61 = .ok (.invokevirtual 60, 3) := by decide +kernel
theorem dX7_better_64 : decode cX7_better 64 = .ok (.if_icmp .ge 40, 3) := by decide +kernel
theorem dX7_better_67 : decode cX7_better 67 = .ok (.aload_n 0, 1) := by decide +kernel
theorem dX7_better_68 : decode cX7_better 68 = .ok (.iload_n 1, 1) := by decide +kernel
theorem dX7_better_69 : decode cX7_better 69 = .ok (.iload 6, 2) := by decide +kernel
theorem dX7_better_71 : decode cX7_better 71 = .ok (.iload 7, 2) := by decide +kernel
theorem dX7_better_73 : decode cX7_better 73 = .ok (.invokevirtual 242, 3) := by decide +kernel
theorem dX7_better_76 : decode cX7_better 76 = .ok (.istore 8, 2) := by decide +kernel
theorem dX7_better_78 : decode cX7_better 78 = .ok (.iload 8, 2) := by decide +kernel
theorem dX7_better_80 : decode cX7_better 80 = .ok (.iload_n 3, 1) := by decide +kernel
theorem dX7_better_81 : decode cX7_better 81 = .ok (.if_icmp .lt 6, 3) := by decide +kernel
theorem dX7_better_84 : decode cX7_better 84 = .ok (.goto 14, 3) := by decide +kernel
theorem dX7_better_87 : decode cX7_better 87 = .ok (.iload 8, 2) := by decide +kernel
theorem dX7_better_89 : decode cX7_better 89 = .ok (.istore_n 3, 1) := by decide +kernel
theorem dX7_better_90 : decode cX7_better 90 = .ok (.iload 6, 2) := by decide +kernel
theorem dX7_better_92 : decode cX7_better 92 = .ok (.istore 4, 2) := by decide +kernel
theorem dX7_better_94 : decode cX7_better 94 = .ok (.iload 7, 2) := by decide +kernel
theorem dX7_better_96 : decode cX7_better 96 = .ok (.istore 5, 2) := by decide +kernel
theorem dX7_better_98 : decode cX7_better 98 = .ok (.iinc 7 1, 3) := by decide +kernel
theorem dX7_better_101 : decode cX7_better 101 = .ok (.goto (-44), 3) := by decide +kernel
theorem dX7_better_104 : decode cX7_better 104 = .ok (.iinc 6 1, 3) := by decide +kernel
theorem dX7_better_107 : decode cX7_better 107 = .ok (.goto (-66), 3) := by decide +kernel
theorem dX7_better_110 : decode cX7_better 110 = .ok (.iload 4, 2) := by decide +kernel
theorem dX7_better_112 : decode cX7_better 112 = .ok (.bipush (-2), 2) := by decide +kernel
theorem dX7_better_114 : decode cX7_better 114 = .ok (.if_icmp .ne 8, 3) := by decide +kernel
theorem dX7_better_117 : decode cX7_better 117 = .ok (.bipush (-2), 2) := by decide +kernel
theorem dX7_better_119 : decode cX7_better 119 = .ok (.goto 23, 3) := by decide +kernel
theorem dX7_better_122 : decode cX7_better 122 = .ok (.iload_n 2, 1) := by decide +kernel
theorem dX7_better_123 : decode cX7_better 123 = .ok (.ifCond .ne 7, 3) := by decide +kernel
theorem dX7_better_126 : decode cX7_better 126 = .ok (.iload_n 3, 1) := by decide +kernel
theorem dX7_better_127 : decode cX7_better 127 = .ok (.goto 15, 3) := by decide +kernel
theorem dX7_better_130 : decode cX7_better 130 = .ok (.iload_n 2, 1) := by decide +kernel
theorem dX7_better_131 : decode cX7_better 131 = .ok (.iconst 1, 1) := by decide +kernel
theorem dX7_better_132 : decode cX7_better 132 = .ok (.if_icmp .ne 8, 3) := by decide +kernel
theorem dX7_better_135 : decode cX7_better 135 = .ok (.iload 4, 2) := by decide +kernel
theorem dX7_better_137 : decode cX7_better 137 = .ok (.goto 5, 3) := by decide +kernel
theorem dX7_better_140 : decode cX7_better 140 = .ok (.iload 5, 2) := by decide +kernel
theorem dX7_better_142 : decode cX7_better 142 = .ok (.ireturn, 1) := by decide +kernel
theorem dX7_farthest_0 : decode cX7_farthest 0 = .ok (.aload_n 0, 1) := by decide +kernel
theorem dX7_farthest_1 : decode cX7_farthest 1 = .ok (.iload_n 1, 1) := by decide +kernel
theorem dX7_farthest_2 : decode cX7_farthest 2 = .ok (.invokevirtual 162, 3) := by decide +kernel
theorem dX7_farthest_5 : decode cX7_farthest 5 = .ok (.ifCond .eq 13, 3) := by decide +kernel
theorem dX7_farthest_8 : decode cX7_farthest 8 = .ok (.iload_n 2, 1) := by decide +kernel
theorem dX7_farthest_9 : decode cX7_farthest 9 = .ok (.i2l, 1) := by decide +kernel
theorem dX7_farthest_10 : decode cX7_farthest 10 = .ok (.lconst 0, 1) := by decide +kernel
theorem dX7_farthest_11 : decode cX7_farthest 11 = .ok (.lconst 1, 1) := by decide +kernel
theorem dX7_farthest_12 : decode cX7_farthest 12 = .ok (.invokestatic 39, 3) := by decide +kernel
theorem dX7_farthest_15 : decode cX7_farthest 15 = .ok (.ifCond .ne 5, 3) := by decide +kernel
theorem dX7_farthest_18 : decode cX7_farthest 18 = .ok (.iconst (-1), 1) := by decide +kernel
theorem dX7_farthest_19 : decode cX7_farthest 19 = .ok (.ireturn, 1) := by decide +kernel
theorem dX7_farthest_20 : decode cX7_farthest 20 = .ok (.iconst (-1), 1) := by decide +kernel
theorem dX7_farthest_21 : decode cX7_farthest 21 = .ok (.istore_n 3, 1) := by decide +kernel
theorem dX7_farthest_22 : decode cX7_farthest 22 = .ok (.iconst (-1), 1) := by decide +kernel
theorem dX7_farthest_23 : decode cX7_farthest 23 = .ok (.istore 4, 2) := by decide +kernel
theorem dX7_farthest_25 : decode cX7_farthest 25 = .ok (.bipush 32, 2) := by decide +kernel
theorem dX7_farthest_27 : decode cX7_farthest 27 = .ok (.istore 5, 2) := by decide +kernel
theorem dX7_farthest_29 : decode cX7_farthest 29 = .ok (.iload 5, 2) := by decide +kernel
theorem dX7_farthest_31 : decode cX7_farthest 31 = .ok (.bipush 127, 2) := by decide +kernel
theorem dX7_farthest_33 : decode cX7_farthest 33 = .ok (.if_icmp .ge 68, 3) := by decide +kernel
theorem dX7_farthest_36 : decode cX7_farthest 36 = .ok (.aload_n 0, 1) := by decide +kernel
theorem dX7_farthest_37 : decode cX7_farthest 37 = .ok (.iload_n 1, 1) := by decide +kernel
theorem dX7_farthest_38 : decode cX7_farthest 38 = .ok (.iload 5, 2) := by decide +kernel
theorem dX7_farthest_40 : decode cX7_farthest 40 = .ok (.invokevirtual 113, 3) := by decide +kernel
theorem dX7_farthest_43 : decode cX7_farthest 43 = .ok (.istore 6, 2) := by decide +kernel
theorem dX7_farthest_45 : decode cX7_farthest 45 = .ok (.iload 6, 2) := by decide +kernel
theorem dX7_farthest_47 : decode cX7_farthest 47 = .ok (.iconst (-1), 1) := by decide +kernel
theorem dX7_farthest_48 : decode cX7_farthest 48 = .ok (.if_icmp .eq 47, 3) := by decide +kernel
theorem dX7_farthest_51 : decode cX7_farthest 51 = .ok (.aload_n 0, 1) := by decide +kernel
theorem dX7_farthest_52 : decode cX7_farthest 52 = .ok (.iload_n 1, 1) := by decide +kernel
theorem dX7_farthest_53 : decode cX7_farthest 53 = .ok (.iconst 2, 1) := by decide +kernel
theorem dX7_farthest_54 : decode cX7_farthest 54 = .ok (.invokevirtual 56, 3) := by decide +kernel
theorem dX7_farthest_57 : decode cX7_farthest 57 = .ok (.iload 6, 2) := by decide +kernel
theorem dX7_farthest_59 : decode cX7_farthest 59 = .ok (.aload_n 0, 1) := by decide +kernel
theorem dX7_farthest_60 : decode cX7_farthest 60 = .ok (.iload_n 1, 1) := by decide +kernel
theorem dX7_farthest_61 : decode cX7_farthest 61 = .ok (.invokevirtual 67, 3) := by decide +kernel
theorem dX7_farthest_64 : decode cX7_farthest 64 = .ok (.invokestatic 70, 3) := by decide +kernel
theorem dX7_farthest_67 : decode cX7_farthest 67 = .ok (.iload_n 3, 1) := by decide +kernel
theorem dX7_farthest_68 : decode cX7_farthest 68 = .ok (.if_icmp .gt 6, 3) := by decide +kernel
theorem dX7_farthest_71 : decode cX7_farthest 71 = .ok (.goto 24, 3) := by decide +kernel
theorem dX7_farthest_74 : decode cX7_farthest 74 = .ok (.aload_n 0, 1) := by decide +kernel
theorem dX7_farthest_75 : decode cX7_farthest 75 = .ok (.iload_n 1, 1) := by decide +kernel
theorem dX7_farthest_76 : decode cX7_farthest 76 = .ok (.iconst 2, 1) := by decide +kernel
theorem dX7_farthest_77 : decode cX7_farthest 77 = .ok (.invokevirtual 56, 3) := by decide +kernel
theorem dX7_farthest_80 : decode cX7_farthest 80 = .ok (.iload 6, 2) := by decide +kernel
theorem dX7_farthest_82 : decode cX7_farthest 82 = .ok (.aload_n 0, 1) := by decide +kernel
theorem dX7_farthest_83 : decode cX7_farthest 83 = .ok (.iload_n 1, 1) := by decide +kernel
theorem dX7_farthest_84 : decode cX7_farthest 84 = .ok (.invokevirtual 67, 3) := by decide +kernel
theorem dX7_farthest_87 : decode cX7_farthest 87 = .ok (.invokestatic 70, 3) := by decide +kernel
theorem dX7_farthest_90 : decode cX7_farthest 90 = .ok (.istore_n 3, 1) := by decide +kernel
theorem dX7_farthest_91 : decode cX7_farthest 91 = .ok (.iload 5, 2) := by decide +kernel
theorem dX7_farthest_93 : decode cX7_farthest 93 = .ok (.istore 4, 2) := by decide +kernel
theorem dX7_farthest_95 : decode cX7_farthest 95 = .ok (.iinc 5 1, 3) := by decide +kernel
theorem dX7_farthest_98 : decode cX7_farthest 98 = .ok (.goto (-69), 3) := by decide +kernel
theorem dX7_farthest_101 : decode cX7_farthest 101 = .ok (.iload_n 2, 1) := by decide +kernel
theorem dX7_farthest_102 : decode cX7_farthest 102 = .ok (.ifCond .ne 7, 3) := by decide +kernel
theorem dX7_farthest_105 : decode cX7_farthest 105 = .ok (.iload_n 3, 1) := by decide +kernel
theorem dX7_farthest_106 : decode cX7_farthest 106 = .ok (.goto 5, 3) := by decide +kernel
theorem dX7_farthest_109 : decode cX7_farthest 109 = .ok (.iload 4, 2) := by decide +kernel
theorem dX7_farthest_111 : decode cX7_farthest 111 = .ok (.ireturn, 1) := by decide +kernel
theorem dX7_hasElsewhere_0 : decode cX7_hasElsewhere 0 = .ok (.iconst 0, 1) := by decide +kernel
theorem dX7_hasElsewhere_1 : decode cX7_hasElsewhere 1 = .ok (.istore_n 3, 1) := by decide +kernel
theorem dX7_hasElsewhere_2 : decode cX7_hasElsewhere 2 = .ok (.iload_n 3, 1) := by decide +kernel
theorem dX7_hasElsewhere_3 : decode cX7_hasElsewhere 3 = .ok (.aload_n 0, 1) := by decide +kernel
theorem dX7_hasElsewhere_4 : decode cX7_hasElsewhere 4 = .ok (.invokevirtual 50, 3) := by decide +kernel
theorem dX7_hasElsewhere_7 : decode cX7_hasElsewhere 7 = .ok (.if_icmp .ge 25, 3) := by decide +kernel
theorem dX7_hasElsewhere_10 : decode cX7_hasElsewhere 10 = .ok (.iload_n 3, 1) := by decide +kernel
theorem dX7_hasElsewhere_11 : decode cX7_hasElsewhere 11 = .ok (.iload_n 1, 1) := by decide +kernel
theorem dX7_hasElsewhere_12 : decode cX7_hasElsewhere 12 = .ok (.if_icmp .eq 14, 3) := by decide +kernel
theorem dX7_hasElsewhere_15 : decode cX7_hasElsewhere 15 = .ok (.aload_n 0, 1) := by decide +kernel
theorem dX7_hasElsewhere_16 : decode cX7_hasElsewhere 16 = .ok (.iload_n 3, 1) := by decide +kernel
theorem dX7_hasElsewhere_17 : decode cX7_hasElsewhere 17 = .ok (.iload_n 2, 1) := by decide +kernel
theorem dX7_hasElsewhere_18 : decode cX7_hasElsewhere 18 = .ok (.invokevirtual 183, 3) := by decide +kernel
theorem dX7_hasElsewhere_21 : decode cX7_hasElsewhere 21 = .ok (.ifCond .le 5, 3) := by decide +kernel
theorem dX7_hasElsewhere_24 : decode cX7_hasElsewhere 24 = .ok (.iconst 1, 1) := by decide +kernel
theorem dX7_hasElsewhere_25 : decode cX7_hasElsewhere 25 = .ok (.ireturn, 1) := by decide +kernel
theorem dX7_hasElsewhere_26 : decode cX7_hasElsewhere 26 = .ok (.iinc 3 1, 3) := by decide +kernel
theorem dX7_hasElsewhere_29 : decode cX7_hasElsewhere 29 = .ok (.goto (-27), 3) := by decide +kernel
theorem dX7_hasElsewhere_32 : decode cX7_hasElsewhere 32 = .ok (.iconst 0, 1) := by decide +kernel
theorem dX7_hasElsewhere_33 : decode cX7_hasElsewhere 33 = .ok (.ireturn, 1) := by decide +kernel
theorem dX7_lacks_0 : decode cX7_lacks 0 = .ok (.aload_n 0, 1) := by decide +kernel
theorem dX7_lacks_1 : decode cX7_lacks 1 = .ok (.iload_n 1, 1) := by decide +kernel
theorem dX7_lacks_2 : decode cX7_lacks 2 = .ok (.invokevirtual 162, 3) := by decide +kernel
theorem dX7_lacks_5 : decode cX7_lacks 5 = .ok (.ifCond .eq 13, 3) := by decide +kernel
theorem dX7_lacks_8 : decode cX7_lacks 8 = .ok (.iload_n 2, 1) := by decide +kernel
theorem dX7_lacks_9 : decode cX7_lacks 9 = .ok (.i2l, 1) := by decide +kernel
theorem dX7_lacks_10 : decode cX7_lacks 10 = .ok (.lconst 0, 1) := by decide +kernel
theorem dX7_lacks_11 : decode cX7_lacks 11 = .ok (.lconst 1, 1) := by decide +kernel
theorem dX7_lacks_12 : decode cX7_lacks 12 = .ok (.invokestatic 39, 3) := by decide +kernel
theorem dX7_lacks_15 : decode cX7_lacks 15 = .ok (.ifCond .ne 5, 3) := by decide +kernel
theorem dX7_lacks_18 : decode cX7_lacks 18 = .ok (.iconst (-1), 1) := by decide +kernel
theorem dX7_lacks_19 : decode cX7_lacks 19 = .ok (.ireturn, 1) := by decide +kernel
theorem dX7_lacks_20 : decode cX7_lacks 20 = .ok (.iconst 0, 1) := by decide +kernel
theorem dX7_lacks_21 : decode cX7_lacks 21 = .ok (.istore_n 3, 1) := by decide +kernel
theorem dX7_lacks_22 : decode cX7_lacks 22 = .ok (.bipush 32, 2) := by decide +kernel
theorem dX7_lacks_24 : decode cX7_lacks 24 = .ok (.istore 4, 2) := by decide +kernel
theorem dX7_lacks_26 : decode cX7_lacks 26 = .ok (.iload 4, 2) := by decide +kernel
theorem dX7_lacks_28 : decode cX7_lacks 28 = .ok (.bipush 127, 2) := by decide +kernel
theorem dX7_lacks_30 : decode cX7_lacks 30 = .ok (.if_icmp .ge 87, 3) := by decide +kernel
theorem dX7_lacks_33 : decode cX7_lacks 33 = .ok (.aload_n 0, 1) := by decide +kernel
theorem dX7_lacks_34 : decode cX7_lacks 34 = .ok (.aload_n 0, 1) := by decide +kernel
theorem dX7_lacks_35 : decode cX7_lacks 35 = .ok (.iload_n 1, 1) := by decide +kernel
theorem dX7_lacks_36 : decode cX7_lacks 36 = .ok (.iconst 0, 1) := by decide +kernel
theorem dX7_lacks_37 : decode cX7_lacks 37 = .ok (.invokevirtual 56, 3) := by decide +kernel
theorem dX7_lacks_40 : decode cX7_lacks 40 = .ok (.iload 4, 2) := by decide +kernel
theorem dX7_lacks_42 : decode cX7_lacks 42 = .ok (.invokevirtual 183, 3) := by decide +kernel
theorem dX7_lacks_45 : decode cX7_lacks 45 = .ok (.ifCond .le 7, 3) := by decide +kernel
theorem dX7_lacks_48 : decode cX7_lacks 48 = .ok (.iconst 1, 1) := by decide +kernel
theorem dX7_lacks_49 : decode cX7_lacks 49 = .ok (.goto 4, 3) := by decide +kernel
theorem dX7_lacks_52 : decode cX7_lacks 52 = .ok (.iconst 0, 1) := by decide +kernel
theorem dX7_lacks_53 : decode cX7_lacks 53 = .ok (.istore 5, 2) := by decide +kernel
theorem dX7_lacks_55 : decode cX7_lacks 55 = .ok (.iload_n 3, 1) := by decide +kernel
theorem dX7_lacks_56 : decode cX7_lacks 56 = .ok (.iload_n 2, 1) := by decide +kernel
theorem dX7_lacks_57 : decode cX7_lacks 57 = .ok (.ifCond .ne 27, 3) := by decide +kernel
theorem dX7_lacks_60 : decode cX7_lacks 60 = .ok (.iload 5, 2) := by decide +kernel
theorem dX7_lacks_62 : decode cX7_lacks 62 = .ok (.ifCond .eq 18, 3) := by decide +kernel
theorem dX7_lacks_65 : decode cX7_lacks 65 = .ok (.aload_n 0, 1) := by decide +kernel
theorem dX7_lacks_66 : decode cX7_lacks 66 = .ok (.iload_n 1, 1) := by decide +kernel
theorem dX7_lacks_67 : decode cX7_lacks 67 = .ok (.iload 4, 2) := by decide +kernel
theorem dX7_lacks_69 : decode cX7_lacks 69 = .ok (.invokevirtual 113, 3) := by decide +kernel
theorem dX7_lacks_72 : decode cX7_lacks 72 = .ok (.iconst (-1), 1) := by decide +kernel
theorem dX7_lacks_73 : decode cX7_lacks 73 = .ok (.if_icmp .ne 7, 3) := by decide +kernel
theorem dX7_lacks_76 : decode cX7_lacks 76 = .ok (.iconst 1, 1) := by decide +kernel
theorem dX7_lacks_77 : decode cX7_lacks 77 = .ok (.goto 32, 3) := by decide +kernel
theorem dX7_lacks_80 : decode cX7_lacks 80 = .ok (.iconst 0, 1) := by decide +kernel
theorem dX7_lacks_81 : decode cX7_lacks 81 = .ok (.goto 28, 3) := by decide +kernel
theorem dX7_lacks_84 : decode cX7_lacks 84 = .ok (.iload 5, 2) := by decide +kernel
theorem dX7_lacks_86 : decode cX7_lacks 86 = .ok (.ifCond .ne 22, 3) := by decide +kernel
theorem dX7_lacks_89 : decode cX7_lacks 89 = .ok (.aload_n 0, 1) := by decide +kernel
theorem dX7_lacks_90 : decode cX7_lacks 90 = .ok (.aload_n 0, 1) := by decide +kernel
theorem dX7_lacks_91 : decode cX7_lacks 91 = .ok (.iload_n 1, 1) := by decide +kernel
theorem dX7_lacks_92 : decode cX7_lacks 92 = .ok (.iconst 0, 1) := by decide +kernel
theorem dX7_lacks_93 : decode cX7_lacks 93 = .ok (.invokevirtual 56, 3) := by decide +kernel
theorem dX7_lacks_96 : decode cX7_lacks 96 = .ok (.iload 4, 2) := by decide +kernel
theorem dX7_lacks_98 : decode cX7_lacks 98 = .ok (.invokevirtual 248, 3) := by decide +kernel
theorem dX7_lacks_101 : decode cX7_lacks 101 = .ok (.ifCond .eq 7, 3) := by decide +kernel
theorem dX7_lacks_104 : decode cX7_lacks 104 = .ok (.iconst 1, 1) := by decide +kernel
theorem dX7_lacks_105 : decode cX7_lacks 105 = .ok (.goto 4, 3) := by decide +kernel
theorem dX7_lacks_108 : decode cX7_lacks 108 = .ok (.iconst 0, 1) := by decide +kernel
theorem dX7_lacks_109 : decode cX7_lacks 109 = .ok (.iadd, 1) := by decide +kernel
theorem dX7_lacks_110 : decode cX7_lacks 110 = .ok (.istore_n 3, 1) := by decide +kernel
theorem dX7_lacks_111 : decode cX7_lacks 111 = .ok (.iinc 4 1, 3) := by decide +kernel
theorem dX7_lacks_114 : decode cX7_lacks 114 = .ok (.goto (-88), 3) := by decide +kernel
theorem dX7_lacks_117 : decode cX7_lacks 117 = .ok (.iload_n 3, 1) := by decide +kernel
theorem dX7_lacks_118 : decode cX7_lacks 118 = .ok (.ireturn, 1) := by decide +kernel
theorem dX7_lays_0 : decode cX7_lays 0 = .ok (.bipush 24, 2) := by decide +kernel
theorem dX7_lays_2 : decode cX7_lays 2 = .ok (.istore_n 2, 1) := by decide +kernel
theorem dX7_lays_3 : decode cX7_lays 3 = .ok (.iload_n 2, 1) := by decide +kernel
theorem dX7_lays_4 : decode cX7_lays 4 = .ok (.ifCond .lt 32, 3) := by decide +kernel
theorem dX7_lays_7 : decode cX7_lays 7 = .ok (.aload_n 0, 1) := by decide +kernel
theorem dX7_lays_8 : decode cX7_lays 8 = .ok (.getfield 31, 3) := by decide +kernel
theorem dX7_lays_11 : decode cX7_lays 11 = .ok (.aload_n 0, 1) := by decide +kernel
theorem dX7_lays_12 : decode cX7_lays 12 = .ok (.getfield 135, 3) := by decide +kernel
theorem dX7_lays_15 : decode cX7_lays 15 = .ok (.iload_n 1, 1) := by decide +kernel
theorem dX7_lays_16 : decode cX7_lays 16 = .ok (.iload_n 2, 1) := by decide +kernel
theorem dX7_lays_17 : decode cX7_lays 17 = .ok (.ishr, 1) := by decide +kernel
theorem dX7_lays_18 : decode cX7_lays 18 = .ok (.i2b, 1) := by decide +kernel
theorem dX7_lays_19 : decode cX7_lays 19 = .ok (.bastore, 1) := by decide +kernel
theorem dX7_lays_20 : decode cX7_lays 20 = .ok (.aload_n 0, 1) := by decide +kernel
theorem dX7_lays_21 : decode cX7_lays 21 = .ok (.dup, 1) := by decide +kernel
theorem dX7_lays_22 : decode cX7_lays 22 = .ok (.getfield 135, 3) := by decide +kernel
theorem dX7_lays_25 : decode cX7_lays 25 = .ok (.iconst 1, 1) := by decide +kernel
theorem dX7_lays_26 : decode cX7_lays 26 = .ok (.iadd, 1) := by decide +kernel
theorem dX7_lays_27 : decode cX7_lays 27 = .ok (.putfield 135, 3) := by decide +kernel
theorem dX7_lays_30 : decode cX7_lays 30 = .ok (.iinc 2 (-8), 3) := by decide +kernel
theorem dX7_lays_33 : decode cX7_lays 33 = .ok (.goto (-30), 3) := by decide +kernel
theorem dX7_lays_36 : decode cX7_lays 36 = .ok (.return_, 1) := by decide +kernel
theorem dX7_feed_0 : decode cX7_feed 0 = .ok (.aload_n 0, 1) := by decide +kernel
theorem dX7_feed_1 : decode cX7_feed 1 = .ok (.getfield 135, 3) := by decide +kernel
theorem dX7_feed_4 : decode cX7_feed 4 = .ok (.sipush 380, 3) := by decide +kernel
theorem dX7_feed_7 : decode cX7_feed 7 = .ok (.if_icmp .le 5, 3) := by decide +kernel
theorem dX7_feed_10 : decode cX7_feed 10 = .ok (.iconst (-1), 1) := by decide +kernel
theorem dX7_feed_11 : decode cX7_feed 11 = .ok (.ireturn, 1) := by decide +kernel
theorem dX7_feed_12 : decode cX7_feed 12 = .ok (.aload_n 0, 1) := by decide +kernel
theorem dX7_feed_13 : decode cX7_feed 13 = .ok (.iload_n 1, 1) := by decide +kernel
theorem dX7_feed_14 : decode cX7_feed 14 = .ok (.invokevirtual 251, 3) := by decide +kernel
theorem dX7_feed_17 : decode cX7_feed 17 = .ok (.aload_n 0, 1) := by decide +kernel
theorem dX7_feed_18 : decode cX7_feed 18 = .ok (.iload_n 2, 1) := by decide +kernel
theorem dX7_feed_19 : decode cX7_feed 19 = .ok (.invokevirtual 251, 3) := by decide +kernel
theorem dX7_feed_22 : decode cX7_feed 22 = .ok (.aload_n 0, 1) := by decide +kernel
theorem dX7_feed_23 : decode cX7_feed 23 = .ok (.iload_n 3, 1) := by decide +kernel
theorem dX7_feed_24 : decode cX7_feed 24 = .ok (.invokevirtual 251, 3) := by decide +kernel
theorem dX7_feed_27 : decode cX7_feed 27 = .ok (.aload_n 0, 1) := by decide +kernel
theorem dX7_feed_28 : decode cX7_feed 28 = .ok (.iload 4, 2) := by decide +kernel
theorem dX7_feed_30 : decode cX7_feed 30 = .ok (.invokevirtual 251, 3) := by decide +kernel
theorem dX7_feed_33 : decode cX7_feed 33 = .ok (.aload_n 0, 1) := by decide +kernel
theorem dX7_feed_34 : decode cX7_feed 34 = .ok (.iload 5, 2) := by decide +kernel
theorem dX7_feed_36 : decode cX7_feed 36 = .ok (.invokevirtual 251, 3) := by decide +kernel
theorem dX7_feed_39 : decode cX7_feed 39 = .ok (.aload_n 0, 1) := by decide +kernel
theorem dX7_feed_40 : decode cX7_feed 40 = .ok (.getfield 135, 3) := by decide +kernel
theorem dX7_feed_43 : decode cX7_feed 43 = .ok (.ireturn, 1) := by decide +kernel
theorem dX7_end_0 : decode cX7_end 0 = .ok (.iload_n 1, 1) := by decide +kernel
theorem dX7_end_1 : decode cX7_end 1 = .ok (.i2l, 1) := by decide +kernel
theorem dX7_end_2 : decode cX7_end 2 = .ok (.lconst 0, 1) := by decide +kernel
theorem dX7_end_3 : decode cX7_end 3 = .ok (.aload_n 0, 1) := by decide +kernel
theorem dX7_end_4 : decode cX7_end 4 = .ok (.getfield 135, 3) := by decide +kernel
theorem dX7_end_7 : decode cX7_end 7 = .ok (.i2l, 1) := by decide +kernel
theorem dX7_end_8 : decode cX7_end 8 = .ok (.invokestatic 39, 3) := by decide +kernel
theorem dX7_end_11 : decode cX7_end 11 = .ok (.ifCond .ne 5, 3) := by decide +kernel
theorem dX7_end_14 : decode cX7_end 14 = .ok (.iconst (-1), 1) := by decide +kernel
theorem dX7_end_15 : decode cX7_end 15 = .ok (.ireturn, 1) := by decide +kernel
theorem dX7_end_16 : decode cX7_end 16 = .ok (.aload_n 0, 1) := by decide +kernel
theorem dX7_end_17 : decode cX7_end 17 = .ok (.iload_n 1, 1) := by decide +kernel
theorem dX7_end_18 : decode cX7_end 18 = .ok (.putfield 135, 3) := by decide +kernel
theorem dX7_end_21 : decode cX7_end 21 = .ok (.iload_n 1, 1) := by decide +kernel
theorem dX7_end_22 : decode cX7_end 22 = .ok (.ireturn, 1) := by decide +kernel
theorem dX7_byteAt_0 : decode cX7_byteAt 0 = .ok (.iload_n 1, 1) := by decide +kernel
theorem dX7_byteAt_1 : decode cX7_byteAt 1 = .ok (.aload_n 0, 1) := by decide +kernel
theorem dX7_byteAt_2 : decode cX7_byteAt 2 = .ok (.getfield 135, 3) := by decide +kernel
theorem dX7_byteAt_5 : decode cX7_byteAt 5 = .ok (.if_icmp .ge 16, 3) := by decide +kernel
theorem dX7_byteAt_8 : decode cX7_byteAt 8 = .ok (.aload_n 0, 1) := by decide +kernel
theorem dX7_byteAt_9 : decode cX7_byteAt 9 = .ok (.getfield 31, 3) := by decide +kernel
theorem dX7_byteAt_12 : decode cX7_byteAt 12 = .ok (.iload_n 1, 1) := by decide +kernel
theorem dX7_byteAt_13 : decode cX7_byteAt 13 = .ok (.baload, 1) := by decide +kernel
theorem dX7_byteAt_14 : decode cX7_byteAt 14 = .ok (.sipush 255, 3) := by decide +kernel
theorem dX7_byteAt_17 : decode cX7_byteAt 17 = .ok (.iand, 1) := by decide +kernel
theorem dX7_byteAt_18 : decode cX7_byteAt 18 = .ok (.goto 4, 3) := by decide +kernel
theorem dX7_byteAt_21 : decode cX7_byteAt 21 = .ok (.iconst (-1), 1) := by decide +kernel
theorem dX7_byteAt_22 : decode cX7_byteAt 22 = .ok (.ireturn, 1) := by decide +kernel
theorem dX7_nextByte_0 : decode cX7_nextByte 0 = .ok (.aload_n 0, 1) := by decide +kernel
theorem dX7_nextByte_1 : decode cX7_nextByte 1 = .ok (.aload_n 0, 1) := by decide +kernel
theorem dX7_nextByte_2 : decode cX7_nextByte 2 = .ok (.getfield 254, 3) := by decide +kernel
theorem dX7_nextByte_5 : decode cX7_nextByte 5 = .ok (.invokevirtual 257, 3) := by decide +kernel
theorem dX7_nextByte_8 : decode cX7_nextByte 8 = .ok (.bipush 32, 2) := by decide +kernel
theorem dX7_nextByte_10 : decode cX7_nextByte 10 = .ok (.if_icmp .ne 16, 3) := by decide +kernel
theorem dX7_nextByte_13 : decode cX7_nextByte 13 = .ok (.aload_n 0, 1) := by decide +kernel
theorem dX7_nextByte_14 : decode cX7_nextByte 14 = .ok (.dup, 1) := by decide +kernel
theorem dX7_nextByte_15 : decode cX7_nextByte 15 = .ok (.getfield 254, 3) := by decide +kernel
theorem dX7_nextByte_18 : decode cX7_nextByte 18 = .ok (.iconst 1, 1) := by decide +kernel
theorem dX7_nextByte_19 : decode cX7_nextByte 19 = .ok (.iadd, 1) := by decide +kernel
theorem dX7_nextByte_20 : decode cX7_nextByte 20 = .ok (.putfield 254, 3) := by decide +kernel
theorem dX7_nextByte_23 : decode cX7_nextByte 23 = .ok (.goto (-23), 3) := by decide +kernel
theorem dX7_nextByte_26 : decode cX7_nextByte 26 = .ok (.aload_n 0, 1) := by decide +kernel
theorem dX7_nextByte_27 : decode cX7_nextByte 27 = .ok (.aload_n 0, 1) := by decide +kernel
theorem dX7_nextByte_28 : decode cX7_nextByte 28 = .ok (.getfield 254, 3) := by decide +kernel
theorem dX7_nextByte_31 : decode cX7_nextByte 31 = .ok (.invokevirtual 257, 3) := by decide +kernel
theorem dX7_nextByte_34 : decode cX7_nextByte 34 = .ok (.ireturn, 1) := by decide +kernel
theorem dX7_fails_0 : decode cX7_fails 0 = .ok (.aload_n 0, 1) := by decide +kernel
theorem dX7_fails_1 : decode cX7_fails 1 = .ok (.bipush 8, 2) := by decide +kernel
theorem dX7_fails_3 : decode cX7_fails 3 = .ok (.iload_n 2, 1) := by decide +kernel
theorem dX7_fails_4 : decode cX7_fails 4 = .ok (.imul, 1) := by decide +kernel
theorem dX7_fails_5 : decode cX7_fails 5 = .ok (.iload_n 1, 1) := by decide +kernel
theorem dX7_fails_6 : decode cX7_fails 6 = .ok (.iadd, 1) := by decide +kernel
theorem dX7_fails_7 : decode cX7_fails 7 = .ok (.putfield 260, 3) := by decide +kernel
theorem dX7_fails_10 : decode cX7_fails 10 = .ok (.iconst 0, 1) := by decide +kernel
theorem dX7_fails_11 : decode cX7_fails 11 = .ok (.ireturn, 1) := by decide +kernel
theorem dX7_isWord_0 : decode cX7_isWord 0 = .ok (.aload_n 0, 1) := by decide +kernel
theorem dX7_isWord_1 : decode cX7_isWord 1 = .ok (.invokevirtual 263, 3) := by decide +kernel
theorem dX7_isWord_4 : decode cX7_isWord 4 = .ok (.iconst (-1), 1) := by decide +kernel
theorem dX7_isWord_5 : decode cX7_isWord 5 = .ok (.if_icmp .ne 10, 3) := by decide +kernel
theorem dX7_isWord_8 : decode cX7_isWord 8 = .ok (.aload_n 0, 1) := by decide +kernel
theorem dX7_isWord_9 : decode cX7_isWord 9 = .ok (.getfield 135, 3) := by decide +kernel
theorem dX7_isWord_12 : decode cX7_isWord 12 = .ok (.goto 7, 3) := by decide +kernel
theorem dX7_isWord_15 : decode cX7_isWord 15 = .ok (.aload_n 0, 1) := by decide +kernel
theorem dX7_isWord_16 : decode cX7_isWord 16 = .ok (.getfield 254, 3) := by decide +kernel
theorem dX7_isWord_19 : decode cX7_isWord 19 = .ok (.istore_n 2, 1) := by decide +kernel
theorem dX7_isWord_20 : decode cX7_isWord 20 = .ok (.iconst 0, 1) := by decide +kernel
theorem dX7_isWord_21 : decode cX7_isWord 21 = .ok (.istore_n 3, 1) := by decide +kernel
theorem dX7_isWord_22 : decode cX7_isWord 22 = .ok (.iload_n 3, 1) := by decide +kernel
theorem dX7_isWord_23 : decode cX7_isWord 23 = .ok (.aload_n 1, 1) := by decide +kernel
theorem dX7_isWord_24 : decode cX7_isWord 24 = .ok (.invokevirtual 266, 3) := by decide +kernel
theorem dX7_isWord_27 : decode cX7_isWord 27 = .ok (.if_icmp .ge 24, 3) := by decide +kernel
theorem dX7_isWord_30 : decode cX7_isWord 30 = .ok (.aload_n 0, 1) := by decide +kernel
theorem dX7_isWord_31 : decode cX7_isWord 31 = .ok (.iload_n 2, 1) := by decide +kernel
theorem dX7_isWord_32 : decode cX7_isWord 32 = .ok (.iload_n 3, 1) := by decide +kernel
theorem dX7_isWord_33 : decode cX7_isWord 33 = .ok (.iadd, 1) := by decide +kernel
theorem dX7_isWord_34 : decode cX7_isWord 34 = .ok (.invokevirtual 257, 3) := by decide +kernel
theorem dX7_isWord_37 : decode cX7_isWord 37 = .ok (.aload_n 1, 1) := by decide +kernel
theorem dX7_isWord_38 : decode cX7_isWord 38 = .ok (.iload_n 3, 1) := by decide +kernel
theorem dX7_isWord_39 : decode cX7_isWord 39 = .ok (.invokevirtual 271, 3) := by decide +kernel
theorem dX7_isWord_42 : decode cX7_isWord 42 = .ok (.if_icmp .ne 9, 3) := by decide +kernel
theorem dX7_isWord_45 : decode cX7_isWord 45 = .ok (.iinc 3 1, 3) := by decide +kernel
theorem dX7_isWord_48 : decode cX7_isWord 48 = .ok (.goto (-26), 3) := by decide +kernel
theorem dX7_isWord_51 : decode cX7_isWord 51 = .ok (.iload_n 3, 1) := by decide +kernel
theorem dX7_isWord_52 : decode cX7_isWord 52 = .ok (.aload_n 1, 1) := by decide +kernel
theorem dX7_isWord_53 : decode cX7_isWord 53 = .ok (.invokevirtual 266, 3) := by decide +kernel
theorem dX7_isWord_56 : decode cX7_isWord 56 = .ok (.if_icmp .ne 27, 3) := by decide +kernel
theorem dX7_isWord_59 : decode cX7_isWord 59 = .ok (.aload_n 0, 1) := by decide +kernel
theorem dX7_isWord_60 : decode cX7_isWord 60 = .ok (.iload_n 2, 1) := by decide +kernel
theorem dX7_isWord_61 : decode cX7_isWord 61 = .ok (.iload_n 3, 1) := by decide +kernel
theorem dX7_isWord_62 : decode cX7_isWord 62 = .ok (.iadd, 1) := by decide +kernel
theorem dX7_isWord_63 : decode cX7_isWord 63 = .ok (.invokevirtual 257, 3) := by decide +kernel
theorem dX7_isWord_66 : decode cX7_isWord 66 = .ok (.i2l, 1) := by decide +kernel
theorem dX7_isWord_67 : decode cX7_isWord 67 = .ok (.ldc2_w 275, 3) := by decide +kernel
theorem dX7_isWord_70 : decode cX7_isWord 70 = .ok (.ldc2_w 277, 3) := by decide +kernel
theorem dX7_isWord_73 : decode cX7_isWord 73 = .ok (.invokestatic 39, 3) := by decide +kernel
theorem dX7_isWord_76 : decode cX7_isWord 76 = .ok (.ifCond .ne 7, 3) := by decide +kernel
theorem dX7_isWord_79 : decode cX7_isWord 79 = .ok (.iconst 1, 1) := by decide +kernel
theorem dX7_isWord_80 : decode cX7_isWord 80 = .ok (.goto 4, 3) := by decide +kernel
theorem dX7_isWord_83 : decode cX7_isWord 83 = .ok (.iconst 0, 1) := by decide +kernel
theorem dX7_isWord_84 : decode cX7_isWord 84 = .ok (.ireturn, 1) := by decide +kernel
theorem dX7_takesWord_0 : decode cX7_takesWord 0 = .ok (.aload_n 0, 1) := by decide +kernel
theorem dX7_takesWord_1 : decode cX7_takesWord 1 = .ok (.aload_n 1, 1) := by decide +kernel
theorem dX7_takesWord_2 : decode cX7_takesWord 2 = .ok (.invokevirtual 279, 3) := by decide +kernel
theorem dX7_takesWord_5 : decode cX7_takesWord 5 = .ok (.istore_n 2, 1) := by decide +kernel
theorem dX7_takesWord_6 : decode cX7_takesWord 6 = .ok (.iload_n 2, 1) := by decide +kernel
theorem dX7_takesWord_7 : decode cX7_takesWord 7 = .ok (.ifCond .eq 16, 3) := by decide +kernel
theorem dX7_takesWord_10 : decode cX7_takesWord 10 = .ok (.aload_n 0, 1) := by decide +kernel
theorem dX7_takesWord_11 : decode cX7_takesWord 11 = .ok (.dup, 1) := by decide +kernel
theorem dX7_takesWord_12 : decode cX7_takesWord 12 = .ok (.getfield 254, 3) := by decide +kernel
theorem dX7_takesWord_15 : decode cX7_takesWord 15 = .ok (.aload_n 1, 1) := by decide +kernel
theorem dX7_takesWord_16 : decode cX7_takesWord 16 = .ok (.invokevirtual 266, 3) := by decide +kernel
theorem dX7_takesWord_19 : decode cX7_takesWord 19 = .ok (.iadd, 1) := by decide +kernel
theorem dX7_takesWord_20 : decode cX7_takesWord 20 = .ok (.putfield 254, 3) := by decide +kernel
theorem dX7_takesWord_23 : decode cX7_takesWord 23 = .ok (.iload_n 2, 1) := by decide +kernel
theorem dX7_takesWord_24 : decode cX7_takesWord 24 = .ok (.ireturn, 1) := by decide +kernel
theorem dX7_mustWord_0 : decode cX7_mustWord 0 = .ok (.aload_n 0, 1) := by decide +kernel
theorem dX7_mustWord_1 : decode cX7_mustWord 1 = .ok (.aload_n 1, 1) := by decide +kernel
theorem dX7_mustWord_2 : decode cX7_mustWord 2 = .ok (.invokevirtual 283, 3) := by decide +kernel
