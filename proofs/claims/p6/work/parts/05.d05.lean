theorem dX6_doStep_17 : decode cX6_doStep 17 = .ok (.istore_n 3, 1) := by decide +kernel
theorem dX6_doStep_18 : decode cX6_doStep 18 = .ok (.aload_n 0, 1) := by decide +kernel
theorem dX6_doStep_19 : decode cX6_doStep 19 = .ok (.getfield 36, 3) := by decide +kernel
theorem dX6_doStep_22 : decode cX6_doStep 22 = .ok (.iload_n 1, 1) := by decide +kernel
theorem dX6_doStep_23 : decode cX6_doStep 23 = .ok (.invokevirtual 188, 3) := by decide +kernel
theorem dX6_doStep_26 : decode cX6_doStep 26 = .ok (.tableswitch 142 6 11 #[38, 130, 63, 87, 98, 113], 38) := by decide +kernel
theorem dX6_doStep_64 : decode cX6_doStep 64 = .ok (.aload_n 0, 1) := by decide +kernel
theorem dX6_doStep_65 : decode cX6_doStep 65 = .ok (.getfield 19, 3) := by decide +kernel
theorem dX6_doStep_68 : decode cX6_doStep 68 = .ok (.iload_n 2, 1) := by decide +kernel
theorem dX6_doStep_69 : decode cX6_doStep 69 = .ok (.aload_n 0, 1) := by decide +kernel
theorem dX6_doStep_70 : decode cX6_doStep 70 = .ok (.getfield 10, 3) := by decide +kernel
theorem dX6_doStep_73 : decode cX6_doStep 73 = .ok (.iload_n 3, 1) := by decide +kernel
theorem dX6_doStep_74 : decode cX6_doStep 74 = .ok (.aload_n 0, 1) := by decide +kernel
theorem dX6_doStep_75 : decode cX6_doStep 75 = .ok (.getfield 36, 3) := by decide +kernel
theorem dX6_doStep_78 : decode cX6_doStep 78 = .ok (.iload_n 1, 1) := by decide +kernel
theorem dX6_doStep_79 : decode cX6_doStep 79 = .ok (.invokevirtual 191, 3) := by decide +kernel
theorem dX6_doStep_82 : decode cX6_doStep 82 = .ok (.invokevirtual 90, 3) := by decide +kernel
theorem dX6_doStep_85 : decode cX6_doStep 85 = .ok (.pop, 1) := by decide +kernel
theorem dX6_doStep_86 : decode cX6_doStep 86 = .ok (.goto 82, 3) := by decide +kernel
theorem dX6_doStep_89 : decode cX6_doStep 89 = .ok (.aload_n 0, 1) := by decide +kernel
theorem dX6_doStep_90 : decode cX6_doStep 90 = .ok (.getfield 19, 3) := by decide +kernel
theorem dX6_doStep_93 : decode cX6_doStep 93 = .ok (.aload_n 0, 1) := by decide +kernel
theorem dX6_doStep_94 : decode cX6_doStep 94 = .ok (.getfield 10, 3) := by decide +kernel
theorem dX6_doStep_97 : decode cX6_doStep 97 = .ok (.iload_n 3, 1) := by decide +kernel
theorem dX6_doStep_98 : decode cX6_doStep 98 = .ok (.aload_n 0, 1) := by decide +kernel
theorem dX6_doStep_99 : decode cX6_doStep 99 = .ok (.getfield 36, 3) := by decide +kernel
theorem dX6_doStep_102 : decode cX6_doStep 102 = .ok (.iload_n 1, 1) := by decide +kernel
theorem dX6_doStep_103 : decode cX6_doStep 103 = .ok (.invokevirtual 191, 3) := by decide +kernel
theorem dX6_doStep_106 : decode cX6_doStep 106 = .ok (.invokevirtual 97, 3) := by decide +kernel
theorem dX6_doStep_109 : decode cX6_doStep 109 = .ok (.pop, 1) := by decide +kernel
theorem dX6_doStep_110 : decode cX6_doStep 110 = .ok (.goto 58, 3) := by decide +kernel
theorem dX6_doStep_113 : decode cX6_doStep 113 = .ok (.aload_n 0, 1) := by decide +kernel
theorem dX6_doStep_114 : decode cX6_doStep 114 = .ok (.getfield 19, 3) := by decide +kernel
theorem dX6_doStep_117 : decode cX6_doStep 117 = .ok (.iload_n 2, 1) := by decide +kernel
theorem dX6_doStep_118 : decode cX6_doStep 118 = .ok (.invokevirtual 194, 3) := by decide +kernel
theorem dX6_doStep_121 : decode cX6_doStep 121 = .ok (.goto 47, 3) := by decide +kernel
theorem dX6_doStep_124 : decode cX6_doStep 124 = .ok (.aload_n 0, 1) := by decide +kernel
theorem dX6_doStep_125 : decode cX6_doStep 125 = .ok (.getfield 29, 3) := by decide +kernel
theorem dX6_doStep_128 : decode cX6_doStep 128 = .ok (.aload_n 0, 1) := by decide +kernel
theorem dX6_doStep_129 : decode cX6_doStep 129 = .ok (.getfield 19, 3) := by decide +kernel
theorem dX6_doStep_132 : decode cX6_doStep 132 = .ok (.iload_n 2, 1) := by decide +kernel
theorem dX6_doStep_133 : decode cX6_doStep 133 = .ok (.invokevirtual 104, 3) := by decide +kernel
theorem dX6_doStep_136 : decode cX6_doStep 136 = .ok (.goto 32, 3) := by decide +kernel
theorem dX6_doStep_139 : decode cX6_doStep 139 = .ok (.aload_n 0, 1) := by decide +kernel
theorem dX6_doStep_140 : decode cX6_doStep 140 = .ok (.getfield 29, 3) := by decide +kernel
theorem dX6_doStep_143 : decode cX6_doStep 143 = .ok (.aload_n 0, 1) := by decide +kernel
theorem dX6_doStep_144 : decode cX6_doStep 144 = .ok (.getfield 19, 3) := by decide +kernel
theorem dX6_doStep_147 : decode cX6_doStep 147 = .ok (.sipush 9999, 3) := by decide +kernel
theorem dX6_doStep_150 : decode cX6_doStep 150 = .ok (.invokevirtual 104, 3) := by decide +kernel
theorem dX6_doStep_153 : decode cX6_doStep 153 = .ok (.goto 15, 3) := by decide +kernel
theorem dX6_doStep_156 : decode cX6_doStep 156 = .ok (.aload_n 0, 1) := by decide +kernel
theorem dX6_doStep_157 : decode cX6_doStep 157 = .ok (.getfield 19, 3) := by decide +kernel
theorem dX6_doStep_160 : decode cX6_doStep 160 = .ok (.iload_n 2, 1) := by decide +kernel
theorem dX6_doStep_161 : decode cX6_doStep 161 = .ok (.iload_n 3, 1) := by decide +kernel
theorem dX6_doStep_162 : decode cX6_doStep 162 = .ok (.invokevirtual 126, 3) := by decide +kernel
theorem dX6_doStep_165 : decode cX6_doStep 165 = .ok (.goto 3, 3) := by decide +kernel
theorem dX6_doStep_168 : decode cX6_doStep 168 = .ok (.return_, 1) := by decide +kernel
theorem dX6_doProgram_0 : decode cX6_doProgram 0 = .ok (.aload_n 0, 1) := by decide +kernel
theorem dX6_doProgram_1 : decode cX6_doProgram 1 = .ok (.getfield 36, 3) := by decide +kernel
theorem dX6_doProgram_4 : decode cX6_doProgram 4 = .ok (.invokevirtual 167, 3) := by decide +kernel
theorem dX6_doProgram_7 : decode cX6_doProgram 7 = .ok (.iconst 0, 1) := by decide +kernel
theorem dX6_doProgram_8 : decode cX6_doProgram 8 = .ok (.istore_n 1, 1) := by decide +kernel
theorem dX6_doProgram_9 : decode cX6_doProgram 9 = .ok (.iload_n 1, 1) := by decide +kernel
theorem dX6_doProgram_10 : decode cX6_doProgram 10 = .ok (.sipush 200, 3) := by decide +kernel
theorem dX6_doProgram_13 : decode cX6_doProgram 13 = .ok (.if_icmp .ge 46, 3) := by decide +kernel
theorem dX6_doProgram_16 : decode cX6_doProgram 16 = .ok (.aload_n 0, 1) := by decide +kernel
theorem dX6_doProgram_17 : decode cX6_doProgram 17 = .ok (.getfield 36, 3) := by decide +kernel
theorem dX6_doProgram_20 : decode cX6_doProgram 20 = .ok (.aload_n 0, 1) := by decide +kernel
theorem dX6_doProgram_21 : decode cX6_doProgram 21 = .ok (.getfield 36, 3) := by decide +kernel
theorem dX6_doProgram_24 : decode cX6_doProgram 24 = .ok (.getfield 170, 3) := by decide +kernel
theorem dX6_doProgram_27 : decode cX6_doProgram 27 = .ok (.invokevirtual 173, 3) := by decide +kernel
theorem dX6_doProgram_30 : decode cX6_doProgram 30 = .ok (.ifCond .ne 5, 3) := by decide +kernel
theorem dX6_doProgram_33 : decode cX6_doProgram 33 = .ok (.iload_n 1, 1) := by decide +kernel
theorem dX6_doProgram_34 : decode cX6_doProgram 34 = .ok (.ireturn, 1) := by decide +kernel
theorem dX6_doProgram_35 : decode cX6_doProgram 35 = .ok (.aload_n 0, 1) := by decide +kernel
theorem dX6_doProgram_36 : decode cX6_doProgram 36 = .ok (.aload_n 0, 1) := by decide +kernel
theorem dX6_doProgram_37 : decode cX6_doProgram 37 = .ok (.getfield 36, 3) := by decide +kernel
theorem dX6_doProgram_40 : decode cX6_doProgram 40 = .ok (.getfield 170, 3) := by decide +kernel
theorem dX6_doProgram_43 : decode cX6_doProgram 43 = .ok (.invokevirtual 176, 3) := by decide +kernel
theorem dX6_doProgram_46 : decode cX6_doProgram 46 = .ok (.aload_n 0, 1) := by decide +kernel
theorem dX6_doProgram_47 : decode cX6_doProgram 47 = .ok (.getfield 36, 3) := by decide +kernel
theorem dX6_doProgram_50 : decode cX6_doProgram 50 = .ok (.invokevirtual 179, 3) := by decide +kernel
theorem dX6_doProgram_53 : decode cX6_doProgram 53 = .ok (.iinc 1 1, 3) := by decide +kernel
theorem dX6_doProgram_56 : decode cX6_doProgram 56 = .ok (.goto (-47), 3) := by decide +kernel
theorem dX6_doProgram_59 : decode cX6_doProgram 59 = .ok (.sipush 200, 3) := by decide +kernel
theorem dX6_doProgram_62 : decode cX6_doProgram 62 = .ok (.ireturn, 1) := by decide +kernel
theorem dX6_run_0 : decode cX6_run 0 = .ok (.aload_n 0, 1) := by decide +kernel
theorem dX6_run_1 : decode cX6_run 1 = .ok (.invokevirtual 156, 3) := by decide +kernel
theorem dX6_run_4 : decode cX6_run 4 = .ok (.istore_n 1, 1) := by decide +kernel
theorem dX6_run_5 : decode cX6_run 5 = .ok (.iload_n 1, 1) := by decide +kernel
theorem dX6_run_6 : decode cX6_run 6 = .ok (.ifCond .ne 19, 3) := by decide +kernel
theorem dX6_run_9 : decode cX6_run 9 = .ok (.aload_n 0, 1) := by decide +kernel
theorem dX6_run_10 : decode cX6_run 10 = .ok (.getfield 43, 3) := by decide +kernel
theorem dX6_run_13 : decode cX6_run 13 = .ok (.aload_n 0, 1) := by decide +kernel
theorem dX6_run_14 : decode cX6_run 14 = .ok (.getfield 19, 3) := by decide +kernel
theorem dX6_run_25 : decode cX6_run 25 = .ok (.aload_n 0, 1) := by decide +kernel
theorem dX6_run_26 : decode cX6_run 26 = .ok (.getfield 10, 3) := by decide +kernel
theorem dX6_run_29 : decode cX6_run 29 = .ok (.iconst 0, 1) := by decide +kernel
theorem dX6_run_30 : decode cX6_run 30 = .ok (.putfield 51, 3) := by decide +kernel
theorem dX6_run_33 : decode cX6_run 33 = .ok (.iload_n 1, 1) := by decide +kernel
theorem dX6_run_34 : decode cX6_run 34 = .ok (.ireturn, 1) := by decide +kernel
theorem dX6_undo_0 : decode cX6_undo 0 = .ok (.aload_n 0, 1) := by decide +kernel
theorem dX6_undo_1 : decode cX6_undo 1 = .ok (.getfield 43, 3) := by decide +kernel
theorem dX6_undo_4 : decode cX6_undo 4 = .ok (.aload_n 0, 1) := by decide +kernel
theorem dX6_undo_5 : decode cX6_undo 5 = .ok (.getfield 19, 3) := by decide +kernel
theorem dX6_isShelf_0 : decode cX6_isShelf 0 = .ok (.iload_n 0, 1) := by decide +kernel
theorem dX6_isShelf_1 : decode cX6_isShelf 1 = .ok (.ifCond .lt 12, 3) := by decide +kernel
theorem dX6_isShelf_4 : decode cX6_isShelf 4 = .ok (.iload_n 0, 1) := by decide +kernel
theorem dX6_isShelf_5 : decode cX6_isShelf 5 = .ok (.iconst 2, 1) := by decide +kernel
theorem dX6_isShelf_6 : decode cX6_isShelf 6 = .ok (.if_icmp .ge 7, 3) := by decide +kernel
theorem dX6_isShelf_9 : decode cX6_isShelf 9 = .ok (.iconst 1, 1) := by decide +kernel
theorem dX6_isShelf_10 : decode cX6_isShelf 10 = .ok (.goto 4, 3) := by decide +kernel
theorem dX6_isShelf_13 : decode cX6_isShelf 13 = .ok (.iconst 0, 1) := by decide +kernel
theorem dX6_isShelf_14 : decode cX6_isShelf 14 = .ok (.ireturn, 1) := by decide +kernel
theorem dX6_keep_0 : decode cX6_keep 0 = .ok (.iload_n 1, 1) := by decide +kernel
theorem dX6_keep_1 : decode cX6_keep 1 = .ok (.invokestatic 201, 3) := by decide +kernel
theorem dX6_keep_4 : decode cX6_keep 4 = .ok (.ifCond .ne 5, 3) := by decide +kernel
theorem dX6_keep_9 : decode cX6_keep 9 = .ok (.aload_n 0, 1) := by decide +kernel
theorem dX6_keep_10 : decode cX6_keep 10 = .ok (.getfield 47, 3) := by decide +kernel
theorem dX6_keep_13 : decode cX6_keep 13 = .ok (.iload_n 1, 1) := by decide +kernel
theorem dX6_back_0 : decode cX6_back 0 = .ok (.iload_n 1, 1) := by decide +kernel
theorem dX6_back_1 : decode cX6_back 1 = .ok (.invokestatic 201, 3) := by decide +kernel
theorem dX6_back_4 : decode cX6_back 4 = .ok (.ifCond .ne 5, 3) := by decide +kernel
theorem dX6_back_9 : decode cX6_back 9 = .ok (.aload_n 0, 1) := by decide +kernel
theorem dX6_back_10 : decode cX6_back 10 = .ok (.getfield 47, 3) := by decide +kernel
theorem dX6_back_13 : decode cX6_back 13 = .ok (.iload_n 1, 1) := by decide +kernel
theorem dX6_shelvesUsed_0 : decode cX6_shelvesUsed 0 = .ok (.iconst 0, 1) := by decide +kernel
theorem dX6_shelvesUsed_1 : decode cX6_shelvesUsed 1 = .ok (.istore_n 1, 1) := by decide +kernel
theorem dX6_shelvesUsed_2 : decode cX6_shelvesUsed 2 = .ok (.iconst 0, 1) := by decide +kernel
theorem dX6_shelvesUsed_3 : decode cX6_shelvesUsed 3 = .ok (.istore_n 2, 1) := by decide +kernel
theorem dX6_shelvesUsed_4 : decode cX6_shelvesUsed 4 = .ok (.iload_n 2, 1) := by decide +kernel
theorem dX6_shelvesUsed_5 : decode cX6_shelvesUsed 5 = .ok (.iconst 2, 1) := by decide +kernel
theorem dX6_shelvesUsed_6 : decode cX6_shelvesUsed 6 = .ok (.if_icmp .ge 24, 3) := by decide +kernel
theorem dX6_shelvesUsed_9 : decode cX6_shelvesUsed 9 = .ok (.aload_n 0, 1) := by decide +kernel
theorem dX6_shelvesUsed_10 : decode cX6_shelvesUsed 10 = .ok (.getfield 47, 3) := by decide +kernel
theorem dX6_shelvesUsed_13 : decode cX6_shelvesUsed 13 = .ok (.iload_n 2, 1) := by decide +kernel
theorem dX6_cell_0 : decode cX6_cell 0 = .ok (.aload_n 0, 1) := by decide +kernel
theorem dX6_cell_1 : decode cX6_cell 1 = .ok (.getfield 19, 3) := by decide +kernel
theorem dX6_cell_4 : decode cX6_cell 4 = .ok (.iload_n 1, 1) := by decide +kernel
theorem dX6_cell_5 : decode cX6_cell 5 = .ok (.invokevirtual 118, 3) := by decide +kernel
theorem dX6_cell_8 : decode cX6_cell 8 = .ok (.ifCond .ne 5, 3) := by decide +kernel
theorem dX6_cell_11 : decode cX6_cell 11 = .ok (.iconst (-1), 1) := by decide +kernel
theorem dX6_cell_12 : decode cX6_cell 12 = .ok (.ireturn, 1) := by decide +kernel
theorem dX6_cell_13 : decode cX6_cell 13 = .ok (.iload_n 2, 1) := by decide +kernel
theorem dX6_cell_14 : decode cX6_cell 14 = .ok (.tableswitch 138 0 8 #[50, 60, 70, 80, 90, 99, 109, 119, 129], 50) := by decide +kernel
theorem dX6_cell_64 : decode cX6_cell 64 = .ok (.aload_n 0, 1) := by decide +kernel
theorem dX6_cell_65 : decode cX6_cell 65 = .ok (.getfield 19, 3) := by decide +kernel
theorem dX6_cell_68 : decode cX6_cell 68 = .ok (.getfield 210, 3) := by decide +kernel
theorem dX6_cell_71 : decode cX6_cell 71 = .ok (.iload_n 1, 1) := by decide +kernel
theorem dX6_cell_72 : decode cX6_cell 72 = .ok (.iaload, 1) := by decide +kernel
theorem dX6_cell_73 : decode cX6_cell 73 = .ok (.ireturn, 1) := by decide +kernel
theorem dX6_cell_74 : decode cX6_cell 74 = .ok (.aload_n 0, 1) := by decide +kernel
theorem dX6_cell_75 : decode cX6_cell 75 = .ok (.getfield 19, 3) := by decide +kernel
theorem dX6_cell_78 : decode cX6_cell 78 = .ok (.getfield 213, 3) := by decide +kernel
theorem dX6_cell_81 : decode cX6_cell 81 = .ok (.iload_n 1, 1) := by decide +kernel
theorem dX6_cell_82 : decode cX6_cell 82 = .ok (.iaload, 1) := by decide +kernel
theorem dX6_cell_83 : decode cX6_cell 83 = .ok (.ireturn, 1) := by decide +kernel
theorem dX6_cell_84 : decode cX6_cell 84 = .ok (.aload_n 0, 1) := by decide +kernel
theorem dX6_cell_85 : decode cX6_cell 85 = .ok (.getfield 19, 3) := by decide +kernel
theorem dX6_cell_88 : decode cX6_cell 88 = .ok (.getfield 216, 3) := by decide +kernel
theorem dX6_cell_91 : decode cX6_cell 91 = .ok (.iload_n 1, 1) := by decide +kernel
theorem dX6_cell_92 : decode cX6_cell 92 = .ok (.iaload, 1) := by decide +kernel
theorem dX6_cell_93 : decode cX6_cell 93 = .ok (.ireturn, 1) := by decide +kernel
theorem dX6_cell_94 : decode cX6_cell 94 = .ok (.aload_n 0, 1) := by decide +kernel
theorem dX6_cell_95 : decode cX6_cell 95 = .ok (.getfield 19, 3) := by decide +kernel
theorem dX6_cell_98 : decode cX6_cell 98 = .ok (.getfield 219, 3) := by decide +kernel
theorem dX6_cell_101 : decode cX6_cell 101 = .ok (.iload_n 1, 1) := by decide +kernel
theorem dX6_cell_102 : decode cX6_cell 102 = .ok (.iaload, 1) := by decide +kernel
theorem dX6_cell_103 : decode cX6_cell 103 = .ok (.ireturn, 1) := by decide +kernel
theorem dX6_cell_104 : decode cX6_cell 104 = .ok (.aload_n 0, 1) := by decide +kernel
theorem dX6_cell_105 : decode cX6_cell 105 = .ok (.getfield 19, 3) := by decide +kernel
theorem dX6_cell_108 : decode cX6_cell 108 = .ok (.iload_n 1, 1) := by decide +kernel
theorem dX6_cell_109 : decode cX6_cell 109 = .ok (.invokevirtual 222, 3) := by decide +kernel
theorem dX6_cell_112 : decode cX6_cell 112 = .ok (.ireturn, 1) := by decide +kernel
theorem dX6_cell_113 : decode cX6_cell 113 = .ok (.aload_n 0, 1) := by decide +kernel
theorem dX6_cell_114 : decode cX6_cell 114 = .ok (.getfield 19, 3) := by decide +kernel
theorem dX6_cell_117 : decode cX6_cell 117 = .ok (.getfield 122, 3) := by decide +kernel
theorem dX6_cell_120 : decode cX6_cell 120 = .ok (.iload_n 1, 1) := by decide +kernel
theorem dX6_cell_121 : decode cX6_cell 121 = .ok (.iaload, 1) := by decide +kernel
theorem dX6_cell_122 : decode cX6_cell 122 = .ok (.ireturn, 1) := by decide +kernel
theorem dX6_cell_123 : decode cX6_cell 123 = .ok (.aload_n 0, 1) := by decide +kernel
theorem dX6_cell_124 : decode cX6_cell 124 = .ok (.getfield 19, 3) := by decide +kernel
theorem dX6_cell_127 : decode cX6_cell 127 = .ok (.getfield 225, 3) := by decide +kernel
theorem dX6_cell_130 : decode cX6_cell 130 = .ok (.iload_n 1, 1) := by decide +kernel
theorem dX6_cell_131 : decode cX6_cell 131 = .ok (.iaload, 1) := by decide +kernel
theorem dX6_cell_132 : decode cX6_cell 132 = .ok (.ireturn, 1) := by decide +kernel
theorem dX6_cell_133 : decode cX6_cell 133 = .ok (.aload_n 0, 1) := by decide +kernel
theorem dX6_cell_134 : decode cX6_cell 134 = .ok (.getfield 19, 3) := by decide +kernel
theorem dX6_cell_137 : decode cX6_cell 137 = .ok (.getfield 227, 3) := by decide +kernel
theorem dX6_cell_140 : decode cX6_cell 140 = .ok (.iload_n 1, 1) := by decide +kernel
theorem dX6_cell_141 : decode cX6_cell 141 = .ok (.iaload, 1) := by decide +kernel
theorem dX6_cell_142 : decode cX6_cell 142 = .ok (.ireturn, 1) := by decide +kernel
theorem dX6_cell_143 : decode cX6_cell 143 = .ok (.aload_n 0, 1) := by decide +kernel
theorem dX6_cell_144 : decode cX6_cell 144 = .ok (.getfield 19, 3) := by decide +kernel
theorem dX6_cell_147 : decode cX6_cell 147 = .ok (.iload_n 1, 1) := by decide +kernel
theorem dX6_cell_148 : decode cX6_cell 148 = .ok (.invokevirtual 140, 3) := by decide +kernel
theorem dX6_cell_151 : decode cX6_cell 151 = .ok (.ireturn, 1) := by decide +kernel
theorem dX6_cell_152 : decode cX6_cell 152 = .ok (.iconst (-1), 1) := by decide +kernel
theorem dX6_cell_153 : decode cX6_cell 153 = .ok (.ireturn, 1) := by decide +kernel
theorem dX6_worn_0 : decode cX6_worn 0 = .ok (.aload_n 0, 1) := by decide +kernel
theorem dX6_worn_1 : decode cX6_worn 1 = .ok (.getfield 19, 3) := by decide +kernel
theorem dX6_worn_4 : decode cX6_worn 4 = .ok (.iload_n 1, 1) := by decide +kernel
theorem dX6_worn_5 : decode cX6_worn 5 = .ok (.invokevirtual 118, 3) := by decide +kernel
theorem dX6_worn_8 : decode cX6_worn 8 = .ok (.ifCond .eq 15, 3) := by decide +kernel
theorem dX6_worn_11 : decode cX6_worn 11 = .ok (.aload_n 0, 1) := by decide +kernel
theorem dX6_worn_12 : decode cX6_worn 12 = .ok (.getfield 19, 3) := by decide +kernel
theorem dX6_worn_15 : decode cX6_worn 15 = .ok (.getfield 230, 3) := by decide +kernel
theorem dX6_worn_18 : decode cX6_worn 18 = .ok (.iload_n 1, 1) := by decide +kernel
theorem dX6_worn_19 : decode cX6_worn 19 = .ok (.laload, 1) := by decide +kernel
theorem dX6_worn_20 : decode cX6_worn 20 = .ok (.goto 6, 3) := by decide +kernel
theorem dX6_worn_23 : decode cX6_worn 23 = .ok (.ldc2_w 234, 3) := by decide +kernel
theorem dX6_worn_26 : decode cX6_worn 26 = .ok (.lreturn, 1) := by decide +kernel
theorem dX6_drum_0 : decode cX6_drum 0 = .ok (.aload_n 0, 1) := by decide +kernel
theorem dX6_drum_1 : decode cX6_drum 1 = .ok (.getfield 19, 3) := by decide +kernel
theorem dX6_drum_4 : decode cX6_drum 4 = .ok (.iload_n 1, 1) := by decide +kernel
theorem dX6_drum_5 : decode cX6_drum 5 = .ok (.invokevirtual 236, 3) := by decide +kernel
theorem dX6_drum_8 : decode cX6_drum 8 = .ok (.ifCond .ne 5, 3) := by decide +kernel
theorem dX6_drum_11 : decode cX6_drum 11 = .ok (.iconst (-1), 1) := by decide +kernel
theorem dX6_drum_12 : decode cX6_drum 12 = .ok (.ireturn, 1) := by decide +kernel
theorem dX6_drum_13 : decode cX6_drum 13 = .ok (.iload_n 2, 1) := by decide +kernel
theorem dX6_drum_14 : decode cX6_drum 14 = .ok (.tableswitch 80 0 4 #[34, 44, 53, 62, 71], 34) := by decide +kernel
theorem dX6_drum_48 : decode cX6_drum 48 = .ok (.aload_n 0, 1) := by decide +kernel
theorem dX6_drum_49 : decode cX6_drum 49 = .ok (.getfield 19, 3) := by decide +kernel
theorem dX6_drum_52 : decode cX6_drum 52 = .ok (.getfield 239, 3) := by decide +kernel
theorem dX6_drum_55 : decode cX6_drum 55 = .ok (.iload_n 1, 1) := by decide +kernel
theorem dX6_drum_56 : decode cX6_drum 56 = .ok (.iaload, 1) := by decide +kernel
theorem dX6_drum_57 : decode cX6_drum 57 = .ok (.ireturn, 1) := by decide +kernel
theorem dX6_drum_58 : decode cX6_drum 58 = .ok (.aload_n 0, 1) := by decide +kernel
theorem dX6_drum_59 : decode cX6_drum 59 = .ok (.getfield 19, 3) := by decide +kernel
theorem dX6_drum_62 : decode cX6_drum 62 = .ok (.iload_n 1, 1) := by decide +kernel
theorem dX6_drum_63 : decode cX6_drum 63 = .ok (.invokevirtual 242, 3) := by decide +kernel
theorem dX6_drum_66 : decode cX6_drum 66 = .ok (.ireturn, 1) := by decide +kernel
theorem dX6_drum_67 : decode cX6_drum 67 = .ok (.aload_n 0, 1) := by decide +kernel
theorem dX6_drum_68 : decode cX6_drum 68 = .ok (.getfield 19, 3) := by decide +kernel
theorem dX6_drum_71 : decode cX6_drum 71 = .ok (.iload_n 1, 1) := by decide +kernel
theorem dX6_drum_72 : decode cX6_drum 72 = .ok (.invokevirtual 245, 3) := by decide +kernel
theorem dX6_drum_75 : decode cX6_drum 75 = .ok (.ireturn, 1) := by decide +kernel
theorem dX6_drum_76 : decode cX6_drum 76 = .ok (.aload_n 0, 1) := by decide +kernel
theorem dX6_drum_77 : decode cX6_drum 77 = .ok (.getfield 19, 3) := by decide +kernel
theorem dX6_drum_80 : decode cX6_drum 80 = .ok (.iload_n 1, 1) := by decide +kernel
theorem dX6_drum_81 : decode cX6_drum 81 = .ok (.invokevirtual 248, 3) := by decide +kernel
theorem dX6_drum_84 : decode cX6_drum 84 = .ok (.ireturn, 1) := by decide +kernel
theorem dX6_drum_85 : decode cX6_drum 85 = .ok (.aload_n 0, 1) := by decide +kernel
theorem dX6_drum_86 : decode cX6_drum 86 = .ok (.getfield 19, 3) := by decide +kernel
theorem dX6_drum_89 : decode cX6_drum 89 = .ok (.iload_n 1, 1) := by decide +kernel
theorem dX6_drum_90 : decode cX6_drum 90 = .ok (.invokevirtual 251, 3) := by decide +kernel
theorem dX6_drum_93 : decode cX6_drum 93 = .ok (.ireturn, 1) := by decide +kernel
theorem dX6_drum_94 : decode cX6_drum 94 = .ok (.iconst (-1), 1) := by decide +kernel
theorem dX6_drum_95 : decode cX6_drum 95 = .ok (.ireturn, 1) := by decide +kernel
theorem dX6_sign_0 : decode cX6_sign 0 = .ok (.aload_n 0, 1) := by decide +kernel
theorem dX6_sign_1 : decode cX6_sign 1 = .ok (.getfield 19, 3) := by decide +kernel
theorem dX6_sign_4 : decode cX6_sign 4 = .ok (.iload_n 1, 1) := by decide +kernel
theorem dX6_sign_5 : decode cX6_sign 5 = .ok (.iload_n 2, 1) := by decide +kernel
theorem dX6_sign_6 : decode cX6_sign 6 = .ok (.invokevirtual 254, 3) := by decide +kernel
theorem dX6_sign_9 : decode cX6_sign 9 = .ok (.ireturn, 1) := by decide +kernel
theorem dX6_at_0 : decode cX6_at 0 = .ok (.aload_n 0, 1) := by decide +kernel
theorem dX6_at_1 : decode cX6_at 1 = .ok (.getfield 19, 3) := by decide +kernel
theorem dX6_at_4 : decode cX6_at 4 = .ok (.iload_n 1, 1) := by decide +kernel
theorem dX6_at_5 : decode cX6_at 5 = .ok (.invokevirtual 258, 3) := by decide +kernel
theorem dX6_at_8 : decode cX6_at 8 = .ok (.ifCond .eq 18, 3) := by decide +kernel
theorem dX6_at_11 : decode cX6_at 11 = .ok (.iload_n 2, 1) := by decide +kernel
theorem dX6_at_12 : decode cX6_at 12 = .ok (.ifCond .lt 14, 3) := by decide +kernel
theorem dX6_at_15 : decode cX6_at 15 = .ok (.iload_n 2, 1) := by decide +kernel
theorem dX6_at_16 : decode cX6_at 16 = .ok (.aload_n 0, 1) := by decide +kernel
theorem dX6_at_17 : decode cX6_at 17 = .ok (.getfield 19, 3) := by decide +kernel
theorem dX6_at_20 : decode cX6_at 20 = .ok (.getfield 261, 3) := by decide +kernel
theorem dX6_at_23 : decode cX6_at 23 = .ok (.if_icmp .lt 5, 3) := by decide +kernel
theorem dX6_at_26 : decode cX6_at 26 = .ok (.iconst (-1), 1) := by decide +kernel
theorem dX6_at_27 : decode cX6_at 27 = .ok (.ireturn, 1) := by decide +kernel
theorem dX6_at_28 : decode cX6_at 28 = .ok (.iload_n 1, 1) := by decide +kernel
theorem dX6_at_29 : decode cX6_at 29 = .ok (.aload_n 0, 1) := by decide +kernel
theorem dX6_at_30 : decode cX6_at 30 = .ok (.getfield 19, 3) := by decide +kernel
theorem dX6_at_33 : decode cX6_at 33 = .ok (.getfield 261, 3) := by decide +kernel
theorem dX6_at_36 : decode cX6_at 36 = .ok (.imul, 1) := by decide +kernel
theorem dX6_at_37 : decode cX6_at 37 = .ok (.iload_n 2, 1) := by decide +kernel
theorem dX6_at_38 : decode cX6_at 38 = .ok (.iadd, 1) := by decide +kernel
theorem dX6_at_39 : decode cX6_at 39 = .ok (.istore 4, 2) := by decide +kernel
theorem dX6_at_41 : decode cX6_at 41 = .ok (.iload_n 3, 1) := by decide +kernel
theorem dX6_at_42 : decode cX6_at 42 = .ok (.tableswitch 86 0 2 #[26, 46, 66], 26) := by decide +kernel
theorem dX6_at_68 : decode cX6_at 68 = .ok (.aload_n 0, 1) := by decide +kernel
theorem dX6_at_69 : decode cX6_at 69 = .ok (.getfield 19, 3) := by decide +kernel
theorem dX6_at_72 : decode cX6_at 72 = .ok (.iload 4, 2) := by decide +kernel
theorem dX6_at_74 : decode cX6_at 74 = .ok (.aload_n 0, 1) := by decide +kernel
theorem dX6_at_75 : decode cX6_at 75 = .ok (.getfield 19, 3) := by decide +kernel
theorem dX6_at_78 : decode cX6_at 78 = .ok (.getfield 213, 3) := by decide +kernel
theorem dX6_at_81 : decode cX6_at 81 = .ok (.iload 4, 2) := by decide +kernel
theorem dX6_at_83 : decode cX6_at 83 = .ok (.iaload, 1) := by decide +kernel
theorem dX6_at_84 : decode cX6_at 84 = .ok (.invokevirtual 264, 3) := by decide +kernel
theorem dX6_at_87 : decode cX6_at 87 = .ok (.ireturn, 1) := by decide +kernel
theorem dX6_at_88 : decode cX6_at 88 = .ok (.aload_n 0, 1) := by decide +kernel
theorem dX6_at_89 : decode cX6_at 89 = .ok (.getfield 19, 3) := by decide +kernel
theorem dX6_at_92 : decode cX6_at 92 = .ok (.iload 4, 2) := by decide +kernel
theorem dX6_at_94 : decode cX6_at 94 = .ok (.aload_n 0, 1) := by decide +kernel
theorem dX6_at_95 : decode cX6_at 95 = .ok (.getfield 19, 3) := by decide +kernel
theorem dX6_at_98 : decode cX6_at 98 = .ok (.getfield 216, 3) := by decide +kernel
theorem dX6_at_101 : decode cX6_at 101 = .ok (.iload 4, 2) := by decide +kernel
theorem dX6_at_103 : decode cX6_at 103 = .ok (.iaload, 1) := by decide +kernel
theorem dX6_at_104 : decode cX6_at 104 = .ok (.invokevirtual 264, 3) := by decide +kernel
theorem dX6_at_107 : decode cX6_at 107 = .ok (.ireturn, 1) := by decide +kernel
theorem dX6_at_108 : decode cX6_at 108 = .ok (.aload_n 0, 1) := by decide +kernel
theorem dX6_at_109 : decode cX6_at 109 = .ok (.getfield 19, 3) := by decide +kernel
theorem dX6_at_112 : decode cX6_at 112 = .ok (.iload 4, 2) := by decide +kernel
theorem dX6_at_114 : decode cX6_at 114 = .ok (.aload_n 0, 1) := by decide +kernel
theorem dX6_at_115 : decode cX6_at 115 = .ok (.getfield 19, 3) := by decide +kernel
theorem dX6_at_118 : decode cX6_at 118 = .ok (.getfield 219, 3) := by decide +kernel
theorem dX6_at_121 : decode cX6_at 121 = .ok (.iload 4, 2) := by decide +kernel
theorem dX6_at_123 : decode cX6_at 123 = .ok (.iaload, 1) := by decide +kernel
theorem dX6_at_124 : decode cX6_at 124 = .ok (.invokevirtual 264, 3) := by decide +kernel
theorem dX6_at_127 : decode cX6_at 127 = .ok (.ireturn, 1) := by decide +kernel
theorem dX6_at_128 : decode cX6_at 128 = .ok (.iconst (-1), 1) := by decide +kernel
theorem dX6_at_129 : decode cX6_at 129 = .ok (.ireturn, 1) := by decide +kernel
theorem dX6_isSuch_0 : decode cX6_isSuch 0 = .ok (.iload_n 2, 1) := by decide +kernel
theorem dX6_isSuch_1 : decode cX6_isSuch 1 = .ok (.tableswitch 112 0 4 #[35, 52, 79, 112, 88], 35) := by decide +kernel
theorem dX6_isSuch_36 : decode cX6_isSuch 36 = .ok (.aload_n 0, 1) := by decide +kernel
theorem dX6_isSuch_37 : decode cX6_isSuch 37 = .ok (.getfield 19, 3) := by decide +kernel
theorem dX6_isSuch_40 : decode cX6_isSuch 40 = .ok (.iload_n 1, 1) := by decide +kernel
theorem dX6_isSuch_41 : decode cX6_isSuch 41 = .ok (.invokevirtual 222, 3) := by decide +kernel
theorem dX6_isSuch_44 : decode cX6_isSuch 44 = .ok (.ifCond .le 7, 3) := by decide +kernel
theorem dX6_isSuch_47 : decode cX6_isSuch 47 = .ok (.iconst 1, 1) := by decide +kernel
theorem dX6_isSuch_48 : decode cX6_isSuch 48 = .ok (.goto 4, 3) := by decide +kernel
theorem dX6_isSuch_51 : decode cX6_isSuch 51 = .ok (.iconst 0, 1) := by decide +kernel
theorem dX6_isSuch_52 : decode cX6_isSuch 52 = .ok (.ireturn, 1) := by decide +kernel
theorem dX6_isSuch_53 : decode cX6_isSuch 53 = .ok (.aload_n 0, 1) := by decide +kernel
theorem dX6_isSuch_54 : decode cX6_isSuch 54 = .ok (.getfield 19, 3) := by decide +kernel
theorem dX6_isSuch_57 : decode cX6_isSuch 57 = .ok (.getfield 213, 3) := by decide +kernel
theorem dX6_isSuch_60 : decode cX6_isSuch 60 = .ok (.iload_n 1, 1) := by decide +kernel
theorem dX6_isSuch_61 : decode cX6_isSuch 61 = .ok (.iaload, 1) := by decide +kernel
theorem dX6_isSuch_62 : decode cX6_isSuch 62 = .ok (.aload_n 0, 1) := by decide +kernel
theorem dX6_isSuch_63 : decode cX6_isSuch 63 = .ok (.getfield 19, 3) := by decide +kernel
theorem dX6_isSuch_66 : decode cX6_isSuch 66 = .ok (.getfield 216, 3) := by decide +kernel
theorem dX6_isSuch_69 : decode cX6_isSuch 69 = .ok (.iload_n 1, 1) := by decide +kernel
theorem dX6_isSuch_70 : decode cX6_isSuch 70 = .ok (.iaload, 1) := by decide +kernel
theorem dX6_isSuch_71 : decode cX6_isSuch 71 = .ok (.if_icmp .eq 7, 3) := by decide +kernel
theorem dX6_isSuch_74 : decode cX6_isSuch 74 = .ok (.iconst 1, 1) := by decide +kernel
theorem dX6_isSuch_75 : decode cX6_isSuch 75 = .ok (.goto 4, 3) := by decide +kernel
theorem dX6_isSuch_78 : decode cX6_isSuch 78 = .ok (.iconst 0, 1) := by decide +kernel
theorem dX6_isSuch_79 : decode cX6_isSuch 79 = .ok (.ireturn, 1) := by decide +kernel
theorem dX6_isSuch_80 : decode cX6_isSuch 80 = .ok (.aload_n 0, 1) := by decide +kernel
theorem dX6_isSuch_81 : decode cX6_isSuch 81 = .ok (.getfield 19, 3) := by decide +kernel
theorem dX6_isSuch_84 : decode cX6_isSuch 84 = .ok (.iload_n 1, 1) := by decide +kernel
theorem dX6_isSuch_85 : decode cX6_isSuch 85 = .ok (.invokevirtual 274, 3) := by decide +kernel
theorem dX6_isSuch_88 : decode cX6_isSuch 88 = .ok (.ireturn, 1) := by decide +kernel
theorem dX6_isSuch_89 : decode cX6_isSuch 89 = .ok (.aload_n 0, 1) := by decide +kernel
theorem dX6_isSuch_90 : decode cX6_isSuch 90 = .ok (.getfield 19, 3) := by decide +kernel
theorem dX6_isSuch_93 : decode cX6_isSuch 93 = .ok (.iload_n 1, 1) := by decide +kernel
theorem dX6_isSuch_94 : decode cX6_isSuch 94 = .ok (.invokevirtual 277, 3) := by decide +kernel
theorem dX6_isSuch_97 : decode cX6_isSuch 97 = .ok (.aload_n 0, 1) := by decide +kernel
theorem dX6_isSuch_98 : decode cX6_isSuch 98 = .ok (.getfield 19, 3) := by decide +kernel
theorem dX6_isSuch_101 : decode cX6_isSuch 101 = .ok (.getfield 146, 3) := by decide +kernel
theorem dX6_isSuch_104 : decode cX6_isSuch 104 = .ok (.if_icmp .le 7, 3) := by decide +kernel
theorem dX6_isSuch_107 : decode cX6_isSuch 107 = .ok (.iconst 1, 1) := by decide +kernel
theorem dX6_isSuch_108 : decode cX6_isSuch 108 = .ok (.goto 4, 3) := by decide +kernel
theorem dX6_isSuch_111 : decode cX6_isSuch 111 = .ok (.iconst 0, 1) := by decide +kernel
theorem dX6_isSuch_112 : decode cX6_isSuch 112 = .ok (.ireturn, 1) := by decide +kernel
theorem dX6_isSuch_113 : decode cX6_isSuch 113 = .ok (.iconst 0, 1) := by decide +kernel
theorem dX6_isSuch_114 : decode cX6_isSuch 114 = .ok (.ireturn, 1) := by decide +kernel
theorem dX6_which_0 : decode cX6_which 0 = .ok (.aload_n 0, 1) := by decide +kernel
theorem dX6_which_1 : decode cX6_which 1 = .ok (.getfield 19, 3) := by decide +kernel
theorem dX6_which_4 : decode cX6_which 4 = .ok (.invokevirtual 101, 3) := by decide +kernel
theorem dX6_which_7 : decode cX6_which 7 = .ok (.ifCond .eq 12, 3) := by decide +kernel
theorem dX6_which_10 : decode cX6_which 10 = .ok (.iload_n 1, 1) := by decide +kernel
theorem dX6_which_11 : decode cX6_which 11 = .ok (.ifCond .lt 8, 3) := by decide +kernel
theorem dX6_which_14 : decode cX6_which 14 = .ok (.iload_n 1, 1) := by decide +kernel
theorem dX6_which_15 : decode cX6_which 15 = .ok (.iconst 4, 1) := by decide +kernel
theorem dX6_which_16 : decode cX6_which 16 = .ok (.if_icmp .le 7, 3) := by decide +kernel
theorem dX6_which_19 : decode cX6_which 19 = .ok (.ldc2_w 234, 3) := by decide +kernel
theorem dX6_which_22 : decode cX6_which 22 = .ok (.lreturn, 1) := by decide +kernel
theorem dX6_which_23 : decode cX6_which 23 = .ok (.iload_n 1, 1) := by decide +kernel
theorem dX6_which_24 : decode cX6_which 24 = .ok (.iconst 3, 1) := by decide +kernel
theorem dX6_which_25 : decode cX6_which 25 = .ok (.if_icmp .ne 22, 3) := by decide +kernel
theorem dX6_which_28 : decode cX6_which 28 = .ok (.aload_n 0, 1) := by decide +kernel
theorem dX6_which_29 : decode cX6_which 29 = .ok (.getfield 29, 3) := by decide +kernel
theorem dX6_which_32 : decode cX6_which 32 = .ok (.aload_n 0, 1) := by decide +kernel
theorem dX6_which_33 : decode cX6_which 33 = .ok (.getfield 19, 3) := by decide +kernel
theorem dX6_which_36 : decode cX6_which 36 = .ok (.invokevirtual 111, 3) := by decide +kernel
theorem dX6_which_39 : decode cX6_which 39 = .ok (.aload_n 0, 1) := by decide +kernel
theorem dX6_which_40 : decode cX6_which 40 = .ok (.getfield 29, 3) := by decide +kernel
theorem dX6_which_43 : decode cX6_which 43 = .ok (.invokevirtual 267, 3) := by decide +kernel
theorem dX6_which_46 : decode cX6_which 46 = .ok (.lreturn, 1) := by decide +kernel
theorem dX6_which_47 : decode cX6_which 47 = .ok (.lconst 0, 1) := by decide +kernel
theorem dX6_which_48 : decode cX6_which 48 = .ok (.lstore_n 2, 1) := by decide +kernel
theorem dX6_which_49 : decode cX6_which 49 = .ok (.iconst 0, 1) := by decide +kernel
theorem dX6_which_50 : decode cX6_which 50 = .ok (.istore 4, 2) := by decide +kernel
theorem dX6_which_52 : decode cX6_which 52 = .ok (.iload 4, 2) := by decide +kernel
theorem dX6_which_54 : decode cX6_which 54 = .ok (.aload_n 0, 1) := by decide +kernel
theorem dX6_which_55 : decode cX6_which 55 = .ok (.getfield 19, 3) := by decide +kernel
theorem dX6_which_58 : decode cX6_which 58 = .ok (.invokevirtual 207, 3) := by decide +kernel
theorem dX6_which_61 : decode cX6_which 61 = .ok (.if_icmp .ge 26, 3) := by decide +kernel
theorem dX6_which_64 : decode cX6_which 64 = .ok (.aload_n 0, 1) := by decide +kernel
theorem dX6_which_65 : decode cX6_which 65 = .ok (.iload 4, 2) := by decide +kernel
theorem dX6_which_67 : decode cX6_which 67 = .ok (.iload_n 1, 1) := by decide +kernel
theorem dX6_which_68 : decode cX6_which 68 = .ok (.invokevirtual 271, 3) := by decide +kernel
theorem dX6_which_71 : decode cX6_which 71 = .ok (.ifCond .eq 10, 3) := by decide +kernel
theorem dX6_which_74 : decode cX6_which 74 = .ok (.lload_n 2, 1) := by decide +kernel
theorem dX6_which_75 : decode cX6_which 75 = .ok (.lconst 1, 1) := by decide +kernel
theorem dX6_which_76 : decode cX6_which 76 = .ok (.iload 4, 2) := by decide +kernel
theorem dX6_which_78 : decode cX6_which 78 = .ok (.lshl, 1) := by decide +kernel
theorem dX6_which_79 : decode cX6_which 79 = .ok (.lor, 1) := by decide +kernel
theorem dX6_which_80 : decode cX6_which 80 = .ok (.lstore_n 2, 1) := by decide +kernel
theorem dX6_which_81 : decode cX6_which 81 = .ok (.iinc 4 1, 3) := by decide +kernel
theorem dX6_which_84 : decode cX6_which 84 = .ok (.goto (-32), 3) := by decide +kernel
theorem dX6_which_87 : decode cX6_which 87 = .ok (.lload_n 2, 1) := by decide +kernel
theorem dX6_which_88 : decode cX6_which 88 = .ok (.lreturn, 1) := by decide +kernel
theorem dX6_leastTicks_0 : decode cX6_leastTicks 0 = .ok (.iconst 1, 1) := by decide +kernel
theorem dX6_leastTicks_1 : decode cX6_leastTicks 1 = .ok (.aload_n 0, 1) := by decide +kernel
theorem dX6_leastTicks_2 : decode cX6_leastTicks 2 = .ok (.getfield 19, 3) := by decide +kernel
theorem dX6_leastTicks_5 : decode cX6_leastTicks 5 = .ok (.getfield 146, 3) := by decide +kernel
theorem dX6_leastTicks_8 : decode cX6_leastTicks 8 = .ok (.invokestatic 290, 3) := by decide +kernel
theorem dX6_leastTicks_11 : decode cX6_leastTicks 11 = .ok (.istore_n 1, 1) := by decide +kernel
theorem dX6_leastTicks_12 : decode cX6_leastTicks 12 = .ok (.aload_n 0, 1) := by decide +kernel
theorem dX6_leastTicks_13 : decode cX6_leastTicks 13 = .ok (.getfield 19, 3) := by decide +kernel
theorem dX6_leastTicks_16 : decode cX6_leastTicks 16 = .ok (.iconst 1, 1) := by decide +kernel
theorem dX6_leastTicks_17 : decode cX6_leastTicks 17 = .ok (.invokevirtual 280, 3) := by decide +kernel
theorem dX6_leastTicks_20 : decode cX6_leastTicks 20 = .ok (.iload_n 1, 1) := by decide +kernel
theorem dX6_leastTicks_21 : decode cX6_leastTicks 21 = .ok (.iadd, 1) := by decide +kernel
theorem dX6_leastTicks_22 : decode cX6_leastTicks 22 = .ok (.iconst 1, 1) := by decide +kernel
theorem dX6_leastTicks_23 : decode cX6_leastTicks 23 = .ok (.isub, 1) := by decide +kernel
theorem dX6_leastTicks_24 : decode cX6_leastTicks 24 = .ok (.iload_n 1, 1) := by decide +kernel
theorem dX6_leastTicks_25 : decode cX6_leastTicks 25 = .ok (.idiv, 1) := by decide +kernel
theorem dX6_leastTicks_26 : decode cX6_leastTicks 26 = .ok (.istore_n 2, 1) := by decide +kernel
theorem dX6_leastTicks_27 : decode cX6_leastTicks 27 = .ok (.aload_n 0, 1) := by decide +kernel
theorem dX6_leastTicks_28 : decode cX6_leastTicks 28 = .ok (.getfield 19, 3) := by decide +kernel
theorem dX6_leastTicks_31 : decode cX6_leastTicks 31 = .ok (.invokevirtual 284, 3) := by decide +kernel
theorem dX6_leastTicks_34 : decode cX6_leastTicks 34 = .ok (.iload_n 2, 1) := by decide +kernel
theorem dX6_leastTicks_35 : decode cX6_leastTicks 35 = .ok (.invokestatic 290, 3) := by decide +kernel
theorem dX6_leastTicks_38 : decode cX6_leastTicks 38 = .ok (.ireturn, 1) := by decide +kernel
theorem dX6_left_0 : decode cX6_left 0 = .ok (.aload_n 0, 1) := by decide +kernel
theorem dX6_left_1 : decode cX6_left 1 = .ok (.getfield 19, 3) := by decide +kernel
theorem dX6_left_4 : decode cX6_left 4 = .ok (.invokevirtual 101, 3) := by decide +kernel
theorem dX6_left_7 : decode cX6_left 7 = .ok (.ifCond .ne 5, 3) := by decide +kernel
theorem dX6_left_10 : decode cX6_left 10 = .ok (.iconst (-1), 1) := by decide +kernel
theorem dX6_left_11 : decode cX6_left 11 = .ok (.ireturn, 1) := by decide +kernel
theorem dX6_left_12 : decode cX6_left 12 = .ok (.iload_n 1, 1) := by decide +kernel
theorem dX6_left_13 : decode cX6_left 13 = .ok (.tableswitch 62 0 3 #[31, 40, 48, 57], 31) := by decide +kernel
theorem dX6_left_44 : decode cX6_left 44 = .ok (.aload_n 0, 1) := by decide +kernel
theorem dX6_left_45 : decode cX6_left 45 = .ok (.getfield 19, 3) := by decide +kernel
theorem dX6_left_48 : decode cX6_left 48 = .ok (.iconst 0, 1) := by decide +kernel
theorem dX6_left_49 : decode cX6_left 49 = .ok (.invokevirtual 280, 3) := by decide +kernel
theorem dX6_left_52 : decode cX6_left 52 = .ok (.ireturn, 1) := by decide +kernel
theorem dX6_left_53 : decode cX6_left 53 = .ok (.aload_n 0, 1) := by decide +kernel
theorem dX6_left_54 : decode cX6_left 54 = .ok (.getfield 19, 3) := by decide +kernel
theorem dX6_left_57 : decode cX6_left 57 = .ok (.invokevirtual 284, 3) := by decide +kernel
theorem dX6_left_60 : decode cX6_left 60 = .ok (.ireturn, 1) := by decide +kernel
theorem dX6_left_61 : decode cX6_left 61 = .ok (.aload_n 0, 1) := by decide +kernel
theorem dX6_left_62 : decode cX6_left 62 = .ok (.getfield 19, 3) := by decide +kernel
theorem dX6_left_65 : decode cX6_left 65 = .ok (.iconst 1, 1) := by decide +kernel
theorem dX6_left_66 : decode cX6_left 66 = .ok (.invokevirtual 280, 3) := by decide +kernel
theorem dX6_left_69 : decode cX6_left 69 = .ok (.ireturn, 1) := by decide +kernel
theorem dX6_left_70 : decode cX6_left 70 = .ok (.aload_n 0, 1) := by decide +kernel
theorem dX6_left_71 : decode cX6_left 71 = .ok (.invokevirtual 287, 3) := by decide +kernel
theorem dX6_left_74 : decode cX6_left 74 = .ok (.ireturn, 1) := by decide +kernel
theorem dX6_left_75 : decode cX6_left 75 = .ok (.iconst (-1), 1) := by decide +kernel
theorem dX6_left_76 : decode cX6_left 76 = .ok (.ireturn, 1) := by decide +kernel
theorem dX6_tryToSettle_0 : decode cX6_tryToSettle 0 = .ok (.aload_n 0, 1) := by decide +kernel
theorem dX6_tryToSettle_1 : decode cX6_tryToSettle 1 = .ok (.getfield 23, 3) := by decide +kernel
theorem dX6_tryToSettle_4 : decode cX6_tryToSettle 4 = .ok (.aload_n 0, 1) := by decide +kernel
theorem dX6_tryToSettle_5 : decode cX6_tryToSettle 5 = .ok (.getfield 19, 3) := by decide +kernel
theorem dX6_tryToSettle_8 : decode cX6_tryToSettle 8 = .ok (.invokevirtual 72, 3) := by decide +kernel
theorem dX6_tryToSettle_11 : decode cX6_tryToSettle 11 = .ok (.aload_n 0, 1) := by decide +kernel
theorem dX6_tryToSettle_12 : decode cX6_tryToSettle 12 = .ok (.getfield 29, 3) := by decide +kernel
theorem dX6_tryToSettle_15 : decode cX6_tryToSettle 15 = .ok (.aload_n 0, 1) := by decide +kernel
theorem dX6_tryToSettle_16 : decode cX6_tryToSettle 16 = .ok (.getfield 23, 3) := by decide +kernel
theorem dX6_tryToSettle_19 : decode cX6_tryToSettle 19 = .ok (.sipush 9999, 3) := by decide +kernel
theorem dX6_tryToSettle_22 : decode cX6_tryToSettle 22 = .ok (.invokevirtual 104, 3) := by decide +kernel
theorem dX6_tryToSettle_25 : decode cX6_tryToSettle 25 = .ok (.return_, 1) := by decide +kernel
theorem dX6_when_0 : decode cX6_when 0 = .ok (.aload_n 0, 1) := by decide +kernel
theorem dX6_when_1 : decode cX6_when 1 = .ok (.getfield 19, 3) := by decide +kernel
theorem dX6_when_4 : decode cX6_when 4 = .ok (.invokevirtual 101, 3) := by decide +kernel
theorem dX6_when_7 : decode cX6_when 7 = .ok (.ifCond .eq 12, 3) := by decide +kernel
theorem dX6_when_10 : decode cX6_when 10 = .ok (.iload_n 1, 1) := by decide +kernel
theorem dX6_when_11 : decode cX6_when 11 = .ok (.ifCond .lt 8, 3) := by decide +kernel
theorem dX6_when_14 : decode cX6_when 14 = .ok (.iload_n 1, 1) := by decide +kernel
theorem dX6_when_15 : decode cX6_when 15 = .ok (.iconst 5, 1) := by decide +kernel
theorem dX6_when_16 : decode cX6_when 16 = .ok (.if_icmp .le 5, 3) := by decide +kernel
theorem dX6_when_19 : decode cX6_when 19 = .ok (.iconst (-1), 1) := by decide +kernel
theorem dX6_when_20 : decode cX6_when 20 = .ok (.ireturn, 1) := by decide +kernel
theorem dX6_when_21 : decode cX6_when 21 = .ok (.aload_n 0, 1) := by decide +kernel
theorem dX6_when_22 : decode cX6_when 22 = .ok (.invokevirtual 295, 3) := by decide +kernel
theorem dX6_when_25 : decode cX6_when 25 = .ok (.iload_n 1, 1) := by decide +kernel
theorem dX6_when_26 : decode cX6_when 26 = .ok (.tableswitch 86 0 5 #[38, 46, 54, 62, 70, 78], 38) := by decide +kernel
theorem dX6_when_64 : decode cX6_when 64 = .ok (.aload_n 0, 1) := by decide +kernel
theorem dX6_when_65 : decode cX6_when 65 = .ok (.getfield 29, 3) := by decide +kernel
theorem dX6_when_68 : decode cX6_when 68 = .ok (.getfield 115, 3) := by decide +kernel
theorem dX6_when_71 : decode cX6_when 71 = .ok (.ireturn, 1) := by decide +kernel
theorem dX6_when_72 : decode cX6_when 72 = .ok (.aload_n 0, 1) := by decide +kernel
theorem dX6_when_73 : decode cX6_when 73 = .ok (.getfield 29, 3) := by decide +kernel
theorem dX6_when_76 : decode cX6_when 76 = .ok (.getfield 108, 3) := by decide +kernel
theorem dX6_when_79 : decode cX6_when 79 = .ok (.ireturn, 1) := by decide +kernel
theorem dX6_when_80 : decode cX6_when 80 = .ok (.aload_n 0, 1) := by decide +kernel
theorem dX6_when_81 : decode cX6_when 81 = .ok (.getfield 29, 3) := by decide +kernel
theorem dX6_when_84 : decode cX6_when 84 = .ok (.getfield 298, 3) := by decide +kernel
theorem dX6_when_87 : decode cX6_when 87 = .ok (.ireturn, 1) := by decide +kernel
theorem dX6_when_88 : decode cX6_when 88 = .ok (.aload_n 0, 1) := by decide +kernel
theorem dX6_when_89 : decode cX6_when 89 = .ok (.getfield 29, 3) := by decide +kernel
theorem dX6_when_92 : decode cX6_when 92 = .ok (.getfield 301, 3) := by decide +kernel
theorem dX6_when_95 : decode cX6_when 95 = .ok (.ireturn, 1) := by decide +kernel
theorem dX6_when_96 : decode cX6_when 96 = .ok (.aload_n 0, 1) := by decide +kernel
theorem dX6_when_97 : decode cX6_when 97 = .ok (.getfield 23, 3) := by decide +kernel
theorem dX6_when_100 : decode cX6_when 100 = .ok (.invokevirtual 304, 3) := by decide +kernel
theorem dX6_when_103 : decode cX6_when 103 = .ok (.ireturn, 1) := by decide +kernel
theorem dX6_when_104 : decode cX6_when 104 = .ok (.aload_n 0, 1) := by decide +kernel
theorem dX6_when_105 : decode cX6_when 105 = .ok (.getfield 29, 3) := by decide +kernel
theorem dX6_when_108 : decode cX6_when 108 = .ok (.getfield 307, 3) := by decide +kernel
theorem dX6_when_111 : decode cX6_when 111 = .ok (.ireturn, 1) := by decide +kernel
theorem dX6_when_112 : decode cX6_when 112 = .ok (.iconst (-1), 1) := by decide +kernel
theorem dX6_when_113 : decode cX6_when 113 = .ok (.ireturn, 1) := by decide +kernel
theorem dX6_loudest_0 : decode cX6_loudest 0 = .ok (.aload_n 0, 1) := by decide +kernel
theorem dX6_loudest_1 : decode cX6_loudest 1 = .ok (.getfield 19, 3) := by decide +kernel
theorem dX6_loudest_4 : decode cX6_loudest 4 = .ok (.invokevirtual 101, 3) := by decide +kernel
theorem dX6_loudest_7 : decode cX6_loudest 7 = .ok (.ifCond .eq 12, 3) := by decide +kernel
theorem dX6_loudest_10 : decode cX6_loudest 10 = .ok (.iload_n 1, 1) := by decide +kernel
theorem dX6_loudest_11 : decode cX6_loudest 11 = .ok (.ifCond .lt 8, 3) := by decide +kernel
theorem dX6_loudest_14 : decode cX6_loudest 14 = .ok (.iload_n 1, 1) := by decide +kernel
theorem dX6_loudest_15 : decode cX6_loudest 15 = .ok (.iconst 1, 1) := by decide +kernel
theorem dX6_loudest_16 : decode cX6_loudest 16 = .ok (.if_icmp .le 5, 3) := by decide +kernel
theorem dX6_loudest_19 : decode cX6_loudest 19 = .ok (.iconst (-1), 1) := by decide +kernel
theorem dX6_loudest_20 : decode cX6_loudest 20 = .ok (.ireturn, 1) := by decide +kernel
theorem dX6_loudest_21 : decode cX6_loudest 21 = .ok (.aload_n 0, 1) := by decide +kernel
theorem dX6_loudest_22 : decode cX6_loudest 22 = .ok (.invokevirtual 295, 3) := by decide +kernel
theorem dX6_loudest_25 : decode cX6_loudest 25 = .ok (.aload_n 0, 1) := by decide +kernel
theorem dX6_loudest_26 : decode cX6_loudest 26 = .ok (.getfield 29, 3) := by decide +kernel
theorem dX6_loudest_29 : decode cX6_loudest 29 = .ok (.getfield 115, 3) := by decide +kernel
theorem dX6_loudest_32 : decode cX6_loudest 32 = .ok (.ifCond .ne 6, 3) := by decide +kernel
theorem dX6_loudest_35 : decode cX6_loudest 35 = .ok (.bipush (-2), 2) := by decide +kernel
theorem dX6_loudest_37 : decode cX6_loudest 37 = .ok (.ireturn, 1) := by decide +kernel
theorem dX6_loudest_38 : decode cX6_loudest 38 = .ok (.iload_n 1, 1) := by decide +kernel
theorem dX6_loudest_39 : decode cX6_loudest 39 = .ok (.ifCond .ne 13, 3) := by decide +kernel
theorem dX6_loudest_42 : decode cX6_loudest 42 = .ok (.aload_n 0, 1) := by decide +kernel
theorem dX6_loudest_43 : decode cX6_loudest 43 = .ok (.getfield 29, 3) := by decide +kernel
theorem dX6_loudest_46 : decode cX6_loudest 46 = .ok (.getfield 310, 3) := by decide +kernel
theorem dX6_loudest_49 : decode cX6_loudest 49 = .ok (.goto 10, 3) := by decide +kernel
theorem dX6_loudest_52 : decode cX6_loudest 52 = .ok (.aload_n 0, 1) := by decide +kernel
theorem dX6_loudest_53 : decode cX6_loudest 53 = .ok (.getfield 29, 3) := by decide +kernel
theorem dX6_loudest_56 : decode cX6_loudest 56 = .ok (.getfield 313, 3) := by decide +kernel
theorem dX6_loudest_59 : decode cX6_loudest 59 = .ok (.ireturn, 1) := by decide +kernel
theorem dX6_total_0 : decode cX6_total 0 = .ok (.aload_n 0, 1) := by decide +kernel
theorem dX6_total_1 : decode cX6_total 1 = .ok (.getfield 19, 3) := by decide +kernel
theorem dX6_total_4 : decode cX6_total 4 = .ok (.invokevirtual 101, 3) := by decide +kernel
theorem dX6_total_7 : decode cX6_total 7 = .ok (.ifCond .ne 5, 3) := by decide +kernel
theorem dX6_total_10 : decode cX6_total 10 = .ok (.iconst (-1), 1) := by decide +kernel
theorem dX6_total_11 : decode cX6_total 11 = .ok (.ireturn, 1) := by decide +kernel
theorem dX6_total_12 : decode cX6_total 12 = .ok (.iload_n 1, 1) := by decide +kernel
theorem dX6_total_13 : decode cX6_total 13 = .ok (.tableswitch 77 0 3 #[31, 39, 47, 62], 31) := by decide +kernel
theorem dX6_total_44 : decode cX6_total 44 = .ok (.aload_n 0, 1) := by decide +kernel
theorem dX6_total_45 : decode cX6_total 45 = .ok (.getfield 19, 3) := by decide +kernel
theorem dX6_total_48 : decode cX6_total 48 = .ok (.getfield 316, 3) := by decide +kernel
theorem dX6_total_51 : decode cX6_total 51 = .ok (.ireturn, 1) := by decide +kernel
theorem dX6_total_52 : decode cX6_total 52 = .ok (.aload_n 0, 1) := by decide +kernel
theorem dX6_total_53 : decode cX6_total 53 = .ok (.getfield 19, 3) := by decide +kernel
theorem dX6_total_56 : decode cX6_total 56 = .ok (.getfield 317, 3) := by decide +kernel
theorem dX6_total_59 : decode cX6_total 59 = .ok (.ireturn, 1) := by decide +kernel
theorem dX6_total_60 : decode cX6_total 60 = .ok (.aload_n 0, 1) := by decide +kernel
theorem dX6_total_61 : decode cX6_total 61 = .ok (.getfield 19, 3) := by decide +kernel
theorem dX6_total_64 : decode cX6_total 64 = .ok (.aload_n 0, 1) := by decide +kernel
theorem dX6_total_65 : decode cX6_total 65 = .ok (.getfield 19, 3) := by decide +kernel
theorem dX6_total_68 : decode cX6_total 68 = .ok (.getfield 225, 3) := by decide +kernel
theorem dX6_total_71 : decode cX6_total 71 = .ok (.invokevirtual 318, 3) := by decide +kernel
theorem dX6_total_74 : decode cX6_total 74 = .ok (.ireturn, 1) := by decide +kernel
theorem dX6_total_75 : decode cX6_total 75 = .ok (.aload_n 0, 1) := by decide +kernel
theorem dX6_total_76 : decode cX6_total 76 = .ok (.getfield 19, 3) := by decide +kernel
theorem dX6_total_79 : decode cX6_total 79 = .ok (.aload_n 0, 1) := by decide +kernel
theorem dX6_total_80 : decode cX6_total 80 = .ok (.getfield 19, 3) := by decide +kernel
theorem dX6_total_83 : decode cX6_total 83 = .ok (.getfield 227, 3) := by decide +kernel
theorem dX6_total_86 : decode cX6_total 86 = .ok (.invokevirtual 318, 3) := by decide +kernel
theorem dX6_total_89 : decode cX6_total 89 = .ok (.ireturn, 1) := by decide +kernel
theorem dX6_total_90 : decode cX6_total 90 = .ok (.iconst (-1), 1) := by decide +kernel
theorem dX6_total_91 : decode cX6_total 91 = .ok (.ireturn, 1) := by decide +kernel
theorem dX6_rests_0 : decode cX6_rests 0 = .ok (.aload_n 0, 1) := by decide +kernel
theorem dX6_rests_1 : decode cX6_rests 1 = .ok (.getfield 19, 3) := by decide +kernel
theorem dX6_rests_4 : decode cX6_rests 4 = .ok (.iload_n 1, 1) := by decide +kernel
theorem dX6_rests_5 : decode cX6_rests 5 = .ok (.invokevirtual 118, 3) := by decide +kernel
theorem dX6_rests_8 : decode cX6_rests 8 = .ok (.ifCond .ne 5, 3) := by decide +kernel
theorem dX6_rests_11 : decode cX6_rests 11 = .ok (.iconst (-1), 1) := by decide +kernel
theorem dX6_rests_12 : decode cX6_rests 12 = .ok (.ireturn, 1) := by decide +kernel
theorem dX6_rests_13 : decode cX6_rests 13 = .ok (.aload_n 0, 1) := by decide +kernel
theorem dX6_rests_14 : decode cX6_rests 14 = .ok (.getfield 23, 3) := by decide +kernel
theorem dX6_rests_17 : decode cX6_rests 17 = .ok (.aload_n 0, 1) := by decide +kernel
theorem dX6_rests_18 : decode cX6_rests 18 = .ok (.getfield 19, 3) := by decide +kernel
theorem dX6_rests_21 : decode cX6_rests 21 = .ok (.invokevirtual 72, 3) := by decide +kernel
theorem dX6_rests_24 : decode cX6_rests 24 = .ok (.iconst 0, 1) := by decide +kernel
theorem dX6_rests_25 : decode cX6_rests 25 = .ok (.istore_n 2, 1) := by decide +kernel
theorem dX6_rests_26 : decode cX6_rests 26 = .ok (.iload_n 2, 1) := by decide +kernel
theorem dX6_rests_27 : decode cX6_rests 27 = .ok (.sipush 9999, 3) := by decide +kernel
theorem dX6_rests_30 : decode cX6_rests 30 = .ok (.if_icmp .gt 47, 3) := by decide +kernel
theorem dX6_rests_33 : decode cX6_rests 33 = .ok (.aload_n 0, 1) := by decide +kernel
theorem dX6_rests_34 : decode cX6_rests 34 = .ok (.getfield 23, 3) := by decide +kernel
theorem dX6_rests_37 : decode cX6_rests 37 = .ok (.iload_n 1, 1) := by decide +kernel
theorem dX6_rests_38 : decode cX6_rests 38 = .ok (.invokevirtual 222, 3) := by decide +kernel
theorem dX6_rests_41 : decode cX6_rests 41 = .ok (.ifCond .ne 5, 3) := by decide +kernel
theorem dX6_rests_44 : decode cX6_rests 44 = .ok (.iload_n 2, 1) := by decide +kernel
theorem dX6_rests_45 : decode cX6_rests 45 = .ok (.ireturn, 1) := by decide +kernel
theorem dX6_rests_46 : decode cX6_rests 46 = .ok (.aload_n 0, 1) := by decide +kernel
theorem dX6_rests_47 : decode cX6_rests 47 = .ok (.getfield 29, 3) := by decide +kernel
theorem dX6_rests_50 : decode cX6_rests 50 = .ok (.aload_n 0, 1) := by decide +kernel
theorem dX6_rests_51 : decode cX6_rests 51 = .ok (.getfield 23, 3) := by decide +kernel
theorem dX6_rests_54 : decode cX6_rests 54 = .ok (.iconst 1, 1) := by decide +kernel
theorem dX6_rests_55 : decode cX6_rests 55 = .ok (.invokevirtual 104, 3) := by decide +kernel
theorem dX6_rests_58 : decode cX6_rests 58 = .ok (.aload_n 0, 1) := by decide +kernel
theorem dX6_rests_59 : decode cX6_rests 59 = .ok (.getfield 29, 3) := by decide +kernel
theorem dX6_rests_62 : decode cX6_rests 62 = .ok (.getfield 115, 3) := by decide +kernel
theorem dX6_rests_65 : decode cX6_rests 65 = .ok (.ifCond .ne 6, 3) := by decide +kernel
theorem dX6_rests_68 : decode cX6_rests 68 = .ok (.bipush (-2), 2) := by decide +kernel
theorem dX6_rests_70 : decode cX6_rests 70 = .ok (.ireturn, 1) := by decide +kernel
theorem dX6_rests_71 : decode cX6_rests 71 = .ok (.iinc 2 1, 3) := by decide +kernel
theorem dX6_rests_74 : decode cX6_rests 74 = .ok (.goto (-48), 3) := by decide +kernel
theorem dX6_rests_77 : decode cX6_rests 77 = .ok (.bipush (-2), 2) := by decide +kernel
theorem dX6_rests_79 : decode cX6_rests 79 = .ok (.ireturn, 1) := by decide +kernel
theorem dX6_cost_0 : decode cX6_cost 0 = .ok (.aload_n 0, 1) := by decide +kernel
theorem dX6_cost_1 : decode cX6_cost 1 = .ok (.iload_n 1, 1) := by decide +kernel
theorem dX6_cost_2 : decode cX6_cost 2 = .ok (.invokevirtual 83, 3) := by decide +kernel
theorem dX6_cost_5 : decode cX6_cost 5 = .ok (.istore_n 2, 1) := by decide +kernel
theorem dX6_cost_6 : decode cX6_cost 6 = .ok (.iload_n 2, 1) := by decide +kernel
theorem dX6_cost_7 : decode cX6_cost 7 = .ok (.ifCond .ne 27, 3) := by decide +kernel
theorem dX6_cost_10 : decode cX6_cost 10 = .ok (.aload_n 0, 1) := by decide +kernel
theorem dX6_cost_11 : decode cX6_cost 11 = .ok (.getfield 19, 3) := by decide +kernel
theorem dX6_cost_14 : decode cX6_cost 14 = .ok (.iload_n 1, 1) := by decide +kernel
theorem dX6_cost_15 : decode cX6_cost 15 = .ok (.iconst 0, 1) := by decide +kernel
theorem dX6_cost_16 : decode cX6_cost 16 = .ok (.aload_n 0, 1) := by decide +kernel
theorem dX6_cost_17 : decode cX6_cost 17 = .ok (.getfield 10, 3) := by decide +kernel
theorem dX6_cost_20 : decode cX6_cost 20 = .ok (.iconst 0, 1) := by decide +kernel
theorem dX6_cost_21 : decode cX6_cost 21 = .ok (.aload_n 0, 1) := by decide +kernel
theorem dX6_cost_22 : decode cX6_cost 22 = .ok (.getfield 10, 3) := by decide +kernel
theorem dX6_cost_25 : decode cX6_cost 25 = .ok (.getfield 51, 3) := by decide +kernel
theorem dX6_cost_28 : decode cX6_cost 28 = .ok (.invokevirtual 322, 3) := by decide +kernel
theorem dX6_cost_31 : decode cX6_cost 31 = .ok (.goto 4, 3) := by decide +kernel
theorem dX6_cost_34 : decode cX6_cost 34 = .ok (.iload_n 2, 1) := by decide +kernel
theorem dX6_cost_35 : decode cX6_cost 35 = .ok (.ireturn, 1) := by decide +kernel
theorem dX6_best_0 : decode cX6_best 0 = .ok (.aload_n 0, 1) := by decide +kernel
theorem dX6_best_1 : decode cX6_best 1 = .ok (.getfield 19, 3) := by decide +kernel
theorem dX6_best_4 : decode cX6_best 4 = .ok (.iload_n 1, 1) := by decide +kernel
theorem dX6_best_5 : decode cX6_best 5 = .ok (.invokevirtual 258, 3) := by decide +kernel
theorem dX6_best_8 : decode cX6_best 8 = .ok (.ifCond .eq 12, 3) := by decide +kernel
theorem dX6_best_11 : decode cX6_best 11 = .ok (.iload_n 2, 1) := by decide +kernel
theorem dX6_best_12 : decode cX6_best 12 = .ok (.ifCond .lt 8, 3) := by decide +kernel
theorem dX6_best_15 : decode cX6_best 15 = .ok (.iload_n 2, 1) := by decide +kernel
theorem dX6_best_16 : decode cX6_best 16 = .ok (.iconst 2, 1) := by decide +kernel
theorem dX6_best_17 : decode cX6_best 17 = .ok (.if_icmp .le 5, 3) := by decide +kernel
theorem dX6_best_20 : decode cX6_best 20 = .ok (.iconst (-1), 1) := by decide +kernel
theorem dX6_best_21 : decode cX6_best 21 = .ok (.ireturn, 1) := by decide +kernel
theorem dX6_best_22 : decode cX6_best 22 = .ok (.iconst 0, 1) := by decide +kernel
theorem dX6_best_23 : decode cX6_best 23 = .ok (.istore_n 3, 1) := by decide +kernel
theorem dX6_best_24 : decode cX6_best 24 = .ok (.iconst 0, 1) := by decide +kernel
theorem dX6_best_25 : decode cX6_best 25 = .ok (.istore 4, 2) := by decide +kernel
theorem dX6_best_27 : decode cX6_best 27 = .ok (.iconst 0, 1) := by decide +kernel
theorem dX6_best_28 : decode cX6_best 28 = .ok (.istore 5, 2) := by decide +kernel
theorem dX6_best_30 : decode cX6_best 30 = .ok (.iconst 0, 1) := by decide +kernel
theorem dX6_best_31 : decode cX6_best 31 = .ok (.istore 6, 2) := by decide +kernel
theorem dX6_best_33 : decode cX6_best 33 = .ok (.iconst 0, 1) := by decide +kernel
theorem dX6_best_34 : decode cX6_best 34 = .ok (.istore 7, 2) := by decide +kernel
theorem dX6_best_36 : decode cX6_best 36 = .ok (.iconst 0, 1) := by decide +kernel
theorem dX6_best_37 : decode cX6_best 37 = .ok (.istore 8, 2) := by decide +kernel
theorem dX6_best_39 : decode cX6_best 39 = .ok (.iload 8, 2) := by decide +kernel
theorem dX6_best_41 : decode cX6_best 41 = .ok (.aload_n 0, 1) := by decide +kernel
theorem dX6_best_42 : decode cX6_best 42 = .ok (.getfield 10, 3) := by decide +kernel
theorem dX6_best_45 : decode cX6_best 45 = .ok (.getfield 51, 3) := by decide +kernel
theorem dX6_best_48 : decode cX6_best 48 = .ok (.if_icmp .gt 139, 3) := by decide +kernel
theorem dX6_best_51 : decode cX6_best 51 = .ok (.iload 8, 2) := by decide +kernel
theorem dX6_best_53 : decode cX6_best 53 = .ok (.aload_n 0, 1) := by decide +kernel
theorem dX6_best_54 : decode cX6_best 54 = .ok (.getfield 10, 3) := by decide +kernel
theorem dX6_best_57 : decode cX6_best 57 = .ok (.getfield 51, 3) := by decide +kernel
theorem dX6_best_60 : decode cX6_best 60 = .ok (.if_icmp .eq 17, 3) := by decide +kernel
theorem dX6_best_63 : decode cX6_best 63 = .ok (.aload_n 0, 1) := by decide +kernel
theorem dX6_best_64 : decode cX6_best 64 = .ok (.getfield 10, 3) := by decide +kernel
theorem dX6_best_67 : decode cX6_best 67 = .ok (.iload 8, 2) := by decide +kernel
theorem dX6_best_69 : decode cX6_best 69 = .ok (.invokevirtual 326, 3) := by decide +kernel
theorem dX6_best_72 : decode cX6_best 72 = .ok (.bipush 47, 2) := by decide +kernel
theorem dX6_best_74 : decode cX6_best 74 = .ok (.if_icmp .ne 107, 3) := by decide +kernel
theorem dX6_best_77 : decode cX6_best 77 = .ok (.iload 8, 2) := by decide +kernel
theorem dX6_best_79 : decode cX6_best 79 = .ok (.iload 4, 2) := by decide +kernel
theorem dX6_best_81 : decode cX6_best 81 = .ok (.isub, 1) := by decide +kernel
theorem dX6_best_82 : decode cX6_best 82 = .ok (.istore 9, 2) := by decide +kernel
theorem dX6_best_84 : decode cX6_best 84 = .ok (.aload_n 0, 1) := by decide +kernel
theorem dX6_best_85 : decode cX6_best 85 = .ok (.iload 4, 2) := by decide +kernel
theorem dX6_best_87 : decode cX6_best 87 = .ok (.iload 9, 2) := by decide +kernel
theorem dX6_best_89 : decode cX6_best 89 = .ok (.invokevirtual 329, 3) := by decide +kernel
theorem dX6_best_92 : decode cX6_best 92 = .ok (.ifCond .ne 6, 3) := by decide +kernel
theorem dX6_best_95 : decode cX6_best 95 = .ok (.bipush (-2), 2) := by decide +kernel
theorem dX6_best_97 : decode cX6_best 97 = .ok (.ireturn, 1) := by decide +kernel
theorem dX6_best_98 : decode cX6_best 98 = .ok (.aload_n 0, 1) := by decide +kernel
theorem dX6_best_99 : decode cX6_best 99 = .ok (.getfield 19, 3) := by decide +kernel
theorem dX6_best_102 : decode cX6_best 102 = .ok (.iload_n 1, 1) := by decide +kernel
theorem dX6_best_103 : decode cX6_best 103 = .ok (.iconst 0, 1) := by decide +kernel
theorem dX6_best_104 : decode cX6_best 104 = .ok (.aload_n 0, 1) := by decide +kernel
theorem dX6_best_105 : decode cX6_best 105 = .ok (.getfield 10, 3) := by decide +kernel
theorem dX6_best_108 : decode cX6_best 108 = .ok (.iload 4, 2) := by decide +kernel
theorem dX6_best_110 : decode cX6_best 110 = .ok (.iload 9, 2) := by decide +kernel
theorem dX6_best_112 : decode cX6_best 112 = .ok (.invokevirtual 322, 3) := by decide +kernel
theorem dX6_best_115 : decode cX6_best 115 = .ok (.istore 10, 2) := by decide +kernel
theorem dX6_best_117 : decode cX6_best 117 = .ok (.aload_n 0, 1) := by decide +kernel
theorem dX6_best_118 : decode cX6_best 118 = .ok (.getfield 19, 3) := by decide +kernel
theorem dX6_best_121 : decode cX6_best 121 = .ok (.iload_n 1, 1) := by decide +kernel
theorem dX6_best_122 : decode cX6_best 122 = .ok (.iconst 0, 1) := by decide +kernel
theorem dX6_best_123 : decode cX6_best 123 = .ok (.aload_n 0, 1) := by decide +kernel
theorem dX6_best_124 : decode cX6_best 124 = .ok (.getfield 10, 3) := by decide +kernel
theorem dX6_best_127 : decode cX6_best 127 = .ok (.iload 4, 2) := by decide +kernel
theorem dX6_best_129 : decode cX6_best 129 = .ok (.iload 9, 2) := by decide +kernel
theorem dX6_best_131 : decode cX6_best 131 = .ok (.invokevirtual 332, 3) := by decide +kernel
theorem dX6_best_134 : decode cX6_best 134 = .ok (.istore 11, 2) := by decide +kernel
theorem dX6_best_136 : decode cX6_best 136 = .ok (.iload_n 3, 1) := by decide +kernel
theorem dX6_best_137 : decode cX6_best 137 = .ok (.ifCond .eq 24, 3) := by decide +kernel
