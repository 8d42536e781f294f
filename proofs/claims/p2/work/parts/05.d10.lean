theorem dX7_goesOne_58 : decode cX7_goesOne 58 = .ok (.aload_n 0, 1) := by decide +kernel
theorem dX7_goesOne_59 : decode cX7_goesOne 59 = .ok (.iload_n 1, 1) := by decide +kernel
theorem dX7_goesOne_60 : decode cX7_goesOne 60 = .ok (.invokevirtual 385, 3) := by decide +kernel
theorem dX7_goesOne_63 : decode cX7_goesOne 63 = .ok (.ireturn, 1) := by decide +kernel
theorem dX7_goesOne_64 : decode cX7_goesOne 64 = .ok (.aload_n 0, 1) := by decide +kernel
theorem dX7_goesOne_65 : decode cX7_goesOne 65 = .ok (.ldc_w 388, 3) := by decide +kernel
theorem dX7_goesOne_68 : decode cX7_goesOne 68 = .ok (.invokevirtual 279, 3) := by decide +kernel
theorem dX7_goesOne_71 : decode cX7_goesOne 71 = .ok (.ifCond .eq 9, 3) := by decide +kernel
theorem dX7_goesOne_74 : decode cX7_goesOne 74 = .ok (.aload_n 0, 1) := by decide +kernel
theorem dX7_goesOne_75 : decode cX7_goesOne 75 = .ok (.iload_n 1, 1) := by decide +kernel
theorem dX7_goesOne_76 : decode cX7_goesOne 76 = .ok (.invokevirtual 390, 3) := by decide +kernel
theorem dX7_goesOne_79 : decode cX7_goesOne 79 = .ok (.ireturn, 1) := by decide +kernel
theorem dX7_goesOne_80 : decode cX7_goesOne 80 = .ok (.aload_n 0, 1) := by decide +kernel
theorem dX7_goesOne_81 : decode cX7_goesOne 81 = .ok (.ldc_w 330, 3) := by decide +kernel
theorem dX7_goesOne_84 : decode cX7_goesOne 84 = .ok (.invokevirtual 279, 3) := by decide +kernel
theorem dX7_goesOne_87 : decode cX7_goesOne 87 = .ok (.ifCond .eq 9, 3) := by decide +kernel
theorem dX7_goesOne_90 : decode cX7_goesOne 90 = .ok (.aload_n 0, 1) := by decide +kernel
theorem dX7_goesOne_91 : decode cX7_goesOne 91 = .ok (.iload_n 1, 1) := by decide +kernel
theorem dX7_goesOne_92 : decode cX7_goesOne 92 = .ok (.invokevirtual 393, 3) := by decide +kernel
theorem dX7_goesOne_95 : decode cX7_goesOne 95 = .ok (.ireturn, 1) := by decide +kernel
theorem dX7_goesOne_96 : decode cX7_goesOne 96 = .ok (.aload_n 0, 1) := by decide +kernel
theorem dX7_goesOne_97 : decode cX7_goesOne 97 = .ok (.ldc_w 396, 3) := by decide +kernel
theorem dX7_goesOne_100 : decode cX7_goesOne 100 = .ok (.invokevirtual 279, 3) := by decide +kernel
theorem dX7_goesOne_103 : decode cX7_goesOne 103 = .ok (.ifCond .eq 11, 3) := by decide +kernel
theorem dX7_goesOne_106 : decode cX7_goesOne 106 = .ok (.aload_n 0, 1) := by decide +kernel
theorem dX7_goesOne_107 : decode cX7_goesOne 107 = .ok (.iload_n 1, 1) := by decide +kernel
theorem dX7_goesOne_108 : decode cX7_goesOne 108 = .ok (.invokevirtual 398, 3) := by decide +kernel
theorem dX7_goesOne_111 : decode cX7_goesOne 111 = .ok (.goto 12, 3) := by decide +kernel
theorem dX7_goesOne_114 : decode cX7_goesOne 114 = .ok (.aload_n 0, 1) := by decide +kernel
theorem dX7_goesOne_115 : decode cX7_goesOne 115 = .ok (.iconst 1, 1) := by decide +kernel
theorem dX7_goesOne_116 : decode cX7_goesOne 116 = .ok (.aload_n 0, 1) := by decide +kernel
theorem dX7_goesOne_117 : decode cX7_goesOne 117 = .ok (.getfield 254, 3) := by decide +kernel
theorem dX7_goesOne_120 : decode cX7_goesOne 120 = .ok (.invokevirtual 286, 3) := by decide +kernel
theorem dX7_goesOne_123 : decode cX7_goesOne 123 = .ok (.ireturn, 1) := by decide +kernel
theorem dX7_goesAll_0 : decode cX7_goesAll 0 = .ok (.aload_n 0, 1) := by decide +kernel
theorem dX7_goesAll_1 : decode cX7_goesAll 1 = .ok (.iload_n 1, 1) := by decide +kernel
theorem dX7_goesAll_2 : decode cX7_goesAll 2 = .ok (.invokevirtual 401, 3) := by decide +kernel
theorem dX7_goesAll_5 : decode cX7_goesAll 5 = .ok (.ifCond .ne 5, 3) := by decide +kernel
theorem dX7_goesAll_8 : decode cX7_goesAll 8 = .ok (.iconst 0, 1) := by decide +kernel
theorem dX7_goesAll_9 : decode cX7_goesAll 9 = .ok (.ireturn, 1) := by decide +kernel
theorem dX7_goesAll_10 : decode cX7_goesAll 10 = .ok (.aload_n 0, 1) := by decide +kernel
theorem dX7_goesAll_11 : decode cX7_goesAll 11 = .ok (.bipush 59, 2) := by decide +kernel
theorem dX7_goesAll_13 : decode cX7_goesAll 13 = .ok (.invokevirtual 289, 3) := by decide +kernel
theorem dX7_goesAll_16 : decode cX7_goesAll 16 = .ok (.ifCond .eq 13, 3) := by decide +kernel
theorem dX7_goesAll_19 : decode cX7_goesAll 19 = .ok (.aload_n 0, 1) := by decide +kernel
theorem dX7_goesAll_20 : decode cX7_goesAll 20 = .ok (.iload_n 1, 1) := by decide +kernel
theorem dX7_goesAll_21 : decode cX7_goesAll 21 = .ok (.invokevirtual 401, 3) := by decide +kernel
theorem dX7_goesAll_24 : decode cX7_goesAll 24 = .ok (.ifCond .ne (-14), 3) := by decide +kernel
theorem dX7_goesAll_27 : decode cX7_goesAll 27 = .ok (.iconst 0, 1) := by decide +kernel
theorem dX7_goesAll_28 : decode cX7_goesAll 28 = .ok (.ireturn, 1) := by decide +kernel
theorem dX7_goesAll_29 : decode cX7_goesAll 29 = .ok (.iconst 1, 1) := by decide +kernel
theorem dX7_goesAll_30 : decode cX7_goesAll 30 = .ok (.ireturn, 1) := by decide +kernel
theorem dX7_goesTimes_0 : decode cX7_goesTimes 0 = .ok (.aload_n 0, 1) := by decide +kernel
theorem dX7_goesTimes_1 : decode cX7_goesTimes 1 = .ok (.dup, 1) := by decide +kernel
theorem dX7_goesTimes_2 : decode cX7_goesTimes 2 = .ok (.getfield 254, 3) := by decide +kernel
theorem dX7_goesTimes_5 : decode cX7_goesTimes 5 = .ok (.iconst 5, 1) := by decide +kernel
theorem dX7_goesTimes_6 : decode cX7_goesTimes 6 = .ok (.iadd, 1) := by decide +kernel
theorem dX7_goesTimes_7 : decode cX7_goesTimes 7 = .ok (.putfield 254, 3) := by decide +kernel
theorem dX7_goesTimes_10 : decode cX7_goesTimes 10 = .ok (.aload_n 0, 1) := by decide +kernel
theorem dX7_goesTimes_11 : decode cX7_goesTimes 11 = .ok (.iconst 0, 1) := by decide +kernel
theorem dX7_goesTimes_12 : decode cX7_goesTimes 12 = .ok (.bipush 20, 2) := by decide +kernel
theorem dX7_goesTimes_14 : decode cX7_goesTimes 14 = .ok (.invokevirtual 311, 3) := by decide +kernel
theorem dX7_goesTimes_17 : decode cX7_goesTimes 17 = .ok (.ifCond .ne 5, 3) := by decide +kernel
theorem dX7_goesTimes_20 : decode cX7_goesTimes 20 = .ok (.iconst 0, 1) := by decide +kernel
theorem dX7_goesTimes_21 : decode cX7_goesTimes 21 = .ok (.ireturn, 1) := by decide +kernel
theorem dX7_goesTimes_22 : decode cX7_goesTimes 22 = .ok (.aload_n 0, 1) := by decide +kernel
theorem dX7_goesTimes_23 : decode cX7_goesTimes 23 = .ok (.getfield 299, 3) := by decide +kernel
theorem dX7_goesTimes_26 : decode cX7_goesTimes 26 = .ok (.istore_n 2, 1) := by decide +kernel
theorem dX7_goesTimes_27 : decode cX7_goesTimes 27 = .ok (.aload_n 0, 1) := by decide +kernel
theorem dX7_goesTimes_28 : decode cX7_goesTimes 28 = .ok (.invokevirtual 263, 3) := by decide +kernel
theorem dX7_goesTimes_31 : decode cX7_goesTimes 31 = .ok (.bipush 40, 2) := by decide +kernel
theorem dX7_goesTimes_33 : decode cX7_goesTimes 33 = .ok (.if_icmp .ne 21, 3) := by decide +kernel
theorem dX7_goesTimes_36 : decode cX7_goesTimes 36 = .ok (.aload_n 0, 1) := by decide +kernel
theorem dX7_goesTimes_37 : decode cX7_goesTimes 37 = .ok (.getfield 364, 3) := by decide +kernel
theorem dX7_goesTimes_40 : decode cX7_goesTimes 40 = .ok (.iconst 3, 1) := by decide +kernel
theorem dX7_goesTimes_41 : decode cX7_goesTimes 41 = .ok (.if_icmp .ne 13, 3) := by decide +kernel
theorem dX7_goesTimes_44 : decode cX7_goesTimes 44 = .ok (.aload_n 0, 1) := by decide +kernel
theorem dX7_goesTimes_45 : decode cX7_goesTimes 45 = .ok (.iconst 3, 1) := by decide +kernel
theorem dX7_goesTimes_46 : decode cX7_goesTimes 46 = .ok (.aload_n 0, 1) := by decide +kernel
theorem dX7_goesTimes_47 : decode cX7_goesTimes 47 = .ok (.getfield 254, 3) := by decide +kernel
theorem dX7_goesTimes_50 : decode cX7_goesTimes 50 = .ok (.invokevirtual 286, 3) := by decide +kernel
theorem dX7_goesTimes_53 : decode cX7_goesTimes 53 = .ok (.ireturn, 1) := by decide +kernel
theorem dX7_goesTimes_54 : decode cX7_goesTimes 54 = .ok (.aload_n 0, 1) := by decide +kernel
theorem dX7_goesTimes_55 : decode cX7_goesTimes 55 = .ok (.bipush 40, 2) := by decide +kernel
theorem dX7_goesTimes_57 : decode cX7_goesTimes 57 = .ok (.invokevirtual 302, 3) := by decide +kernel
theorem dX7_goesTimes_60 : decode cX7_goesTimes 60 = .ok (.ifCond .ne 5, 3) := by decide +kernel
theorem dX7_goesTimes_63 : decode cX7_goesTimes 63 = .ok (.iconst 0, 1) := by decide +kernel
theorem dX7_goesTimes_64 : decode cX7_goesTimes 64 = .ok (.ireturn, 1) := by decide +kernel
theorem dX7_goesTimes_65 : decode cX7_goesTimes 65 = .ok (.aload_n 0, 1) := by decide +kernel
theorem dX7_goesTimes_66 : decode cX7_goesTimes 66 = .ok (.iload_n 1, 1) := by decide +kernel
theorem dX7_goesTimes_67 : decode cX7_goesTimes 67 = .ok (.invokevirtual 360, 3) := by decide +kernel
theorem dX7_goesTimes_70 : decode cX7_goesTimes 70 = .ok (.istore_n 3, 1) := by decide +kernel
theorem dX7_goesTimes_71 : decode cX7_goesTimes 71 = .ok (.aload_n 0, 1) := by decide +kernel
theorem dX7_goesTimes_72 : decode cX7_goesTimes 72 = .ok (.getfield 254, 3) := by decide +kernel
theorem dX7_goesTimes_75 : decode cX7_goesTimes 75 = .ok (.istore 4, 2) := by decide +kernel
theorem dX7_goesTimes_77 : decode cX7_goesTimes 77 = .ok (.aload_n 0, 1) := by decide +kernel
theorem dX7_goesTimes_78 : decode cX7_goesTimes 78 = .ok (.dup, 1) := by decide +kernel
theorem dX7_goesTimes_79 : decode cX7_goesTimes 79 = .ok (.getfield 364, 3) := by decide +kernel
theorem dX7_goesTimes_82 : decode cX7_goesTimes 82 = .ok (.iconst 1, 1) := by decide +kernel
theorem dX7_goesTimes_83 : decode cX7_goesTimes 83 = .ok (.iadd, 1) := by decide +kernel
theorem dX7_goesTimes_84 : decode cX7_goesTimes 84 = .ok (.putfield 364, 3) := by decide +kernel
theorem dX7_goesTimes_87 : decode cX7_goesTimes 87 = .ok (.iconst 0, 1) := by decide +kernel
theorem dX7_goesTimes_88 : decode cX7_goesTimes 88 = .ok (.istore 5, 2) := by decide +kernel
theorem dX7_goesTimes_90 : decode cX7_goesTimes 90 = .ok (.iload 5, 2) := by decide +kernel
theorem dX7_goesTimes_92 : decode cX7_goesTimes 92 = .ok (.ifCond .eq 13, 3) := by decide +kernel
theorem dX7_goesTimes_95 : decode cX7_goesTimes 95 = .ok (.iload 5, 2) := by decide +kernel
theorem dX7_goesTimes_97 : decode cX7_goesTimes 97 = .ok (.iload_n 2, 1) := by decide +kernel
theorem dX7_goesTimes_98 : decode cX7_goesTimes 98 = .ok (.if_icmp .ge 43, 3) := by decide +kernel
theorem dX7_goesTimes_101 : decode cX7_goesTimes 101 = .ok (.iload_n 3, 1) := by decide +kernel
theorem dX7_goesTimes_102 : decode cX7_goesTimes 102 = .ok (.ifCond .eq 39, 3) := by decide +kernel
theorem dX7_goesTimes_105 : decode cX7_goesTimes 105 = .ok (.aload_n 0, 1) := by decide +kernel
theorem dX7_goesTimes_106 : decode cX7_goesTimes 106 = .ok (.iload 4, 2) := by decide +kernel
theorem dX7_goesTimes_108 : decode cX7_goesTimes 108 = .ok (.putfield 254, 3) := by decide +kernel
theorem dX7_goesTimes_111 : decode cX7_goesTimes 111 = .ok (.aload_n 0, 1) := by decide +kernel
theorem dX7_goesTimes_112 : decode cX7_goesTimes 112 = .ok (.iload_n 3, 1) := by decide +kernel
theorem dX7_goesTimes_113 : decode cX7_goesTimes 113 = .ok (.ifCond .eq 13, 3) := by decide +kernel
theorem dX7_goesTimes_116 : decode cX7_goesTimes 116 = .ok (.iload 5, 2) := by decide +kernel
theorem dX7_goesTimes_118 : decode cX7_goesTimes 118 = .ok (.iload_n 2, 1) := by decide +kernel
theorem dX7_goesTimes_119 : decode cX7_goesTimes 119 = .ok (.if_icmp .ge 7, 3) := by decide +kernel
theorem dX7_goesTimes_122 : decode cX7_goesTimes 122 = .ok (.iconst 1, 1) := by decide +kernel
theorem dX7_goesTimes_123 : decode cX7_goesTimes 123 = .ok (.goto 4, 3) := by decide +kernel
theorem dX7_goesTimes_126 : decode cX7_goesTimes 126 = .ok (.iconst 0, 1) := by decide +kernel
theorem dX7_goesTimes_127 : decode cX7_goesTimes 127 = .ok (.invokevirtual 367, 3) := by decide +kernel
theorem dX7_goesTimes_130 : decode cX7_goesTimes 130 = .ok (.ifCond .ne 5, 3) := by decide +kernel
theorem dX7_goesTimes_133 : decode cX7_goesTimes 133 = .ok (.iconst 0, 1) := by decide +kernel
theorem dX7_goesTimes_134 : decode cX7_goesTimes 134 = .ok (.ireturn, 1) := by decide +kernel
theorem dX7_goesTimes_135 : decode cX7_goesTimes 135 = .ok (.iinc 5 1, 3) := by decide +kernel
theorem dX7_goesTimes_138 : decode cX7_goesTimes 138 = .ok (.goto (-48), 3) := by decide +kernel
theorem dX7_goesTimes_141 : decode cX7_goesTimes 141 = .ok (.aload_n 0, 1) := by decide +kernel
theorem dX7_goesTimes_142 : decode cX7_goesTimes 142 = .ok (.bipush 41, 2) := by decide +kernel
theorem dX7_goesTimes_144 : decode cX7_goesTimes 144 = .ok (.invokevirtual 302, 3) := by decide +kernel
theorem dX7_goesTimes_147 : decode cX7_goesTimes 147 = .ok (.ifCond .ne 5, 3) := by decide +kernel
theorem dX7_goesTimes_150 : decode cX7_goesTimes 150 = .ok (.iconst 0, 1) := by decide +kernel
theorem dX7_goesTimes_151 : decode cX7_goesTimes 151 = .ok (.ireturn, 1) := by decide +kernel
theorem dX7_goesTimes_152 : decode cX7_goesTimes 152 = .ok (.aload_n 0, 1) := by decide +kernel
theorem dX7_goesTimes_153 : decode cX7_goesTimes 153 = .ok (.dup, 1) := by decide +kernel
theorem dX7_goesTimes_154 : decode cX7_goesTimes 154 = .ok (.getfield 364, 3) := by decide +kernel
theorem dX7_goesTimes_157 : decode cX7_goesTimes 157 = .ok (.iconst 1, 1) := by decide +kernel
theorem dX7_goesTimes_158 : decode cX7_goesTimes 158 = .ok (.isub, 1) := by decide +kernel
theorem dX7_goesTimes_159 : decode cX7_goesTimes 159 = .ok (.putfield 364, 3) := by decide +kernel
theorem dX7_goesTimes_162 : decode cX7_goesTimes 162 = .ok (.iconst 1, 1) := by decide +kernel
theorem dX7_goesTimes_163 : decode cX7_goesTimes 163 = .ok (.ireturn, 1) := by decide +kernel
theorem dX7_goesProgram_0 : decode cX7_goesProgram 0 = .ok (.aload_n 0, 1) := by decide +kernel
theorem dX7_goesProgram_1 : decode cX7_goesProgram 1 = .ok (.iconst 0, 1) := by decide +kernel
theorem dX7_goesProgram_2 : decode cX7_goesProgram 2 = .ok (.putfield 254, 3) := by decide +kernel
theorem dX7_goesProgram_5 : decode cX7_goesProgram 5 = .ok (.aload_n 0, 1) := by decide +kernel
theorem dX7_goesProgram_6 : decode cX7_goesProgram 6 = .ok (.iconst 0, 1) := by decide +kernel
theorem dX7_goesProgram_7 : decode cX7_goesProgram 7 = .ok (.putfield 364, 3) := by decide +kernel
theorem dX7_goesProgram_10 : decode cX7_goesProgram 10 = .ok (.aload_n 0, 1) := by decide +kernel
theorem dX7_goesProgram_11 : decode cX7_goesProgram 11 = .ok (.iconst 0, 1) := by decide +kernel
theorem dX7_goesProgram_12 : decode cX7_goesProgram 12 = .ok (.putfield 357, 3) := by decide +kernel
theorem dX7_goesProgram_15 : decode cX7_goesProgram 15 = .ok (.aload_n 0, 1) := by decide +kernel
theorem dX7_goesProgram_16 : decode cX7_goesProgram 16 = .ok (.iload_n 1, 1) := by decide +kernel
theorem dX7_goesProgram_17 : decode cX7_goesProgram 17 = .ok (.invokevirtual 367, 3) := by decide +kernel
theorem dX7_goesProgram_20 : decode cX7_goesProgram 20 = .ok (.ifCond .ne 5, 3) := by decide +kernel
theorem dX7_goesProgram_23 : decode cX7_goesProgram 23 = .ok (.iconst 0, 1) := by decide +kernel
theorem dX7_goesProgram_24 : decode cX7_goesProgram 24 = .ok (.ireturn, 1) := by decide +kernel
theorem dX7_goesProgram_25 : decode cX7_goesProgram 25 = .ok (.aload_n 0, 1) := by decide +kernel
theorem dX7_goesProgram_26 : decode cX7_goesProgram 26 = .ok (.invokevirtual 263, 3) := by decide +kernel
theorem dX7_goesProgram_29 : decode cX7_goesProgram 29 = .ok (.iconst (-1), 1) := by decide +kernel
theorem dX7_goesProgram_30 : decode cX7_goesProgram 30 = .ok (.if_icmp .eq 15, 3) := by decide +kernel
theorem dX7_goesProgram_33 : decode cX7_goesProgram 33 = .ok (.aload_n 0, 1) := by decide +kernel
theorem dX7_goesProgram_34 : decode cX7_goesProgram 34 = .ok (.iconst 1, 1) := by decide +kernel
theorem dX7_goesProgram_35 : decode cX7_goesProgram 35 = .ok (.aload_n 0, 1) := by decide +kernel
theorem dX7_goesProgram_36 : decode cX7_goesProgram 36 = .ok (.getfield 254, 3) := by decide +kernel
theorem dX7_goesProgram_39 : decode cX7_goesProgram 39 = .ok (.invokevirtual 286, 3) := by decide +kernel
theorem dX7_goesProgram_42 : decode cX7_goesProgram 42 = .ok (.ifCond .eq 7, 3) := by decide +kernel
theorem dX7_goesProgram_45 : decode cX7_goesProgram 45 = .ok (.iconst 1, 1) := by decide +kernel
theorem dX7_goesProgram_46 : decode cX7_goesProgram 46 = .ok (.goto 4, 3) := by decide +kernel
theorem dX7_goesProgram_49 : decode cX7_goesProgram 49 = .ok (.iconst 0, 1) := by decide +kernel
theorem dX7_goesProgram_50 : decode cX7_goesProgram 50 = .ok (.ireturn, 1) := by decide +kernel
theorem dX7_run_0 : decode cX7_run 0 = .ok (.aload_n 0, 1) := by decide +kernel
theorem dX7_run_1 : decode cX7_run 1 = .ok (.invokevirtual 147, 3) := by decide +kernel
theorem dX7_run_4 : decode cX7_run 4 = .ok (.ifCond .eq 15, 3) := by decide +kernel
theorem dX7_run_7 : decode cX7_run 7 = .ok (.aload_n 0, 1) := by decide +kernel
theorem dX7_run_8 : decode cX7_run 8 = .ok (.iconst 0, 1) := by decide +kernel
theorem dX7_run_9 : decode cX7_run 9 = .ok (.invokevirtual 404, 3) := by decide +kernel
theorem dX7_run_12 : decode cX7_run 12 = .ok (.ifCond .eq 7, 3) := by decide +kernel
theorem dX7_run_15 : decode cX7_run 15 = .ok (.iconst 1, 1) := by decide +kernel
theorem dX7_run_16 : decode cX7_run 16 = .ok (.goto 4, 3) := by decide +kernel
theorem dX7_run_19 : decode cX7_run 19 = .ok (.iconst 0, 1) := by decide +kernel
theorem dX7_run_20 : decode cX7_run 20 = .ok (.istore_n 1, 1) := by decide +kernel
theorem dX7_run_21 : decode cX7_run 21 = .ok (.iload_n 1, 1) := by decide +kernel
theorem dX7_run_22 : decode cX7_run 22 = .ok (.ifCond .eq 13, 3) := by decide +kernel
theorem dX7_run_25 : decode cX7_run 25 = .ok (.aload_n 0, 1) := by decide +kernel
theorem dX7_run_26 : decode cX7_run 26 = .ok (.invokevirtual 144, 3) := by decide +kernel
theorem dX7_run_29 : decode cX7_run 29 = .ok (.aload_n 0, 1) := by decide +kernel
theorem dX7_run_30 : decode cX7_run 30 = .ok (.iconst 1, 1) := by decide +kernel
theorem dX7_run_31 : decode cX7_run 31 = .ok (.invokevirtual 404, 3) := by decide +kernel
theorem dX7_run_34 : decode cX7_run 34 = .ok (.istore_n 1, 1) := by decide +kernel
theorem dX7_run_35 : decode cX7_run 35 = .ok (.aload_n 0, 1) := by decide +kernel
theorem dX7_run_36 : decode cX7_run 36 = .ok (.iconst 0, 1) := by decide +kernel
theorem dX7_run_37 : decode cX7_run 37 = .ok (.putfield 135, 3) := by decide +kernel
theorem dX7_run_40 : decode cX7_run 40 = .ok (.aload_n 0, 1) := by decide +kernel
theorem dX7_run_41 : decode cX7_run 41 = .ok (.invokevirtual 147, 3) := by decide +kernel
theorem dX7_run_44 : decode cX7_run 44 = .ok (.ifCond .ne 7, 3) := by decide +kernel
theorem dX7_run_47 : decode cX7_run 47 = .ok (.iconst (-1), 1) := by decide +kernel
theorem dX7_run_48 : decode cX7_run 48 = .ok (.goto 21, 3) := by decide +kernel
theorem dX7_run_51 : decode cX7_run 51 = .ok (.iload_n 1, 1) := by decide +kernel
theorem dX7_run_52 : decode cX7_run 52 = .ok (.ifCond .eq 10, 3) := by decide +kernel
theorem dX7_run_55 : decode cX7_run 55 = .ok (.aload_n 0, 1) := by decide +kernel
theorem dX7_run_56 : decode cX7_run 56 = .ok (.getfield 357, 3) := by decide +kernel
theorem dX7_run_59 : decode cX7_run 59 = .ok (.goto 10, 3) := by decide +kernel
theorem dX7_run_62 : decode cX7_run 62 = .ok (.bipush (-2), 2) := by decide +kernel
theorem dX7_run_64 : decode cX7_run 64 = .ok (.aload_n 0, 1) := by decide +kernel
theorem dX7_run_65 : decode cX7_run 65 = .ok (.getfield 260, 3) := by decide +kernel
theorem dX7_run_68 : decode cX7_run 68 = .ok (.isub, 1) := by decide +kernel
theorem dX7_run_69 : decode cX7_run 69 = .ok (.ireturn, 1) := by decide +kernel
theorem dX7_loudest_0 : decode cX7_loudest 0 = .ok (.aload_n 0, 1) := by decide +kernel
theorem dX7_loudest_1 : decode cX7_loudest 1 = .ok (.invokevirtual 147, 3) := by decide +kernel
theorem dX7_loudest_4 : decode cX7_loudest 4 = .ok (.ifCond .eq 13, 3) := by decide +kernel
theorem dX7_loudest_7 : decode cX7_loudest 7 = .ok (.iload_n 1, 1) := by decide +kernel
theorem dX7_loudest_8 : decode cX7_loudest 8 = .ok (.i2l, 1) := by decide +kernel
theorem dX7_loudest_9 : decode cX7_loudest 9 = .ok (.lconst 0, 1) := by decide +kernel
theorem dX7_loudest_10 : decode cX7_loudest 10 = .ok (.lconst 1, 1) := by decide +kernel
theorem dX7_loudest_11 : decode cX7_loudest 11 = .ok (.invokestatic 39, 3) := by decide +kernel
theorem dX7_loudest_14 : decode cX7_loudest 14 = .ok (.ifCond .ne 5, 3) := by decide +kernel
theorem dX7_loudest_17 : decode cX7_loudest 17 = .ok (.iconst (-1), 1) := by decide +kernel
theorem dX7_loudest_18 : decode cX7_loudest 18 = .ok (.ireturn, 1) := by decide +kernel
theorem dX7_loudest_19 : decode cX7_loudest 19 = .ok (.aload_n 0, 1) := by decide +kernel
theorem dX7_loudest_20 : decode cX7_loudest 20 = .ok (.invokevirtual 210, 3) := by decide +kernel
theorem dX7_loudest_23 : decode cX7_loudest 23 = .ok (.bipush (-2), 2) := by decide +kernel
theorem dX7_loudest_25 : decode cX7_loudest 25 = .ok (.istore_n 2, 1) := by decide +kernel
theorem dX7_loudest_26 : decode cX7_loudest 26 = .ok (.iconst 0, 1) := by decide +kernel
theorem dX7_loudest_27 : decode cX7_loudest 27 = .ok (.istore_n 3, 1) := by decide +kernel
theorem dX7_loudest_28 : decode cX7_loudest 28 = .ok (.iconst 0, 1) := by decide +kernel
theorem dX7_loudest_29 : decode cX7_loudest 29 = .ok (.istore 4, 2) := by decide +kernel
theorem dX7_loudest_31 : decode cX7_loudest 31 = .ok (.aload_n 0, 1) := by decide +kernel
theorem dX7_loudest_32 : decode cX7_loudest 32 = .ok (.invokevirtual 156, 3) := by decide +kernel
theorem dX7_loudest_35 : decode cX7_loudest 35 = .ok (.ifCond .le 28, 3) := by decide +kernel
theorem dX7_loudest_38 : decode cX7_loudest 38 = .ok (.aload_n 0, 1) := by decide +kernel
theorem dX7_loudest_39 : decode cX7_loudest 39 = .ok (.getfield 86, 3) := by decide +kernel
theorem dX7_loudest_42 : decode cX7_loudest 42 = .ok (.iload_n 3, 1) := by decide +kernel
theorem dX7_loudest_43 : decode cX7_loudest 43 = .ok (.if_icmp .gt 6, 3) := by decide +kernel
theorem dX7_loudest_46 : decode cX7_loudest 46 = .ok (.goto 11, 3) := by decide +kernel
theorem dX7_loudest_49 : decode cX7_loudest 49 = .ok (.iload 4, 2) := by decide +kernel
theorem dX7_loudest_51 : decode cX7_loudest 51 = .ok (.istore_n 2, 1) := by decide +kernel
theorem dX7_loudest_52 : decode cX7_loudest 52 = .ok (.aload_n 0, 1) := by decide +kernel
theorem dX7_loudest_53 : decode cX7_loudest 53 = .ok (.getfield 86, 3) := by decide +kernel
theorem dX7_loudest_56 : decode cX7_loudest 56 = .ok (.istore_n 3, 1) := by decide +kernel
theorem dX7_loudest_57 : decode cX7_loudest 57 = .ok (.iinc 4 1, 3) := by decide +kernel
theorem dX7_loudest_60 : decode cX7_loudest 60 = .ok (.goto (-29), 3) := by decide +kernel
theorem dX7_loudest_63 : decode cX7_loudest 63 = .ok (.aload_n 0, 1) := by decide +kernel
theorem dX7_loudest_64 : decode cX7_loudest 64 = .ok (.invokevirtual 216, 3) := by decide +kernel
theorem dX7_loudest_67 : decode cX7_loudest 67 = .ok (.iload_n 2, 1) := by decide +kernel
theorem dX7_loudest_68 : decode cX7_loudest 68 = .ok (.bipush (-2), 2) := by decide +kernel
theorem dX7_loudest_70 : decode cX7_loudest 70 = .ok (.if_icmp .eq 7, 3) := by decide +kernel
theorem dX7_loudest_73 : decode cX7_loudest 73 = .ok (.iload_n 1, 1) := by decide +kernel
theorem dX7_loudest_74 : decode cX7_loudest 74 = .ok (.ifCond .ne 7, 3) := by decide +kernel
theorem dX7_loudest_77 : decode cX7_loudest 77 = .ok (.iload_n 2, 1) := by decide +kernel
theorem dX7_loudest_78 : decode cX7_loudest 78 = .ok (.goto 6, 3) := by decide +kernel
theorem dX7_loudest_81 : decode cX7_loudest 81 = .ok (.iload_n 3, 1) := by decide +kernel
theorem dX7_loudest_82 : decode cX7_loudest 82 = .ok (.iload_n 3, 1) := by decide +kernel
theorem dX7_loudest_83 : decode cX7_loudest 83 = .ok (.imul, 1) := by decide +kernel
theorem dX7_loudest_84 : decode cX7_loudest 84 = .ok (.ireturn, 1) := by decide +kernel
theorem dX7_usual_0 : decode cX7_usual 0 = .ok (.aload_n 0, 1) := by decide +kernel
theorem dX7_usual_1 : decode cX7_usual 1 = .ok (.iload_n 1, 1) := by decide +kernel
theorem dX7_usual_2 : decode cX7_usual 2 = .ok (.invokevirtual 180, 3) := by decide +kernel
theorem dX7_usual_5 : decode cX7_usual 5 = .ok (.ifCond .eq 13, 3) := by decide +kernel
theorem dX7_usual_8 : decode cX7_usual 8 = .ok (.iload_n 2, 1) := by decide +kernel
theorem dX7_usual_9 : decode cX7_usual 9 = .ok (.i2l, 1) := by decide +kernel
theorem dX7_usual_10 : decode cX7_usual 10 = .ok (.lconst 0, 1) := by decide +kernel
theorem dX7_usual_11 : decode cX7_usual 11 = .ok (.lconst 1, 1) := by decide +kernel
theorem dX7_usual_12 : decode cX7_usual 12 = .ok (.invokestatic 39, 3) := by decide +kernel
theorem dX7_usual_15 : decode cX7_usual 15 = .ok (.ifCond .ne 5, 3) := by decide +kernel
theorem dX7_usual_18 : decode cX7_usual 18 = .ok (.iconst (-1), 1) := by decide +kernel
theorem dX7_usual_19 : decode cX7_usual 19 = .ok (.ireturn, 1) := by decide +kernel
theorem dX7_usual_20 : decode cX7_usual 20 = .ok (.bipush (-2), 2) := by decide +kernel
theorem dX7_usual_22 : decode cX7_usual 22 = .ok (.istore_n 3, 1) := by decide +kernel
theorem dX7_usual_23 : decode cX7_usual 23 = .ok (.iconst 0, 1) := by decide +kernel
theorem dX7_usual_24 : decode cX7_usual 24 = .ok (.istore 4, 2) := by decide +kernel
theorem dX7_usual_26 : decode cX7_usual 26 = .ok (.iconst 0, 1) := by decide +kernel
theorem dX7_usual_27 : decode cX7_usual 27 = .ok (.istore 5, 2) := by decide +kernel
theorem dX7_usual_29 : decode cX7_usual 29 = .ok (.iload 5, 2) := by decide +kernel
theorem dX7_usual_31 : decode cX7_usual 31 = .ok (.aload_n 0, 1) := by decide +kernel
theorem dX7_usual_32 : decode cX7_usual 32 = .ok (.iload_n 1, 1) := by decide +kernel
theorem dX7_usual_33 : decode cX7_usual 33 = .ok (.invokevirtual 60, 3) := by decide +kernel
theorem dX7_usual_36 : decode cX7_usual 36 = .ok (.if_icmp .ge 38, 3) := by decide +kernel
theorem dX7_usual_39 : decode cX7_usual 39 = .ok (.aload_n 0, 1) := by decide +kernel
theorem dX7_usual_40 : decode cX7_usual 40 = .ok (.iload_n 1, 1) := by decide +kernel
theorem dX7_usual_41 : decode cX7_usual 41 = .ok (.iload 5, 2) := by decide +kernel
theorem dX7_usual_43 : decode cX7_usual 43 = .ok (.iconst 1, 1) := by decide +kernel
theorem dX7_usual_44 : decode cX7_usual 44 = .ok (.invokevirtual 407, 3) := by decide +kernel
theorem dX7_usual_47 : decode cX7_usual 47 = .ok (.iload 4, 2) := by decide +kernel
theorem dX7_usual_49 : decode cX7_usual 49 = .ok (.if_icmp .gt 6, 3) := by decide +kernel
theorem dX7_usual_52 : decode cX7_usual 52 = .ok (.goto 16, 3) := by decide +kernel
theorem dX7_usual_55 : decode cX7_usual 55 = .ok (.iload 5, 2) := by decide +kernel
theorem dX7_usual_57 : decode cX7_usual 57 = .ok (.istore_n 3, 1) := by decide +kernel
theorem dX7_usual_58 : decode cX7_usual 58 = .ok (.aload_n 0, 1) := by decide +kernel
theorem dX7_usual_59 : decode cX7_usual 59 = .ok (.iload_n 1, 1) := by decide +kernel
theorem dX7_usual_60 : decode cX7_usual 60 = .ok (.iload 5, 2) := by decide +kernel
theorem dX7_usual_62 : decode cX7_usual 62 = .ok (.iconst 1, 1) := by decide +kernel
theorem dX7_usual_63 : decode cX7_usual 63 = .ok (.invokevirtual 407, 3) := by decide +kernel
theorem dX7_usual_66 : decode cX7_usual 66 = .ok (.istore 4, 2) := by decide +kernel
theorem dX7_usual_68 : decode cX7_usual 68 = .ok (.iinc 5 1, 3) := by decide +kernel
theorem dX7_usual_71 : decode cX7_usual 71 = .ok (.goto (-42), 3) := by decide +kernel
theorem dX7_usual_74 : decode cX7_usual 74 = .ok (.iload_n 3, 1) := by decide +kernel
theorem dX7_usual_75 : decode cX7_usual 75 = .ok (.bipush (-2), 2) := by decide +kernel
theorem dX7_usual_77 : decode cX7_usual 77 = .ok (.if_icmp .eq 7, 3) := by decide +kernel
theorem dX7_usual_80 : decode cX7_usual 80 = .ok (.iload_n 2, 1) := by decide +kernel
theorem dX7_usual_81 : decode cX7_usual 81 = .ok (.ifCond .ne 7, 3) := by decide +kernel
theorem dX7_usual_84 : decode cX7_usual 84 = .ok (.iload_n 3, 1) := by decide +kernel
theorem dX7_usual_85 : decode cX7_usual 85 = .ok (.goto 5, 3) := by decide +kernel
theorem dX7_usual_88 : decode cX7_usual 88 = .ok (.iload 4, 2) := by decide +kernel
theorem dX7_usual_90 : decode cX7_usual 90 = .ok (.ireturn, 1) := by decide +kernel

