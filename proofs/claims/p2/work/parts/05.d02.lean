theorem dX0_unlikeEntries_18 : decode cX0_unlikeEntries 18 = .ok (.iload 5, 2) := by decide +kernel
theorem dX0_unlikeEntries_20 : decode cX0_unlikeEntries 20 = .ok (.iload_n 3, 1) := by decide +kernel
theorem dX0_unlikeEntries_21 : decode cX0_unlikeEntries 21 = .ok (.if_icmp .ge 40, 3) := by decide +kernel
theorem dX0_unlikeEntries_24 : decode cX0_unlikeEntries 24 = .ok (.iconst 0, 1) := by decide +kernel
theorem dX0_unlikeEntries_25 : decode cX0_unlikeEntries 25 = .ok (.istore 6, 2) := by decide +kernel
theorem dX0_unlikeEntries_27 : decode cX0_unlikeEntries 27 = .ok (.iload 6, 2) := by decide +kernel
theorem dX0_unlikeEntries_29 : decode cX0_unlikeEntries 29 = .ok (.iload_n 3, 1) := by decide +kernel
theorem dX0_unlikeEntries_30 : decode cX0_unlikeEntries 30 = .ok (.if_icmp .ge 25, 3) := by decide +kernel
theorem dX0_unlikeEntries_33 : decode cX0_unlikeEntries 33 = .ok (.aload_n 0, 1) := by decide +kernel
theorem dX0_unlikeEntries_34 : decode cX0_unlikeEntries 34 = .ok (.iload_n 2, 1) := by decide +kernel
theorem dX0_unlikeEntries_35 : decode cX0_unlikeEntries 35 = .ok (.iload_n 3, 1) := by decide +kernel
theorem dX0_unlikeEntries_36 : decode cX0_unlikeEntries 36 = .ok (.iload 5, 2) := by decide +kernel
theorem dX0_unlikeEntries_38 : decode cX0_unlikeEntries 38 = .ok (.iload 6, 2) := by decide +kernel
theorem dX0_unlikeEntries_40 : decode cX0_unlikeEntries 40 = .ok (.invokevirtual 189, 3) := by decide +kernel
theorem dX0_unlikeEntries_43 : decode cX0_unlikeEntries 43 = .ok (.ifCond .le 6, 3) := by decide +kernel
theorem dX0_unlikeEntries_46 : decode cX0_unlikeEntries 46 = .ok (.iinc 4 1, 3) := by decide +kernel
theorem dX0_unlikeEntries_49 : decode cX0_unlikeEntries 49 = .ok (.iinc 6 1, 3) := by decide +kernel
theorem dX0_unlikeEntries_52 : decode cX0_unlikeEntries 52 = .ok (.goto (-25), 3) := by decide +kernel
theorem dX0_unlikeEntries_55 : decode cX0_unlikeEntries 55 = .ok (.iinc 5 1, 3) := by decide +kernel
theorem dX0_unlikeEntries_58 : decode cX0_unlikeEntries 58 = .ok (.goto (-40), 3) := by decide +kernel
theorem dX0_unlikeEntries_61 : decode cX0_unlikeEntries 61 = .ok (.iload 4, 2) := by decide +kernel
theorem dX0_unlikeEntries_63 : decode cX0_unlikeEntries 63 = .ok (.ireturn, 1) := by decide +kernel
theorem dX0_journeyChange_0 : decode cX0_journeyChange 0 = .ok (.aload_n 0, 1) := by decide +kernel
theorem dX0_journeyChange_1 : decode cX0_journeyChange 1 = .ok (.iload_n 1, 1) := by decide +kernel
theorem dX0_journeyChange_2 : decode cX0_journeyChange 2 = .ok (.invokevirtual 171, 3) := by decide +kernel
theorem dX0_journeyChange_5 : decode cX0_journeyChange 5 = .ok (.istore 4, 2) := by decide +kernel
theorem dX0_journeyChange_7 : decode cX0_journeyChange 7 = .ok (.aload_n 0, 1) := by decide +kernel
theorem dX0_journeyChange_8 : decode cX0_journeyChange 8 = .ok (.iload_n 1, 1) := by decide +kernel
theorem dX0_journeyChange_9 : decode cX0_journeyChange 9 = .ok (.invokevirtual 108, 3) := by decide +kernel
theorem dX0_journeyChange_12 : decode cX0_journeyChange 12 = .ok (.istore 5, 2) := by decide +kernel
theorem dX0_journeyChange_14 : decode cX0_journeyChange 14 = .ok (.aload_n 0, 1) := by decide +kernel
theorem dX0_journeyChange_15 : decode cX0_journeyChange 15 = .ok (.iload 4, 2) := by decide +kernel
theorem dX0_journeyChange_17 : decode cX0_journeyChange 17 = .ok (.iload 5, 2) := by decide +kernel
theorem dX0_journeyChange_19 : decode cX0_journeyChange 19 = .ok (.iload_n 2, 1) := by decide +kernel
theorem dX0_journeyChange_20 : decode cX0_journeyChange 20 = .ok (.iload_n 3, 1) := by decide +kernel
theorem dX0_journeyChange_21 : decode cX0_journeyChange 21 = .ok (.invokevirtual 189, 3) := by decide +kernel
theorem dX0_journeyChange_24 : decode cX0_journeyChange 24 = .ok (.aload_n 0, 1) := by decide +kernel
theorem dX0_journeyChange_25 : decode cX0_journeyChange 25 = .ok (.iload 4, 2) := by decide +kernel
theorem dX0_journeyChange_27 : decode cX0_journeyChange 27 = .ok (.iload 5, 2) := by decide +kernel
theorem dX0_journeyChange_29 : decode cX0_journeyChange 29 = .ok (.iload_n 3, 1) := by decide +kernel
theorem dX0_journeyChange_30 : decode cX0_journeyChange 30 = .ok (.iload_n 2, 1) := by decide +kernel
theorem dX0_journeyChange_31 : decode cX0_journeyChange 31 = .ok (.invokevirtual 189, 3) := by decide +kernel
theorem dX0_journeyChange_34 : decode cX0_journeyChange 34 = .ok (.isub, 1) := by decide +kernel
theorem dX0_journeyChange_35 : decode cX0_journeyChange 35 = .ok (.istore 6, 2) := by decide +kernel
theorem dX0_journeyChange_37 : decode cX0_journeyChange 37 = .ok (.iload 6, 2) := by decide +kernel
theorem dX0_journeyChange_39 : decode cX0_journeyChange 39 = .ok (.iload_n 3, 1) := by decide +kernel
theorem dX0_journeyChange_40 : decode cX0_journeyChange 40 = .ok (.iload_n 2, 1) := by decide +kernel
theorem dX0_journeyChange_41 : decode cX0_journeyChange 41 = .ok (.iload 5, 2) := by decide +kernel
theorem dX0_journeyChange_43 : decode cX0_journeyChange 43 = .ok (.invokestatic 154, 3) := by decide +kernel
theorem dX0_journeyChange_46 : decode cX0_journeyChange 46 = .ok (.iload_n 2, 1) := by decide +kernel
theorem dX0_journeyChange_47 : decode cX0_journeyChange 47 = .ok (.iload_n 3, 1) := by decide +kernel
theorem dX0_journeyChange_48 : decode cX0_journeyChange 48 = .ok (.iload 5, 2) := by decide +kernel
theorem dX0_journeyChange_50 : decode cX0_journeyChange 50 = .ok (.invokestatic 154, 3) := by decide +kernel
theorem dX0_journeyChange_53 : decode cX0_journeyChange 53 = .ok (.isub, 1) := by decide +kernel
theorem dX0_journeyChange_54 : decode cX0_journeyChange 54 = .ok (.imul, 1) := by decide +kernel
theorem dX0_journeyChange_55 : decode cX0_journeyChange 55 = .ok (.istore 7, 2) := by decide +kernel
theorem dX0_journeyChange_57 : decode cX0_journeyChange 57 = .ok (.iconst 0, 1) := by decide +kernel
theorem dX0_journeyChange_58 : decode cX0_journeyChange 58 = .ok (.istore 8, 2) := by decide +kernel
theorem dX0_journeyChange_60 : decode cX0_journeyChange 60 = .ok (.iload 8, 2) := by decide +kernel
theorem dX0_journeyChange_62 : decode cX0_journeyChange 62 = .ok (.iload 5, 2) := by decide +kernel
theorem dX0_journeyChange_64 : decode cX0_journeyChange 64 = .ok (.if_icmp .ge 121, 3) := by decide +kernel
theorem dX0_journeyChange_67 : decode cX0_journeyChange 67 = .ok (.iload 8, 2) := by decide +kernel
theorem dX0_journeyChange_69 : decode cX0_journeyChange 69 = .ok (.iload_n 2, 1) := by decide +kernel
theorem dX0_journeyChange_70 : decode cX0_journeyChange 70 = .ok (.if_icmp .eq 109, 3) := by decide +kernel
theorem dX0_journeyChange_73 : decode cX0_journeyChange 73 = .ok (.iload 8, 2) := by decide +kernel
theorem dX0_journeyChange_75 : decode cX0_journeyChange 75 = .ok (.iload_n 3, 1) := by decide +kernel
theorem dX0_journeyChange_76 : decode cX0_journeyChange 76 = .ok (.if_icmp .eq 103, 3) := by decide +kernel
theorem dX0_journeyChange_79 : decode cX0_journeyChange 79 = .ok (.aload_n 0, 1) := by decide +kernel
theorem dX0_journeyChange_80 : decode cX0_journeyChange 80 = .ok (.iload 4, 2) := by decide +kernel
theorem dX0_journeyChange_82 : decode cX0_journeyChange 82 = .ok (.iload 5, 2) := by decide +kernel
theorem dX0_journeyChange_84 : decode cX0_journeyChange 84 = .ok (.iload_n 2, 1) := by decide +kernel
theorem dX0_journeyChange_85 : decode cX0_journeyChange 85 = .ok (.iload 8, 2) := by decide +kernel
theorem dX0_journeyChange_87 : decode cX0_journeyChange 87 = .ok (.invokevirtual 189, 3) := by decide +kernel
theorem dX0_journeyChange_90 : decode cX0_journeyChange 90 = .ok (.aload_n 0, 1) := by decide +kernel
theorem dX0_journeyChange_91 : decode cX0_journeyChange 91 = .ok (.iload 4, 2) := by decide +kernel
theorem dX0_journeyChange_93 : decode cX0_journeyChange 93 = .ok (.iload 5, 2) := by decide +kernel
theorem dX0_journeyChange_95 : decode cX0_journeyChange 95 = .ok (.iload_n 3, 1) := by decide +kernel
theorem dX0_journeyChange_96 : decode cX0_journeyChange 96 = .ok (.iload 8, 2) := by decide +kernel
theorem dX0_journeyChange_98 : decode cX0_journeyChange 98 = .ok (.invokevirtual 189, 3) := by decide +kernel
theorem dX0_journeyChange_101 : decode cX0_journeyChange 101 = .ok (.isub, 1) := by decide +kernel
theorem dX0_journeyChange_102 : decode cX0_journeyChange 102 = .ok (.istore 9, 2) := by decide +kernel
theorem dX0_journeyChange_104 : decode cX0_journeyChange 104 = .ok (.aload_n 0, 1) := by decide +kernel
theorem dX0_journeyChange_105 : decode cX0_journeyChange 105 = .ok (.iload 4, 2) := by decide +kernel
theorem dX0_journeyChange_107 : decode cX0_journeyChange 107 = .ok (.iload 5, 2) := by decide +kernel
theorem dX0_journeyChange_109 : decode cX0_journeyChange 109 = .ok (.iload 8, 2) := by decide +kernel
theorem dX0_journeyChange_111 : decode cX0_journeyChange 111 = .ok (.iload_n 2, 1) := by decide +kernel
theorem dX0_journeyChange_112 : decode cX0_journeyChange 112 = .ok (.invokevirtual 189, 3) := by decide +kernel
theorem dX0_journeyChange_115 : decode cX0_journeyChange 115 = .ok (.aload_n 0, 1) := by decide +kernel
theorem dX0_journeyChange_116 : decode cX0_journeyChange 116 = .ok (.iload 4, 2) := by decide +kernel
theorem dX0_journeyChange_118 : decode cX0_journeyChange 118 = .ok (.iload 5, 2) := by decide +kernel
theorem dX0_journeyChange_120 : decode cX0_journeyChange 120 = .ok (.iload 8, 2) := by decide +kernel
theorem dX0_journeyChange_122 : decode cX0_journeyChange 122 = .ok (.iload_n 3, 1) := by decide +kernel
theorem dX0_journeyChange_123 : decode cX0_journeyChange 123 = .ok (.invokevirtual 189, 3) := by decide +kernel
theorem dX0_journeyChange_126 : decode cX0_journeyChange 126 = .ok (.isub, 1) := by decide +kernel
theorem dX0_journeyChange_127 : decode cX0_journeyChange 127 = .ok (.istore 10, 2) := by decide +kernel
theorem dX0_journeyChange_129 : decode cX0_journeyChange 129 = .ok (.iload 7, 2) := by decide +kernel
theorem dX0_journeyChange_131 : decode cX0_journeyChange 131 = .ok (.iload 9, 2) := by decide +kernel
theorem dX0_journeyChange_133 : decode cX0_journeyChange 133 = .ok (.iload_n 3, 1) := by decide +kernel
theorem dX0_journeyChange_134 : decode cX0_journeyChange 134 = .ok (.iload 8, 2) := by decide +kernel
theorem dX0_journeyChange_136 : decode cX0_journeyChange 136 = .ok (.iload 5, 2) := by decide +kernel
theorem dX0_journeyChange_138 : decode cX0_journeyChange 138 = .ok (.invokestatic 154, 3) := by decide +kernel
theorem dX0_journeyChange_141 : decode cX0_journeyChange 141 = .ok (.iload_n 2, 1) := by decide +kernel
theorem dX0_journeyChange_142 : decode cX0_journeyChange 142 = .ok (.iload 8, 2) := by decide +kernel
theorem dX0_journeyChange_144 : decode cX0_journeyChange 144 = .ok (.iload 5, 2) := by decide +kernel
theorem dX0_journeyChange_146 : decode cX0_journeyChange 146 = .ok (.invokestatic 154, 3) := by decide +kernel
theorem dX0_journeyChange_149 : decode cX0_journeyChange 149 = .ok (.isub, 1) := by decide +kernel
theorem dX0_journeyChange_150 : decode cX0_journeyChange 150 = .ok (.imul, 1) := by decide +kernel
theorem dX0_journeyChange_151 : decode cX0_journeyChange 151 = .ok (.iadd, 1) := by decide +kernel
theorem dX0_journeyChange_152 : decode cX0_journeyChange 152 = .ok (.istore 7, 2) := by decide +kernel
theorem dX0_journeyChange_154 : decode cX0_journeyChange 154 = .ok (.iload 7, 2) := by decide +kernel
theorem dX0_journeyChange_156 : decode cX0_journeyChange 156 = .ok (.iload 10, 2) := by decide +kernel
theorem dX0_journeyChange_158 : decode cX0_journeyChange 158 = .ok (.iload 8, 2) := by decide +kernel
theorem dX0_journeyChange_160 : decode cX0_journeyChange 160 = .ok (.iload_n 3, 1) := by decide +kernel
theorem dX0_journeyChange_161 : decode cX0_journeyChange 161 = .ok (.iload 5, 2) := by decide +kernel
theorem dX0_journeyChange_163 : decode cX0_journeyChange 163 = .ok (.invokestatic 154, 3) := by decide +kernel
theorem dX0_journeyChange_166 : decode cX0_journeyChange 166 = .ok (.iload 8, 2) := by decide +kernel
theorem dX0_journeyChange_168 : decode cX0_journeyChange 168 = .ok (.iload_n 2, 1) := by decide +kernel
theorem dX0_journeyChange_169 : decode cX0_journeyChange 169 = .ok (.iload 5, 2) := by decide +kernel
theorem dX0_journeyChange_171 : decode cX0_journeyChange 171 = .ok (.invokestatic 154, 3) := by decide +kernel
theorem dX0_journeyChange_174 : decode cX0_journeyChange 174 = .ok (.isub, 1) := by decide +kernel
theorem dX0_journeyChange_175 : decode cX0_journeyChange 175 = .ok (.imul, 1) := by decide +kernel
theorem dX0_journeyChange_176 : decode cX0_journeyChange 176 = .ok (.iadd, 1) := by decide +kernel
theorem dX0_journeyChange_177 : decode cX0_journeyChange 177 = .ok (.istore 7, 2) := by decide +kernel
theorem dX0_journeyChange_179 : decode cX0_journeyChange 179 = .ok (.iinc 8 1, 3) := by decide +kernel
theorem dX0_journeyChange_182 : decode cX0_journeyChange 182 = .ok (.goto (-122), 3) := by decide +kernel
theorem dX0_journeyChange_185 : decode cX0_journeyChange 185 = .ok (.iload 7, 2) := by decide +kernel
theorem dX0_journeyChange_187 : decode cX0_journeyChange 187 = .ok (.ireturn, 1) := by decide +kernel
theorem dX5_startReading_0 : decode cX5_startReading 0 = .ok (.aload_n 0, 1) := by decide +kernel
theorem dX5_startReading_1 : decode cX5_startReading 1 = .ok (.iconst 0, 1) := by decide +kernel
theorem dX5_startReading_2 : decode cX5_startReading 2 = .ok (.putfield 19, 3) := by decide +kernel
theorem dX5_startReading_5 : decode cX5_startReading 5 = .ok (.aload_n 0, 1) := by decide +kernel
theorem dX5_startReading_6 : decode cX5_startReading 6 = .ok (.iconst 0, 1) := by decide +kernel
theorem dX5_startReading_7 : decode cX5_startReading 7 = .ok (.putfield 22, 3) := by decide +kernel
theorem dX5_startReading_10 : decode cX5_startReading 10 = .ok (.aload_n 0, 1) := by decide +kernel
theorem dX5_startReading_11 : decode cX5_startReading 11 = .ok (.iconst 0, 1) := by decide +kernel
theorem dX5_startReading_12 : decode cX5_startReading 12 = .ok (.putfield 25, 3) := by decide +kernel
theorem dX5_startReading_15 : decode cX5_startReading 15 = .ok (.aload_n 0, 1) := by decide +kernel
theorem dX5_startReading_16 : decode cX5_startReading 16 = .ok (.iconst 0, 1) := by decide +kernel
theorem dX5_startReading_17 : decode cX5_startReading 17 = .ok (.putfield 28, 3) := by decide +kernel
theorem dX5_startReading_20 : decode cX5_startReading 20 = .ok (.aload_n 0, 1) := by decide +kernel
theorem dX5_startReading_21 : decode cX5_startReading 21 = .ok (.iconst 0, 1) := by decide +kernel
theorem dX5_startReading_22 : decode cX5_startReading 22 = .ok (.putfield 31, 3) := by decide +kernel
theorem dX5_startReading_25 : decode cX5_startReading 25 = .ok (.return_, 1) := by decide +kernel
theorem dX5_peek_0 : decode cX5_peek 0 = .ok (.aload_n 0, 1) := by decide +kernel
theorem dX5_peek_1 : decode cX5_peek 1 = .ok (.getfield 19, 3) := by decide +kernel
theorem dX5_peek_4 : decode cX5_peek 4 = .ok (.aload_n 0, 1) := by decide +kernel
theorem dX5_peek_5 : decode cX5_peek 5 = .ok (.getfield 15, 3) := by decide +kernel
theorem dX5_peek_8 : decode cX5_peek 8 = .ok (.if_icmp .ge 30, 3) := by decide +kernel
theorem dX5_peek_11 : decode cX5_peek 11 = .ok (.aload_n 0, 1) := by decide +kernel
theorem dX5_peek_12 : decode cX5_peek 12 = .ok (.getfield 9, 3) := by decide +kernel
theorem dX5_peek_15 : decode cX5_peek 15 = .ok (.aload_n 0, 1) := by decide +kernel
theorem dX5_peek_16 : decode cX5_peek 16 = .ok (.getfield 19, 3) := by decide +kernel
theorem dX5_peek_19 : decode cX5_peek 19 = .ok (.iaload, 1) := by decide +kernel
theorem dX5_peek_20 : decode cX5_peek 20 = .ok (.bipush 32, 2) := by decide +kernel
theorem dX5_peek_22 : decode cX5_peek 22 = .ok (.if_icmp .ne 16, 3) := by decide +kernel
theorem dX5_peek_25 : decode cX5_peek 25 = .ok (.aload_n 0, 1) := by decide +kernel
theorem dX5_peek_26 : decode cX5_peek 26 = .ok (.dup, 1) := by decide +kernel
theorem dX5_peek_27 : decode cX5_peek 27 = .ok (.getfield 19, 3) := by decide +kernel
theorem dX5_peek_30 : decode cX5_peek 30 = .ok (.iconst 1, 1) := by decide +kernel
theorem dX5_peek_31 : decode cX5_peek 31 = .ok (.iadd, 1) := by decide +kernel
theorem dX5_peek_32 : decode cX5_peek 32 = .ok (.putfield 19, 3) := by decide +kernel
theorem dX5_peek_35 : decode cX5_peek 35 = .ok (.goto (-35), 3) := by decide +kernel
theorem dX5_peek_38 : decode cX5_peek 38 = .ok (.aload_n 0, 1) := by decide +kernel
theorem dX5_peek_39 : decode cX5_peek 39 = .ok (.getfield 19, 3) := by decide +kernel
theorem dX5_peek_42 : decode cX5_peek 42 = .ok (.aload_n 0, 1) := by decide +kernel
theorem dX5_peek_43 : decode cX5_peek 43 = .ok (.getfield 15, 3) := by decide +kernel
theorem dX5_peek_46 : decode cX5_peek 46 = .ok (.if_icmp .ge 15, 3) := by decide +kernel
theorem dX5_peek_49 : decode cX5_peek 49 = .ok (.aload_n 0, 1) := by decide +kernel
theorem dX5_peek_50 : decode cX5_peek 50 = .ok (.getfield 9, 3) := by decide +kernel
theorem dX5_peek_53 : decode cX5_peek 53 = .ok (.aload_n 0, 1) := by decide +kernel
theorem dX5_peek_54 : decode cX5_peek 54 = .ok (.getfield 19, 3) := by decide +kernel
theorem dX5_peek_57 : decode cX5_peek 57 = .ok (.iaload, 1) := by decide +kernel
theorem dX5_peek_58 : decode cX5_peek 58 = .ok (.goto 4, 3) := by decide +kernel
theorem dX5_peek_61 : decode cX5_peek 61 = .ok (.iconst (-1), 1) := by decide +kernel
theorem dX5_peek_62 : decode cX5_peek 62 = .ok (.ireturn, 1) := by decide +kernel
theorem dX5_isRead_0 : decode cX5_isRead 0 = .ok (.aload_n 1, 1) := by decide +kernel
theorem dX5_wordRead_0 : decode cX5_wordRead 0 = .ok (.aload_n 0, 1) := by decide +kernel
theorem dX5_wordRead_1 : decode cX5_wordRead 1 = .ok (.ldc 52, 2) := by decide +kernel
theorem dX5_takeWord_0 : decode cX5_takeWord 0 = .ok (.aload_n 0, 1) := by decide +kernel
theorem dX5_takeWord_1 : decode cX5_takeWord 1 = .ok (.invokevirtual 34, 3) := by decide +kernel
theorem dX5_takeWord_4 : decode cX5_takeWord 4 = .ok (.pop, 1) := by decide +kernel
theorem dX5_takeWord_5 : decode cX5_takeWord 5 = .ok (.aload_n 0, 1) := by decide +kernel
theorem dX5_takeWord_6 : decode cX5_takeWord 6 = .ok (.aload_n 0, 1) := by decide +kernel
theorem dX5_takeWord_7 : decode cX5_takeWord 7 = .ok (.getfield 19, 3) := by decide +kernel
theorem dX5_takeWord_10 : decode cX5_takeWord 10 = .ok (.putfield 22, 3) := by decide +kernel
theorem dX5_takeWord_13 : decode cX5_takeWord 13 = .ok (.aload_n 0, 1) := by decide +kernel
theorem dX5_takeWord_14 : decode cX5_takeWord 14 = .ok (.getfield 19, 3) := by decide +kernel
theorem dX5_takeWord_17 : decode cX5_takeWord 17 = .ok (.aload_n 0, 1) := by decide +kernel
theorem dX5_takeWord_18 : decode cX5_takeWord 18 = .ok (.getfield 15, 3) := by decide +kernel
theorem dX5_takeWord_21 : decode cX5_takeWord 21 = .ok (.if_icmp .ge 42, 3) := by decide +kernel
theorem dX5_takeWord_24 : decode cX5_takeWord 24 = .ok (.aload_n 0, 1) := by decide +kernel
theorem dX5_takeWord_25 : decode cX5_takeWord 25 = .ok (.aload_n 0, 1) := by decide +kernel
theorem dX5_takeWord_26 : decode cX5_takeWord 26 = .ok (.getfield 19, 3) := by decide +kernel
theorem dX5_takeWord_29 : decode cX5_takeWord 29 = .ok (.invokevirtual 42, 3) := by decide +kernel
theorem dX5_takeWord_32 : decode cX5_takeWord 32 = .ok (.bipush 97, 2) := by decide +kernel
theorem dX5_takeWord_34 : decode cX5_takeWord 34 = .ok (.if_icmp .lt 29, 3) := by decide +kernel
theorem dX5_takeWord_37 : decode cX5_takeWord 37 = .ok (.aload_n 0, 1) := by decide +kernel
theorem dX5_takeWord_38 : decode cX5_takeWord 38 = .ok (.aload_n 0, 1) := by decide +kernel
theorem dX5_takeWord_39 : decode cX5_takeWord 39 = .ok (.getfield 19, 3) := by decide +kernel
theorem dX5_takeWord_42 : decode cX5_takeWord 42 = .ok (.invokevirtual 42, 3) := by decide +kernel
theorem dX5_takeWord_45 : decode cX5_takeWord 45 = .ok (.bipush 122, 2) := by decide +kernel
theorem dX5_takeWord_47 : decode cX5_takeWord 47 = .ok (.if_icmp .gt 16, 3) := by decide +kernel
theorem dX5_takeWord_50 : decode cX5_takeWord 50 = .ok (.aload_n 0, 1) := by decide +kernel
theorem dX5_takeWord_51 : decode cX5_takeWord 51 = .ok (.dup, 1) := by decide +kernel
theorem dX5_takeWord_52 : decode cX5_takeWord 52 = .ok (.getfield 19, 3) := by decide +kernel
theorem dX5_takeWord_55 : decode cX5_takeWord 55 = .ok (.iconst 1, 1) := by decide +kernel
theorem dX5_takeWord_56 : decode cX5_takeWord 56 = .ok (.iadd, 1) := by decide +kernel
theorem dX5_takeWord_57 : decode cX5_takeWord 57 = .ok (.putfield 19, 3) := by decide +kernel
theorem dX5_takeWord_60 : decode cX5_takeWord 60 = .ok (.goto (-47), 3) := by decide +kernel
theorem dX5_takeWord_63 : decode cX5_takeWord 63 = .ok (.aload_n 0, 1) := by decide +kernel
theorem dX5_blame_0 : decode cX5_blame 0 = .ok (.aload_n 0, 1) := by decide +kernel
theorem dX5_blame_1 : decode cX5_blame 1 = .ok (.getfield 31, 3) := by decide +kernel
theorem dX5_blame_4 : decode cX5_blame 4 = .ok (.ifCond .ne 13, 3) := by decide +kernel
theorem dX5_blame_7 : decode cX5_blame 7 = .ok (.aload_n 0, 1) := by decide +kernel
theorem dX5_blame_8 : decode cX5_blame 8 = .ok (.bipush 8, 2) := by decide +kernel
theorem dX5_blame_10 : decode cX5_blame 10 = .ok (.iload_n 1, 1) := by decide +kernel
theorem dX5_blame_11 : decode cX5_blame 11 = .ok (.imul, 1) := by decide +kernel
theorem dX5_blame_12 : decode cX5_blame 12 = .ok (.iload_n 2, 1) := by decide +kernel
theorem dX5_blame_13 : decode cX5_blame 13 = .ok (.iadd, 1) := by decide +kernel
theorem dX5_blame_14 : decode cX5_blame 14 = .ok (.putfield 31, 3) := by decide +kernel
theorem dX5_blame_17 : decode cX5_blame 17 = .ok (.return_, 1) := by decide +kernel
theorem dX5_takeThisWord_0 : decode cX5_takeThisWord 0 = .ok (.aload_n 0, 1) := by decide +kernel
theorem dX5_takeNumber_0 : decode cX5_takeNumber 0 = .ok (.aload_n 0, 1) := by decide +kernel
theorem dX5_takeNumber_1 : decode cX5_takeNumber 1 = .ok (.invokevirtual 34, 3) := by decide +kernel
theorem dX5_takeNumber_4 : decode cX5_takeNumber 4 = .ok (.pop, 1) := by decide +kernel
theorem dX5_takeNumber_5 : decode cX5_takeNumber 5 = .ok (.aload_n 0, 1) := by decide +kernel
theorem dX5_takeNumber_6 : decode cX5_takeNumber 6 = .ok (.aload_n 0, 1) := by decide +kernel
theorem dX5_takeNumber_7 : decode cX5_takeNumber 7 = .ok (.getfield 19, 3) := by decide +kernel
theorem dX5_takeNumber_10 : decode cX5_takeNumber 10 = .ok (.putfield 22, 3) := by decide +kernel
theorem dX5_takeNumber_13 : decode cX5_takeNumber 13 = .ok (.iconst 0, 1) := by decide +kernel
theorem dX5_takeNumber_14 : decode cX5_takeNumber 14 = .ok (.istore_n 3, 1) := by decide +kernel
theorem dX5_takeNumber_15 : decode cX5_takeNumber 15 = .ok (.aload_n 0, 1) := by decide +kernel
theorem dX5_takeNumber_16 : decode cX5_takeNumber 16 = .ok (.getfield 19, 3) := by decide +kernel
theorem dX5_takeNumber_19 : decode cX5_takeNumber 19 = .ok (.aload_n 0, 1) := by decide +kernel
theorem dX5_takeNumber_20 : decode cX5_takeNumber 20 = .ok (.getfield 15, 3) := by decide +kernel
theorem dX5_takeNumber_23 : decode cX5_takeNumber 23 = .ok (.if_icmp .ge 65, 3) := by decide +kernel
theorem dX5_takeNumber_26 : decode cX5_takeNumber 26 = .ok (.aload_n 0, 1) := by decide +kernel
theorem dX5_takeNumber_27 : decode cX5_takeNumber 27 = .ok (.aload_n 0, 1) := by decide +kernel
theorem dX5_takeNumber_28 : decode cX5_takeNumber 28 = .ok (.getfield 19, 3) := by decide +kernel
theorem dX5_takeNumber_31 : decode cX5_takeNumber 31 = .ok (.invokevirtual 42, 3) := by decide +kernel
theorem dX5_takeNumber_34 : decode cX5_takeNumber 34 = .ok (.bipush 48, 2) := by decide +kernel
theorem dX5_takeNumber_36 : decode cX5_takeNumber 36 = .ok (.if_icmp .lt 52, 3) := by decide +kernel
theorem dX5_takeNumber_39 : decode cX5_takeNumber 39 = .ok (.aload_n 0, 1) := by decide +kernel
theorem dX5_takeNumber_40 : decode cX5_takeNumber 40 = .ok (.aload_n 0, 1) := by decide +kernel
theorem dX5_takeNumber_41 : decode cX5_takeNumber 41 = .ok (.getfield 19, 3) := by decide +kernel
theorem dX5_takeNumber_44 : decode cX5_takeNumber 44 = .ok (.invokevirtual 42, 3) := by decide +kernel
theorem dX5_takeNumber_47 : decode cX5_takeNumber 47 = .ok (.bipush 57, 2) := by decide +kernel
theorem dX5_takeNumber_49 : decode cX5_takeNumber 49 = .ok (.if_icmp .gt 39, 3) := by decide +kernel
theorem dX5_takeNumber_52 : decode cX5_takeNumber 52 = .ok (.sipush 1000, 3) := by decide +kernel
theorem dX5_takeNumber_55 : decode cX5_takeNumber 55 = .ok (.iload_n 3, 1) := by decide +kernel
theorem dX5_takeNumber_56 : decode cX5_takeNumber 56 = .ok (.bipush 10, 2) := by decide +kernel
theorem dX5_takeNumber_58 : decode cX5_takeNumber 58 = .ok (.imul, 1) := by decide +kernel
theorem dX5_takeNumber_59 : decode cX5_takeNumber 59 = .ok (.aload_n 0, 1) := by decide +kernel
theorem dX5_takeNumber_60 : decode cX5_takeNumber 60 = .ok (.aload_n 0, 1) := by decide +kernel
theorem dX5_takeNumber_61 : decode cX5_takeNumber 61 = .ok (.getfield 19, 3) := by decide +kernel
theorem dX5_takeNumber_64 : decode cX5_takeNumber 64 = .ok (.invokevirtual 42, 3) := by decide +kernel
theorem dX5_takeNumber_67 : decode cX5_takeNumber 67 = .ok (.iadd, 1) := by decide +kernel
theorem dX5_takeNumber_68 : decode cX5_takeNumber 68 = .ok (.bipush 48, 2) := by decide +kernel
theorem dX5_takeNumber_70 : decode cX5_takeNumber 70 = .ok (.isub, 1) := by decide +kernel
theorem dX5_takeNumber_71 : decode cX5_takeNumber 71 = .ok (.invokestatic 89, 3) := by decide +kernel
theorem dX5_takeNumber_74 : decode cX5_takeNumber 74 = .ok (.istore_n 3, 1) := by decide +kernel
theorem dX5_takeNumber_75 : decode cX5_takeNumber 75 = .ok (.aload_n 0, 1) := by decide +kernel
theorem dX5_takeNumber_76 : decode cX5_takeNumber 76 = .ok (.dup, 1) := by decide +kernel
theorem dX5_takeNumber_77 : decode cX5_takeNumber 77 = .ok (.getfield 19, 3) := by decide +kernel
theorem dX5_takeNumber_80 : decode cX5_takeNumber 80 = .ok (.iconst 1, 1) := by decide +kernel
theorem dX5_takeNumber_81 : decode cX5_takeNumber 81 = .ok (.iadd, 1) := by decide +kernel
theorem dX5_takeNumber_82 : decode cX5_takeNumber 82 = .ok (.putfield 19, 3) := by decide +kernel
theorem dX5_takeNumber_85 : decode cX5_takeNumber 85 = .ok (.goto (-70), 3) := by decide +kernel
theorem dX5_takeNumber_88 : decode cX5_takeNumber 88 = .ok (.aload_n 0, 1) := by decide +kernel
theorem dX5_takeNumber_89 : decode cX5_takeNumber 89 = .ok (.getfield 19, 3) := by decide +kernel
theorem dX5_takeNumber_92 : decode cX5_takeNumber 92 = .ok (.aload_n 0, 1) := by decide +kernel
theorem dX5_takeNumber_93 : decode cX5_takeNumber 93 = .ok (.getfield 22, 3) := by decide +kernel
theorem dX5_takeNumber_96 : decode cX5_takeNumber 96 = .ok (.if_icmp .ne 14, 3) := by decide +kernel
theorem dX5_takeNumber_99 : decode cX5_takeNumber 99 = .ok (.aload_n 0, 1) := by decide +kernel
theorem dX5_takeNumber_100 : decode cX5_takeNumber 100 = .ok (.aload_n 0, 1) := by decide +kernel
theorem dX5_takeNumber_101 : decode cX5_takeNumber 101 = .ok (.getfield 19, 3) := by decide +kernel
theorem dX5_takeNumber_104 : decode cX5_takeNumber 104 = .ok (.iconst 1, 1) := by decide +kernel
theorem dX5_takeNumber_105 : decode cX5_takeNumber 105 = .ok (.invokevirtual 38, 3) := by decide +kernel
theorem dX5_takeNumber_108 : decode cX5_takeNumber 108 = .ok (.iload_n 1, 1) := by decide +kernel
theorem dX5_takeNumber_109 : decode cX5_takeNumber 109 = .ok (.ireturn, 1) := by decide +kernel
theorem dX5_takeNumber_110 : decode cX5_takeNumber 110 = .ok (.iload_n 3, 1) := by decide +kernel
theorem dX5_takeNumber_111 : decode cX5_takeNumber 111 = .ok (.iload_n 1, 1) := by decide +kernel
theorem dX5_takeNumber_112 : decode cX5_takeNumber 112 = .ok (.if_icmp .lt 8, 3) := by decide +kernel
theorem dX5_takeNumber_115 : decode cX5_takeNumber 115 = .ok (.iload_n 3, 1) := by decide +kernel
theorem dX5_takeNumber_116 : decode cX5_takeNumber 116 = .ok (.iload_n 2, 1) := by decide +kernel
theorem dX5_takeNumber_117 : decode cX5_takeNumber 117 = .ok (.if_icmp .le 14, 3) := by decide +kernel
theorem dX5_takeNumber_120 : decode cX5_takeNumber 120 = .ok (.aload_n 0, 1) := by decide +kernel
theorem dX5_takeNumber_121 : decode cX5_takeNumber 121 = .ok (.aload_n 0, 1) := by decide +kernel
theorem dX5_takeNumber_122 : decode cX5_takeNumber 122 = .ok (.getfield 22, 3) := by decide +kernel
theorem dX5_takeNumber_125 : decode cX5_takeNumber 125 = .ok (.iconst 2, 1) := by decide +kernel
theorem dX5_takeNumber_126 : decode cX5_takeNumber 126 = .ok (.invokevirtual 38, 3) := by decide +kernel
theorem dX5_takeNumber_129 : decode cX5_takeNumber 129 = .ok (.iload_n 1, 1) := by decide +kernel
theorem dX5_takeNumber_130 : decode cX5_takeNumber 130 = .ok (.ireturn, 1) := by decide +kernel
theorem dX5_takeNumber_131 : decode cX5_takeNumber 131 = .ok (.iload_n 3, 1) := by decide +kernel
theorem dX5_takeNumber_132 : decode cX5_takeNumber 132 = .ok (.ireturn, 1) := by decide +kernel
theorem dX5_isSound_0 : decode cX5_isSound 0 = .ok (.aload_n 0, 1) := by decide +kernel
theorem dX5_isSound_1 : decode cX5_isSound 1 = .ok (.getfield 31, 3) := by decide +kernel
theorem dX5_isSound_4 : decode cX5_isSound 4 = .ok (.ifCond .ne 7, 3) := by decide +kernel
theorem dX5_isSound_7 : decode cX5_isSound 7 = .ok (.iconst 1, 1) := by decide +kernel
theorem dX5_isSound_8 : decode cX5_isSound 8 = .ok (.goto 4, 3) := by decide +kernel
theorem dX5_isSound_11 : decode cX5_isSound 11 = .ok (.iconst 0, 1) := by decide +kernel
theorem dX5_isSound_12 : decode cX5_isSound 12 = .ok (.ireturn, 1) := by decide +kernel
theorem dX1_readHead_0 : decode cX1_readHead 0 = .ok (.aload_n 1, 1) := by decide +kernel
theorem dX1_readHead_1 : decode cX1_readHead 1 = .ok (.iconst 1, 1) := by decide +kernel
theorem dX5_takeByte_0 : decode cX5_takeByte 0 = .ok (.aload_n 0, 1) := by decide +kernel
theorem dX5_takeByte_1 : decode cX5_takeByte 1 = .ok (.invokevirtual 34, 3) := by decide +kernel
theorem dX5_takeByte_4 : decode cX5_takeByte 4 = .ok (.iload_n 1, 1) := by decide +kernel
theorem dX5_takeByte_5 : decode cX5_takeByte 5 = .ok (.if_icmp .ne 16, 3) := by decide +kernel
theorem dX5_takeByte_8 : decode cX5_takeByte 8 = .ok (.aload_n 0, 1) := by decide +kernel
theorem dX5_takeByte_9 : decode cX5_takeByte 9 = .ok (.dup, 1) := by decide +kernel
theorem dX5_takeByte_10 : decode cX5_takeByte 10 = .ok (.getfield 19, 3) := by decide +kernel
theorem dX5_takeByte_13 : decode cX5_takeByte 13 = .ok (.iconst 1, 1) := by decide +kernel
theorem dX5_takeByte_14 : decode cX5_takeByte 14 = .ok (.iadd, 1) := by decide +kernel
theorem dX5_takeByte_15 : decode cX5_takeByte 15 = .ok (.putfield 19, 3) := by decide +kernel
theorem dX5_takeByte_18 : decode cX5_takeByte 18 = .ok (.goto 12, 3) := by decide +kernel
theorem dX5_takeByte_21 : decode cX5_takeByte 21 = .ok (.aload_n 0, 1) := by decide +kernel
theorem dX5_takeByte_22 : decode cX5_takeByte 22 = .ok (.aload_n 0, 1) := by decide +kernel
theorem dX5_takeByte_23 : decode cX5_takeByte 23 = .ok (.getfield 19, 3) := by decide +kernel
theorem dX5_takeByte_26 : decode cX5_takeByte 26 = .ok (.iconst 1, 1) := by decide +kernel
theorem dX5_takeByte_27 : decode cX5_takeByte 27 = .ok (.invokevirtual 38, 3) := by decide +kernel
theorem dX5_takeByte_30 : decode cX5_takeByte 30 = .ok (.return_, 1) := by decide +kernel
theorem dX6_isSign_0 : decode cX6_isSign 0 = .ok (.iload_n 0, 1) := by decide +kernel
theorem dX6_isSign_1 : decode cX6_isSign 1 = .ok (.bipush 32, 2) := by decide +kernel
theorem dX6_isSign_3 : decode cX6_isSign 3 = .ok (.if_icmp .lt 19, 3) := by decide +kernel
theorem dX6_isSign_6 : decode cX6_isSign 6 = .ok (.iload_n 0, 1) := by decide +kernel
theorem dX6_isSign_7 : decode cX6_isSign 7 = .ok (.bipush 126, 2) := by decide +kernel
theorem dX6_isSign_9 : decode cX6_isSign 9 = .ok (.if_icmp .gt 13, 3) := by decide +kernel
theorem dX6_isSign_12 : decode cX6_isSign 12 = .ok (.iload_n 0, 1) := by decide +kernel
theorem dX6_isSign_13 : decode cX6_isSign 13 = .ok (.bipush 39, 2) := by decide +kernel
theorem dX6_isSign_15 : decode cX6_isSign 15 = .ok (.if_icmp .eq 7, 3) := by decide +kernel
theorem dX6_isSign_18 : decode cX6_isSign 18 = .ok (.iconst 1, 1) := by decide +kernel
theorem dX6_isSign_19 : decode cX6_isSign 19 = .ok (.goto 4, 3) := by decide +kernel
theorem dX6_isSign_22 : decode cX6_isSign 22 = .ok (.iconst 0, 1) := by decide +kernel
theorem dX6_isSign_23 : decode cX6_isSign 23 = .ok (.ireturn, 1) := by decide +kernel
theorem dX5_takeQuoted_0 : decode cX5_takeQuoted 0 = .ok (.aload_n 0, 1) := by decide +kernel
theorem dX5_takeQuoted_1 : decode cX5_takeQuoted 1 = .ok (.bipush 39, 2) := by decide +kernel
theorem dX5_takeQuoted_3 : decode cX5_takeQuoted 3 = .ok (.invokevirtual 95, 3) := by decide +kernel
theorem dX5_takeQuoted_6 : decode cX5_takeQuoted 6 = .ok (.aload_n 0, 1) := by decide +kernel
theorem dX5_takeQuoted_7 : decode cX5_takeQuoted 7 = .ok (.aload_n 0, 1) := by decide +kernel
theorem dX5_takeQuoted_8 : decode cX5_takeQuoted 8 = .ok (.getfield 19, 3) := by decide +kernel
theorem dX5_takeQuoted_11 : decode cX5_takeQuoted 11 = .ok (.putfield 25, 3) := by decide +kernel
theorem dX5_takeQuoted_14 : decode cX5_takeQuoted 14 = .ok (.aload_n 0, 1) := by decide +kernel
theorem dX5_takeQuoted_15 : decode cX5_takeQuoted 15 = .ok (.getfield 19, 3) := by decide +kernel
theorem dX5_takeQuoted_18 : decode cX5_takeQuoted 18 = .ok (.aload_n 0, 1) := by decide +kernel
theorem dX5_takeQuoted_19 : decode cX5_takeQuoted 19 = .ok (.getfield 15, 3) := by decide +kernel
theorem dX5_takeQuoted_22 : decode cX5_takeQuoted 22 = .ok (.if_icmp .ge 84, 3) := by decide +kernel
theorem dX5_takeQuoted_25 : decode cX5_takeQuoted 25 = .ok (.aload_n 0, 1) := by decide +kernel
theorem dX5_takeQuoted_26 : decode cX5_takeQuoted 26 = .ok (.invokevirtual 99, 3) := by decide +kernel
theorem dX5_takeQuoted_29 : decode cX5_takeQuoted 29 = .ok (.ifCond .eq 77, 3) := by decide +kernel
theorem dX5_takeQuoted_32 : decode cX5_takeQuoted 32 = .ok (.aload_n 0, 1) := by decide +kernel
theorem dX5_takeQuoted_33 : decode cX5_takeQuoted 33 = .ok (.aload_n 0, 1) := by decide +kernel
theorem dX5_takeQuoted_34 : decode cX5_takeQuoted 34 = .ok (.getfield 19, 3) := by decide +kernel
theorem dX5_takeQuoted_37 : decode cX5_takeQuoted 37 = .ok (.invokevirtual 42, 3) := by decide +kernel
theorem dX5_takeQuoted_40 : decode cX5_takeQuoted 40 = .ok (.bipush 39, 2) := by decide +kernel
theorem dX5_takeQuoted_42 : decode cX5_takeQuoted 42 = .ok (.if_icmp .eq 64, 3) := by decide +kernel
theorem dX5_takeQuoted_45 : decode cX5_takeQuoted 45 = .ok (.aload_n 0, 1) := by decide +kernel
theorem dX5_takeQuoted_46 : decode cX5_takeQuoted 46 = .ok (.aload_n 0, 1) := by decide +kernel
theorem dX5_takeQuoted_47 : decode cX5_takeQuoted 47 = .ok (.getfield 19, 3) := by decide +kernel
theorem dX5_takeQuoted_50 : decode cX5_takeQuoted 50 = .ok (.invokevirtual 42, 3) := by decide +kernel
theorem dX5_takeQuoted_53 : decode cX5_takeQuoted 53 = .ok (.invokestatic 103, 3) := by decide +kernel
theorem dX5_takeQuoted_56 : decode cX5_takeQuoted 56 = .ok (.ifCond .ne 15, 3) := by decide +kernel
theorem dX5_takeQuoted_59 : decode cX5_takeQuoted 59 = .ok (.aload_n 0, 1) := by decide +kernel
theorem dX5_takeQuoted_60 : decode cX5_takeQuoted 60 = .ok (.aload_n 0, 1) := by decide +kernel
theorem dX5_takeQuoted_61 : decode cX5_takeQuoted 61 = .ok (.getfield 19, 3) := by decide +kernel
theorem dX5_takeQuoted_64 : decode cX5_takeQuoted 64 = .ok (.iconst 1, 1) := by decide +kernel
theorem dX5_takeQuoted_65 : decode cX5_takeQuoted 65 = .ok (.invokevirtual 38, 3) := by decide +kernel
theorem dX5_takeQuoted_68 : decode cX5_takeQuoted 68 = .ok (.goto 25, 3) := by decide +kernel
theorem dX5_takeQuoted_71 : decode cX5_takeQuoted 71 = .ok (.aload_n 0, 1) := by decide +kernel
theorem dX5_takeQuoted_72 : decode cX5_takeQuoted 72 = .ok (.getfield 19, 3) := by decide +kernel
theorem dX5_takeQuoted_75 : decode cX5_takeQuoted 75 = .ok (.aload_n 0, 1) := by decide +kernel
theorem dX5_takeQuoted_76 : decode cX5_takeQuoted 76 = .ok (.getfield 25, 3) := by decide +kernel
theorem dX5_takeQuoted_79 : decode cX5_takeQuoted 79 = .ok (.isub, 1) := by decide +kernel
theorem dX5_takeQuoted_80 : decode cX5_takeQuoted 80 = .ok (.iload_n 2, 1) := by decide +kernel
theorem dX5_takeQuoted_81 : decode cX5_takeQuoted 81 = .ok (.if_icmp .lt 12, 3) := by decide +kernel
theorem dX5_takeQuoted_84 : decode cX5_takeQuoted 84 = .ok (.aload_n 0, 1) := by decide +kernel
theorem dX5_takeQuoted_85 : decode cX5_takeQuoted 85 = .ok (.aload_n 0, 1) := by decide +kernel
theorem dX5_takeQuoted_86 : decode cX5_takeQuoted 86 = .ok (.getfield 19, 3) := by decide +kernel
theorem dX5_takeQuoted_89 : decode cX5_takeQuoted 89 = .ok (.iconst 2, 1) := by decide +kernel
theorem dX5_takeQuoted_90 : decode cX5_takeQuoted 90 = .ok (.invokevirtual 38, 3) := by decide +kernel
theorem dX5_takeQuoted_93 : decode cX5_takeQuoted 93 = .ok (.aload_n 0, 1) := by decide +kernel
theorem dX5_takeQuoted_94 : decode cX5_takeQuoted 94 = .ok (.dup, 1) := by decide +kernel
theorem dX5_takeQuoted_95 : decode cX5_takeQuoted 95 = .ok (.getfield 19, 3) := by decide +kernel
theorem dX5_takeQuoted_98 : decode cX5_takeQuoted 98 = .ok (.iconst 1, 1) := by decide +kernel
theorem dX5_takeQuoted_99 : decode cX5_takeQuoted 99 = .ok (.iadd, 1) := by decide +kernel
theorem dX5_takeQuoted_100 : decode cX5_takeQuoted 100 = .ok (.putfield 19, 3) := by decide +kernel
theorem dX5_takeQuoted_103 : decode cX5_takeQuoted 103 = .ok (.goto (-89), 3) := by decide +kernel
theorem dX5_takeQuoted_106 : decode cX5_takeQuoted 106 = .ok (.aload_n 0, 1) := by decide +kernel
theorem dX5_takeQuoted_107 : decode cX5_takeQuoted 107 = .ok (.aload_n 0, 1) := by decide +kernel
theorem dX5_takeQuoted_108 : decode cX5_takeQuoted 108 = .ok (.getfield 19, 3) := by decide +kernel
theorem dX5_takeQuoted_111 : decode cX5_takeQuoted 111 = .ok (.aload_n 0, 1) := by decide +kernel
theorem dX5_takeQuoted_112 : decode cX5_takeQuoted 112 = .ok (.getfield 25, 3) := by decide +kernel
theorem dX5_takeQuoted_115 : decode cX5_takeQuoted 115 = .ok (.isub, 1) := by decide +kernel
theorem dX5_takeQuoted_116 : decode cX5_takeQuoted 116 = .ok (.putfield 28, 3) := by decide +kernel
theorem dX5_takeQuoted_119 : decode cX5_takeQuoted 119 = .ok (.aload_n 0, 1) := by decide +kernel
theorem dX5_takeQuoted_120 : decode cX5_takeQuoted 120 = .ok (.getfield 19, 3) := by decide +kernel
theorem dX5_takeQuoted_123 : decode cX5_takeQuoted 123 = .ok (.aload_n 0, 1) := by decide +kernel
theorem dX5_takeQuoted_124 : decode cX5_takeQuoted 124 = .ok (.getfield 15, 3) := by decide +kernel
theorem dX5_takeQuoted_127 : decode cX5_takeQuoted 127 = .ok (.if_icmp .lt 15, 3) := by decide +kernel
theorem dX5_takeQuoted_130 : decode cX5_takeQuoted 130 = .ok (.aload_n 0, 1) := by decide +kernel
theorem dX5_takeQuoted_131 : decode cX5_takeQuoted 131 = .ok (.aload_n 0, 1) := by decide +kernel
theorem dX5_takeQuoted_132 : decode cX5_takeQuoted 132 = .ok (.getfield 15, 3) := by decide +kernel
theorem dX5_takeQuoted_135 : decode cX5_takeQuoted 135 = .ok (.iconst 1, 1) := by decide +kernel
theorem dX5_takeQuoted_136 : decode cX5_takeQuoted 136 = .ok (.invokevirtual 38, 3) := by decide +kernel
theorem dX5_takeQuoted_139 : decode cX5_takeQuoted 139 = .ok (.goto 20, 3) := by decide +kernel
theorem dX5_takeQuoted_142 : decode cX5_takeQuoted 142 = .ok (.aload_n 0, 1) := by decide +kernel
theorem dX5_takeQuoted_143 : decode cX5_takeQuoted 143 = .ok (.getfield 28, 3) := by decide +kernel
theorem dX5_takeQuoted_146 : decode cX5_takeQuoted 146 = .ok (.iload_n 1, 1) := by decide +kernel
theorem dX5_takeQuoted_147 : decode cX5_takeQuoted 147 = .ok (.if_icmp .ge 12, 3) := by decide +kernel
theorem dX5_takeQuoted_150 : decode cX5_takeQuoted 150 = .ok (.aload_n 0, 1) := by decide +kernel
theorem dX5_takeQuoted_151 : decode cX5_takeQuoted 151 = .ok (.aload_n 0, 1) := by decide +kernel
theorem dX5_takeQuoted_152 : decode cX5_takeQuoted 152 = .ok (.getfield 19, 3) := by decide +kernel
theorem dX5_takeQuoted_155 : decode cX5_takeQuoted 155 = .ok (.iconst 2, 1) := by decide +kernel
theorem dX5_takeQuoted_156 : decode cX5_takeQuoted 156 = .ok (.invokevirtual 38, 3) := by decide +kernel
theorem dX5_takeQuoted_159 : decode cX5_takeQuoted 159 = .ok (.aload_n 0, 1) := by decide +kernel
theorem dX5_takeQuoted_160 : decode cX5_takeQuoted 160 = .ok (.dup, 1) := by decide +kernel
theorem dX5_takeQuoted_161 : decode cX5_takeQuoted 161 = .ok (.getfield 19, 3) := by decide +kernel
theorem dX5_takeQuoted_164 : decode cX5_takeQuoted 164 = .ok (.iconst 1, 1) := by decide +kernel
theorem dX5_takeQuoted_165 : decode cX5_takeQuoted 165 = .ok (.iadd, 1) := by decide +kernel
theorem dX5_takeQuoted_166 : decode cX5_takeQuoted 166 = .ok (.putfield 19, 3) := by decide +kernel
theorem dX5_takeQuoted_169 : decode cX5_takeQuoted 169 = .ok (.return_, 1) := by decide +kernel
theorem dX1_readDrum_0 : decode cX1_readDrum 0 = .ok (.aload_n 1, 1) := by decide +kernel
theorem dX1_readDrum_1 : decode cX1_readDrum 1 = .ok (.iconst 1, 1) := by decide +kernel
theorem dX1_readDrum_2 : decode cX1_readDrum 2 = .ok (.bipush 9, 2) := by decide +kernel
theorem dX1_readDrum_4 : decode cX1_readDrum 4 = .ok (.invokevirtual 54, 3) := by decide +kernel
theorem dX1_readDrum_7 : decode cX1_readDrum 7 = .ok (.istore_n 2, 1) := by decide +kernel
theorem dX1_readDrum_8 : decode cX1_readDrum 8 = .ok (.aload_n 1, 1) := by decide +kernel
theorem dX1_readDrum_9 : decode cX1_readDrum 9 = .ok (.iconst 2, 1) := by decide +kernel
theorem dX1_readDrum_10 : decode cX1_readDrum 10 = .ok (.bipush 40, 2) := by decide +kernel
theorem dX1_readDrum_12 : decode cX1_readDrum 12 = .ok (.invokevirtual 93, 3) := by decide +kernel
theorem dX1_readDrum_15 : decode cX1_readDrum 15 = .ok (.aload_n 1, 1) := by decide +kernel
theorem dX1_readDrum_16 : decode cX1_readDrum 16 = .ok (.invokevirtual 25, 3) := by decide +kernel
theorem dX1_readDrum_19 : decode cX1_readDrum 19 = .ok (.ifCond .eq 17, 3) := by decide +kernel
theorem dX1_readDrum_22 : decode cX1_readDrum 22 = .ok (.aload_n 0, 1) := by decide +kernel
theorem dX1_readDrum_23 : decode cX1_readDrum 23 = .ok (.iload_n 2, 1) := by decide +kernel
theorem dX1_readDrum_24 : decode cX1_readDrum 24 = .ok (.aload_n 1, 1) := by decide +kernel
theorem dX1_readDrum_25 : decode cX1_readDrum 25 = .ok (.aload_n 1, 1) := by decide +kernel
theorem dX1_readDrum_26 : decode cX1_readDrum 26 = .ok (.getfield 96, 3) := by decide +kernel
theorem dX1_readDrum_29 : decode cX1_readDrum 29 = .ok (.aload_n 1, 1) := by decide +kernel
theorem dX1_readDrum_30 : decode cX1_readDrum 30 = .ok (.getfield 99, 3) := by decide +kernel
theorem dX1_readDrum_33 : decode cX1_readDrum 33 = .ok (.invokevirtual 102, 3) := by decide +kernel
theorem dX1_readDrum_36 : decode cX1_readDrum 36 = .ok (.return_, 1) := by decide +kernel
theorem dX1_readCells_0 : decode cX1_readCells 0 = .ok (.aload_n 0, 1) := by decide +kernel
theorem dX1_readCells_1 : decode cX1_readCells 1 = .ok (.invokevirtual 106, 3) := by decide +kernel
theorem dX1_readCells_4 : decode cX1_readCells 4 = .ok (.iconst 1, 1) := by decide +kernel
theorem dX1_readCells_5 : decode cX1_readCells 5 = .ok (.isub, 1) := by decide +kernel
theorem dX1_readCells_6 : decode cX1_readCells 6 = .ok (.istore_n 2, 1) := by decide +kernel
theorem dX1_readCells_7 : decode cX1_readCells 7 = .ok (.aload_n 1, 1) := by decide +kernel
theorem dX1_readCells_8 : decode cX1_readCells 8 = .ok (.iconst 0, 1) := by decide +kernel
theorem dX1_readCells_9 : decode cX1_readCells 9 = .ok (.iload_n 2, 1) := by decide +kernel
theorem dX1_readCells_10 : decode cX1_readCells 10 = .ok (.invokevirtual 54, 3) := by decide +kernel
theorem dX1_readCells_13 : decode cX1_readCells 13 = .ok (.istore_n 3, 1) := by decide +kernel
theorem dX1_readCells_14 : decode cX1_readCells 14 = .ok (.aload_n 1, 1) := by decide +kernel
theorem dX1_readCells_15 : decode cX1_readCells 15 = .ok (.iload_n 3, 1) := by decide +kernel
theorem dX1_readCells_16 : decode cX1_readCells 16 = .ok (.iload_n 2, 1) := by decide +kernel
theorem dX1_readCells_17 : decode cX1_readCells 17 = .ok (.invokevirtual 54, 3) := by decide +kernel
theorem dX1_readCells_20 : decode cX1_readCells 20 = .ok (.istore 4, 2) := by decide +kernel
theorem dX1_readCells_22 : decode cX1_readCells 22 = .ok (.aload_n 1, 1) := by decide +kernel
theorem dX1_readCells_23 : decode cX1_readCells 23 = .ok (.iconst 0, 1) := by decide +kernel
theorem dX1_readCells_24 : decode cX1_readCells 24 = .ok (.aload_n 0, 1) := by decide +kernel
theorem dX1_readCells_25 : decode cX1_readCells 25 = .ok (.getfield 40, 3) := by decide +kernel
theorem dX1_readCells_28 : decode cX1_readCells 28 = .ok (.iconst 1, 1) := by decide +kernel
theorem dX1_readCells_29 : decode cX1_readCells 29 = .ok (.isub, 1) := by decide +kernel
theorem dX1_readCells_30 : decode cX1_readCells 30 = .ok (.invokevirtual 54, 3) := by decide +kernel
theorem dX1_readCells_33 : decode cX1_readCells 33 = .ok (.istore 5, 2) := by decide +kernel
theorem dX1_readCells_35 : decode cX1_readCells 35 = .ok (.iload_n 3, 1) := by decide +kernel
theorem dX1_readCells_36 : decode cX1_readCells 36 = .ok (.istore 6, 2) := by decide +kernel
theorem dX1_readCells_38 : decode cX1_readCells 38 = .ok (.iload 6, 2) := by decide +kernel
theorem dX1_readCells_40 : decode cX1_readCells 40 = .ok (.iload 4, 2) := by decide +kernel
theorem dX1_readCells_42 : decode cX1_readCells 42 = .ok (.if_icmp .gt 24, 3) := by decide +kernel
theorem dX1_readCells_45 : decode cX1_readCells 45 = .ok (.aload_n 1, 1) := by decide +kernel
theorem dX1_readCells_46 : decode cX1_readCells 46 = .ok (.invokevirtual 25, 3) := by decide +kernel
theorem dX1_readCells_49 : decode cX1_readCells 49 = .ok (.ifCond .eq 17, 3) := by decide +kernel
theorem dX1_readCells_52 : decode cX1_readCells 52 = .ok (.aload_n 0, 1) := by decide +kernel
theorem dX1_readCells_53 : decode cX1_readCells 53 = .ok (.iload 6, 2) := by decide +kernel
theorem dX1_readCells_55 : decode cX1_readCells 55 = .ok (.iload 5, 2) := by decide +kernel
theorem dX1_readCells_57 : decode cX1_readCells 57 = .ok (.invokevirtual 109, 3) := by decide +kernel
theorem dX1_readCells_60 : decode cX1_readCells 60 = .ok (.iinc 6 1, 3) := by decide +kernel
theorem dX1_readCells_63 : decode cX1_readCells 63 = .ok (.goto (-25), 3) := by decide +kernel
theorem dX1_readCells_66 : decode cX1_readCells 66 = .ok (.return_, 1) := by decide +kernel
theorem dX1_readWorn_0 : decode cX1_readWorn 0 = .ok (.aload_n 1, 1) := by decide +kernel
theorem dX1_readWorn_1 : decode cX1_readWorn 1 = .ok (.iconst 0, 1) := by decide +kernel
theorem dX1_readWorn_2 : decode cX1_readWorn 2 = .ok (.aload_n 0, 1) := by decide +kernel
theorem dX1_readWorn_3 : decode cX1_readWorn 3 = .ok (.invokevirtual 106, 3) := by decide +kernel
theorem dX1_readWorn_6 : decode cX1_readWorn 6 = .ok (.iconst 1, 1) := by decide +kernel
theorem dX1_readWorn_7 : decode cX1_readWorn 7 = .ok (.isub, 1) := by decide +kernel
theorem dX1_readWorn_8 : decode cX1_readWorn 8 = .ok (.invokevirtual 54, 3) := by decide +kernel
theorem dX1_readWorn_11 : decode cX1_readWorn 11 = .ok (.istore_n 2, 1) := by decide +kernel
theorem dX1_readWorn_12 : decode cX1_readWorn 12 = .ok (.aload_n 1, 1) := by decide +kernel
theorem dX1_readWorn_13 : decode cX1_readWorn 13 = .ok (.iconst 1, 1) := by decide +kernel
theorem dX1_readWorn_14 : decode cX1_readWorn 14 = .ok (.aload_n 0, 1) := by decide +kernel
theorem dX1_readWorn_15 : decode cX1_readWorn 15 = .ok (.iload_n 2, 1) := by decide +kernel
theorem dX1_readWorn_16 : decode cX1_readWorn 16 = .ok (.invokevirtual 112, 3) := by decide +kernel
theorem dX1_readWorn_19 : decode cX1_readWorn 19 = .ok (.iconst 1, 1) := by decide +kernel
theorem dX1_readWorn_20 : decode cX1_readWorn 20 = .ok (.isub, 1) := by decide +kernel
theorem dX1_readWorn_21 : decode cX1_readWorn 21 = .ok (.invokevirtual 54, 3) := by decide +kernel
theorem dX1_readWorn_24 : decode cX1_readWorn 24 = .ok (.istore_n 3, 1) := by decide +kernel
theorem dX1_readWorn_25 : decode cX1_readWorn 25 = .ok (.aload_n 1, 1) := by decide +kernel
theorem dX1_readWorn_26 : decode cX1_readWorn 26 = .ok (.invokevirtual 25, 3) := by decide +kernel
theorem dX1_readWorn_29 : decode cX1_readWorn 29 = .ok (.ifCond .eq 21, 3) := by decide +kernel
theorem dX1_readWorn_32 : decode cX1_readWorn 32 = .ok (.aload_n 0, 1) := by decide +kernel
theorem dX1_readWorn_33 : decode cX1_readWorn 33 = .ok (.iload_n 2, 1) := by decide +kernel
theorem dX1_readWorn_34 : decode cX1_readWorn 34 = .ok (.iload_n 3, 1) := by decide +kernel
theorem dX1_readWorn_35 : decode cX1_readWorn 35 = .ok (.invokevirtual 116, 3) := by decide +kernel
theorem dX1_readWorn_38 : decode cX1_readWorn 38 = .ok (.ifCond .eq 12, 3) := by decide +kernel
theorem dX1_readWorn_41 : decode cX1_readWorn 41 = .ok (.aload_n 1, 1) := by decide +kernel
theorem dX1_readWorn_42 : decode cX1_readWorn 42 = .ok (.aload_n 1, 1) := by decide +kernel
theorem dX1_readWorn_43 : decode cX1_readWorn 43 = .ok (.getfield 75, 3) := by decide +kernel
theorem dX1_readWorn_46 : decode cX1_readWorn 46 = .ok (.iconst 2, 1) := by decide +kernel
theorem dX1_readWorn_47 : decode cX1_readWorn 47 = .ok (.invokevirtual 47, 3) := by decide +kernel
theorem dX1_readWorn_50 : decode cX1_readWorn 50 = .ok (.aload_n 1, 1) := by decide +kernel
theorem dX1_readWorn_51 : decode cX1_readWorn 51 = .ok (.invokevirtual 25, 3) := by decide +kernel
theorem dX1_readWorn_54 : decode cX1_readWorn 54 = .ok (.ifCond .eq 9, 3) := by decide +kernel
theorem dX1_readWorn_57 : decode cX1_readWorn 57 = .ok (.aload_n 0, 1) := by decide +kernel
theorem dX1_readWorn_58 : decode cX1_readWorn 58 = .ok (.iload_n 2, 1) := by decide +kernel
theorem dX1_readWorn_59 : decode cX1_readWorn 59 = .ok (.iload_n 3, 1) := by decide +kernel
theorem dX1_readWorn_60 : decode cX1_readWorn 60 = .ok (.invokevirtual 120, 3) := by decide +kernel
theorem dX1_readWorn_63 : decode cX1_readWorn 63 = .ok (.return_, 1) := by decide +kernel
theorem dX1_readRow_0 : decode cX1_readRow 0 = .ok (.aload_n 1, 1) := by decide +kernel
theorem dX1_readRow_1 : decode cX1_readRow 1 = .ok (.iconst 0, 1) := by decide +kernel
theorem dX1_readRow_2 : decode cX1_readRow 2 = .ok (.aload_n 0, 1) := by decide +kernel
theorem dX1_readRow_3 : decode cX1_readRow 3 = .ok (.getfield 63, 3) := by decide +kernel
theorem dX1_readRow_6 : decode cX1_readRow 6 = .ok (.iconst 1, 1) := by decide +kernel
theorem dX1_readRow_7 : decode cX1_readRow 7 = .ok (.isub, 1) := by decide +kernel
theorem dX1_readRow_8 : decode cX1_readRow 8 = .ok (.invokevirtual 54, 3) := by decide +kernel
theorem dX1_readRow_11 : decode cX1_readRow 11 = .ok (.istore_n 2, 1) := by decide +kernel
theorem dX1_readRow_12 : decode cX1_readRow 12 = .ok (.aload_n 1, 1) := by decide +kernel
theorem dX1_readRow_13 : decode cX1_readRow 13 = .ok (.iconst 0, 1) := by decide +kernel
theorem dX1_readRow_14 : decode cX1_readRow 14 = .ok (.aload_n 0, 1) := by decide +kernel
theorem dX1_readRow_15 : decode cX1_readRow 15 = .ok (.getfield 66, 3) := by decide +kernel
theorem dX1_readRow_18 : decode cX1_readRow 18 = .ok (.invokevirtual 93, 3) := by decide +kernel
theorem dX1_readRow_21 : decode cX1_readRow 21 = .ok (.aload_n 1, 1) := by decide +kernel
theorem dX1_readRow_22 : decode cX1_readRow 22 = .ok (.invokevirtual 25, 3) := by decide +kernel
theorem dX1_readRow_25 : decode cX1_readRow 25 = .ok (.ifCond .eq 17, 3) := by decide +kernel
theorem dX1_readRow_28 : decode cX1_readRow 28 = .ok (.aload_n 0, 1) := by decide +kernel
theorem dX1_readRow_29 : decode cX1_readRow 29 = .ok (.iload_n 2, 1) := by decide +kernel
theorem dX1_readRow_30 : decode cX1_readRow 30 = .ok (.aload_n 1, 1) := by decide +kernel
theorem dX1_readRow_31 : decode cX1_readRow 31 = .ok (.aload_n 1, 1) := by decide +kernel
theorem dX1_readRow_32 : decode cX1_readRow 32 = .ok (.getfield 96, 3) := by decide +kernel
theorem dX1_readRow_35 : decode cX1_readRow 35 = .ok (.aload_n 1, 1) := by decide +kernel
theorem dX1_readRow_36 : decode cX1_readRow 36 = .ok (.getfield 99, 3) := by decide +kernel
theorem dX1_readRow_39 : decode cX1_readRow 39 = .ok (.invokevirtual 123, 3) := by decide +kernel
theorem dX1_readRow_42 : decode cX1_readRow 42 = .ok (.return_, 1) := by decide +kernel
theorem dX1_readLose_0 : decode cX1_readLose 0 = .ok (.aload_n 1, 1) := by decide +kernel
theorem dX1_readLose_1 : decode cX1_readLose 1 = .ok (.iconst 0, 1) := by decide +kernel
theorem dX1_readLose_2 : decode cX1_readLose 2 = .ok (.aload_n 0, 1) := by decide +kernel
theorem dX1_readLose_3 : decode cX1_readLose 3 = .ok (.invokevirtual 106, 3) := by decide +kernel
theorem dX1_readLose_6 : decode cX1_readLose 6 = .ok (.iconst 1, 1) := by decide +kernel
theorem dX1_readLose_7 : decode cX1_readLose 7 = .ok (.isub, 1) := by decide +kernel
theorem dX1_readLose_8 : decode cX1_readLose 8 = .ok (.invokevirtual 54, 3) := by decide +kernel
theorem dX1_readLose_11 : decode cX1_readLose 11 = .ok (.istore_n 2, 1) := by decide +kernel
theorem dX1_readLose_12 : decode cX1_readLose 12 = .ok (.aload_n 1, 1) := by decide +kernel
theorem dX1_readLose_13 : decode cX1_readLose 13 = .ok (.iconst 0, 1) := by decide +kernel
theorem dX1_readLose_14 : decode cX1_readLose 14 = .ok (.bipush 9, 2) := by decide +kernel
theorem dX1_readLose_16 : decode cX1_readLose 16 = .ok (.invokevirtual 54, 3) := by decide +kernel
theorem dX1_readLose_19 : decode cX1_readLose 19 = .ok (.istore_n 3, 1) := by decide +kernel
theorem dX1_readLose_20 : decode cX1_readLose 20 = .ok (.aload_n 1, 1) := by decide +kernel
theorem dX1_readLose_21 : decode cX1_readLose 21 = .ok (.invokevirtual 25, 3) := by decide +kernel
theorem dX1_readLose_24 : decode cX1_readLose 24 = .ok (.ifCond .eq 9, 3) := by decide +kernel
theorem dX1_readLose_27 : decode cX1_readLose 27 = .ok (.aload_n 0, 1) := by decide +kernel
theorem dX1_readLose_28 : decode cX1_readLose 28 = .ok (.iload_n 2, 1) := by decide +kernel
theorem dX1_readLose_29 : decode cX1_readLose 29 = .ok (.iload_n 3, 1) := by decide +kernel
theorem dX1_readLose_30 : decode cX1_readLose 30 = .ok (.invokevirtual 126, 3) := by decide +kernel
theorem dX1_readLose_33 : decode cX1_readLose 33 = .ok (.return_, 1) := by decide +kernel
theorem dX1_readPart_0 : decode cX1_readPart 0 = .ok (.aload_n 1, 1) := by decide +kernel
theorem dX1_readInto_0 : decode cX1_readInto 0 = .ok (.aload_n 0, 1) := by decide +kernel
theorem dX1_readInto_1 : decode cX1_readInto 1 = .ok (.invokevirtual 9, 3) := by decide +kernel
theorem dX1_readInto_4 : decode cX1_readInto 4 = .ok (.aload_n 1, 1) := by decide +kernel
theorem dX1_readInto_5 : decode cX1_readInto 5 = .ok (.invokevirtual 14, 3) := by decide +kernel
theorem dX1_readInto_8 : decode cX1_readInto 8 = .ok (.aload_n 0, 1) := by decide +kernel
theorem dX1_readInto_9 : decode cX1_readInto 9 = .ok (.aload_n 1, 1) := by decide +kernel
theorem dX2_startCounting_0 : decode cX2_startCounting 0 = .ok (.aload_n 0, 1) := by decide +kernel
theorem dX2_startCounting_1 : decode cX2_startCounting 1 = .ok (.iconst 0, 1) := by decide +kernel
theorem dX2_startCounting_2 : decode cX2_startCounting 2 = .ok (.putfield 51, 3) := by decide +kernel
theorem dX2_startCounting_5 : decode cX2_startCounting 5 = .ok (.aload_n 0, 1) := by decide +kernel
theorem dX2_startCounting_6 : decode cX2_startCounting 6 = .ok (.iconst 0, 1) := by decide +kernel
theorem dX2_startCounting_7 : decode cX2_startCounting 7 = .ok (.putfield 52, 3) := by decide +kernel
theorem dX2_startCounting_10 : decode cX2_startCounting 10 = .ok (.aload_n 0, 1) := by decide +kernel
theorem dX2_startCounting_11 : decode cX2_startCounting 11 = .ok (.iconst 0, 1) := by decide +kernel
theorem dX2_startCounting_12 : decode cX2_startCounting 12 = .ok (.putfield 55, 3) := by decide +kernel
theorem dX2_startCounting_15 : decode cX2_startCounting 15 = .ok (.aload_n 0, 1) := by decide +kernel
theorem dX2_startCounting_16 : decode cX2_startCounting 16 = .ok (.iconst 0, 1) := by decide +kernel
theorem dX2_startCounting_17 : decode cX2_startCounting 17 = .ok (.putfield 56, 3) := by decide +kernel
theorem dX2_startCounting_20 : decode cX2_startCounting 20 = .ok (.aload_n 0, 1) := by decide +kernel
theorem dX2_startCounting_21 : decode cX2_startCounting 21 = .ok (.iconst 0, 1) := by decide +kernel
theorem dX2_startCounting_22 : decode cX2_startCounting 22 = .ok (.putfield 59, 3) := by decide +kernel
theorem dX2_startCounting_25 : decode cX2_startCounting 25 = .ok (.aload_n 0, 1) := by decide +kernel
theorem dX2_startCounting_26 : decode cX2_startCounting 26 = .ok (.iconst 0, 1) := by decide +kernel
theorem dX2_startCounting_27 : decode cX2_startCounting 27 = .ok (.putfield 62, 3) := by decide +kernel
theorem dX2_startCounting_30 : decode cX2_startCounting 30 = .ok (.aload_n 0, 1) := by decide +kernel
theorem dX2_startCounting_31 : decode cX2_startCounting 31 = .ok (.iconst 0, 1) := by decide +kernel
theorem dX2_startCounting_32 : decode cX2_startCounting 32 = .ok (.putfield 32, 3) := by decide +kernel
theorem dX2_startCounting_35 : decode cX2_startCounting 35 = .ok (.return_, 1) := by decide +kernel
theorem dX2_sortByLeft_0 : decode cX2_sortByLeft 0 = .ok (.aload_n 0, 1) := by decide +kernel
theorem dX2_sortByLeft_1 : decode cX2_sortByLeft 1 = .ok (.getfield 9, 3) := by decide +kernel
theorem dX2_sortByLeft_4 : decode cX2_sortByLeft 4 = .ok (.iconst (-1), 1) := by decide +kernel
theorem dX2_choose_0 : decode cX2_choose 0 = .ok (.aload_n 0, 1) := by decide +kernel
theorem dX2_choose_1 : decode cX2_choose 1 = .ok (.iconst 0, 1) := by decide +kernel
theorem dX2_choose_2 : decode cX2_choose 2 = .ok (.putfield 28, 3) := by decide +kernel
theorem dX2_choose_5 : decode cX2_choose 5 = .ok (.aload_n 0, 1) := by decide +kernel
theorem dX2_choose_6 : decode cX2_choose 6 = .ok (.iconst 0, 1) := by decide +kernel
theorem dX2_choose_7 : decode cX2_choose 7 = .ok (.putfield 65, 3) := by decide +kernel
theorem dX2_choose_10 : decode cX2_choose 10 = .ok (.aload_n 0, 1) := by decide +kernel
theorem dX2_choose_11 : decode cX2_choose 11 = .ok (.aload_n 1, 1) := by decide +kernel
theorem dX2_countTick_0 : decode cX2_countTick 0 = .ok (.iload_n 1, 1) := by decide +kernel
theorem dX2_countTick_1 : decode cX2_countTick 1 = .ok (.aload_n 0, 1) := by decide +kernel
theorem dX2_countTick_2 : decode cX2_countTick 2 = .ok (.getfield 62, 3) := by decide +kernel
theorem dX2_countTick_5 : decode cX2_countTick 5 = .ok (.if_icmp .le 16, 3) := by decide +kernel
theorem dX2_countTick_8 : decode cX2_countTick 8 = .ok (.aload_n 0, 1) := by decide +kernel
theorem dX2_countTick_9 : decode cX2_countTick 9 = .ok (.iload_n 1, 1) := by decide +kernel
theorem dX2_countTick_10 : decode cX2_countTick 10 = .ok (.putfield 62, 3) := by decide +kernel
theorem dX2_countTick_13 : decode cX2_countTick 13 = .ok (.aload_n 0, 1) := by decide +kernel
theorem dX2_countTick_14 : decode cX2_countTick 14 = .ok (.aload_n 0, 1) := by decide +kernel
theorem dX2_countTick_15 : decode cX2_countTick 15 = .ok (.getfield 51, 3) := by decide +kernel
theorem dX2_countTick_18 : decode cX2_countTick 18 = .ok (.putfield 59, 3) := by decide +kernel
theorem dX2_countTick_21 : decode cX2_countTick 21 = .ok (.aload_n 0, 1) := by decide +kernel
theorem dX2_countTick_22 : decode cX2_countTick 22 = .ok (.aload_n 0, 1) := by decide +kernel
theorem dX2_countTick_23 : decode cX2_countTick 23 = .ok (.getfield 56, 3) := by decide +kernel
theorem dX2_countTick_26 : decode cX2_countTick 26 = .ok (.aload_n 0, 1) := by decide +kernel
theorem dX2_countTick_27 : decode cX2_countTick 27 = .ok (.getfield 65, 3) := by decide +kernel
theorem dX2_countTick_30 : decode cX2_countTick 30 = .ok (.invokestatic 68, 3) := by decide +kernel
theorem dX2_countTick_33 : decode cX2_countTick 33 = .ok (.putfield 56, 3) := by decide +kernel
theorem dX2_countTick_36 : decode cX2_countTick 36 = .ok (.aload_n 0, 1) := by decide +kernel
theorem dX2_countTick_37 : decode cX2_countTick 37 = .ok (.dup, 1) := by decide +kernel
theorem dX2_countTick_38 : decode cX2_countTick 38 = .ok (.getfield 55, 3) := by decide +kernel
theorem dX2_countTick_41 : decode cX2_countTick 41 = .ok (.iload_n 1, 1) := by decide +kernel
theorem dX2_countTick_42 : decode cX2_countTick 42 = .ok (.iadd, 1) := by decide +kernel
theorem dX2_countTick_43 : decode cX2_countTick 43 = .ok (.putfield 55, 3) := by decide +kernel
theorem dX2_countTick_46 : decode cX2_countTick 46 = .ok (.aload_n 0, 1) := by decide +kernel
theorem dX2_countTick_47 : decode cX2_countTick 47 = .ok (.dup, 1) := by decide +kernel
theorem dX2_countTick_48 : decode cX2_countTick 48 = .ok (.getfield 52, 3) := by decide +kernel
theorem dX2_countTick_51 : decode cX2_countTick 51 = .ok (.aload_n 0, 1) := by decide +kernel
theorem dX2_countTick_52 : decode cX2_countTick 52 = .ok (.getfield 28, 3) := by decide +kernel
theorem dX2_countTick_55 : decode cX2_countTick 55 = .ok (.iadd, 1) := by decide +kernel
theorem dX2_countTick_56 : decode cX2_countTick 56 = .ok (.putfield 52, 3) := by decide +kernel
theorem dX2_countTick_59 : decode cX2_countTick 59 = .ok (.aload_n 0, 1) := by decide +kernel
theorem dX2_countTick_60 : decode cX2_countTick 60 = .ok (.dup, 1) := by decide +kernel
theorem dX2_countTick_61 : decode cX2_countTick 61 = .ok (.getfield 51, 3) := by decide +kernel
theorem dX2_countTick_64 : decode cX2_countTick 64 = .ok (.iconst 1, 1) := by decide +kernel
theorem dX2_countTick_65 : decode cX2_countTick 65 = .ok (.iadd, 1) := by decide +kernel
theorem dX2_countTick_66 : decode cX2_countTick 66 = .ok (.putfield 51, 3) := by decide +kernel
theorem dX2_countTick_69 : decode cX2_countTick 69 = .ok (.return_, 1) := by decide +kernel
theorem dX2_turn_0 : decode cX2_turn 0 = .ok (.aload_n 0, 1) := by decide +kernel
theorem dX2_turn_1 : decode cX2_turn 1 = .ok (.invokevirtual 21, 3) := by decide +kernel
theorem dX2_turn_4 : decode cX2_turn 4 = .ok (.iconst 0, 1) := by decide +kernel
theorem dX2_turn_5 : decode cX2_turn 5 = .ok (.istore_n 3, 1) := by decide +kernel
theorem dX2_turn_6 : decode cX2_turn 6 = .ok (.iload_n 3, 1) := by decide +kernel
theorem dX2_turn_7 : decode cX2_turn 7 = .ok (.iload_n 2, 1) := by decide +kernel
theorem dX2_turn_8 : decode cX2_turn 8 = .ok (.if_icmp .ge 101, 3) := by decide +kernel
theorem dX2_turn_11 : decode cX2_turn 11 = .ok (.aload_n 0, 1) := by decide +kernel
theorem dX2_turn_12 : decode cX2_turn 12 = .ok (.aload_n 1, 1) := by decide +kernel
theorem dX2_chosenBits_0 : decode cX2_chosenBits 0 = .ok (.lconst 0, 1) := by decide +kernel
theorem dX2_chosenBits_1 : decode cX2_chosenBits 1 = .ok (.lstore_n 1, 1) := by decide +kernel
theorem dX2_chosenBits_2 : decode cX2_chosenBits 2 = .ok (.iconst 0, 1) := by decide +kernel
theorem dX2_chosenBits_3 : decode cX2_chosenBits 3 = .ok (.istore_n 3, 1) := by decide +kernel
theorem dX2_chosenBits_4 : decode cX2_chosenBits 4 = .ok (.iload_n 3, 1) := by decide +kernel
theorem dX2_chosenBits_5 : decode cX2_chosenBits 5 = .ok (.aload_n 0, 1) := by decide +kernel
theorem dX2_chosenBits_6 : decode cX2_chosenBits 6 = .ok (.getfield 28, 3) := by decide +kernel
theorem dX2_chosenBits_9 : decode cX2_chosenBits 9 = .ok (.if_icmp .ge 20, 3) := by decide +kernel
theorem dX2_chosenBits_12 : decode cX2_chosenBits 12 = .ok (.lload_n 1, 1) := by decide +kernel
theorem dX2_chosenBits_13 : decode cX2_chosenBits 13 = .ok (.lconst 1, 1) := by decide +kernel
theorem dX2_chosenBits_14 : decode cX2_chosenBits 14 = .ok (.aload_n 0, 1) := by decide +kernel
theorem dX2_chosenBits_15 : decode cX2_chosenBits 15 = .ok (.getfield 18, 3) := by decide +kernel
theorem dX2_chosenBits_18 : decode cX2_chosenBits 18 = .ok (.iload_n 3, 1) := by decide +kernel
theorem dX2_chosenBits_19 : decode cX2_chosenBits 19 = .ok (.iaload, 1) := by decide +kernel
theorem dX2_chosenBits_20 : decode cX2_chosenBits 20 = .ok (.lshl, 1) := by decide +kernel
theorem dX2_chosenBits_21 : decode cX2_chosenBits 21 = .ok (.lor, 1) := by decide +kernel
theorem dX2_chosenBits_22 : decode cX2_chosenBits 22 = .ok (.lstore_n 1, 1) := by decide +kernel
theorem dX2_chosenBits_23 : decode cX2_chosenBits 23 = .ok (.iinc 3 1, 3) := by decide +kernel
theorem dX2_chosenBits_26 : decode cX2_chosenBits 26 = .ok (.goto (-22), 3) := by decide +kernel
theorem dX2_chosenBits_29 : decode cX2_chosenBits 29 = .ok (.lload_n 1, 1) := by decide +kernel
theorem dX2_chosenBits_30 : decode cX2_chosenBits 30 = .ok (.lreturn, 1) := by decide +kernel
theorem dX4_hasStep_0 : decode cX4_hasStep 0 = .ok (.iload_n 1, 1) := by decide +kernel
theorem dX4_hasStep_1 : decode cX4_hasStep 1 = .ok (.ifCond .lt 15, 3) := by decide +kernel
theorem dX4_hasStep_4 : decode cX4_hasStep 4 = .ok (.iload_n 1, 1) := by decide +kernel
theorem dX4_hasStep_5 : decode cX4_hasStep 5 = .ok (.aload_n 0, 1) := by decide +kernel
theorem dX4_hasStep_6 : decode cX4_hasStep 6 = .ok (.getfield 33, 3) := by decide +kernel
theorem dX4_hasStep_9 : decode cX4_hasStep 9 = .ok (.if_icmp .ge 7, 3) := by decide +kernel
theorem dX4_hasStep_12 : decode cX4_hasStep 12 = .ok (.iconst 1, 1) := by decide +kernel
theorem dX4_hasStep_13 : decode cX4_hasStep 13 = .ok (.goto 4, 3) := by decide +kernel
theorem dX4_hasStep_16 : decode cX4_hasStep 16 = .ok (.iconst 0, 1) := by decide +kernel
theorem dX4_hasStep_17 : decode cX4_hasStep 17 = .ok (.ireturn, 1) := by decide +kernel
theorem dX4_kindOf_0 : decode cX4_kindOf 0 = .ok (.aload_n 0, 1) := by decide +kernel
theorem dX4_kindOf_1 : decode cX4_kindOf 1 = .ok (.iload_n 1, 1) := by decide +kernel
theorem dX4_kindOf_2 : decode cX4_kindOf 2 = .ok (.invokevirtual 37, 3) := by decide +kernel
theorem dX4_kindOf_5 : decode cX4_kindOf 5 = .ok (.ifCond .eq 12, 3) := by decide +kernel
theorem dX4_kindOf_8 : decode cX4_kindOf 8 = .ok (.aload_n 0, 1) := by decide +kernel
theorem dX4_kindOf_9 : decode cX4_kindOf 9 = .ok (.getfield 11, 3) := by decide +kernel
theorem dX4_kindOf_12 : decode cX4_kindOf 12 = .ok (.iload_n 1, 1) := by decide +kernel
theorem dX4_kindOf_13 : decode cX4_kindOf 13 = .ok (.iaload, 1) := by decide +kernel
theorem dX4_kindOf_14 : decode cX4_kindOf 14 = .ok (.goto 4, 3) := by decide +kernel
theorem dX4_kindOf_17 : decode cX4_kindOf 17 = .ok (.iconst 0, 1) := by decide +kernel
theorem dX4_kindOf_18 : decode cX4_kindOf 18 = .ok (.ireturn, 1) := by decide +kernel
theorem dX4_oneOf_0 : decode cX4_oneOf 0 = .ok (.aload_n 0, 1) := by decide +kernel
theorem dX4_oneOf_1 : decode cX4_oneOf 1 = .ok (.iload_n 1, 1) := by decide +kernel
theorem dX4_oneOf_2 : decode cX4_oneOf 2 = .ok (.invokevirtual 37, 3) := by decide +kernel
theorem dX4_oneOf_5 : decode cX4_oneOf 5 = .ok (.ifCond .eq 12, 3) := by decide +kernel
theorem dX4_oneOf_8 : decode cX4_oneOf 8 = .ok (.aload_n 0, 1) := by decide +kernel
theorem dX4_oneOf_9 : decode cX4_oneOf 9 = .ok (.getfield 15, 3) := by decide +kernel
theorem dX4_oneOf_12 : decode cX4_oneOf 12 = .ok (.iload_n 1, 1) := by decide +kernel
theorem dX4_oneOf_13 : decode cX4_oneOf 13 = .ok (.iaload, 1) := by decide +kernel
