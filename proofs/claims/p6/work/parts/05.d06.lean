theorem dX6_best_140 : decode cX6_best 140 = .ok (.iload 10, 2) := by decide +kernel
theorem dX6_best_142 : decode cX6_best 142 = .ok (.iload 6, 2) := by decide +kernel
theorem dX6_best_144 : decode cX6_best 144 = .ok (.if_icmp .lt 17, 3) := by decide +kernel
theorem dX6_best_147 : decode cX6_best 147 = .ok (.iload 10, 2) := by decide +kernel
theorem dX6_best_149 : decode cX6_best 149 = .ok (.iload 6, 2) := by decide +kernel
theorem dX6_best_151 : decode cX6_best 151 = .ok (.if_icmp .ne 21, 3) := by decide +kernel
theorem dX6_best_154 : decode cX6_best 154 = .ok (.iload 11, 2) := by decide +kernel
theorem dX6_best_156 : decode cX6_best 156 = .ok (.iload 7, 2) := by decide +kernel
theorem dX6_best_158 : decode cX6_best 158 = .ok (.if_icmp .ge 14, 3) := by decide +kernel
theorem dX6_best_161 : decode cX6_best 161 = .ok (.iload_n 3, 1) := by decide +kernel
theorem dX6_best_162 : decode cX6_best 162 = .ok (.istore 5, 2) := by decide +kernel
theorem dX6_best_164 : decode cX6_best 164 = .ok (.iload 10, 2) := by decide +kernel
theorem dX6_best_166 : decode cX6_best 166 = .ok (.istore 6, 2) := by decide +kernel
theorem dX6_best_168 : decode cX6_best 168 = .ok (.iload 11, 2) := by decide +kernel
theorem dX6_best_170 : decode cX6_best 170 = .ok (.istore 7, 2) := by decide +kernel
theorem dX6_best_172 : decode cX6_best 172 = .ok (.iinc 3 1, 3) := by decide +kernel
theorem dX6_best_175 : decode cX6_best 175 = .ok (.iload 8, 2) := by decide +kernel
theorem dX6_best_177 : decode cX6_best 177 = .ok (.iconst 1, 1) := by decide +kernel
theorem dX6_best_178 : decode cX6_best 178 = .ok (.iadd, 1) := by decide +kernel
theorem dX6_best_179 : decode cX6_best 179 = .ok (.istore 4, 2) := by decide +kernel
theorem dX6_best_181 : decode cX6_best 181 = .ok (.iinc 8 1, 3) := by decide +kernel
theorem dX6_best_184 : decode cX6_best 184 = .ok (.goto (-145), 3) := by decide +kernel
theorem dX6_best_187 : decode cX6_best 187 = .ok (.iload_n 2, 1) := by decide +kernel
theorem dX6_best_188 : decode cX6_best 188 = .ok (.ifCond .ne 8, 3) := by decide +kernel
theorem dX6_best_191 : decode cX6_best 191 = .ok (.iload 5, 2) := by decide +kernel
theorem dX6_best_193 : decode cX6_best 193 = .ok (.goto 15, 3) := by decide +kernel
theorem dX6_best_196 : decode cX6_best 196 = .ok (.iload_n 2, 1) := by decide +kernel
theorem dX6_best_197 : decode cX6_best 197 = .ok (.iconst 1, 1) := by decide +kernel
theorem dX6_best_198 : decode cX6_best 198 = .ok (.if_icmp .ne 8, 3) := by decide +kernel
theorem dX6_best_201 : decode cX6_best 201 = .ok (.iload 6, 2) := by decide +kernel
theorem dX6_best_203 : decode cX6_best 203 = .ok (.goto 5, 3) := by decide +kernel
theorem dX6_best_206 : decode cX6_best 206 = .ok (.iload 7, 2) := by decide +kernel
theorem dX6_best_208 : decode cX6_best 208 = .ok (.ireturn, 1) := by decide +kernel
theorem dX6_place_0 : decode cX6_place 0 = .ok (.aload_n 0, 1) := by decide +kernel
theorem dX6_place_1 : decode cX6_place 1 = .ok (.getfield 19, 3) := by decide +kernel
theorem dX6_place_4 : decode cX6_place 4 = .ok (.iload_n 1, 1) := by decide +kernel
theorem dX6_place_5 : decode cX6_place 5 = .ok (.invokevirtual 258, 3) := by decide +kernel
theorem dX6_place_8 : decode cX6_place 8 = .ok (.ifCond .eq 12, 3) := by decide +kernel
theorem dX6_place_11 : decode cX6_place 11 = .ok (.iload_n 2, 1) := by decide +kernel
theorem dX6_place_12 : decode cX6_place 12 = .ok (.ifCond .lt 8, 3) := by decide +kernel
theorem dX6_place_15 : decode cX6_place 15 = .ok (.iload_n 2, 1) := by decide +kernel
theorem dX6_place_16 : decode cX6_place 16 = .ok (.iconst 1, 1) := by decide +kernel
theorem dX6_place_17 : decode cX6_place 17 = .ok (.if_icmp .le 5, 3) := by decide +kernel
theorem dX6_place_20 : decode cX6_place 20 = .ok (.iconst (-1), 1) := by decide +kernel
theorem dX6_place_21 : decode cX6_place 21 = .ok (.ireturn, 1) := by decide +kernel
theorem dX6_place_22 : decode cX6_place 22 = .ok (.aload_n 0, 1) := by decide +kernel
theorem dX6_place_23 : decode cX6_place 23 = .ok (.getfield 10, 3) := by decide +kernel
theorem dX6_place_26 : decode cX6_place 26 = .ok (.getfield 51, 3) := by decide +kernel
theorem dX6_place_29 : decode cX6_place 29 = .ok (.istore_n 3, 1) := by decide +kernel
theorem dX6_place_30 : decode cX6_place 30 = .ok (.iload_n 3, 1) := by decide +kernel
theorem dX6_place_31 : decode cX6_place 31 = .ok (.ifCond .eq 12, 3) := by decide +kernel
theorem dX6_place_34 : decode cX6_place 34 = .ok (.aload_n 0, 1) := by decide +kernel
theorem dX6_place_35 : decode cX6_place 35 = .ok (.iconst 0, 1) := by decide +kernel
theorem dX6_place_36 : decode cX6_place 36 = .ok (.iload_n 3, 1) := by decide +kernel
theorem dX6_place_37 : decode cX6_place 37 = .ok (.invokevirtual 329, 3) := by decide +kernel
theorem dX6_place_40 : decode cX6_place 40 = .ok (.ifCond .ne 6, 3) := by decide +kernel
theorem dX6_place_43 : decode cX6_place 43 = .ok (.bipush (-2), 2) := by decide +kernel
theorem dX6_place_45 : decode cX6_place 45 = .ok (.ireturn, 1) := by decide +kernel
theorem dX6_place_46 : decode cX6_place 46 = .ok (.iconst (-1), 1) := by decide +kernel
theorem dX6_place_47 : decode cX6_place 47 = .ok (.istore 4, 2) := by decide +kernel
theorem dX6_place_49 : decode cX6_place 49 = .ok (.iconst 0, 1) := by decide +kernel
theorem dX6_place_50 : decode cX6_place 50 = .ok (.istore 5, 2) := by decide +kernel
theorem dX6_place_52 : decode cX6_place 52 = .ok (.iconst 0, 1) := by decide +kernel
theorem dX6_place_53 : decode cX6_place 53 = .ok (.istore 6, 2) := by decide +kernel
theorem dX6_place_55 : decode cX6_place 55 = .ok (.iconst 0, 1) := by decide +kernel
theorem dX6_place_56 : decode cX6_place 56 = .ok (.istore 7, 2) := by decide +kernel
theorem dX6_place_58 : decode cX6_place 58 = .ok (.iload 7, 2) := by decide +kernel
theorem dX6_place_60 : decode cX6_place 60 = .ok (.iload_n 3, 1) := by decide +kernel
theorem dX6_place_61 : decode cX6_place 61 = .ok (.iadd, 1) := by decide +kernel
theorem dX6_place_62 : decode cX6_place 62 = .ok (.aload_n 0, 1) := by decide +kernel
theorem dX6_place_63 : decode cX6_place 63 = .ok (.getfield 19, 3) := by decide +kernel
theorem dX6_place_66 : decode cX6_place 66 = .ok (.getfield 261, 3) := by decide +kernel
theorem dX6_place_69 : decode cX6_place 69 = .ok (.if_icmp .gt 84, 3) := by decide +kernel
theorem dX6_place_72 : decode cX6_place 72 = .ok (.aload_n 0, 1) := by decide +kernel
theorem dX6_place_73 : decode cX6_place 73 = .ok (.getfield 19, 3) := by decide +kernel
theorem dX6_place_76 : decode cX6_place 76 = .ok (.iload_n 1, 1) := by decide +kernel
theorem dX6_place_77 : decode cX6_place 77 = .ok (.iload 7, 2) := by decide +kernel
theorem dX6_place_79 : decode cX6_place 79 = .ok (.aload_n 0, 1) := by decide +kernel
theorem dX6_place_80 : decode cX6_place 80 = .ok (.getfield 10, 3) := by decide +kernel
theorem dX6_place_83 : decode cX6_place 83 = .ok (.iconst 0, 1) := by decide +kernel
theorem dX6_place_84 : decode cX6_place 84 = .ok (.iload_n 3, 1) := by decide +kernel
theorem dX6_place_85 : decode cX6_place 85 = .ok (.invokevirtual 322, 3) := by decide +kernel
theorem dX6_place_88 : decode cX6_place 88 = .ok (.istore 8, 2) := by decide +kernel
theorem dX6_place_90 : decode cX6_place 90 = .ok (.aload_n 0, 1) := by decide +kernel
theorem dX6_place_91 : decode cX6_place 91 = .ok (.getfield 19, 3) := by decide +kernel
theorem dX6_place_94 : decode cX6_place 94 = .ok (.iload_n 1, 1) := by decide +kernel
theorem dX6_place_95 : decode cX6_place 95 = .ok (.iload 7, 2) := by decide +kernel
theorem dX6_place_97 : decode cX6_place 97 = .ok (.aload_n 0, 1) := by decide +kernel
theorem dX6_place_98 : decode cX6_place 98 = .ok (.getfield 10, 3) := by decide +kernel
theorem dX6_place_101 : decode cX6_place 101 = .ok (.iconst 0, 1) := by decide +kernel
theorem dX6_place_102 : decode cX6_place 102 = .ok (.iload_n 3, 1) := by decide +kernel
theorem dX6_place_103 : decode cX6_place 103 = .ok (.invokevirtual 332, 3) := by decide +kernel
theorem dX6_place_106 : decode cX6_place 106 = .ok (.istore 9, 2) := by decide +kernel
theorem dX6_place_108 : decode cX6_place 108 = .ok (.iload 4, 2) := by decide +kernel
theorem dX6_place_110 : decode cX6_place 110 = .ok (.iconst (-1), 1) := by decide +kernel
theorem dX6_place_111 : decode cX6_place 111 = .ok (.if_icmp .eq 24, 3) := by decide +kernel
theorem dX6_place_114 : decode cX6_place 114 = .ok (.iload 9, 2) := by decide +kernel
theorem dX6_place_116 : decode cX6_place 116 = .ok (.iload 6, 2) := by decide +kernel
theorem dX6_place_118 : decode cX6_place 118 = .ok (.if_icmp .lt 17, 3) := by decide +kernel
theorem dX6_place_121 : decode cX6_place 121 = .ok (.iload 9, 2) := by decide +kernel
theorem dX6_place_123 : decode cX6_place 123 = .ok (.iload 6, 2) := by decide +kernel
theorem dX6_place_125 : decode cX6_place 125 = .ok (.if_icmp .ne 22, 3) := by decide +kernel
theorem dX6_place_128 : decode cX6_place 128 = .ok (.iload 8, 2) := by decide +kernel
theorem dX6_place_130 : decode cX6_place 130 = .ok (.iload 5, 2) := by decide +kernel
theorem dX6_place_132 : decode cX6_place 132 = .ok (.if_icmp .ge 15, 3) := by decide +kernel
theorem dX6_place_135 : decode cX6_place 135 = .ok (.iload 7, 2) := by decide +kernel
theorem dX6_place_137 : decode cX6_place 137 = .ok (.istore 4, 2) := by decide +kernel
theorem dX6_place_139 : decode cX6_place 139 = .ok (.iload 8, 2) := by decide +kernel
theorem dX6_place_141 : decode cX6_place 141 = .ok (.istore 5, 2) := by decide +kernel
theorem dX6_place_143 : decode cX6_place 143 = .ok (.iload 9, 2) := by decide +kernel
theorem dX6_place_145 : decode cX6_place 145 = .ok (.istore 6, 2) := by decide +kernel
theorem dX6_place_147 : decode cX6_place 147 = .ok (.iinc 7 1, 3) := by decide +kernel
theorem dX6_place_150 : decode cX6_place 150 = .ok (.goto (-92), 3) := by decide +kernel
theorem dX6_place_153 : decode cX6_place 153 = .ok (.iload_n 2, 1) := by decide +kernel
theorem dX6_place_154 : decode cX6_place 154 = .ok (.ifCond .ne 8, 3) := by decide +kernel
theorem dX6_place_157 : decode cX6_place 157 = .ok (.iload 4, 2) := by decide +kernel
theorem dX6_place_159 : decode cX6_place 159 = .ok (.goto 5, 3) := by decide +kernel
theorem dX6_place_162 : decode cX6_place 162 = .ok (.iload 5, 2) := by decide +kernel
theorem dX6_place_164 : decode cX6_place 164 = .ok (.ireturn, 1) := by decide +kernel
theorem dX6_log_0 : decode cX6_log 0 = .ok (.aload_n 0, 1) := by decide +kernel
theorem dX6_log_1 : decode cX6_log 1 = .ok (.getfield 19, 3) := by decide +kernel
theorem dX6_log_4 : decode cX6_log 4 = .ok (.iload_n 1, 1) := by decide +kernel
theorem dX6_log_5 : decode cX6_log 5 = .ok (.invokevirtual 236, 3) := by decide +kernel
theorem dX6_log_8 : decode cX6_log 8 = .ok (.ifCond .ne 5, 3) := by decide +kernel
theorem dX6_log_11 : decode cX6_log 11 = .ok (.iconst (-1), 1) := by decide +kernel
theorem dX6_log_12 : decode cX6_log 12 = .ok (.ireturn, 1) := by decide +kernel
theorem dX6_log_13 : decode cX6_log 13 = .ok (.iload_n 2, 1) := by decide +kernel
theorem dX6_log_14 : decode cX6_log 14 = .ok (.tableswitch 53 0 2 #[26, 35, 44], 26) := by decide +kernel
theorem dX6_log_40 : decode cX6_log 40 = .ok (.aload_n 0, 1) := by decide +kernel
theorem dX6_log_41 : decode cX6_log 41 = .ok (.getfield 19, 3) := by decide +kernel
theorem dX6_log_44 : decode cX6_log 44 = .ok (.iload_n 1, 1) := by decide +kernel
theorem dX6_log_45 : decode cX6_log 45 = .ok (.invokevirtual 338, 3) := by decide +kernel
theorem dX6_log_48 : decode cX6_log 48 = .ok (.ireturn, 1) := by decide +kernel
theorem dX6_log_49 : decode cX6_log 49 = .ok (.aload_n 0, 1) := by decide +kernel
theorem dX6_log_50 : decode cX6_log 50 = .ok (.getfield 19, 3) := by decide +kernel
theorem dX6_log_53 : decode cX6_log 53 = .ok (.iload_n 1, 1) := by decide +kernel
theorem dX6_log_54 : decode cX6_log 54 = .ok (.invokevirtual 341, 3) := by decide +kernel
theorem dX6_log_57 : decode cX6_log 57 = .ok (.ireturn, 1) := by decide +kernel
theorem dX6_log_58 : decode cX6_log 58 = .ok (.aload_n 0, 1) := by decide +kernel
theorem dX6_log_59 : decode cX6_log 59 = .ok (.getfield 19, 3) := by decide +kernel
theorem dX6_log_62 : decode cX6_log 62 = .ok (.iload_n 1, 1) := by decide +kernel
theorem dX6_log_63 : decode cX6_log 63 = .ok (.invokevirtual 344, 3) := by decide +kernel
theorem dX6_log_66 : decode cX6_log 66 = .ok (.ireturn, 1) := by decide +kernel
theorem dX6_log_67 : decode cX6_log 67 = .ok (.iconst (-1), 1) := by decide +kernel
theorem dX6_log_68 : decode cX6_log 68 = .ok (.ireturn, 1) := by decide +kernel
theorem dX6_often_0 : decode cX6_often 0 = .ok (.aload_n 0, 1) := by decide +kernel
theorem dX6_often_1 : decode cX6_often 1 = .ok (.getfield 19, 3) := by decide +kernel
theorem dX6_often_4 : decode cX6_often 4 = .ok (.iload_n 1, 1) := by decide +kernel
theorem dX6_often_5 : decode cX6_often 5 = .ok (.invokevirtual 236, 3) := by decide +kernel
theorem dX6_often_8 : decode cX6_often 8 = .ok (.ifCond .eq 19, 3) := by decide +kernel
theorem dX6_often_11 : decode cX6_often 11 = .ok (.iload_n 2, 1) := by decide +kernel
theorem dX6_often_12 : decode cX6_often 12 = .ok (.ifCond .lt 15, 3) := by decide +kernel
theorem dX6_often_15 : decode cX6_often 15 = .ok (.iload_n 2, 1) := by decide +kernel
theorem dX6_often_16 : decode cX6_often 16 = .ok (.aload_n 0, 1) := by decide +kernel
theorem dX6_often_17 : decode cX6_often 17 = .ok (.getfield 19, 3) := by decide +kernel
theorem dX6_often_20 : decode cX6_often 20 = .ok (.iload_n 1, 1) := by decide +kernel
theorem dX6_often_21 : decode cX6_often 21 = .ok (.invokevirtual 242, 3) := by decide +kernel
theorem dX6_often_24 : decode cX6_often 24 = .ok (.if_icmp .lt 5, 3) := by decide +kernel
theorem dX6_often_27 : decode cX6_often 27 = .ok (.iconst (-1), 1) := by decide +kernel
theorem dX6_often_28 : decode cX6_often 28 = .ok (.ireturn, 1) := by decide +kernel
theorem dX6_often_29 : decode cX6_often 29 = .ok (.aload_n 0, 1) := by decide +kernel
theorem dX6_often_30 : decode cX6_often 30 = .ok (.getfield 19, 3) := by decide +kernel
theorem dX6_often_33 : decode cX6_often 33 = .ok (.iload_n 1, 1) := by decide +kernel
theorem dX6_often_34 : decode cX6_often 34 = .ok (.iload_n 2, 1) := by decide +kernel
theorem dX6_often_35 : decode cX6_often 35 = .ok (.iload_n 3, 1) := by decide +kernel
theorem dX6_often_36 : decode cX6_often 36 = .ok (.invokevirtual 347, 3) := by decide +kernel
theorem dX6_often_39 : decode cX6_often 39 = .ok (.ireturn, 1) := by decide +kernel
theorem dX6_usual_0 : decode cX6_usual 0 = .ok (.aload_n 0, 1) := by decide +kernel
theorem dX6_usual_1 : decode cX6_usual 1 = .ok (.getfield 19, 3) := by decide +kernel
theorem dX6_usual_4 : decode cX6_usual 4 = .ok (.iload_n 1, 1) := by decide +kernel
theorem dX6_usual_5 : decode cX6_usual 5 = .ok (.invokevirtual 236, 3) := by decide +kernel
theorem dX6_usual_8 : decode cX6_usual 8 = .ok (.ifCond .eq 12, 3) := by decide +kernel
theorem dX6_usual_11 : decode cX6_usual 11 = .ok (.iload_n 2, 1) := by decide +kernel
theorem dX6_usual_12 : decode cX6_usual 12 = .ok (.ifCond .lt 8, 3) := by decide +kernel
theorem dX6_usual_15 : decode cX6_usual 15 = .ok (.iload_n 2, 1) := by decide +kernel
theorem dX6_usual_16 : decode cX6_usual 16 = .ok (.iconst 1, 1) := by decide +kernel
theorem dX6_usual_17 : decode cX6_usual 17 = .ok (.if_icmp .le 5, 3) := by decide +kernel
theorem dX6_usual_20 : decode cX6_usual 20 = .ok (.iconst (-1), 1) := by decide +kernel
theorem dX6_usual_21 : decode cX6_usual 21 = .ok (.ireturn, 1) := by decide +kernel
theorem dX6_usual_22 : decode cX6_usual 22 = .ok (.iconst (-1), 1) := by decide +kernel
theorem dX6_usual_23 : decode cX6_usual 23 = .ok (.istore_n 3, 1) := by decide +kernel
theorem dX6_usual_24 : decode cX6_usual 24 = .ok (.iconst 0, 1) := by decide +kernel
theorem dX6_usual_25 : decode cX6_usual 25 = .ok (.istore 4, 2) := by decide +kernel
theorem dX6_usual_27 : decode cX6_usual 27 = .ok (.iconst 0, 1) := by decide +kernel
theorem dX6_usual_28 : decode cX6_usual 28 = .ok (.istore 5, 2) := by decide +kernel
theorem dX6_usual_30 : decode cX6_usual 30 = .ok (.iload 5, 2) := by decide +kernel
theorem dX6_usual_32 : decode cX6_usual 32 = .ok (.aload_n 0, 1) := by decide +kernel
theorem dX6_usual_33 : decode cX6_usual 33 = .ok (.getfield 19, 3) := by decide +kernel
theorem dX6_usual_36 : decode cX6_usual 36 = .ok (.iload_n 1, 1) := by decide +kernel
theorem dX6_usual_37 : decode cX6_usual 37 = .ok (.invokevirtual 242, 3) := by decide +kernel
theorem dX6_usual_40 : decode cX6_usual 40 = .ok (.if_icmp .ge 36, 3) := by decide +kernel
theorem dX6_usual_43 : decode cX6_usual 43 = .ok (.aload_n 0, 1) := by decide +kernel
theorem dX6_usual_44 : decode cX6_usual 44 = .ok (.getfield 19, 3) := by decide +kernel
theorem dX6_usual_47 : decode cX6_usual 47 = .ok (.iload_n 1, 1) := by decide +kernel
theorem dX6_usual_48 : decode cX6_usual 48 = .ok (.iload 5, 2) := by decide +kernel
theorem dX6_usual_50 : decode cX6_usual 50 = .ok (.iconst 1, 1) := by decide +kernel
theorem dX6_usual_51 : decode cX6_usual 51 = .ok (.invokevirtual 347, 3) := by decide +kernel
theorem dX6_usual_54 : decode cX6_usual 54 = .ok (.istore 6, 2) := by decide +kernel
theorem dX6_usual_56 : decode cX6_usual 56 = .ok (.iload 6, 2) := by decide +kernel
theorem dX6_usual_58 : decode cX6_usual 58 = .ok (.iload 4, 2) := by decide +kernel
theorem dX6_usual_60 : decode cX6_usual 60 = .ok (.if_icmp .le 10, 3) := by decide +kernel
theorem dX6_usual_63 : decode cX6_usual 63 = .ok (.iload 5, 2) := by decide +kernel
theorem dX6_usual_65 : decode cX6_usual 65 = .ok (.istore_n 3, 1) := by decide +kernel
theorem dX6_usual_66 : decode cX6_usual 66 = .ok (.iload 6, 2) := by decide +kernel
theorem dX6_usual_68 : decode cX6_usual 68 = .ok (.istore 4, 2) := by decide +kernel
theorem dX6_usual_70 : decode cX6_usual 70 = .ok (.iinc 5 1, 3) := by decide +kernel
theorem dX6_usual_73 : decode cX6_usual 73 = .ok (.goto (-43), 3) := by decide +kernel
theorem dX6_usual_76 : decode cX6_usual 76 = .ok (.iload_n 3, 1) := by decide +kernel
theorem dX6_usual_77 : decode cX6_usual 77 = .ok (.iconst (-1), 1) := by decide +kernel
theorem dX6_usual_78 : decode cX6_usual 78 = .ok (.if_icmp .ne 6, 3) := by decide +kernel
theorem dX6_usual_81 : decode cX6_usual 81 = .ok (.bipush (-2), 2) := by decide +kernel
theorem dX6_usual_83 : decode cX6_usual 83 = .ok (.ireturn, 1) := by decide +kernel
theorem dX6_usual_84 : decode cX6_usual 84 = .ok (.iload_n 2, 1) := by decide +kernel
theorem dX6_usual_85 : decode cX6_usual 85 = .ok (.ifCond .ne 7, 3) := by decide +kernel
theorem dX6_usual_88 : decode cX6_usual 88 = .ok (.iload_n 3, 1) := by decide +kernel
theorem dX6_usual_89 : decode cX6_usual 89 = .ok (.goto 5, 3) := by decide +kernel
theorem dX6_usual_92 : decode cX6_usual 92 = .ok (.iload 4, 2) := by decide +kernel
theorem dX6_usual_94 : decode cX6_usual 94 = .ok (.ireturn, 1) := by decide +kernel
theorem dX6_better_0 : decode cX6_better 0 = .ok (.aload_n 0, 1) := by decide +kernel
theorem dX6_better_1 : decode cX6_better 1 = .ok (.getfield 19, 3) := by decide +kernel
theorem dX6_better_4 : decode cX6_better 4 = .ok (.iload_n 1, 1) := by decide +kernel
theorem dX6_better_5 : decode cX6_better 5 = .ok (.invokevirtual 236, 3) := by decide +kernel
theorem dX6_better_8 : decode cX6_better 8 = .ok (.ifCond .eq 12, 3) := by decide +kernel
theorem dX6_better_11 : decode cX6_better 11 = .ok (.iload_n 2, 1) := by decide +kernel
theorem dX6_better_12 : decode cX6_better 12 = .ok (.ifCond .lt 8, 3) := by decide +kernel
theorem dX6_better_15 : decode cX6_better 15 = .ok (.iload_n 2, 1) := by decide +kernel
theorem dX6_better_16 : decode cX6_better 16 = .ok (.iconst 2, 1) := by decide +kernel
theorem dX6_better_17 : decode cX6_better 17 = .ok (.if_icmp .le 5, 3) := by decide +kernel
theorem dX6_better_20 : decode cX6_better 20 = .ok (.iconst (-1), 1) := by decide +kernel
theorem dX6_better_21 : decode cX6_better 21 = .ok (.ireturn, 1) := by decide +kernel
theorem dX6_better_22 : decode cX6_better 22 = .ok (.aload_n 0, 1) := by decide +kernel
theorem dX6_better_23 : decode cX6_better 23 = .ok (.getfield 19, 3) := by decide +kernel
theorem dX6_better_26 : decode cX6_better 26 = .ok (.iload_n 1, 1) := by decide +kernel
theorem dX6_better_27 : decode cX6_better 27 = .ok (.invokevirtual 242, 3) := by decide +kernel
theorem dX6_better_30 : decode cX6_better 30 = .ok (.istore_n 3, 1) := by decide +kernel
theorem dX6_better_31 : decode cX6_better 31 = .ok (.iconst 0, 1) := by decide +kernel
theorem dX6_better_32 : decode cX6_better 32 = .ok (.istore 4, 2) := by decide +kernel
theorem dX6_better_34 : decode cX6_better 34 = .ok (.iconst (-1), 1) := by decide +kernel
theorem dX6_better_35 : decode cX6_better 35 = .ok (.istore 5, 2) := by decide +kernel
theorem dX6_better_37 : decode cX6_better 37 = .ok (.iconst (-1), 1) := by decide +kernel
theorem dX6_better_38 : decode cX6_better 38 = .ok (.istore 6, 2) := by decide +kernel
theorem dX6_better_40 : decode cX6_better 40 = .ok (.iconst 1, 1) := by decide +kernel
theorem dX6_better_41 : decode cX6_better 41 = .ok (.istore 7, 2) := by decide +kernel
theorem dX6_better_43 : decode cX6_better 43 = .ok (.iload 7, 2) := by decide +kernel
theorem dX6_better_45 : decode cX6_better 45 = .ok (.iload_n 3, 1) := by decide +kernel
theorem dX6_better_46 : decode cX6_better 46 = .ok (.if_icmp .ge 60, 3) := by decide +kernel
theorem dX6_better_49 : decode cX6_better 49 = .ok (.iload 7, 2) := by decide +kernel
theorem dX6_better_51 : decode cX6_better 51 = .ok (.iconst 1, 1) := by decide +kernel
theorem dX6_better_52 : decode cX6_better 52 = .ok (.iadd, 1) := by decide +kernel
theorem dX6_better_53 : decode cX6_better 53 = .ok (.istore 8, 2) := by decide +kernel
theorem dX6_better_55 : decode cX6_better 55 = .ok (.iload 8, 2) := by decide +kernel
theorem dX6_better_57 : decode cX6_better 57 = .ok (.iload_n 3, 1) := by decide +kernel
theorem dX6_better_58 : decode cX6_better 58 = .ok (.if_icmp .ge 42, 3) := by decide +kernel
theorem dX6_better_61 : decode cX6_better 61 = .ok (.aload_n 0, 1) := by decide +kernel
theorem dX6_better_62 : decode cX6_better 62 = .ok (.getfield 19, 3) := by decide +kernel
theorem dX6_better_65 : decode cX6_better 65 = .ok (.iload_n 1, 1) := by decide +kernel
theorem dX6_better_66 : decode cX6_better 66 = .ok (.iload 7, 2) := by decide +kernel
theorem dX6_better_68 : decode cX6_better 68 = .ok (.iload 8, 2) := by decide +kernel
theorem dX6_better_70 : decode cX6_better 70 = .ok (.invokevirtual 351, 3) := by decide +kernel
theorem dX6_better_73 : decode cX6_better 73 = .ok (.istore 9, 2) := by decide +kernel
theorem dX6_better_75 : decode cX6_better 75 = .ok (.iload 9, 2) := by decide +kernel
theorem dX6_better_77 : decode cX6_better 77 = .ok (.iload 4, 2) := by decide +kernel
theorem dX6_better_79 : decode cX6_better 79 = .ok (.if_icmp .ge 15, 3) := by decide +kernel
theorem dX6_better_82 : decode cX6_better 82 = .ok (.iload 9, 2) := by decide +kernel
theorem dX6_better_84 : decode cX6_better 84 = .ok (.istore 4, 2) := by decide +kernel
theorem dX6_better_86 : decode cX6_better 86 = .ok (.iload 7, 2) := by decide +kernel
theorem dX6_better_88 : decode cX6_better 88 = .ok (.istore 5, 2) := by decide +kernel
theorem dX6_better_90 : decode cX6_better 90 = .ok (.iload 8, 2) := by decide +kernel
theorem dX6_better_92 : decode cX6_better 92 = .ok (.istore 6, 2) := by decide +kernel
theorem dX6_better_94 : decode cX6_better 94 = .ok (.iinc 8 1, 3) := by decide +kernel
theorem dX6_better_97 : decode cX6_better 97 = .ok (.goto (-42), 3) := by decide +kernel
theorem dX6_better_100 : decode cX6_better 100 = .ok (.iinc 7 1, 3) := by decide +kernel
theorem dX6_better_103 : decode cX6_better 103 = .ok (.goto (-60), 3) := by decide +kernel
theorem dX6_better_106 : decode cX6_better 106 = .ok (.iload 5, 2) := by decide +kernel
theorem dX6_better_108 : decode cX6_better 108 = .ok (.iconst (-1), 1) := by decide +kernel
theorem dX6_better_109 : decode cX6_better 109 = .ok (.if_icmp .ne 6, 3) := by decide +kernel
theorem dX6_better_112 : decode cX6_better 112 = .ok (.bipush (-2), 2) := by decide +kernel
theorem dX6_better_114 : decode cX6_better 114 = .ok (.ireturn, 1) := by decide +kernel
theorem dX6_better_115 : decode cX6_better 115 = .ok (.iload_n 2, 1) := by decide +kernel
theorem dX6_better_116 : decode cX6_better 116 = .ok (.ifCond .ne 17, 3) := by decide +kernel
theorem dX6_better_119 : decode cX6_better 119 = .ok (.aload_n 0, 1) := by decide +kernel
theorem dX6_better_120 : decode cX6_better 120 = .ok (.getfield 19, 3) := by decide +kernel
theorem dX6_better_123 : decode cX6_better 123 = .ok (.iload_n 1, 1) := by decide +kernel
theorem dX6_better_124 : decode cX6_better 124 = .ok (.invokevirtual 338, 3) := by decide +kernel
theorem dX6_better_127 : decode cX6_better 127 = .ok (.iload 4, 2) := by decide +kernel
theorem dX6_better_129 : decode cX6_better 129 = .ok (.iadd, 1) := by decide +kernel
theorem dX6_better_130 : decode cX6_better 130 = .ok (.goto 15, 3) := by decide +kernel
theorem dX6_better_133 : decode cX6_better 133 = .ok (.iload_n 2, 1) := by decide +kernel
theorem dX6_better_134 : decode cX6_better 134 = .ok (.iconst 1, 1) := by decide +kernel
theorem dX6_better_135 : decode cX6_better 135 = .ok (.if_icmp .ne 8, 3) := by decide +kernel
theorem dX6_better_138 : decode cX6_better 138 = .ok (.iload 5, 2) := by decide +kernel
theorem dX6_better_140 : decode cX6_better 140 = .ok (.goto 5, 3) := by decide +kernel
theorem dX6_better_143 : decode cX6_better 143 = .ok (.iload 6, 2) := by decide +kernel
theorem dX6_better_145 : decode cX6_better 145 = .ok (.ireturn, 1) := by decide +kernel
theorem dX6_farthest_0 : decode cX6_farthest 0 = .ok (.aload_n 0, 1) := by decide +kernel
theorem dX6_farthest_1 : decode cX6_farthest 1 = .ok (.getfield 19, 3) := by decide +kernel
theorem dX6_farthest_4 : decode cX6_farthest 4 = .ok (.iload_n 1, 1) := by decide +kernel
theorem dX6_farthest_5 : decode cX6_farthest 5 = .ok (.invokevirtual 118, 3) := by decide +kernel
theorem dX6_farthest_8 : decode cX6_farthest 8 = .ok (.ifCond .eq 12, 3) := by decide +kernel
theorem dX6_farthest_11 : decode cX6_farthest 11 = .ok (.iload_n 2, 1) := by decide +kernel
theorem dX6_farthest_12 : decode cX6_farthest 12 = .ok (.ifCond .lt 8, 3) := by decide +kernel
theorem dX6_farthest_15 : decode cX6_farthest 15 = .ok (.iload_n 2, 1) := by decide +kernel
theorem dX6_farthest_16 : decode cX6_farthest 16 = .ok (.iconst 1, 1) := by decide +kernel
theorem dX6_farthest_17 : decode cX6_farthest 17 = .ok (.if_icmp .le 5, 3) := by decide +kernel
theorem dX6_farthest_20 : decode cX6_farthest 20 = .ok (.iconst (-1), 1) := by decide +kernel
theorem dX6_farthest_21 : decode cX6_farthest 21 = .ok (.ireturn, 1) := by decide +kernel
theorem dX6_farthest_22 : decode cX6_farthest 22 = .ok (.iconst (-1), 1) := by decide +kernel
theorem dX6_farthest_23 : decode cX6_farthest 23 = .ok (.istore_n 3, 1) := by decide +kernel
theorem dX6_farthest_24 : decode cX6_farthest 24 = .ok (.iconst (-1), 1) := by decide +kernel
theorem dX6_farthest_25 : decode cX6_farthest 25 = .ok (.istore 4, 2) := by decide +kernel
theorem dX6_farthest_27 : decode cX6_farthest 27 = .ok (.iconst 0, 1) := by decide +kernel
theorem dX6_farthest_28 : decode cX6_farthest 28 = .ok (.istore 5, 2) := by decide +kernel
theorem dX6_farthest_30 : decode cX6_farthest 30 = .ok (.iload 5, 2) := by decide +kernel
theorem dX6_farthest_32 : decode cX6_farthest 32 = .ok (.aload_n 0, 1) := by decide +kernel
theorem dX6_farthest_33 : decode cX6_farthest 33 = .ok (.getfield 19, 3) := by decide +kernel
theorem dX6_farthest_36 : decode cX6_farthest 36 = .ok (.iload_n 1, 1) := by decide +kernel
theorem dX6_farthest_37 : decode cX6_farthest 37 = .ok (.invokevirtual 355, 3) := by decide +kernel
theorem dX6_farthest_40 : decode cX6_farthest 40 = .ok (.if_icmp .ge 61, 3) := by decide +kernel
theorem dX6_farthest_43 : decode cX6_farthest 43 = .ok (.aload_n 0, 1) := by decide +kernel
theorem dX6_farthest_44 : decode cX6_farthest 44 = .ok (.getfield 19, 3) := by decide +kernel
theorem dX6_farthest_47 : decode cX6_farthest 47 = .ok (.iload_n 1, 1) := by decide +kernel
theorem dX6_farthest_48 : decode cX6_farthest 48 = .ok (.iload 5, 2) := by decide +kernel
theorem dX6_farthest_50 : decode cX6_farthest 50 = .ok (.invokevirtual 358, 3) := by decide +kernel
theorem dX6_farthest_53 : decode cX6_farthest 53 = .ok (.istore 6, 2) := by decide +kernel
theorem dX6_farthest_55 : decode cX6_farthest 55 = .ok (.aload_n 0, 1) := by decide +kernel
theorem dX6_farthest_56 : decode cX6_farthest 56 = .ok (.getfield 19, 3) := by decide +kernel
theorem dX6_farthest_59 : decode cX6_farthest 59 = .ok (.iload_n 1, 1) := by decide +kernel
theorem dX6_farthest_60 : decode cX6_farthest 60 = .ok (.iload 5, 2) := by decide +kernel
theorem dX6_farthest_62 : decode cX6_farthest 62 = .ok (.invokevirtual 264, 3) := by decide +kernel
theorem dX6_farthest_65 : decode cX6_farthest 65 = .ok (.istore 7, 2) := by decide +kernel
theorem dX6_farthest_67 : decode cX6_farthest 67 = .ok (.iload 6, 2) := by decide +kernel
theorem dX6_farthest_69 : decode cX6_farthest 69 = .ok (.iload_n 3, 1) := by decide +kernel
theorem dX6_farthest_70 : decode cX6_farthest 70 = .ok (.if_icmp .le 25, 3) := by decide +kernel
theorem dX6_farthest_73 : decode cX6_farthest 73 = .ok (.aload_n 0, 1) := by decide +kernel
theorem dX6_farthest_74 : decode cX6_farthest 74 = .ok (.getfield 19, 3) := by decide +kernel
theorem dX6_farthest_77 : decode cX6_farthest 77 = .ok (.iload_n 1, 1) := by decide +kernel
theorem dX6_farthest_78 : decode cX6_farthest 78 = .ok (.iload 7, 2) := by decide +kernel
theorem dX6_farthest_80 : decode cX6_farthest 80 = .ok (.invokevirtual 361, 3) := by decide +kernel
theorem dX6_farthest_83 : decode cX6_farthest 83 = .ok (.iload 5, 2) := by decide +kernel
theorem dX6_farthest_85 : decode cX6_farthest 85 = .ok (.if_icmp .ne 10, 3) := by decide +kernel
theorem dX6_farthest_88 : decode cX6_farthest 88 = .ok (.iload 6, 2) := by decide +kernel
theorem dX6_farthest_90 : decode cX6_farthest 90 = .ok (.istore_n 3, 1) := by decide +kernel
theorem dX6_farthest_91 : decode cX6_farthest 91 = .ok (.iload 7, 2) := by decide +kernel
theorem dX6_farthest_93 : decode cX6_farthest 93 = .ok (.istore 4, 2) := by decide +kernel
theorem dX6_farthest_95 : decode cX6_farthest 95 = .ok (.iinc 5 1, 3) := by decide +kernel
theorem dX6_farthest_98 : decode cX6_farthest 98 = .ok (.goto (-68), 3) := by decide +kernel
theorem dX6_farthest_101 : decode cX6_farthest 101 = .ok (.iload_n 2, 1) := by decide +kernel
theorem dX6_farthest_102 : decode cX6_farthest 102 = .ok (.ifCond .ne 7, 3) := by decide +kernel
theorem dX6_farthest_105 : decode cX6_farthest 105 = .ok (.iload_n 3, 1) := by decide +kernel
theorem dX6_farthest_106 : decode cX6_farthest 106 = .ok (.goto 5, 3) := by decide +kernel
theorem dX6_farthest_109 : decode cX6_farthest 109 = .ok (.iload 4, 2) := by decide +kernel
theorem dX6_farthest_111 : decode cX6_farthest 111 = .ok (.ireturn, 1) := by decide +kernel
theorem dX6_lacks_0 : decode cX6_lacks 0 = .ok (.aload_n 0, 1) := by decide +kernel
theorem dX6_lacks_1 : decode cX6_lacks 1 = .ok (.getfield 19, 3) := by decide +kernel
theorem dX6_lacks_4 : decode cX6_lacks 4 = .ok (.iload_n 1, 1) := by decide +kernel
theorem dX6_lacks_5 : decode cX6_lacks 5 = .ok (.invokevirtual 118, 3) := by decide +kernel
theorem dX6_lacks_8 : decode cX6_lacks 8 = .ok (.ifCond .eq 12, 3) := by decide +kernel
theorem dX6_lacks_11 : decode cX6_lacks 11 = .ok (.iload_n 2, 1) := by decide +kernel
theorem dX6_lacks_12 : decode cX6_lacks 12 = .ok (.ifCond .lt 8, 3) := by decide +kernel
theorem dX6_lacks_15 : decode cX6_lacks 15 = .ok (.iload_n 2, 1) := by decide +kernel
theorem dX6_lacks_16 : decode cX6_lacks 16 = .ok (.iconst 1, 1) := by decide +kernel
theorem dX6_lacks_17 : decode cX6_lacks 17 = .ok (.if_icmp .le 5, 3) := by decide +kernel
theorem dX6_lacks_20 : decode cX6_lacks 20 = .ok (.iconst (-1), 1) := by decide +kernel
theorem dX6_lacks_21 : decode cX6_lacks 21 = .ok (.ireturn, 1) := by decide +kernel
theorem dX6_lacks_22 : decode cX6_lacks 22 = .ok (.iload_n 2, 1) := by decide +kernel
theorem dX6_lacks_23 : decode cX6_lacks 23 = .ok (.ifCond .ne 14, 3) := by decide +kernel
theorem dX6_lacks_26 : decode cX6_lacks 26 = .ok (.aload_n 0, 1) := by decide +kernel
theorem dX6_lacks_27 : decode cX6_lacks 27 = .ok (.getfield 19, 3) := by decide +kernel
theorem dX6_lacks_30 : decode cX6_lacks 30 = .ok (.iload_n 1, 1) := by decide +kernel
theorem dX6_lacks_31 : decode cX6_lacks 31 = .ok (.invokevirtual 364, 3) := by decide +kernel
theorem dX6_lacks_34 : decode cX6_lacks 34 = .ok (.goto 19, 3) := by decide +kernel
theorem dX6_lacks_37 : decode cX6_lacks 37 = .ok (.aload_n 0, 1) := by decide +kernel
theorem dX6_lacks_38 : decode cX6_lacks 38 = .ok (.getfield 19, 3) := by decide +kernel
theorem dX6_lacks_41 : decode cX6_lacks 41 = .ok (.aload_n 0, 1) := by decide +kernel
theorem dX6_lacks_42 : decode cX6_lacks 42 = .ok (.getfield 19, 3) := by decide +kernel
theorem dX6_lacks_45 : decode cX6_lacks 45 = .ok (.getfield 210, 3) := by decide +kernel
theorem dX6_lacks_48 : decode cX6_lacks 48 = .ok (.iload_n 1, 1) := by decide +kernel
theorem dX6_lacks_49 : decode cX6_lacks 49 = .ok (.iaload, 1) := by decide +kernel
theorem dX6_lacks_50 : decode cX6_lacks 50 = .ok (.invokevirtual 367, 3) := by decide +kernel
theorem dX6_lacks_53 : decode cX6_lacks 53 = .ok (.ireturn, 1) := by decide +kernel
theorem dX6_unlike_0 : decode cX6_unlike 0 = .ok (.aload_n 0, 1) := by decide +kernel
theorem dX6_unlike_1 : decode cX6_unlike 1 = .ok (.getfield 19, 3) := by decide +kernel
theorem dX6_unlike_4 : decode cX6_unlike 4 = .ok (.iload_n 1, 1) := by decide +kernel
theorem dX6_unlike_5 : decode cX6_unlike 5 = .ok (.invokevirtual 258, 3) := by decide +kernel
theorem dX6_unlike_8 : decode cX6_unlike 8 = .ok (.ifCond .eq 19, 3) := by decide +kernel
theorem dX6_unlike_11 : decode cX6_unlike 11 = .ok (.aload_n 0, 1) := by decide +kernel
theorem dX6_unlike_12 : decode cX6_unlike 12 = .ok (.getfield 19, 3) := by decide +kernel
theorem dX6_unlike_15 : decode cX6_unlike 15 = .ok (.iload_n 2, 1) := by decide +kernel
theorem dX6_unlike_16 : decode cX6_unlike 16 = .ok (.invokevirtual 258, 3) := by decide +kernel
theorem dX6_unlike_19 : decode cX6_unlike 19 = .ok (.ifCond .eq 8, 3) := by decide +kernel
theorem dX6_unlike_22 : decode cX6_unlike 22 = .ok (.iload_n 1, 1) := by decide +kernel
theorem dX6_unlike_23 : decode cX6_unlike 23 = .ok (.iload_n 2, 1) := by decide +kernel
theorem dX6_unlike_24 : decode cX6_unlike 24 = .ok (.if_icmp .ne 5, 3) := by decide +kernel
theorem dX6_unlike_27 : decode cX6_unlike 27 = .ok (.iconst (-1), 1) := by decide +kernel
theorem dX6_unlike_28 : decode cX6_unlike 28 = .ok (.ireturn, 1) := by decide +kernel
theorem dX6_unlike_29 : decode cX6_unlike 29 = .ok (.iconst 0, 1) := by decide +kernel
theorem dX6_unlike_30 : decode cX6_unlike 30 = .ok (.istore_n 3, 1) := by decide +kernel
theorem dX6_unlike_31 : decode cX6_unlike 31 = .ok (.iconst 0, 1) := by decide +kernel
theorem dX6_unlike_32 : decode cX6_unlike 32 = .ok (.istore 4, 2) := by decide +kernel
theorem dX6_unlike_34 : decode cX6_unlike 34 = .ok (.iload 4, 2) := by decide +kernel
theorem dX6_unlike_36 : decode cX6_unlike 36 = .ok (.aload_n 0, 1) := by decide +kernel
theorem dX6_unlike_37 : decode cX6_unlike 37 = .ok (.getfield 19, 3) := by decide +kernel
theorem dX6_unlike_40 : decode cX6_unlike 40 = .ok (.getfield 261, 3) := by decide +kernel
theorem dX6_unlike_43 : decode cX6_unlike 43 = .ok (.if_icmp .ge 61, 3) := by decide +kernel
theorem dX6_unlike_46 : decode cX6_unlike 46 = .ok (.aload_n 0, 1) := by decide +kernel
theorem dX6_unlike_47 : decode cX6_unlike 47 = .ok (.getfield 19, 3) := by decide +kernel
theorem dX6_unlike_50 : decode cX6_unlike 50 = .ok (.iload_n 1, 1) := by decide +kernel
theorem dX6_unlike_51 : decode cX6_unlike 51 = .ok (.aload_n 0, 1) := by decide +kernel
theorem dX6_unlike_52 : decode cX6_unlike 52 = .ok (.getfield 19, 3) := by decide +kernel
theorem dX6_unlike_55 : decode cX6_unlike 55 = .ok (.getfield 261, 3) := by decide +kernel
theorem dX6_unlike_58 : decode cX6_unlike 58 = .ok (.imul, 1) := by decide +kernel
theorem dX6_unlike_59 : decode cX6_unlike 59 = .ok (.iload 4, 2) := by decide +kernel
theorem dX6_unlike_61 : decode cX6_unlike 61 = .ok (.iadd, 1) := by decide +kernel
theorem dX6_unlike_62 : decode cX6_unlike 62 = .ok (.invokevirtual 370, 3) := by decide +kernel
theorem dX6_unlike_65 : decode cX6_unlike 65 = .ok (.istore 5, 2) := by decide +kernel
theorem dX6_unlike_67 : decode cX6_unlike 67 = .ok (.aload_n 0, 1) := by decide +kernel
theorem dX6_unlike_68 : decode cX6_unlike 68 = .ok (.getfield 19, 3) := by decide +kernel
theorem dX6_unlike_71 : decode cX6_unlike 71 = .ok (.iload_n 2, 1) := by decide +kernel
theorem dX6_unlike_72 : decode cX6_unlike 72 = .ok (.aload_n 0, 1) := by decide +kernel
theorem dX6_unlike_73 : decode cX6_unlike 73 = .ok (.getfield 19, 3) := by decide +kernel
theorem dX6_unlike_76 : decode cX6_unlike 76 = .ok (.getfield 261, 3) := by decide +kernel
theorem dX6_unlike_79 : decode cX6_unlike 79 = .ok (.imul, 1) := by decide +kernel
theorem dX6_unlike_80 : decode cX6_unlike 80 = .ok (.iload 4, 2) := by decide +kernel
theorem dX6_unlike_82 : decode cX6_unlike 82 = .ok (.iadd, 1) := by decide +kernel
theorem dX6_unlike_83 : decode cX6_unlike 83 = .ok (.invokevirtual 370, 3) := by decide +kernel
theorem dX6_unlike_86 : decode cX6_unlike 86 = .ok (.istore 6, 2) := by decide +kernel
theorem dX6_unlike_88 : decode cX6_unlike 88 = .ok (.iload 5, 2) := by decide +kernel
theorem dX6_unlike_90 : decode cX6_unlike 90 = .ok (.iload 6, 2) := by decide +kernel
theorem dX6_unlike_92 : decode cX6_unlike 92 = .ok (.if_icmp .eq 6, 3) := by decide +kernel
theorem dX6_unlike_95 : decode cX6_unlike 95 = .ok (.iinc 3 1, 3) := by decide +kernel
theorem dX6_unlike_98 : decode cX6_unlike 98 = .ok (.iinc 4 1, 3) := by decide +kernel
theorem dX6_unlike_101 : decode cX6_unlike 101 = .ok (.goto (-67), 3) := by decide +kernel
theorem dX6_unlike_104 : decode cX6_unlike 104 = .ok (.iload_n 3, 1) := by decide +kernel
theorem dX6_unlike_105 : decode cX6_unlike 105 = .ok (.ireturn, 1) := by decide +kernel
theorem dX6_letter_0 : decode cX6_letter 0 = .ok (.iload_n 1, 1) := by decide +kernel
theorem dX6_letter_1 : decode cX6_letter 1 = .ok (.ifCond .lt 13, 3) := by decide +kernel
theorem dX6_letter_4 : decode cX6_letter 4 = .ok (.iload_n 1, 1) := by decide +kernel
theorem dX6_letter_5 : decode cX6_letter 5 = .ok (.iconst 1, 1) := by decide +kernel
theorem dX6_letter_6 : decode cX6_letter 6 = .ok (.if_icmp .gt 8, 3) := by decide +kernel
theorem dX6_letter_9 : decode cX6_letter 9 = .ok (.iload_n 2, 1) := by decide +kernel
theorem dX6_letter_10 : decode cX6_letter 10 = .ok (.iconst (-1), 1) := by decide +kernel
theorem dX6_letter_11 : decode cX6_letter 11 = .ok (.if_icmp .ge 5, 3) := by decide +kernel
theorem dX6_letter_14 : decode cX6_letter 14 = .ok (.iconst (-1), 1) := by decide +kernel
theorem dX6_letter_15 : decode cX6_letter 15 = .ok (.ireturn, 1) := by decide +kernel
theorem dX6_letter_16 : decode cX6_letter 16 = .ok (.aload_n 0, 1) := by decide +kernel
theorem dX6_letter_17 : decode cX6_letter 17 = .ok (.getfield 19, 3) := by decide +kernel
theorem dX6_letter_20 : decode cX6_letter 20 = .ok (.invokevirtual 101, 3) := by decide +kernel
theorem dX6_letter_23 : decode cX6_letter 23 = .ok (.ifCond .eq 23, 3) := by decide +kernel
theorem dX6_letter_26 : decode cX6_letter 26 = .ok (.aload_n 0, 1) := by decide +kernel
theorem dX6_letter_27 : decode cX6_letter 27 = .ok (.getfield 19, 3) := by decide +kernel
theorem dX6_letter_30 : decode cX6_letter 30 = .ok (.invokevirtual 207, 3) := by decide +kernel
theorem dX6_letter_33 : decode cX6_letter 33 = .ok (.aload_n 0, 1) := by decide +kernel
theorem dX6_letter_34 : decode cX6_letter 34 = .ok (.getfield 19, 3) := by decide +kernel
theorem dX6_letter_37 : decode cX6_letter 37 = .ok (.getfield 94, 3) := by decide +kernel
theorem dX6_letter_40 : decode cX6_letter 40 = .ok (.iadd, 1) := by decide +kernel
theorem dX6_letter_41 : decode cX6_letter 41 = .ok (.iconst 1, 1) := by decide +kernel
theorem dX6_letter_42 : decode cX6_letter 42 = .ok (.isub, 1) := by decide +kernel
theorem dX6_letter_43 : decode cX6_letter 43 = .ok (.goto 4, 3) := by decide +kernel
theorem dX6_letter_46 : decode cX6_letter 46 = .ok (.iconst 0, 1) := by decide +kernel
theorem dX6_letter_47 : decode cX6_letter 47 = .ok (.istore_n 3, 1) := by decide +kernel
theorem dX6_letter_48 : decode cX6_letter 48 = .ok (.iload_n 2, 1) := by decide +kernel
theorem dX6_letter_49 : decode cX6_letter 49 = .ok (.iconst (-1), 1) := by decide +kernel
theorem dX6_letter_50 : decode cX6_letter 50 = .ok (.if_icmp .ne 5, 3) := by decide +kernel
theorem dX6_letter_53 : decode cX6_letter 53 = .ok (.iload_n 3, 1) := by decide +kernel
theorem dX6_letter_54 : decode cX6_letter 54 = .ok (.ireturn, 1) := by decide +kernel
theorem dX6_letter_55 : decode cX6_letter 55 = .ok (.iload_n 2, 1) := by decide +kernel
theorem dX6_letter_56 : decode cX6_letter 56 = .ok (.iload_n 3, 1) := by decide +kernel
theorem dX6_letter_57 : decode cX6_letter 57 = .ok (.if_icmp .lt 6, 3) := by decide +kernel
theorem dX6_letter_60 : decode cX6_letter 60 = .ok (.bipush (-2), 2) := by decide +kernel
theorem dX6_letter_62 : decode cX6_letter 62 = .ok (.ireturn, 1) := by decide +kernel
theorem dX6_letter_63 : decode cX6_letter 63 = .ok (.iload_n 2, 1) := by decide +kernel
theorem dX6_letter_64 : decode cX6_letter 64 = .ok (.aload_n 0, 1) := by decide +kernel
theorem dX6_letter_65 : decode cX6_letter 65 = .ok (.getfield 19, 3) := by decide +kernel
theorem dX6_letter_68 : decode cX6_letter 68 = .ok (.getfield 261, 3) := by decide +kernel
theorem dX6_letter_71 : decode cX6_letter 71 = .ok (.iconst 1, 1) := by decide +kernel
theorem dX6_letter_72 : decode cX6_letter 72 = .ok (.iadd, 1) := by decide +kernel
theorem dX6_letter_73 : decode cX6_letter 73 = .ok (.irem, 1) := by decide +kernel
theorem dX6_letter_74 : decode cX6_letter 74 = .ok (.istore 4, 2) := by decide +kernel
theorem dX6_letter_76 : decode cX6_letter 76 = .ok (.iload 4, 2) := by decide +kernel
theorem dX6_letter_78 : decode cX6_letter 78 = .ok (.aload_n 0, 1) := by decide +kernel
theorem dX6_letter_79 : decode cX6_letter 79 = .ok (.getfield 19, 3) := by decide +kernel
theorem dX6_letter_82 : decode cX6_letter 82 = .ok (.getfield 261, 3) := by decide +kernel
theorem dX6_letter_85 : decode cX6_letter 85 = .ok (.if_icmp .ne 6, 3) := by decide +kernel
theorem dX6_letter_88 : decode cX6_letter 88 = .ok (.bipush 47, 2) := by decide +kernel
theorem dX6_letter_90 : decode cX6_letter 90 = .ok (.ireturn, 1) := by decide +kernel
theorem dX6_letter_91 : decode cX6_letter 91 = .ok (.iload_n 2, 1) := by decide +kernel
theorem dX6_letter_92 : decode cX6_letter 92 = .ok (.aload_n 0, 1) := by decide +kernel
theorem dX6_letter_93 : decode cX6_letter 93 = .ok (.getfield 19, 3) := by decide +kernel
theorem dX6_letter_96 : decode cX6_letter 96 = .ok (.getfield 261, 3) := by decide +kernel
theorem dX6_letter_99 : decode cX6_letter 99 = .ok (.iconst 1, 1) := by decide +kernel
theorem dX6_letter_100 : decode cX6_letter 100 = .ok (.iadd, 1) := by decide +kernel
theorem dX6_letter_101 : decode cX6_letter 101 = .ok (.idiv, 1) := by decide +kernel
theorem dX6_letter_102 : decode cX6_letter 102 = .ok (.aload_n 0, 1) := by decide +kernel
theorem dX6_letter_103 : decode cX6_letter 103 = .ok (.getfield 19, 3) := by decide +kernel
theorem dX6_letter_106 : decode cX6_letter 106 = .ok (.getfield 261, 3) := by decide +kernel
theorem dX6_letter_109 : decode cX6_letter 109 = .ok (.imul, 1) := by decide +kernel
theorem dX6_letter_110 : decode cX6_letter 110 = .ok (.iload 4, 2) := by decide +kernel
theorem dX6_letter_112 : decode cX6_letter 112 = .ok (.iadd, 1) := by decide +kernel
theorem dX6_letter_113 : decode cX6_letter 113 = .ok (.istore 5, 2) := by decide +kernel
theorem dX6_letter_115 : decode cX6_letter 115 = .ok (.aload_n 0, 1) := by decide +kernel
theorem dX6_letter_116 : decode cX6_letter 116 = .ok (.getfield 19, 3) := by decide +kernel
theorem dX6_letter_119 : decode cX6_letter 119 = .ok (.iload 5, 2) := by decide +kernel
theorem dX6_letter_121 : decode cX6_letter 121 = .ok (.iload_n 1, 1) := by decide +kernel
theorem dX6_letter_122 : decode cX6_letter 122 = .ok (.ifCond .ne 16, 3) := by decide +kernel
theorem dX6_letter_125 : decode cX6_letter 125 = .ok (.aload_n 0, 1) := by decide +kernel
theorem dX6_letter_126 : decode cX6_letter 126 = .ok (.getfield 19, 3) := by decide +kernel
theorem dX6_letter_129 : decode cX6_letter 129 = .ok (.getfield 213, 3) := by decide +kernel
theorem dX6_letter_132 : decode cX6_letter 132 = .ok (.iload 5, 2) := by decide +kernel
theorem dX6_letter_134 : decode cX6_letter 134 = .ok (.iaload, 1) := by decide +kernel
theorem dX6_letter_135 : decode cX6_letter 135 = .ok (.goto 13, 3) := by decide +kernel
theorem dX6_letter_138 : decode cX6_letter 138 = .ok (.aload_n 0, 1) := by decide +kernel
theorem dX6_letter_139 : decode cX6_letter 139 = .ok (.getfield 19, 3) := by decide +kernel
theorem dX6_letter_142 : decode cX6_letter 142 = .ok (.getfield 219, 3) := by decide +kernel
theorem dX6_letter_145 : decode cX6_letter 145 = .ok (.iload 5, 2) := by decide +kernel
theorem dX6_letter_147 : decode cX6_letter 147 = .ok (.iaload, 1) := by decide +kernel
theorem dX6_letter_148 : decode cX6_letter 148 = .ok (.invokevirtual 264, 3) := by decide +kernel
theorem dX6_letter_151 : decode cX6_letter 151 = .ok (.ireturn, 1) := by decide +kernel
theorem dX6_digest_0 : decode cX6_digest 0 = .ok (.ldc2_w 373, 3) := by decide +kernel
theorem dX6_digest_3 : decode cX6_digest 3 = .ok (.lstore_n 1, 1) := by decide +kernel
theorem dX6_digest_4 : decode cX6_digest 4 = .ok (.iconst 0, 1) := by decide +kernel
theorem dX6_digest_5 : decode cX6_digest 5 = .ok (.istore_n 3, 1) := by decide +kernel
theorem dX6_digest_6 : decode cX6_digest 6 = .ok (.iload_n 3, 1) := by decide +kernel
theorem dX6_digest_7 : decode cX6_digest 7 = .ok (.aload_n 0, 1) := by decide +kernel
theorem dX6_digest_8 : decode cX6_digest 8 = .ok (.getfield 19, 3) := by decide +kernel
theorem dX6_digest_11 : decode cX6_digest 11 = .ok (.invokevirtual 207, 3) := by decide +kernel
theorem dX6_digest_14 : decode cX6_digest 14 = .ok (.if_icmp .ge 110, 3) := by decide +kernel
theorem dX6_digest_17 : decode cX6_digest 17 = .ok (.ldc2_w 375, 3) := by decide +kernel
theorem dX6_digest_20 : decode cX6_digest 20 = .ok (.lload_n 1, 1) := by decide +kernel
theorem dX6_digest_21 : decode cX6_digest 21 = .ok (.lmul, 1) := by decide +kernel
theorem dX6_digest_22 : decode cX6_digest 22 = .ok (.aload_n 0, 1) := by decide +kernel
theorem dX6_digest_23 : decode cX6_digest 23 = .ok (.getfield 19, 3) := by decide +kernel
theorem dX6_digest_26 : decode cX6_digest 26 = .ok (.getfield 210, 3) := by decide +kernel
theorem dX6_digest_29 : decode cX6_digest 29 = .ok (.iload_n 3, 1) := by decide +kernel
theorem dX6_digest_30 : decode cX6_digest 30 = .ok (.iaload, 1) := by decide +kernel
theorem dX6_digest_31 : decode cX6_digest 31 = .ok (.i2l, 1) := by decide +kernel
theorem dX6_digest_32 : decode cX6_digest 32 = .ok (.ladd, 1) := by decide +kernel
theorem dX6_digest_33 : decode cX6_digest 33 = .ok (.lstore_n 1, 1) := by decide +kernel
theorem dX6_digest_34 : decode cX6_digest 34 = .ok (.ldc2_w 375, 3) := by decide +kernel
theorem dX6_digest_37 : decode cX6_digest 37 = .ok (.lload_n 1, 1) := by decide +kernel
theorem dX6_digest_38 : decode cX6_digest 38 = .ok (.lmul, 1) := by decide +kernel
theorem dX6_digest_39 : decode cX6_digest 39 = .ok (.aload_n 0, 1) := by decide +kernel
theorem dX6_digest_40 : decode cX6_digest 40 = .ok (.getfield 19, 3) := by decide +kernel
theorem dX6_digest_43 : decode cX6_digest 43 = .ok (.getfield 213, 3) := by decide +kernel
theorem dX6_digest_46 : decode cX6_digest 46 = .ok (.iload_n 3, 1) := by decide +kernel
theorem dX6_digest_47 : decode cX6_digest 47 = .ok (.iaload, 1) := by decide +kernel
theorem dX6_digest_48 : decode cX6_digest 48 = .ok (.i2l, 1) := by decide +kernel
theorem dX6_digest_49 : decode cX6_digest 49 = .ok (.ladd, 1) := by decide +kernel
theorem dX6_digest_50 : decode cX6_digest 50 = .ok (.lstore_n 1, 1) := by decide +kernel
theorem dX6_digest_51 : decode cX6_digest 51 = .ok (.ldc2_w 375, 3) := by decide +kernel
theorem dX6_digest_54 : decode cX6_digest 54 = .ok (.lload_n 1, 1) := by decide +kernel
theorem dX6_digest_55 : decode cX6_digest 55 = .ok (.lmul, 1) := by decide +kernel
theorem dX6_digest_56 : decode cX6_digest 56 = .ok (.aload_n 0, 1) := by decide +kernel
theorem dX6_digest_57 : decode cX6_digest 57 = .ok (.getfield 19, 3) := by decide +kernel
theorem dX6_digest_60 : decode cX6_digest 60 = .ok (.getfield 216, 3) := by decide +kernel
theorem dX6_digest_63 : decode cX6_digest 63 = .ok (.iload_n 3, 1) := by decide +kernel
theorem dX6_digest_64 : decode cX6_digest 64 = .ok (.iaload, 1) := by decide +kernel
theorem dX6_digest_65 : decode cX6_digest 65 = .ok (.i2l, 1) := by decide +kernel
theorem dX6_digest_66 : decode cX6_digest 66 = .ok (.ladd, 1) := by decide +kernel
theorem dX6_digest_67 : decode cX6_digest 67 = .ok (.lstore_n 1, 1) := by decide +kernel
theorem dX6_digest_68 : decode cX6_digest 68 = .ok (.ldc2_w 375, 3) := by decide +kernel
theorem dX6_digest_71 : decode cX6_digest 71 = .ok (.lload_n 1, 1) := by decide +kernel
theorem dX6_digest_72 : decode cX6_digest 72 = .ok (.lmul, 1) := by decide +kernel
theorem dX6_digest_73 : decode cX6_digest 73 = .ok (.aload_n 0, 1) := by decide +kernel
theorem dX6_digest_74 : decode cX6_digest 74 = .ok (.getfield 19, 3) := by decide +kernel
theorem dX6_digest_77 : decode cX6_digest 77 = .ok (.getfield 219, 3) := by decide +kernel
theorem dX6_digest_80 : decode cX6_digest 80 = .ok (.iload_n 3, 1) := by decide +kernel
theorem dX6_digest_81 : decode cX6_digest 81 = .ok (.iaload, 1) := by decide +kernel
theorem dX6_digest_82 : decode cX6_digest 82 = .ok (.i2l, 1) := by decide +kernel
theorem dX6_digest_83 : decode cX6_digest 83 = .ok (.ladd, 1) := by decide +kernel
theorem dX6_digest_84 : decode cX6_digest 84 = .ok (.lstore_n 1, 1) := by decide +kernel
theorem dX6_digest_85 : decode cX6_digest 85 = .ok (.ldc2_w 375, 3) := by decide +kernel
theorem dX6_digest_88 : decode cX6_digest 88 = .ok (.lload_n 1, 1) := by decide +kernel
theorem dX6_digest_89 : decode cX6_digest 89 = .ok (.lmul, 1) := by decide +kernel
theorem dX6_digest_90 : decode cX6_digest 90 = .ok (.aload_n 0, 1) := by decide +kernel
theorem dX6_digest_91 : decode cX6_digest 91 = .ok (.getfield 19, 3) := by decide +kernel
theorem dX6_digest_94 : decode cX6_digest 94 = .ok (.getfield 122, 3) := by decide +kernel
theorem dX6_digest_97 : decode cX6_digest 97 = .ok (.iload_n 3, 1) := by decide +kernel
theorem dX6_digest_98 : decode cX6_digest 98 = .ok (.iaload, 1) := by decide +kernel
theorem dX6_digest_99 : decode cX6_digest 99 = .ok (.i2l, 1) := by decide +kernel
theorem dX6_digest_100 : decode cX6_digest 100 = .ok (.ladd, 1) := by decide +kernel
theorem dX6_digest_101 : decode cX6_digest 101 = .ok (.lstore_n 1, 1) := by decide +kernel
theorem dX6_digest_102 : decode cX6_digest 102 = .ok (.ldc2_w 375, 3) := by decide +kernel
theorem dX6_digest_105 : decode cX6_digest 105 = .ok (.lload_n 1, 1) := by decide +kernel
theorem dX6_digest_106 : decode cX6_digest 106 = .ok (.lmul, 1) := by decide +kernel
theorem dX6_digest_107 : decode cX6_digest 107 = .ok (.aload_n 0, 1) := by decide +kernel
theorem dX6_digest_108 : decode cX6_digest 108 = .ok (.getfield 19, 3) := by decide +kernel
theorem dX6_digest_111 : decode cX6_digest 111 = .ok (.getfield 230, 3) := by decide +kernel
theorem dX6_digest_114 : decode cX6_digest 114 = .ok (.iload_n 3, 1) := by decide +kernel
theorem dX6_digest_115 : decode cX6_digest 115 = .ok (.laload, 1) := by decide +kernel
theorem dX6_digest_116 : decode cX6_digest 116 = .ok (.ladd, 1) := by decide +kernel
theorem dX6_digest_117 : decode cX6_digest 117 = .ok (.lstore_n 1, 1) := by decide +kernel
theorem dX6_digest_118 : decode cX6_digest 118 = .ok (.iinc 3 1, 3) := by decide +kernel
theorem dX6_digest_121 : decode cX6_digest 121 = .ok (.goto (-115), 3) := by decide +kernel
theorem dX6_digest_124 : decode cX6_digest 124 = .ok (.lload_n 1, 1) := by decide +kernel
theorem dX6_digest_125 : decode cX6_digest 125 = .ok (.lreturn, 1) := by decide +kernel
theorem dX6_count_0 : decode cX6_count 0 = .ok (.iload_n 1, 1) := by decide +kernel
theorem dX6_count_1 : decode cX6_count 1 = .ok (.tableswitch 131 0 8 #[51, 59, 67, 75, 83, 91, 99, 107, 112], 51) := by decide +kernel
theorem dX6_count_52 : decode cX6_count 52 = .ok (.aload_n 0, 1) := by decide +kernel
theorem dX6_count_53 : decode cX6_count 53 = .ok (.getfield 19, 3) := by decide +kernel
theorem dX6_count_56 : decode cX6_count 56 = .ok (.getfield 94, 3) := by decide +kernel
theorem dX6_count_59 : decode cX6_count 59 = .ok (.ireturn, 1) := by decide +kernel
theorem dX6_count_60 : decode cX6_count 60 = .ok (.aload_n 0, 1) := by decide +kernel
theorem dX6_count_61 : decode cX6_count 61 = .ok (.getfield 19, 3) := by decide +kernel
theorem dX6_count_64 : decode cX6_count 64 = .ok (.getfield 261, 3) := by decide +kernel
theorem dX6_count_67 : decode cX6_count 67 = .ok (.ireturn, 1) := by decide +kernel
theorem dX6_count_68 : decode cX6_count 68 = .ok (.aload_n 0, 1) := by decide +kernel
theorem dX6_count_69 : decode cX6_count 69 = .ok (.getfield 19, 3) := by decide +kernel
theorem dX6_count_72 : decode cX6_count 72 = .ok (.invokevirtual 207, 3) := by decide +kernel
theorem dX6_count_75 : decode cX6_count 75 = .ok (.ireturn, 1) := by decide +kernel
theorem dX6_count_76 : decode cX6_count 76 = .ok (.aload_n 0, 1) := by decide +kernel
theorem dX6_count_77 : decode cX6_count 77 = .ok (.getfield 19, 3) := by decide +kernel
theorem dX6_count_80 : decode cX6_count 80 = .ok (.getfield 146, 3) := by decide +kernel
theorem dX6_count_83 : decode cX6_count 83 = .ok (.ireturn, 1) := by decide +kernel
theorem dX6_count_84 : decode cX6_count 84 = .ok (.aload_n 0, 1) := by decide +kernel
theorem dX6_count_85 : decode cX6_count 85 = .ok (.getfield 19, 3) := by decide +kernel
theorem dX6_count_88 : decode cX6_count 88 = .ok (.getfield 80, 3) := by decide +kernel
theorem dX6_count_91 : decode cX6_count 91 = .ok (.ireturn, 1) := by decide +kernel
theorem dX6_count_92 : decode cX6_count 92 = .ok (.aload_n 0, 1) := by decide +kernel
theorem dX6_count_93 : decode cX6_count 93 = .ok (.getfield 43, 3) := by decide +kernel
theorem dX7_in_0 : decode cX7_in 0 = .ok (.lload_n 0, 1) := by decide +kernel
theorem dX7_in_1 : decode cX7_in 1 = .ok (.lload_n 2, 1) := by decide +kernel
theorem dX7_in_2 : decode cX7_in 2 = .ok (.lcmp, 1) := by decide +kernel
theorem dX7_in_3 : decode cX7_in 3 = .ok (.ifCond .lt 14, 3) := by decide +kernel
theorem dX7_in_6 : decode cX7_in 6 = .ok (.lload_n 0, 1) := by decide +kernel
theorem dX7_in_7 : decode cX7_in 7 = .ok (.lload 4, 2) := by decide +kernel
theorem dX7_in_9 : decode cX7_in 9 = .ok (.lcmp, 1) := by decide +kernel
theorem dX7_in_10 : decode cX7_in 10 = .ok (.ifCond .gt 7, 3) := by decide +kernel
theorem dX7_in_13 : decode cX7_in 13 = .ok (.iconst 1, 1) := by decide +kernel
theorem dX7_in_14 : decode cX7_in 14 = .ok (.goto 4, 3) := by decide +kernel
theorem dX7_in_17 : decode cX7_in 17 = .ok (.iconst 0, 1) := by decide +kernel
theorem dX7_in_18 : decode cX7_in 18 = .ok (.ireturn, 1) := by decide +kernel
theorem dX7_isIn_0 : decode cX7_isIn 0 = .ok (.lload_n 0, 1) := by decide +kernel
theorem dX7_isIn_1 : decode cX7_isIn 1 = .ok (.iload_n 2, 1) := by decide +kernel
theorem dX7_isIn_2 : decode cX7_isIn 2 = .ok (.lushr, 1) := by decide +kernel
theorem dX7_isIn_3 : decode cX7_isIn 3 = .ok (.lconst 1, 1) := by decide +kernel
theorem dX7_isIn_4 : decode cX7_isIn 4 = .ok (.land, 1) := by decide +kernel
theorem dX7_isIn_5 : decode cX7_isIn 5 = .ok (.lconst 1, 1) := by decide +kernel
theorem dX7_isIn_6 : decode cX7_isIn 6 = .ok (.lcmp, 1) := by decide +kernel
theorem dX7_isIn_7 : decode cX7_isIn 7 = .ok (.ifCond .ne 7, 3) := by decide +kernel
theorem dX7_isIn_10 : decode cX7_isIn 10 = .ok (.iconst 1, 1) := by decide +kernel
theorem dX7_isIn_11 : decode cX7_isIn 11 = .ok (.goto 4, 3) := by decide +kernel
theorem dX7_isIn_14 : decode cX7_isIn 14 = .ok (.iconst 0, 1) := by decide +kernel
theorem dX7_isIn_15 : decode cX7_isIn 15 = .ok (.ireturn, 1) := by decide +kernel
theorem dX7_isSign_0 : decode cX7_isSign 0 = .ok (.iload_n 0, 1) := by decide +kernel
theorem dX7_isSign_1 : decode cX7_isSign 1 = .ok (.i2l, 1) := by decide +kernel
theorem dX7_isSign_2 : decode cX7_isSign 2 = .ok (.ldc2_w 35, 3) := by decide +kernel
theorem dX7_isSign_5 : decode cX7_isSign 5 = .ok (.ldc2_w 37, 3) := by decide +kernel
theorem dX7_isSign_8 : decode cX7_isSign 8 = .ok (.invokestatic 39, 3) := by decide +kernel
theorem dX7_isSign_11 : decode cX7_isSign 11 = .ok (.ifCond .eq 13, 3) := by decide +kernel
theorem dX7_isSign_14 : decode cX7_isSign 14 = .ok (.iload_n 0, 1) := by decide +kernel
theorem dX7_isSign_15 : decode cX7_isSign 15 = .ok (.bipush 39, 2) := by decide +kernel
theorem dX7_isSign_17 : decode cX7_isSign 17 = .ok (.if_icmp .eq 7, 3) := by decide +kernel
theorem dX7_isSign_20 : decode cX7_isSign 20 = .ok (.iconst 1, 1) := by decide +kernel
theorem dX7_isSign_21 : decode cX7_isSign 21 = .ok (.goto 4, 3) := by decide +kernel
theorem dX7_isSign_24 : decode cX7_isSign 24 = .ok (.iconst 0, 1) := by decide +kernel
theorem dX7_isSign_25 : decode cX7_isSign 25 = .ok (.ireturn, 1) := by decide +kernel
theorem dX7_rows_0 : decode cX7_rows 0 = .ok (.aload_n 0, 1) := by decide +kernel
theorem dX7_rows_1 : decode cX7_rows 1 = .ok (.getfield 7, 3) := by decide +kernel
theorem dX7_rows_4 : decode cX7_rows 4 = .ok (.iconst 0, 1) := by decide +kernel
theorem dX7_rows_5 : decode cX7_rows 5 = .ok (.laload, 1) := by decide +kernel
theorem dX7_rows_6 : decode cX7_rows 6 = .ok (.l2i, 1) := by decide +kernel
theorem dX7_rows_7 : decode cX7_rows 7 = .ok (.ireturn, 1) := by decide +kernel
theorem dX7_wide_0 : decode cX7_wide 0 = .ok (.aload_n 0, 1) := by decide +kernel
theorem dX7_wide_1 : decode cX7_wide 1 = .ok (.getfield 7, 3) := by decide +kernel
theorem dX7_wide_4 : decode cX7_wide 4 = .ok (.iconst 1, 1) := by decide +kernel
theorem dX7_wide_5 : decode cX7_wide 5 = .ok (.laload, 1) := by decide +kernel
theorem dX7_wide_6 : decode cX7_wide 6 = .ok (.l2i, 1) := by decide +kernel
theorem dX7_wide_7 : decode cX7_wide 7 = .ok (.ireturn, 1) := by decide +kernel
theorem dX7_cells_0 : decode cX7_cells 0 = .ok (.aload_n 0, 1) := by decide +kernel
theorem dX7_cells_1 : decode cX7_cells 1 = .ok (.invokevirtual 43, 3) := by decide +kernel
theorem dX7_cells_4 : decode cX7_cells 4 = .ok (.aload_n 0, 1) := by decide +kernel
theorem dX7_cells_5 : decode cX7_cells 5 = .ok (.invokevirtual 47, 3) := by decide +kernel
theorem dX7_cells_8 : decode cX7_cells 8 = .ok (.imul, 1) := by decide +kernel
theorem dX7_cells_9 : decode cX7_cells 9 = .ok (.ireturn, 1) := by decide +kernel
theorem dX7_drums_0 : decode cX7_drums 0 = .ok (.aload_n 0, 1) := by decide +kernel
theorem dX7_drums_1 : decode cX7_drums 1 = .ok (.getfield 7, 3) := by decide +kernel
theorem dX7_drums_4 : decode cX7_drums 4 = .ok (.iconst 3, 1) := by decide +kernel
theorem dX7_drums_5 : decode cX7_drums 5 = .ok (.laload, 1) := by decide +kernel
theorem dX7_drums_6 : decode cX7_drums 6 = .ok (.l2i, 1) := by decide +kernel
theorem dX7_drums_7 : decode cX7_drums 7 = .ok (.ireturn, 1) := by decide +kernel
theorem dX7_isBoard_0 : decode cX7_isBoard 0 = .ok (.aload_n 0, 1) := by decide +kernel
theorem dX7_isBoard_1 : decode cX7_isBoard 1 = .ok (.invokevirtual 50, 3) := by decide +kernel
theorem dX7_isBoard_4 : decode cX7_isBoard 4 = .ok (.ifCond .le 7, 3) := by decide +kernel
theorem dX7_isBoard_7 : decode cX7_isBoard 7 = .ok (.iconst 1, 1) := by decide +kernel
theorem dX7_isBoard_8 : decode cX7_isBoard 8 = .ok (.goto 4, 3) := by decide +kernel
theorem dX7_isBoard_11 : decode cX7_isBoard 11 = .ok (.iconst 0, 1) := by decide +kernel
theorem dX7_isBoard_12 : decode cX7_isBoard 12 = .ok (.ireturn, 1) := by decide +kernel
theorem dX7_isCell_0 : decode cX7_isCell 0 = .ok (.iload_n 1, 1) := by decide +kernel
theorem dX7_isCell_1 : decode cX7_isCell 1 = .ok (.i2l, 1) := by decide +kernel
theorem dX7_isCell_2 : decode cX7_isCell 2 = .ok (.lconst 0, 1) := by decide +kernel
theorem dX7_isCell_3 : decode cX7_isCell 3 = .ok (.aload_n 0, 1) := by decide +kernel
theorem dX7_isCell_4 : decode cX7_isCell 4 = .ok (.invokevirtual 53, 3) := by decide +kernel
theorem dX7_isCell_7 : decode cX7_isCell 7 = .ok (.iconst 1, 1) := by decide +kernel
theorem dX7_isCell_8 : decode cX7_isCell 8 = .ok (.isub, 1) := by decide +kernel
theorem dX7_isCell_9 : decode cX7_isCell 9 = .ok (.i2l, 1) := by decide +kernel
theorem dX7_isCell_10 : decode cX7_isCell 10 = .ok (.invokestatic 39, 3) := by decide +kernel
theorem dX7_isCell_13 : decode cX7_isCell 13 = .ok (.ireturn, 1) := by decide +kernel
theorem dX7_isRow_0 : decode cX7_isRow 0 = .ok (.iload_n 1, 1) := by decide +kernel
theorem dX7_isRow_1 : decode cX7_isRow 1 = .ok (.i2l, 1) := by decide +kernel
theorem dX7_isRow_2 : decode cX7_isRow 2 = .ok (.lconst 0, 1) := by decide +kernel
