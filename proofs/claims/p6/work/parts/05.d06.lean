theorem dX6_best_140 : decode cX6_best 140 = .ok (.iload 10, 2) := by decide +kernel
theorem dX6_best_142 : decode cX6_best 142 = .ok (.iload 6, 2) := by decide +kernel
theorem dX6_best_144 : decode cX6_best 144 = .ok (.if_icmp .lt 17, 3) := by decide +kernel
theorem dX6_best_147 : decode cX6_best 147 = .ok (.iload 10, 2) := by decide +kernel
theorem dX6_best_149 : decode cX6_best 149 = .ok (.iload 6, 2) := by decide +kernel
theorem dX6_best_151 : decode cX6_best 151 = .ok (.if_icmp .ne 21, 3) := by decide +kernel
theorem dX6_best_154 : decode cX6_best 154 = .ok (.iload 11, 2) := by decide +kernel
theorem dX6_best_156 : decode cX6_best 156 = .ok (.iload 7, 2) := by decide +kernel
theorem dX6_best_158 : decode cX6_best 158 = .ok (.if_icmp .ge 14, 3) := by decide +kernel
theorem dX6_best_161 : decode cX6_best 161 = .ok (.iload_n 3, 1) := by decide +kernel
theorem dX6_best_162 : decode cX6_best 162 = .ok (.istore 5, 2) := by decide +kernel
theorem dX6_best_164 : decode cX6_best 164 = .ok (.iload 10, 2) := by decide +kernel
theorem dX6_best_166 : decode cX6_best 166 = .ok (.istore 6, 2) := by decide +kernel
theorem dX6_best_168 : decode cX6_best 168 = .ok (.iload 11, 2) := by decide +kernel
theorem dX6_best_170 : decode cX6_best 170 = .ok (.istore 7, 2) := by decide +kernel
theorem dX6_best_172 : decode cX6_best 172 = .ok (.iinc 3 1, 3) := by decide +kernel
theorem dX6_best_175 : decode cX6_best 175 = .ok (.iload 8, 2) := by decide +kernel
theorem dX6_best_177 : decode cX6_best 177 = .ok (.iconst 1, 1) := by decide +kernel
theorem dX6_best_178 : decode cX6_best 178 = .ok (.iadd, 1) := by decide +kernel
theorem dX6_best_179 : decode cX6_best 179 = .ok (.istore 4, 2) := by decide +kernel
theorem dX6_best_181 : decode cX6_best 181 = .ok (.iinc 8 1, 3) := by decide +kernel
theorem dX6_best_184 : decode cX6_best 184 = .ok (.goto (-145), 3) := by decide +kernel
theorem dX6_best_187 : decode cX6_best 187 = .ok (.iload_n 2, 1) := by decide +kernel
theorem dX6_best_188 : decode cX6_best 188 = .ok (.ifCond .ne 8, 3) := by decide +kernel
theorem dX6_best_191 : decode cX6_best 191 = .ok (.iload 5, 2) := by decide +kernel
theorem dX6_best_193 : decode cX6_best 193 = .ok (.goto 15, 3) := by decide +kernel
theorem dX6_best_196 : decode cX6_best 196 = .ok (.iload_n 2, 1) := by decide +kernel
theorem dX6_best_197 : decode cX6_best 197 = .ok (.iconst 1, 1) := by decide +kernel
theorem dX6_best_198 : decode cX6_best 198 = .ok (.if_icmp .ne 8, 3) := by decide +kernel
theorem dX6_best_201 : decode cX6_best 201 = .ok (.iload 6, 2) := by decide +kernel
theorem dX6_best_203 : decode cX6_best 203 = .ok (.goto 5, 3) := by decide +kernel
theorem dX6_best_206 : decode cX6_best 206 = .ok (.iload 7, 2) := by decide +kernel
theorem dX6_best_208 : decode cX6_best 208 = .ok (.ireturn, 1) := by decide +kernel
theorem dX6_place_0 : decode cX6_place 0 = .ok (.aload_n 0, 1) := by decide +kernel
theorem dX6_place_1 : decode cX6_place 1 = .ok (.getfield 19, 3) := by decide +kernel
theorem dX6_place_4 : decode cX6_place 4 = .ok (.iload_n 1, 1) := by decide +kernel
theorem dX6_place_5 : decode cX6_place 5 = .ok (.invokevirtual 258, 3) := by decide +kernel
theorem dX6_place_8 : decode cX6_place 8 = .ok (.ifCond .eq 12, 3) := by decide +kernel
theorem dX6_place_11 : decode cX6_place 11 = .ok (.iload_n 2, 1) := by decide +kernel
theorem dX6_place_12 : decode cX6_place 12 = .ok (.ifCond .lt 8, 3) := by decide +kernel
theorem dX6_place_15 : decode cX6_place 15 = .ok (.iload_n 2, 1) := by decide +kernel
theorem dX6_place_16 : decode cX6_place 16 = .ok (.iconst 1, 1) := by decide +kernel
theorem dX6_place_17 : decode cX6_place 17 = .ok (.if_icmp .le 5, 3) := by decide +kernel
theorem dX6_place_20 : decode cX6_place 20 = .ok (.iconst (-1), 1) := by decide +kernel
theorem dX6_place_21 : decode cX6_place 21 = .ok (.ireturn, 1) := by decide +kernel
theorem dX6_place_22 : decode cX6_place 22 = .ok (.aload_n 0, 1) := by decide +kernel
theorem dX6_place_23 : decode cX6_place 23 = .ok (.getfield 10, 3) := by decide +kernel
theorem dX6_place_26 : decode cX6_place 26 = .ok (.getfield 51, 3) := by decide +kernel
theorem dX6_place_29 : decode cX6_place 29 = .ok (.istore_n 3, 1) := by decide +kernel
theorem dX6_place_30 : decode cX6_place 30 = .ok (.iload_n 3, 1) := by decide +kernel
theorem dX6_place_31 : decode cX6_place 31 = .ok (.ifCond .eq 12, 3) := by decide +kernel
theorem dX6_place_34 : decode cX6_place 34 = .ok (.aload_n 0, 1) := by decide +kernel
theorem dX6_place_35 : decode cX6_place 35 = .ok (.iconst 0, 1) := by decide +kernel
theorem dX6_place_36 : decode cX6_place 36 = .ok (.iload_n 3, 1) := by decide +kernel
theorem dX6_place_37 : decode cX6_place 37 = .ok (.invokevirtual 329, 3) := by decide +kernel
theorem dX6_place_40 : decode cX6_place 40 = .ok (.ifCond .ne 6, 3) := by decide +kernel
theorem dX6_place_43 : decode cX6_place 43 = .ok (.bipush (-2), 2) := by decide +kernel
theorem dX6_place_45 : decode cX6_place 45 = .ok (.ireturn, 1) := by decide +kernel
theorem dX6_place_46 : decode cX6_place 46 = .ok (.iconst (-1), 1) := by decide +kernel
theorem dX6_place_47 : decode cX6_place 47 = .ok (.istore 4, 2) := by decide +kernel
theorem dX6_place_49 : decode cX6_place 49 = .ok (.iconst 0, 1) := by decide +kernel
theorem dX6_place_50 : decode cX6_place 50 = .ok (.istore 5, 2) := by decide +kernel
theorem dX6_place_52 : decode cX6_place 52 = .ok (.iconst 0, 1) := by decide +kernel
theorem dX6_place_53 : decode cX6_place 53 = .ok (.istore 6, 2) := by decide +kernel
theorem dX6_place_55 : decode cX6_place 55 = .ok (.iconst 0, 1) := by decide +kernel
theorem dX6_place_56 : decode cX6_place 56 = .ok (.istore 7, 2) := by decide +kernel
theorem dX6_place_58 : decode cX6_place 58 = .ok (.iload 7, 2) := by decide +kernel
theorem dX6_place_60 : decode cX6_place 60 = .ok (.iload_n 3, 1) := by decide +kernel
theorem dX6_place_61 : decode cX6_place 61 = .ok (.iadd, 1) := by decide +kernel
theorem dX6_place_62 : decode cX6_place 62 = .ok (.aload_n 0, 1) := by decide +kernel
theorem dX6_place_63 : decode cX6_place 63 = .ok (.getfield 19, 3) := by decide +kernel
theorem dX6_place_66 : decode cX6_place 66 = .ok (.getfield 261, 3) := by decide +kernel
theorem dX6_place_69 : decode cX6_place 69 = .ok (.if_icmp .gt 84, 3) := by decide +kernel
theorem dX6_place_72 : decode cX6_place 72 = .ok (.aload_n 0, 1) := by decide +kernel
theorem dX6_place_73 : decode cX6_place 73 = .ok (.getfield 19, 3) := by decide +kernel
theorem dX6_place_76 : decode cX6_place 76 = .ok (.iload_n 1, 1) := by decide +kernel
theorem dX6_place_77 : decode cX6_place 77 = .ok (.iload 7, 2) := by decide +kernel
theorem dX6_place_79 : decode cX6_place 79 = .ok (.aload_n 0, 1) := by decide +kernel
theorem dX6_place_80 : decode cX6_place 80 = .ok (.getfield 10, 3) := by decide +kernel
theorem dX6_place_83 : decode cX6_place 83 = .ok (.iconst 0, 1) := by decide +kernel
theorem dX6_place_84 : decode cX6_place 84 = .ok (.iload_n 3, 1) := by decide +kernel
theorem dX6_place_85 : decode cX6_place 85 = .ok (.invokevirtual 322, 3) := by decide +kernel
theorem dX6_place_88 : decode cX6_place 88 = .ok (.istore 8, 2) := by decide +kernel
theorem dX6_place_90 : decode cX6_place 90 = .ok (.aload_n 0, 1) := by decide +kernel
theorem dX6_place_91 : decode cX6_place 91 = .ok (.getfield 19, 3) := by decide +kernel
theorem dX6_place_94 : decode cX6_place 94 = .ok (.iload_n 1, 1) := by decide +kernel
theorem dX6_place_95 : decode cX6_place 95 = .ok (.iload 7, 2) := by decide +kernel
theorem dX6_place_97 : decode cX6_place 97 = .ok (.aload_n 0, 1) := by decide +kernel
theorem dX6_place_98 : decode cX6_place 98 = .ok (.getfield 10, 3) := by decide +kernel
theorem dX6_place_101 : decode cX6_place 101 = .ok (.iconst 0, 1) := by decide +kernel
theorem dX6_place_102 : decode cX6_place 102 = .ok (.iload_n 3, 1) := by decide +kernel
theorem dX6_place_103 : decode cX6_place 103 = .ok (.invokevirtual 332, 3) := by decide +kernel
theorem dX6_place_106 : decode cX6_place 106 = .ok (.istore 9, 2) := by decide +kernel
theorem dX6_place_108 : decode cX6_place 108 = .ok (.iload 4, 2) := by decide +kernel
theorem dX6_place_110 : decode cX6_place 110 = .ok (.iconst (-1), 1) := by decide +kernel
theorem dX6_place_111 : decode cX6_place 111 = .ok (.if_icmp .eq 24, 3) := by decide +kernel
theorem dX6_place_114 : decode cX6_place 114 = .ok (.iload 9, 2) := by decide +kernel
theorem dX6_place_116 : decode cX6_place 116 = .ok (.iload 6, 2) := by decide +kernel
theorem dX6_place_118 : decode cX6_place 118 = .ok (.if_icmp .lt 17, 3) := by decide +kernel
theorem dX6_place_121 : decode cX6_place 121 = .ok (.iload 9, 2) := by decide +kernel
theorem dX6_place_123 : decode cX6_place 123 = .ok (.iload 6, 2) := by decide +kernel
theorem dX6_place_125 : decode cX6_place 125 = .ok (.if_icmp .ne 22, 3) := by decide +kernel
theorem dX6_place_128 : decode cX6_place 128 = .ok (.iload 8, 2) := by decide +kernel
theorem dX6_place_130 : decode cX6_place 130 = .ok (.iload 5, 2) := by decide +kernel
theorem dX6_place_132 : decode cX6_place 132 = .ok (.if_icmp .ge 15, 3) := by decide +kernel
theorem dX6_place_135 : decode cX6_place 135 = .ok (.iload 7, 2) := by decide +kernel
theorem dX6_place_137 : decode cX6_place 137 = .ok (.istore 4, 2) := by decide +kernel
theorem dX6_place_139 : decode cX6_place 139 = .ok (.iload 8, 2) := by decide +kernel
theorem dX6_place_141 : decode cX6_place 141 = .ok (.istore 5, 2) := by decide +kernel
theorem dX6_place_143 : decode cX6_place 143 = .ok (.iload 9, 2) := by decide +kernel
theorem dX6_place_145 : decode cX6_place 145 = .ok (.istore 6, 2) := by decide +kernel
theorem dX6_place_147 : decode cX6_place 147 = .ok (.iinc 7 1, 3) := by decide +kernel
theorem dX6_place_150 : decode cX6_place 150 = .ok (.goto (-92), 3) := by decide +kernel
theorem dX6_place_153 : decode cX6_place 153 = .ok (.iload_n 2, 1) := by decide +kernel
theorem dX6_place_154 : decode cX6_place 154 = .ok (.ifCond .ne 8, 3) := by decide +kernel
theorem dX6_place_157 : decode cX6_place 157 = .ok (.iload 4, 2) := by decide +kernel
theorem dX6_place_159 : decode cX6_place 159 = .ok (.goto 5, 3) := by decide +kernel
theorem dX6_place_162 : decode cX6_place 162 = .ok (.iload 5, 2) := by decide +kernel
theorem dX6_place_164 : decode cX6_place 164 = .ok (.ireturn, 1) := by decide +kernel
theorem dX6_log_0 : decode cX6_log 0 = .ok (.aload_n 0, 1) := by decide +kernel
theorem dX6_log_1 : decode cX6_log 1 = .ok (.getfield 19, 3) := by decide +kernel
theorem dX6_log_4 : decode cX6_log 4 = .ok (.iload_n 1, 1) := by decide +kernel
theorem dX6_log_5 : decode cX6_log 5 = .ok (.invokevirtual 236, 3) := by decide +kernel
theorem dX6_log_8 : decode cX6_log 8 = .ok (.ifCond .ne 5, 3) := by decide +kernel
theorem dX6_log_11 : decode cX6_log 11 = .ok (.iconst (-1), 1) := by decide +kernel
theorem dX6_log_12 : decode cX6_log 12 = .ok (.ireturn, 1) := by decide +kernel
theorem dX6_log_13 : decode cX6_log 13 = .ok (.iload_n 2, 1) := by decide +kernel
theorem dX6_log_14 : decode cX6_log 14 = .ok (.tableswitch 53 0 2 #[26, 35, 44], 26) := by decide +kernel
theorem dX6_log_40 : decode cX6_log 40 = .ok (.aload_n 0, 1) := by decide +kernel
theorem dX6_log_41 : decode cX6_log 41 = .ok (.getfield 19, 3) := by decide +kernel
theorem dX6_log_44 : decode cX6_log 44 = .ok (.iload_n 1, 1) := by decide +kernel
theorem dX6_log_45 : decode cX6_log 45 = .ok (.invokevirtual 338, 3) := by decide +kernel
theorem dX6_log_48 : decode cX6_log 48 = .ok (.ireturn, 1) := by decide +kernel
theorem dX6_log_49 : decode cX6_log 49 = .ok (.aload_n 0, 1) := by decide +kernel
theorem dX6_log_50 : decode cX6_log 50 = .ok (.getfield 19, 3) := by decide +kernel
theorem dX6_log_53 : decode cX6_log 53 = .ok (.iload_n 1, 1) := by decide +kernel
theorem dX6_log_54 : decode cX6_log 54 = .ok (.invokevirtual 341, 3) := by decide +kernel
theorem dX6_log_57 : decode cX6_log 57 = .ok (.ireturn, 1) := by decide +kernel
theorem dX6_log_58 : decode cX6_log 58 = .ok (.aload_n 0, 1) := by decide +kernel
theorem dX6_log_59 : decode cX6_log 59 = .ok (.getfield 19, 3) := by decide +kernel
theorem dX6_log_62 : decode cX6_log 62 = .ok (.iload_n 1, 1) := by decide +kernel
theorem dX6_log_63 : decode cX6_log 63 = .ok (.invokevirtual 344, 3) := by decide +kernel
theorem dX6_log_66 : decode cX6_log 66 = .ok (.ireturn, 1) := by decide +kernel
theorem dX6_log_67 : decode cX6_log 67 = .ok (.iconst (-1), 1) := by decide +kernel
theorem dX6_log_68 : decode cX6_log 68 = .ok (.ireturn, 1) := by decide +kernel
theorem dX6_often_0 : decode cX6_often 0 = .ok (.aload_n 0, 1) := by decide +kernel
theorem dX6_often_1 : decode cX6_often 1 = .ok (.getfield 19, 3) := by decide +kernel
theorem dX6_often_4 : decode cX6_often 4 = .ok (.iload_n 1, 1) := by decide +kernel
theorem dX6_often_5 : decode cX6_often 5 = .ok (.invokevirtual 236, 3) := by decide +kernel
theorem dX6_often_8 : decode cX6_often 8 = .ok (.ifCond .eq 19, 3) := by decide +kernel
theorem dX6_often_11 : decode cX6_often 11 = .ok (.iload_n 2, 1) := by decide +kernel
theorem dX6_often_12 : decode cX6_often 12 = .ok (.ifCond .lt 15, 3) := by decide +kernel
theorem dX6_often_15 : decode cX6_often 15 = .ok (.iload_n 2, 1) := by decide +kernel
theorem dX6_often_16 : decode cX6_often 16 = .ok (.aload_n 0, 1) := by decide +kernel
theorem dX6_often_17 : decode cX6_often 17 = .ok (.getfield 19, 3) := by decide +kernel
theorem dX6_often_20 : decode cX6_often 20 = .ok (.iload_n 1, 1) := by decide +kernel
theorem dX6_often_21 : decode cX6_often 21 = .ok (.invokevirtual 242, 3) := by decide +kernel
theorem dX6_often_24 : decode cX6_often 24 = .ok (.if_icmp .lt 5, 3) := by decide +kernel
theorem dX6_often_27 : decode cX6_often 27 = .ok (.iconst (-1), 1) := by decide +kernel
theorem dX6_often_28 : decode cX6_often 28 = .ok (.ireturn, 1) := by decide +kernel
theorem dX6_often_29 : decode cX6_often 29 = .ok (.aload_n 0, 1) := by decide +kernel
theorem dX6_often_30 : decode cX6_often 30 = .ok (.getfield 19, 3) := by decide +kernel
theorem dX6_often_33 : decode cX6_often 33 = .ok (.iload_n 1, 1) := by decide +kernel
theorem dX6_often_34 : decode cX6_often 34 = .ok (.iload_n 2, 1) := by decide +kernel
theorem dX6_often_35 : decode cX6_often 35 = .ok (.iload_n 3, 1) := by decide +kernel
theorem dX6_often_36 : decode cX6_often 36 = .ok (.invokevirtual 347, 3) := by decide +kernel
theorem dX6_often_39 : decode cX6_often 39 = .ok (.ireturn, 1) := by decide +kernel
theorem dX6_usual_0 : decode cX6_usual 0 = .ok (.aload_n 0, 1) := by decide +kernel
theorem dX6_usual_1 : decode cX6_usual 1 = .ok (.getfield 19, 3) := by decide +kernel
theorem dX6_usual_4 : decode cX6_usual 4 = .ok (.iload_n 1, 1) := by decide +kernel
theorem dX6_usual_5 : decode cX6_usual 5 = .ok (.invokevirtual 236, 3) := by decide +kernel
theorem dX6_usual_8 : decode cX6_usual 8 = .ok (.ifCond .eq 12, 3) := by decide +kernel
theorem dX6_usual_11 : decode cX6_usual 11 = .ok (.iload_n 2, 1) := by decide +kernel
theorem dX6_usual_12 : decode cX6_usual 12 = .ok (.ifCond .lt 8, 3) := by decide +kernel
theorem dX6_usual_15 : decode cX6_usual 15 = .ok (.iload_n 2, 1) := by decide +kernel
theorem dX6_usual_16 : decode cX6_usual 16 = .ok (.iconst 1, 1) := by decide +kernel
theorem dX6_usual_17 : decode cX6_usual 17 = .ok (.if_icmp .le 5, 3) := by decide +kernel
theorem dX6_usual_20 : decode cX6_usual 20 = .ok (.iconst (-1), 1) := by decide +kernel
theorem dX6_usual_21 : decode cX6_usual 21 = .ok (.ireturn, 1) := by decide +kernel
theorem dX6_usual_22 : decode cX6_usual 22 = .ok (.iconst (-1), 1) := by decide +kernel
theorem dX6_usual_23 : decode cX6_usual 23 = .ok (.istore_n 3, 1) := by decide +kernel
theorem dX6_usual_24 : decode cX6_usual 24 = .ok (.iconst 0, 1) := by decide +kernel
theorem dX6_usual_25 : decode cX6_usual 25 = .ok (.istore 4, 2) := by decide +kernel
theorem dX6_usual_27 : decode cX6_usual 27 = .ok (.iconst 0, 1) := by decide +kernel
theorem dX6_usual_28 : decode cX6_usual 28 = .ok (.istore 5, 2) := by decide +kernel
theorem dX6_usual_30 : decode cX6_usual 30 = .ok (.iload 5, 2) := by decide +kernel
theorem dX6_usual_32 : decode cX6_usual 32 = .ok (.aload_n 0, 1) := by decide +kernel
theorem dX6_usual_33 : decode cX6_usual 33 = .ok (.getfield 19, 3) := by decide +kernel
theorem dX6_usual_36 : decode cX6_usual 36 = .ok (.iload_n 1, 1) := by decide +kernel
theorem dX6_usual_37 : decode cX6_usual 37 = .ok (.invokevirtual 242, 3) := by decide +kernel
theorem dX6_usual_40 : decode cX6_usual 40 = .ok (.if_icmp .ge 36, 3) := by decide +kernel
theorem dX6_usual_43 : decode cX6_usual 43 = .ok (.aload_n 0, 1) := by decide +kernel
theorem dX6_usual_44 : decode cX6_usual 44 = .ok (.getfield 19, 3) := by decide +kernel
theorem dX6_usual_47 : decode cX6_usual 47 = .ok (.iload_n 1, 1) := by decide +kernel
theorem dX6_usual_48 : decode cX6_usual 48 = .ok (.iload 5, 2) := by decide +kernel
theorem dX6_usual_50 : decode cX6_usual 50 = .ok (.iconst 1, 1) := by decide +kernel
theorem dX6_usual_51 : decode cX6_usual 51 = .ok (.invokevirtual 347, 3) := by decide +kernel
theorem dX6_usual_54 : decode cX6_usual 54 = .ok (.istore 6, 2) := by decide +kernel
theorem dX6_usual_56 : decode cX6_usual 56 = .ok (.iload 6, 2) := by decide +kernel
theorem dX6_usual_58 : decode cX6_usual 58 = .ok (.iload 4, 2) := by decide +kernel
theorem dX6_usual_60 : decode cX6_usual 60 = .ok (.if_icmp .le 10, 3) := by decide +kernel
theorem dX6_usual_63 : decode cX6_usual 63 = .ok (.iload 5, 2) := by decide +kernel
theorem dX6_usual_65 : decode cX6_usual 65 = .ok (.istore_n 3, 1) := by decide +kernel
theorem dX6_usual_66 : decode cX6_usual 66 = .ok (.iload 6, 2) := by decide +kernel
theorem dX6_usual_68 : decode cX6_usual 68 = .ok (.istore 4, 2) := by decide +kernel
theorem dX6_usual_70 : decode cX6_usual 70 = .ok (.iinc 5 1, 3) := by decide +kernel
theorem dX6_usual_73 : decode cX6_usual 73 = .ok (.goto (-43), 3) := by decide +kernel
theorem dX6_usual_76 : decode cX6_usual 76 = .ok (.iload_n 3, 1) := by decide +kernel
theorem dX6_usual_77 : decode cX6_usual 77 = .ok (.iconst (-1), 1) := by decide +kernel
theorem dX6_usual_78 : decode cX6_usual 78 = .ok (.if_icmp .ne 6, 3) := by decide +kernel
theorem dX6_usual_81 : decode cX6_usual 81 = .ok (.bipush (-2), 2) := by decide +kernel
theorem dX6_usual_83 : decode cX6_usual 83 = .ok (.ireturn, 1) := by decide +kernel
theorem dX6_usual_84 : decode cX6_usual 84 = .ok (.iload_n 2, 1) := by decide +kernel
theorem dX6_usual_85 : decode cX6_usual 85 = .ok (.ifCond .ne 7, 3) := by decide +kernel
theorem dX6_usual_88 : decode cX6_usual 88 = .ok (.iload_n 3, 1) := by decide +kernel
theorem dX6_usual_89 : decode cX6_usual 89 = .ok (.goto 5, 3) := by decide +kernel
theorem dX6_usual_92 : decode cX6_usual 92 = .ok (.iload 4, 2) := by decide +kernel
theorem dX6_usual_94 : decode cX6_usual 94 = .ok (.ireturn, 1) := by decide +kernel
theorem dX6_better_0 : decode cX6_better 0 = .ok (.aload_n 0, 1) := by decide +kernel
theorem dX6_better_1 : decode cX6_better 1 = .ok (.getfield 19, 3) := by decide +kernel
theorem dX6_better_4 : decode cX6_better 4 = .ok (.iload_n 1, 1) := by decide +kernel
theorem dX6_better_5 : decode cX6_better 5 = .ok (.invokevirtual 236, 3) := by decide +kernel
theorem dX6_better_8 : decode cX6_better 8 = .ok (.ifCond .eq 12, 3) := by decide +kernel
theorem dX6_better_11 : decode cX6_better 11 = .ok (.iload_n 2, 1) := by decide +kernel
theorem dX6_better_12 : decode cX6_better 12 = .ok (.ifCond .lt 8, 3) := by decide +kernel
theorem dX6_better_15 : decode cX6_better 15 = .ok (.iload_n 2, 1) := by decide +kernel
theorem dX6_better_16 : decode cX6_better 16 = .ok (.iconst 2, 1) := by decide +kernel
theorem dX6_better_17 : decode cX6_better 17 = .ok (.if_icmp .le 5, 3) := by decide +kernel
theorem dX6_better_20 : decode cX6_better 20 = .ok (.iconst (-1), 1) := by decide +kernel
theorem dX6_better_21 : decode cX6_better 21 = .ok (.ireturn, 1) := by decide +kernel
theorem dX6_better_22 : decode cX6_better 22 = .ok (.aload_n 0, 1) := by decide +kernel
theorem dX6_better_23 : decode cX6_better 23 = .ok (.getfield 19, 3) := by decide +kernel
theorem dX6_better_26 : decode cX6_better 26 = .ok (.iload_n 1, 1) := by decide +kernel
theorem dX6_better_27 : decode cX6_better 27 = .ok (.invokevirtual 242, 3) := by decide +kernel
theorem dX6_better_30 : decode cX6_better 30 = .ok (.istore_n 3, 1) := by decide +kernel
theorem dX6_better_31 : decode cX6_better 31 = .ok (.iconst 0, 1) := by decide +kernel
theorem dX6_better_32 : decode cX6_better 32 = .ok (.istore 4, 2) := by decide +kernel
theorem dX6_better_34 : decode cX6_better 34 = .ok (.iconst (-1), 1) := by decide +kernel
theorem dX6_better_35 : decode cX6_better 35 = .ok (.istore 5, 2) := by decide +kernel
theorem dX6_better_37 : decode cX6_better 37 = .ok (.iconst (-1), 1) := by decide +kernel
theorem dX6_better_38 : decode cX6_better 38 = .ok (.istore 6, 2) := by decide +kernel
theorem dX6_better_40 : decode cX6_better 40 = .ok (.iconst 1, 1) := by decide +kernel
theorem dX6_better_41 : decode cX6_better 41 = .ok (.istore 7, 2) := by decide +kernel
theorem dX6_better_43 : decode cX6_better 43 = .ok (.iload 7, 2) := by decide +kernel
theorem dX6_better_45 : decode cX6_better 45 = .ok (.iload_n 3, 1) := by decide +kernel
theorem dX6_better_46 : decode cX6_better 46 = .ok (.if_icmp .ge 60, 3) := by decide +kernel
theorem dX6_better_49 : decode cX6_better 49 = .ok (.iload 7, 2) := by decide +kernel
theorem dX6_better_51 : decode cX6_better 51 = .ok (.iconst 1, 1) := by decide +kernel
theorem dX6_better_52 : decode cX6_better 52 = .ok (.iadd, 1) := by decide +kernel
theorem dX6_better_53 : decode cX6_better 53 = .ok (.istore 8, 2) := by decide +kernel
theorem dX6_better_55 : decode cX6_better 55 = .ok (.iload 8, 2) := by decide +kernel
theorem dX6_better_57 : decode cX6_better 57 = .ok (.iload_n 3, 1) := by decide +kernel
theorem dX6_better_58 : decode cX6_better 58 = .ok (.if_icmp .ge 42, 3) := by decide +kernel
theorem dX6_better_61 : decode cX6_better 61 = .ok (.aload_n 0, 1) := by decide +kernel
theorem dX6_better_62 : decode cX6_better 62 = .ok (.getfield 19, 3) := by decide +kernel
theorem dX6_better_65 : decode cX6_better 65 = .ok (.iload_n 1, 1) := by decide +kernel
theorem dX6_better_66 : decode cX6_better 66 = .ok (.iload 7, 2) := by decide +kernel
theorem dX6_better_68 : decode cX6_better 68 = .ok (.iload 8, 2) := by decide +kernel
theorem dX6_better_70 : decode cX6_better 70 = .ok (.invokevirtual 351, 3) := by decide +kernel
theorem dX6_better_73 : decode cX6_better 73 = .ok (.istore 9, 2) := by decide +kernel
theorem dX6_better_75 : decode cX6_better 75 = .ok (.iload 9, 2) := by decide +kernel
theorem dX6_better_77 : decode cX6_better 77 = .ok (.iload 4, 2) := by decide +kernel
theorem dX6_better_79 : decode cX6_better 79 = .ok (.if_icmp .ge 15, 3) := by decide +kernel
theorem dX6_better_82 : decode cX6_better 82 = .ok (.iload 9, 2) := by decide +kernel
theorem dX6_better_84 : decode cX6_better 84 = .ok (.istore 4, 2) := by decide +kernel
theorem dX6_better_86 : decode cX6_better 86 = .ok (.iload 7, 2) := by decide +kernel
theorem dX6_better_88 : decode cX6_better 88 = .ok (.istore 5, 2) := by decide +kernel
theorem dX6_better_90 : decode cX6_better 90 = .ok (.iload 8, 2) := by decide +kernel
theorem dX6_better_92 : decode cX6_better 92 = .ok (.istore 6, 2) := by decide +kernel
theorem dX6_better_94 : decode cX6_better 94 = .ok (.iinc 8 1, 3) := by decide +kernel
theorem dX6_better_97 : decode cX6_better 97 = .ok (.goto (-42), 3) := by decide +kernel
theorem dX6_better_100 : decode cX6_better 100 = .ok (.iinc 7 1, 3) := by decide +kernel
theorem dX6_better_103 : decode cX6_better 103 = .ok (.goto (-60), 3) := by decide +kernel
theorem dX6_better_106 : decode cX6_better 106 = .ok (.iload 5, 2) := by decide +kernel
theorem dX6_better_108 : decode cX6_better 108 = .ok (.iconst (-1), 1) := by decide +kernel
theorem dX6_better_109 : decode cX6_better 109 = .ok (.if_icmp .ne 6, 3) := by decide +kernel
theorem dX6_better_112 : decode cX6_better 112 = .ok (.bipush (-2), 2) := by decide +kernel
theorem dX6_better_114 : decode cX6_better 114 = .ok (.ireturn, 1) := by decide +kernel
theorem dX6_better_115 : decode cX6_better 115 = .ok (.iload_n 2, 1) := by decide +kernel
theorem dX6_better_116 : decode cX6_better 116 = .ok (.ifCond .ne 17, 3) := by decide +kernel
theorem dX6_better_119 : decode cX6_better 119 = .ok (.aload_n 0, 1) := by decide +kernel
theorem dX6_better_120 : decode cX6_better 120 = .ok (.getfield 19, 3) := by decide +kernel
theorem dX6_better_123 : decode cX6_better 123 = .ok (.iload_n 1, 1) := by decide +kernel
theorem dX6_better_124 : decode cX6_better 124 = .ok (.invokevirtual 338, 3) := by decide +kernel
theorem dX6_better_127 : decode cX6_better 127 = .ok (.iload 4, 2) := by decide +kernel
theorem dX6_better_129 : decode cX6_better 129 = .ok (.iadd, 1) := by decide +kernel
theorem dX6_better_130 : decode cX6_better 130 = .ok (.goto 15, 3) := by decide +kernel
theorem dX6_better_133 : decode cX6_better 133 = .ok (.iload_n 2, 1) := by decide +kernel
theorem dX6_better_134 : decode cX6_better 134 = .ok (.iconst 1, 1) := by decide +kernel
theorem dX6_better_135 : decode cX6_better 135 = .ok (.if_icmp .ne 8, 3) := by decide +kernel
theorem dX6_better_138 : decode cX6_better 138 = .ok (.iload 5, 2) := by decide +kernel
theorem dX6_better_140 : decode cX6_better 140 = .ok (.goto 5, 3) := by decide +kernel
theorem dX6_better_143 : decode cX6_better 143 = .ok (.iload 6, 2) := by decide +kernel
theorem dX6_better_145 : decode cX6_better 145 = .ok (.ireturn, 1) := by decide +kernel
theorem dX6_farthest_0 : decode cX6_farthest 0 = .ok (.aload_n 0, 1) := by decide +kernel
theorem dX6_farthest_1 : decode cX6_farthest 1 = .ok (.getfield 19, 3) := by decide +kernel
theorem dX6_farthest_4 : decode cX6_farthest 4 = .ok (.iload_n 1, 1) := by decide +kernel
theorem dX6_farthest_5 : decode cX6_farthest 5 = .ok (.invokevirtual 118, 3) := by decide +kernel
theorem dX6_farthest_8 : decode cX6_farthest 8 = .ok (.ifCond .eq 12, 3) := by decide +kernel
theorem dX6_farthest_11 : decode cX6_farthest 11 = .ok (.iload_n 2, 1) := by decide +kernel
theorem dX6_farthest_12 : decode cX6_farthest 12 = .ok (.ifCond .lt 8, 3) := by decide +kernel
theorem dX6_farthest_15 : decode cX6_farthest 15 = .ok (.iload_n 2, 1) := by decide +kernel
theorem dX6_farthest_16 : decode cX6_farthest 16 = .ok (.iconst 1, 1) := by decide +kernel
theorem dX6_farthest_17 : decode cX6_farthest 17 = .ok (.if_icmp .le 5, 3) := by decide +kernel
theorem dX6_farthest_20 : decode cX6_farthest 20 = .ok (.iconst (-1), 1) := by decide +kernel
theorem dX6_farthest_21 : decode cX6_farthest 21 = .ok (.ireturn, 1) := by decide +kernel
theorem dX6_farthest_22 : decode cX6_farthest 22 = .ok (.iconst (-1), 1) := by decide +kernel
theorem dX6_farthest_23 : decode cX6_farthest 23 = .ok (.istore_n 3, 1) := by decide +kernel
theorem dX6_farthest_24 : decode cX6_farthest 24 = .ok (.iconst (-1), 1) := by decide +kernel
theorem dX6_farthest_25 : decode cX6_farthest 25 = .ok (.istore 4, 2) := by decide +kernel
theorem dX6_farthest_27 : decode cX6_farthest 27 = .ok (.iconst 0, 1) := by decide +kernel
theorem dX6_farthest_28 : decode cX6_farthest 28 = .ok (.istore 5, 2) := by decide +kernel
theorem dX6_farthest_30 : decode cX6_farthest 30 = .ok (.iload 5, 2) := by decide +kernel
theorem dX6_farthest_32 : decode cX6_farthest 32 = .ok (.aload_n 0, 1) := by decide +kernel
theorem dX6_farthest_33 : decode cX6_farthest 33 = .ok (.getfield 19, 3) := by decide +kernel
theorem dX6_farthest_36 : decode cX6_farthest 36 = .ok (.iload_n 1, 1) := by decide +kernel
theorem dX6_farthest_37 : decode cX6_farthest 37 = .ok (.invokevirtual 355, 3) := by decide +kernel
theorem dX6_farthest_40 : decode cX6_farthest 40 = .ok (.if_icmp .ge 61, 3) := by decide +kernel
theorem dX6_farthest_43 : decode cX6_farthest 43 = .ok (.aload_n 0, 1) := by decide +kernel
theorem dX6_farthest_44 : decode cX6_farthest 44 = .ok (.getfield 19, 3) := by decide +kernel
theorem dX6_farthest_47 : decode cX6_farthest 47 = .ok (.iload_n 1, 1) := by decide +kernel
theorem dX6_farthest_48 : decode cX6_farthest 48 = .ok (.iload 5, 2) := by decide +kernel
theorem dX6_farthest_50 : decode cX6_farthest 50 = .ok (.invokevirtual 358, 3) := by decide +kernel
theorem dX6_farthest_53 : decode cX6_farthest 53 = .ok (.istore 6, 2) := by decide +kernel
theorem dX6_farthest_55 : decode cX6_farthest 55 = .ok (.aload_n 0, 1) := by decide +kernel
theorem dX6_farthest_56 : decode cX6_farthest 56 = .ok (.getfield 19, 3) := by decide +kernel
theorem dX6_farthest_59 : decode cX6_farthest 59 = .ok (.iload_n 1, 1) := by decide +kernel
theorem dX6_farthest_60 : decode cX6_farthest 60 = .ok (.iload 5, 2) := by decide +kernel
theorem dX6_farthest_62 : decode cX6_farthest 62 = .ok (.invokevirtual 264, 3) := by decide +kernel
theorem dX6_farthest_65 : decode cX6_farthest 65 = .ok (.istore 7, 2) := by decide +kernel
theorem dX6_farthest_67 : decode cX6_farthest 67 = .ok (.iload 6, 2) := by decide +kernel
theorem dX6_farthest_69 : decode cX6_farthest 69 = .ok (.iload_n 3, 1) := by decide +kernel
theorem dX6_farthest_70 : decode cX6_farthest 70 = .ok (.if_icmp .le 25, 3) := by decide +kernel
theorem dX6_farthest_73 : decode cX6_farthest 73 = .ok (.aload_n 0, 1) := by decide +kernel
theorem dX6_farthest_74 : decode cX6_farthest 74 = .ok (.getfield 19, 3) := by decide +kernel
theorem dX6_farthest_77 : decode cX6_farthest 77 = .ok (.iload_n 1, 1) := by decide +kernel
theorem dX6_farthest_78 : decode cX6_farthest 78 = .ok (.iload 7, 2) := by decide +kernel
theorem dX6_farthest_80 : decode cX6_farthest 80 = .ok (.invokevirtual 361, 3) := by decide +kernel
theorem dX6_farthest_83 : decode cX6_farthest 83 = .ok (.iload 5, 2) := by decide +kernel
theorem dX6_farthest_85 : decode cX6_farthest 85 = .ok (.if_icmp .ne 10, 3) := by decide +kernel
theorem dX6_farthest_88 : decode cX6_farthest 88 = .ok (.iload 6, 2) := by decide +kernel
theorem dX6_farthest_90 : decode cX6_farthest 90 = .ok (.istore_n 3, 1) := by decide +kernel
theorem dX6_farthest_91 : decode cX6_farthest 91 = .ok (.iload 7, 2) := by decide +kernel
theorem dX6_farthest_93 : decode cX6_farthest 93 = .ok (.istore 4, 2) := by decide +kernel
theorem dX6_farthest_95 : decode cX6_farthest 95 = .ok (.iinc 5 1, 3) := by decide +kernel
theorem dX6_farthest_98 : decode cX6_farthest 98 = .ok (.goto (-68), 3) := by decide +kernel
theorem dX6_farthest_101 : decode cX6_farthest 101 = .ok (.iload_n 2, 1) := by decide +kernel
theorem dX6_farthest_102 : decode cX6_farthest 102 = .ok (.ifCond .ne 7, 3) := by decide +kernel
theorem dX6_farthest_105 : decode cX6_farthest 105 = .ok (.iload_n 3, 1) := by decide +kernel
theorem dX6_farthest_106 : decode cX6_farthest 106 = .ok (.goto 5, 3) := by decide +kernel
theorem dX6_farthest_109 : decode cX6_farthest 109 = .ok (.iload 4, 2) := by decide +kernel
theorem dX6_farthest_111 : decode cX6_farthest 111 = .ok (.ireturn, 1) := by decide +kernel
theorem dX6_lacks_0 : decode cX6_lacks 0 = .ok (.aload_n 0, 1) := by decide +kernel
theorem dX6_lacks_1 : decode cX6_lacks 1 = .ok (.getfield 19, 3) := by decide +kernel
theorem dX6_lacks_4 : decode cX6_lacks 4 = .ok (.iload_n 1, 1) := by decide +kernel
theorem dX6_lacks_5 : decode cX6_lacks 5 = .ok (.invokevirtual 118, 3) := by decide +kernel
theorem dX6_lacks_8 : decode cX6_lacks 8 = .ok (.ifCond .eq 12, 3) := by decide +kernel
theorem dX6_lacks_11 : decode cX6_lacks 11 = .ok (.iload_n 2, 1) := by decide +kernel
theorem dX6_lacks_12 : decode cX6_lacks 12 = .ok (.ifCond .lt 8, 3) := by decide +kernel
theorem dX6_lacks_15 : decode cX6_lacks 15 = .ok (.iload_n 2, 1) := by decide +kernel
theorem dX6_lacks_16 : decode cX6_lacks 16 = .ok (.iconst 1, 1) := by decide +kernel
theorem dX6_lacks_17 : decode cX6_lacks 17 = .ok (.if_icmp .le 5, 3) := by decide +kernel
theorem dX6_lacks_20 : decode cX6_lacks 20 = .ok (.iconst (-1), 1) := by decide +kernel
theorem dX6_lacks_21 : decode cX6_lacks 21 = .ok (.ireturn, 1) := by decide +kernel
theorem dX6_lacks_22 : decode cX6_lacks 22 = .ok (.iload_n 2, 1) := by decide +kernel
theorem dX6_lacks_23 : decode cX6_lacks 23 = .ok (.ifCond .ne 14, 3) := by decide +kernel
theorem dX6_lacks_26 : decode cX6_lacks 26 = .ok (.aload_n 0, 1) := by decide +kernel
theorem dX6_lacks_27 : decode cX6_lacks 27 = .ok (.getfield 19, 3) := by decide +kernel
theorem dX6_lacks_30 : decode cX6_lacks 30 = .ok (.iload_n 1, 1) := by decide +kernel
theorem dX6_lacks_31 : decode cX6_lacks 31 = .ok (.invokevirtual 364, 3) := by decide +kernel
theorem dX6_lacks_34 : decode cX6_lacks 34 = .ok (.goto 19, 3) := by decide +kernel
theorem dX6_lacks_37 : decode cX6_lacks 37 = .ok (.aload_n 0, 1) := by decide +kernel
theorem dX6_lacks_38 : decode cX6_lacks 38 = .ok (.getfield 19, 3) := by decide +kernel
theorem dX6_lacks_41 : decode cX6_lacks 41 = .ok (.aload_n 0, 1) := by decide +kernel
theorem dX6_lacks_42 : decode cX6_lacks 42 = .ok (.getfield 19, 3) := by decide +kernel
theorem dX6_lacks_45 : decode cX6_lacks 45 = .ok (.getfield 210, 3) := by decide +kernel
theorem dX6_lacks_48 : decode cX6_lacks 48 = .ok (.iload_n 1, 1) := by decide +kernel
theorem dX6_lacks_49 : decode cX6_lacks 49 = .ok (.iaload, 1) := by decide +kernel
theorem dX6_lacks_50 : decode cX6_lacks 50 = .ok (.invokevirtual 367, 3) := by decide +kernel
theorem dX6_lacks_53 : decode cX6_lacks 53 = .ok (.ireturn, 1) := by decide +kernel
theorem dX6_unlike_0 : decode cX6_unlike 0 = .ok (.aload_n 0, 1) := by decide +kernel
theorem dX6_unlike_1 : decode cX6_unlike 1 = .ok (.getfield 19, 3) := by decide +kernel
theorem dX6_unlike_4 : decode cX6_unlike 4 = .ok (.iload_n 1, 1) := by decide +kernel
theorem dX6_unlike_5 : decode cX6_unlike 5 = .ok (.invokevirtual 258, 3) := by decide +kernel
theorem dX6_unlike_8 : decode cX6_unlike 8 = .ok (.ifCond .eq 19, 3) := by decide +kernel
theorem dX6_unlike_11 : decode cX6_unlike 11 = .ok (.aload_n 0, 1) := by decide +kernel
theorem dX6_unlike_12 : decode cX6_unlike 12 = .ok (.getfield 19, 3) := by decide +kernel
theorem dX6_unlike_15 : decode cX6_unlike 15 = .ok (.iload_n 2, 1) := by decide +kernel
theorem dX6_unlike_16 : decode cX6_unlike 16 = .ok (.invokevirtual 258, 3) := by decide +kernel
theorem dX6_unlike_19 : decode cX6_unlike 19 = .ok (.ifCond .eq 8, 3) := by decide +kernel
theorem dX6_unlike_22 : decode cX6_unlike 22 = .ok (.iload_n 1, 1) := by decide +kernel
theorem dX6_unlike_23 : decode cX6_unlike 23 = .ok (.iload_n 2, 1) := by decide +kernel
theorem dX6_unlike_24 : decode cX6_unlike 24 = .ok (.if_icmp .ne 5, 3) := by decide +kernel
theorem dX6_unlike_27 : decode cX6_unlike 27 = .ok (.iconst (-1), 1) := by decide +kernel
theorem dX6_unlike_28 : decode cX6_unlike 28 = .ok (.ireturn, 1) := by decide +kernel
theorem dX6_unlike_29 : decode cX6_unlike 29 = .ok (.iconst 0, 1) := by decide +kernel
theorem dX6_unlike_30 : decode cX6_unlike 30 = .ok (.istore_n 3, 1) := by decide +kernel
theorem dX6_unlike_31 : decode cX6_unlike 31 = .ok (.iconst 0, 1) := by decide +kernel
theorem dX6_unlike_32 : decode cX6_unlike 32 = .ok (.istore 4, 2) := by decide +kernel
theorem dX6_unlike_34 : decode cX6_unlike 34 = .ok (.iload 4, 2) := by decide +kernel
theorem dX6_unlike_36 : decode cX6_unlike 36 = .ok (.aload_n 0, 1) := by decide +kernel
theorem dX6_unlike_37 : decode cX6_unlike 37 = .ok (.getfield 19, 3) := by decide +kernel
theorem dX6_unlike_40 : decode cX6_unlike 40 = .ok (.getfield 261, 3) := by decide +kernel
theorem dX6_unlike_43 : decode cX6_unlike 43 = .ok (.if_icmp .ge 61, 3) := by decide +kernel
theorem dX6_unlike_46 : decode cX6_unlike 46 = .ok (.aload_n 0, 1) := by decide +kernel
theorem dX6_unlike_47 : decode cX6_unlike 47 = .ok (.getfield 19, 3) := by decide +kernel
theorem dX6_unlike_50 : decode cX6_unlike 50 = .ok (.iload_n 1, 1) := by decide +kernel
theorem dX6_unlike_51 : decode cX6_unlike 51 = .ok (.aload_n 0, 1) := by decide +kernel
theorem dX6_unlike_52 : decode cX6_unlike 52 = .ok (.getfield 19, 3) := by decide +kernel
theorem dX6_unlike_55 : decode cX6_unlike 55 = .ok (.getfield 261, 3) := by decide +kernel
theorem dX6_unlike_58 : decode cX6_unlike 58 = .ok (.imul, 1) := by decide +kernel
theorem dX6_unlike_59 : decode cX6_unlike 59 = .ok (.iload 4, 2) := by decide +kernel
theorem dX6_unlike_61 : decode cX6_unlike 61 = .ok (.iadd, 1) := by decide +kernel
theorem dX6_unlike_62 : decode cX6_unlike 62 = .ok (.invokevirtual 370, 3) := by decide +kernel
theorem dX6_unlike_65 : decode cX6_unlike 65 = .ok (.istore 5, 2) := by decide +kernel
theorem dX6_unlike_67 : decode cX6_unlike 67 = .ok (.aload_n 0, 1) := by decide +kernel
theorem dX6_unlike_68 : decode cX6_unlike 68 = .ok (.getfield 19, 3) := by decide +kernel
theorem dX6_unlike_71 : decode cX6_unlike 71 = .ok (.iload_n 2, 1) := by decide +kernel
theorem dX6_unlike_72 : decode cX6_unlike 72 = .ok (.aload_n 0, 1) := by decide +kernel
theorem dX6_unlike_73 : decode cX6_unlike 73 = .ok (.getfield 19, 3) := by decide +kernel
theorem dX6_unlike_76 : decode cX6_unlike 76 = .ok (.getfield 261, 3) := by decide +kernel
theorem dX6_unlike_79 : decode cX6_unlike 79 = .ok (.imul, 1) := by decide +kernel
theorem dX6_unlike_80 : decode cX6_unlike 80 = .ok (.iload 4, 2) := by decide +kernel
theorem dX6_unlike_82 : decode cX6_unlike 82 = .ok (.iadd, 1) := by decide +kernel
theorem dX6_unlike_83 : decode cX6_unlike 83 = .ok (.invokevirtual 370, 3) := by decide +kernel
theorem dX6_unlike_86 : decode cX6_unlike 86 = .ok (.istore 6, 2) := by decide +kernel
theorem dX6_unlike_88 : decode cX6_unlike 88 = .ok (.iload 5, 2) := by decide +kernel
theorem dX6_unlike_90 : decode cX6_unlike 90 = .ok (.iload 6, 2) := by decide +kernel
theorem dX6_unlike_92 : decode cX6_unlike 92 = .ok (.if_icmp .eq 6, 3) := by decide +kernel
theorem dX6_unlike_95 : decode cX6_unlike 95 = .ok (.iinc 3 1, 3) := by decide +kernel
theorem dX6_unlike_98 : decode cX6_unlike 98 = .ok (.iinc 4 1, 3) := by decide +kernel
theorem dX6_unlike_101 : decode cX6_unlike 101 = .ok (.goto (-67), 3) := by decide +kernel
theorem dX6_unlike_104 : decode cX6_unlike 104 = .ok (.iload_n 3, 1) := by decide +kernel
theorem dX6_unlike_105 : decode cX6_unlike 105 = .ok (.ireturn, 1) := by decide +kernel
theorem dX6_letter_0 : decode cX6_letter 0 = .ok (.iload_n 1, 1) := by decide +kernel
theorem dX6_letter_1 : decode cX6_letter 1 = .ok (.ifCond .lt 13, 3) := by decide +kernel
theorem dX6_letter_4 : decode cX6_letter 4 = .ok (.iload_n 1, 1) := by decide +kernel
theorem dX6_letter_5 : decode cX6_letter 5 = .ok (.iconst 1, 1) := by decide +kernel
theorem dX6_letter_6 : decode cX6_letter 6 = .ok (.if_icmp .gt 8, 3) := by decide +kernel
theorem dX6_letter_9 : decode cX6_letter 9 = .ok (.iload_n 2, 1) := by decide +kernel
theorem dX6_letter_10 : decode cX6_letter 10 = .ok (.iconst (-1), 1) := by decide +kernel
theorem dX6_letter_11 : decode cX6_letter 11 = .ok (.if_icmp .ge 5, 3) := by decide +kernel
theorem dX6_letter_14 : decode cX6_letter 14 = .ok (.iconst (-1), 1) := by decide +kernel
theorem dX6_letter_15 : decode cX6_letter 15 = .ok (.ireturn, 1) := by decide +kernel
theorem dX6_letter_16 : decode cX6_letter 16 = .ok (.aload_n 0, 1) := by decide +kernel
theorem dX6_letter_17 : decode cX6_letter 17 = .ok (.getfield 19, 3) := by decide +kernel
theorem dX6_letter_20 : decode cX6_letter 20 = .ok (.invokevirtual 101, 3) := by decide +kernel
theorem dX6_letter_23 : decode cX6_letter 23 = .ok (.ifCond .eq 23, 3) := by decide +kernel
theorem dX6_letter_26 : decode cX6_letter 26 = .ok (.aload_n 0, 1) := by decide +kernel
theorem dX6_letter_27 : decode cX6_letter 27 = .ok (.getfield 19, 3) := by decide +kernel
theorem dX6_letter_30 : decode cX6_letter 30 = .ok (.invokevirtual 207, 3) := by decide +kernel
theorem dX6_letter_33 : decode cX6_letter 33 = .ok (.aload_n 0, 1) := by decide +kernel
theorem dX6_letter_34 : decode cX6_letter 34 = .ok (.getfield 19, 3) := by decide +kernel
theorem dX6_letter_37 : decode cX6_letter 37 = .ok (.getfield 94, 3) := by decide +kernel
theorem dX6_letter_40 : decode cX6_letter 40 = .ok (.iadd, 1) := by decide +kernel
theorem dX6_letter_41 : decode cX6_letter 41 = .ok (.iconst 1, 1) := by decide +kernel
theorem dX6_letter_42 : decode cX6_letter 42 = .ok (.isub, 1) := by decide +kernel
theorem dX6_letter_43 : decode cX6_letter 43 = .ok (.goto 4, 3) := by decide +kernel
theorem dX6_letter_46 : decode cX6_letter 46 = .ok (.iconst 0, 1) := by decide +kernel
theorem dX6_letter_47 : decode cX6_letter 47 = .ok (.istore_n 3, 1) := by decide +kernel
theorem dX6_letter_48 : decode cX6_letter 48 = .ok (.iload_n 2, 1) := by decide +kernel
theorem dX6_letter_49 : decode cX6_letter 49 = .ok (.iconst (-1), 1) := by decide +kernel
theorem dX6_letter_50 : decode cX6_letter 50 = .ok (.if_icmp .ne 5, 3) := by decide +kernel
theorem dX6_letter_53 : decode cX6_letter 53 = .ok (.iload_n 3, 1) := by decide +kernel
theorem dX6_letter_54 : decode cX6_letter 54 = .ok (.ireturn, 1) := by decide +kernel
theorem dX6_letter_55 : decode cX6_letter 55 = .ok (.iload_n 2, 1) := by decide +kernel
theorem dX6_letter_56 : decode cX6_letter 56 = .ok (.iload_n 3, 1) := by decide +kernel
theorem dX6_letter_57 : decode cX6_letter 57 = .ok (.if_icmp .lt 6, 3) := by decide +kernel
theorem dX6_letter_60 : decode cX6_letter 60 = .ok (.bipush (-2), 2) := by decide +kernel
theorem dX6_letter_62 : decode cX6_letter 62 = .ok (.ireturn, 1) := by decide +kernel
theorem dX6_letter_63 : decode cX6_letter 63 = .ok (.iload_n 2, 1) := by decide +kernel
theorem dX6_letter_64 : decode cX6_letter 64 = .ok (.aload_n 0, 1) := by decide +kernel
theorem dX6_letter_65 : decode cX6_letter 65 = .ok (.getfield 19, 3) := by decide +kernel
theorem dX6_letter_68 : decode cX6_letter 68 = .ok (.getfield 261, 3) := by decide +kernel
theorem dX6_letter_71 : decode cX6_letter 71 = .ok (.iconst 1, 1) := by decide +kernel
theorem dX6_letter_72 : decode cX6_letter 72 = .ok (.iadd, 1) := by decide +kernel
theorem dX6_letter_73 : decode cX6_letter 73 = .ok (.irem, 1) := by decide +kernel
theorem dX6_letter_74 : decode cX6_letter 74 = .ok (.istore 4, 2) := by decide +kernel
theorem dX6_letter_76 : decode cX6_letter 76 = .ok (.iload 4, 2) := by decide +kernel
theorem dX6_letter_78 : decode cX6_letter 78 = .ok (.aload_n 0, 1) := by decide +kernel
theorem dX6_letter_79 : decode cX6_letter 79 = .ok (.getfield 19, 3) := by decide +kernel
theorem dX6_letter_82 : decode cX6_letter 82 = .ok (.getfield 261, 3) := by decide +kernel
theorem dX6_letter_85 : decode cX6_letter 85 = .ok (.if_icmp .ne 6, 3) := by decide +kernel
theorem dX6_letter_88 : decode cX6_letter 88 = .ok (.bipush 47, 2) := by decide +kernel
theorem dX6_letter_90 : decode cX6_letter 90 = .ok (.ireturn, 1) := by decide +kernel
theorem dX6_letter_91 : decode cX6_letter 91 = .ok (.iload_n 2, 1) := by decide +kernel
theorem dX6_letter_92 : decode cX6_letter 92 = .ok (.aload_n 0, 1) := by decide +kernel
theorem dX6_letter_93 : decode cX6_letter 93 = .ok (.getfield 19, 3) := by decide +kernel
theorem dX6_letter_96 : decode cX6_letter 96 = .ok (.getfield 261, 3) := by decide +kernel
theorem dX6_letter_99 : decode cX6_letter 99 = .ok (.iconst 1, 1) := by decide +kernel
theorem dX6_letter_100 : decode cX6_letter 100 = .ok (.iadd, 1) := by decide +kernel
theorem dX6_letter_101 : decode cX6_letter 101 = .ok (.idiv, 1) := by decide +kernel
theorem dX6_letter_102 : decode cX6_letter 102 = .ok (.aload_n 0, 1) := by decide +kernel
theorem dX6_letter_103 : decode cX6_letter 103 = .ok (.getfield 19, 3) := by decide +kernel
theorem dX6_letter_106 : decode cX6_letter 106 = .ok (.getfield 261, 3) := by decide +kernel
theorem dX6_letter_109 : decode cX6_letter 109 = .ok (.imul, 1) := by decide +kernel
theorem dX6_letter_110 : decode cX6_letter 110 = .ok (.iload 4, 2) := by decide +kernel
theorem dX6_letter_112 : decode cX6_letter 112 = .ok (.iadd, 1) := by decide +kernel
theorem dX6_letter_113 : decode cX6_letter 113 = .ok (.istore 5, 2) := by decide +kernel
theorem dX6_letter_115 : decode cX6_letter 115 = .ok (.aload_n 0, 1) := by decide +kernel
theorem dX6_letter_116 : decode cX6_letter 116 = .ok (.getfield 19, 3) := by decide +kernel
theorem dX6_letter_119 : decode cX6_letter 119 = .ok (.iload 5, 2) := by decide +kernel
theorem dX6_letter_121 : decode cX6_letter 121 = .ok (.iload_n 1, 1) := by decide +kernel
theorem dX6_letter_122 : decode cX6_letter 122 = .ok (.ifCond .ne 16, 3) := by decide +kernel
theorem dX6_letter_125 : decode cX6_letter 125 = .ok (.aload_n 0, 1) := by decide +kernel
theorem dX6_letter_126 : decode cX6_letter 126 = .ok (.getfield 19, 3) := by decide +kernel
theorem dX6_letter_129 : decode cX6_letter 129 = .ok (.getfield 213, 3) := by decide +kernel
theorem dX6_letter_132 : decode cX6_letter 132 = .ok (.iload 5, 2) := by decide +kernel
theorem dX6_letter_134 : decode cX6_letter 134 = .ok (.iaload, 1) := by decide +kernel
theorem dX6_letter_135 : decode cX6_letter 135 = .ok (.goto 13, 3) := by decide +kernel
theorem dX6_letter_138 : decode cX6_letter 138 = .ok (.aload_n 0, 1) := by decide +kernel
theorem dX6_letter_139 : decode cX6_letter 139 = .ok (.getfield 19, 3) := by decide +kernel
theorem dX6_letter_142 : decode cX6_letter 142 = .ok (.getfield 219, 3) := by decide +kernel
theorem dX6_letter_145 : decode cX6_letter 145 = .ok (.iload 5, 2) := by decide +kernel
theorem dX6_letter_147 : decode cX6_letter 147 = .ok (.iaload, 1) := by decide +kernel
theorem dX6_letter_148 : decode cX6_letter 148 = .ok (.invokevirtual 264, 3) := by decide +kernel
theorem dX6_letter_151 : decode cX6_letter 151 = .ok (.ireturn, 1) := by decide +kernel
theorem dX6_digest_0 : decode cX6_digest 0 = .ok (.ldc2_w 373, 3) := by decide +kernel
theorem dX6_digest_3 : decode cX6_digest 3 = .ok (.lstore_n 1, 1) := by decide +kernel
theorem dX6_digest_4 : decode cX6_digest 4 = .ok (.iconst 0, 1) := by decide +kernel
theorem dX6_digest_5 : decode cX6_digest 5 = .ok (.istore_n 3, 1) := by decide +kernel
theorem dX6_digest_6 : decode cX6_digest 6 = .ok (.iload_n 3, 1) := by decide +kernel
theorem dX6_digest_7 : decode cX6_digest 7 = .ok (.aload_n 0, 1) := by decide +kernel
theorem dX6_digest_8 : decode cX6_digest 8 = .ok (.getfield 19, 3) := by decide +kernel
theorem dX6_digest_11 : decode cX6_digest 11 = .ok (.invokevirtual 207, 3) := by decide +kernel
theorem dX6_digest_14 : decode cX6_digest 14 = .ok (.if_icmp .ge 110, 3) := by decide +kernel
theorem dX6_digest_17 : decode cX6_digest 17 = .ok (.ldc2_w 375, 3) := by decide +kernel
theorem dX6_digest_20 : decode cX6_digest 20 = .ok (.lload_n 1, 1) := by decide +kernel
theorem dX6_digest_21 : decode cX6_digest 21 = .ok (.lmul, 1) := by decide +kernel
theorem dX6_digest_22 : decode cX6_digest 22 = .ok (.aload_n 0, 1) := by decide +kernel
theorem dX6_digest_23 : decode cX6_digest 23 = .ok (.getfield 19, 3) := by decide +kernel
theorem dX6_digest_26 : decode cX6_digest 26 = .ok (.getfield 210, 3) := by decide +kernel
theorem dX6_digest_29 : decode cX6_digest 29 = .ok (.iload_n 3, 1) := by decide +kernel
theorem dX6_digest_30 : decode cX6_digest 30 = .ok (.iaload, 1) := by decide +kernel
theorem dX6_digest_31 : decode cX6_digest 31 = .ok (.i2l, 1) := by decide +kernel
theorem dX6_digest_32 : decode cX6_digest 32 = .ok (.ladd, 1) := by decide +kernel
theorem dX6_digest_33 : decode cX6_digest 33 = .ok (.lstore_n 1, 1) := by decide +kernel
theorem dX6_digest_34 : decode cX6_digest 34 = .ok (.ldc2_w 375, 3) := by decide +kernel
theorem dX6_digest_37 : decode cX6_digest 37 = .ok (.lload_n 1, 1) := by decide +kernel
theorem dX6_digest_38 : decode cX6_digest 38 = .ok (.lmul, 1) := by decide +kernel
theorem dX6_digest_39 : decode cX6_digest 39 = .ok (.aload_n 0, 1) := by decide +kernel
theorem dX6_digest_40 : decode cX6_digest 40 = .ok (.getfield 19, 3) := by decide +kernel
theorem dX6_digest_43 : decode cX6_digest 43 = .ok (.getfield 213, 3) := by decide +kernel
theorem dX6_digest_46 : decode cX6_digest 46 = .ok (.iload_n 3, 1) := by decide +kernel
theorem dX6_digest_47 : decode cX6_digest 47 = .ok (.iaload, 1) := by decide +kernel
theorem dX6_digest_48 : decode cX6_digest 48 = .ok (.i2l, 1) := by decide +kernel
theorem dX6_digest_49 : decode cX6_digest 49 = .ok (.ladd, 1) := by decide +kernel
theorem dX6_digest_50 : decode cX6_digest 50 = .ok (.lstore_n 1, 1) := by decide +kernel
theorem dX6_digest_51 : decode cX6_digest 51 = .ok (.ldc2_w 375, 3) := by decide +kernel
theorem dX6_digest_54 : decode cX6_digest 54 = .ok (.lload_n 1, 1) := by decide +kernel
theorem dX6_digest_55 : decode cX6_digest 55 = .ok (.lmul, 1) := by decide +kernel
theorem dX6_digest_56 : decode cX6_digest 56 = .ok (.aload_n 0, 1) := by decide +kernel
theorem dX6_digest_57 : decode cX6_digest 57 = .ok (.getfield 19, 3) := by decide +kernel
theorem dX6_digest_60 : decode cX6_digest 60 = .ok (.getfield 216, 3) := by decide +kernel
theorem dX6_digest_63 : decode cX6_digest 63 = .ok (.iload_n 3, 1) := by decide +kernel
theorem dX6_digest_64 : decode cX6_digest 64 = .ok (.iaload, 1) := by decide +kernel
theorem dX6_digest_65 : decode cX6_digest 65 = .ok (.i2l, 1) := by decide +kernel
theorem dX6_digest_66 : decode cX6_digest 66 = .ok (.ladd, 1) := by decide +kernel
theorem dX6_digest_67 : decode cX6_digest 67 = .ok (.lstore_n 1, 1) := by decide +kernel
theorem dX6_digest_68 : decode cX6_digest 68 = .ok (.ldc2_w 375, 3) := by decide +kernel
theorem dX6_digest_71 : decode cX6_digest 71 = .ok (.lload_n 1, 1) := by decide +kernel
theorem dX6_digest_72 : decode cX6_digest 72 = .ok (.lmul, 1) := by decide +kernel
theorem dX6_digest_73 : decode cX6_digest 73 = .ok (.aload_n 0, 1) := by decide +kernel
theorem dX6_digest_74 : decode cX6_digest 74 = .ok (.getfield 19, 3) := by decide +kernel
theorem dX6_digest_77 : decode cX6_digest 77 = .ok (.getfield 219, 3) := by decide +kernel
theorem dX6_digest_80 : decode cX6_digest 80 = .ok (.iload_n 3, 1) := by decide +kernel
theorem dX6_digest_81 : decode cX6_digest 81 = .ok (.iaload, 1) := by decide +kernel
theorem dX6_digest_82 : decode cX6_digest 82 = .ok (.i2l, 1) := by decide +kernel
theorem dX6_digest_83 : decode cX6_digest 83 = .ok (.ladd, 1) := by decide +kernel
theorem dX6_digest_84 : decode cX6_digest 84 = .ok (.lstore_n 1, 1) := by decide +kernel
theorem dX6_digest_85 : decode cX6_digest 85 = .ok (.ldc2_w 375, 3) := by decide +kernel
theorem dX6_digest_88 : decode cX6_digest 88 = .ok (.lload_n 1, 1) := by decide +kernel
theorem dX6_digest_89 : decode cX6_digest 89 = .ok (.lmul, 1) := by decide +kernel
theorem dX6_digest_90 : decode cX6_digest 90 = .ok (.aload_n 0, 1) := by decide +kernel
theorem dX6_digest_91 : decode cX6_digest 91 = .ok (.getfield 19, 3) := by decide +kernel
theorem dX6_digest_94 : decode cX6_digest 94 = .ok (.getfield 122, 3) := by decide +kernel
theorem dX6_digest_97 : decode cX6_digest 97 = .ok (.iload_n 3, 1) := by decide +kernel
theorem dX6_digest_98 : decode cX6_digest 98 = .ok (.iaload, 1) := by decide +kernel
theorem dX6_digest_99 : decode cX6_digest 99 = .ok (.i2l, 1) := by decide +kernel
theorem dX6_digest_100 : decode cX6_digest 100 = .ok (.ladd, 1) := by decide +kernel
theorem dX6_digest_101 : decode cX6_digest 101 = .ok (.lstore_n 1, 1) := by decide +kernel
theorem dX6_digest_102 : decode cX6_digest 102 = .ok (.ldc2_w 375, 3) := by decide +kernel
theorem dX6_digest_105 : decode cX6_digest 105 = .ok (.lload_n 1, 1) := by decide +kernel
theorem dX6_digest_106 : decode cX6_digest 106 = .ok (.lmul, 1) := by decide +kernel
theorem dX6_digest_107 : decode cX6_digest 107 = .ok (.aload_n 0, 1) := by decide +kernel
theorem dX6_digest_108 : decode cX6_digest 108 = .ok (.getfield 19, 3) := by decide +kernel
theorem dX6_digest_111 : decode cX6_digest 111 = .ok (.getfield 230, 3) := by decide +kernel
theorem dX6_digest_114 : decode cX6_digest 114 = .ok (.iload_n 3, 1) := by decide +kernel
theorem dX6_digest_115 : decode cX6_digest 115 = .ok (.laload, 1) := by decide +kernel
theorem dX6_digest_116 : decode cX6_digest 116 = .ok (.ladd, 1) := by decide +kernel
theorem dX6_digest_117 : decode cX6_digest 117 = .ok (.lstore_n 1, 1) := by decide +kernel
theorem dX6_digest_118 : decode cX6_digest 118 = .ok (.iinc 3 1, 3) := by decide +kernel
theorem dX6_digest_121 : decode cX6_digest 121 = .ok (.goto (-115), 3) := by decide +kernel
theorem dX6_digest_124 : decode cX6_digest 124 = .ok (.lload_n 1, 1) := by decide +kernel
theorem dX6_digest_125 : decode cX6_digest 125 = .ok (.lreturn, 1) := by decide +kernel
theorem dX6_count_0 : decode cX6_count 0 = .ok (.iload_n 1, 1) := by decide +kernel
theorem dX6_count_1 : decode cX6_count 1 = .ok (.tableswitch 131 0 8 #[51, 59, 67, 75, 83, 91, 99, 107, 112], 51) := by decide +kernel
theorem dX6_count_52 : decode cX6_count 52 = .ok (.aload_n 0, 1) := by decide +kernel
theorem dX6_count_53 : decode cX6_count 53 = .ok (.getfield 19, 3) := by decide +kernel
theorem dX6_count_56 : decode cX6_count 56 = .ok (.getfield 94, 3) := by decide +kernel
theorem dX6_count_59 : decode cX6_count 59 = .ok (.ireturn, 1) := by decide +kernel
theorem dX6_count_60 : decode cX6_count 60 = .ok (.aload_n 0, 1) := by decide +kernel
theorem dX6_count_61 : decode cX6_count 61 = .ok (.getfield 19, 3) := by decide +kernel
theorem dX6_count_64 : decode cX6_count 64 = .ok (.getfield 261, 3) := by decide +kernel
theorem dX6_count_67 : decode cX6_count 67 = .ok (.ireturn, 1) := by decide +kernel
theorem dX6_count_68 : decode cX6_count 68 = .ok (.aload_n 0, 1) := by decide +kernel
theorem dX6_count_69 : decode cX6_count 69 = .ok (.getfield 19, 3) := by decide +kernel
theorem dX6_count_72 : decode cX6_count 72 = .ok (.invokevirtual 207, 3) := by decide +kernel
theorem dX6_count_75 : decode cX6_count 75 = .ok (.ireturn, 1) := by decide +kernel
theorem dX6_count_76 : decode cX6_count 76 = .ok (.aload_n 0, 1) := by decide +kernel
theorem dX6_count_77 : decode cX6_count 77 = .ok (.getfield 19, 3) := by decide +kernel
theorem dX6_count_80 : decode cX6_count 80 = .ok (.getfield 146, 3) := by decide +kernel
theorem dX6_count_83 : decode cX6_count 83 = .ok (.ireturn, 1) := by decide +kernel
theorem dX6_count_84 : decode cX6_count 84 = .ok (.aload_n 0, 1) := by decide +kernel
theorem dX6_count_85 : decode cX6_count 85 = .ok (.getfield 19, 3) := by decide +kernel
theorem dX6_count_88 : decode cX6_count 88 = .ok (.getfield 80, 3) := by decide +kernel
theorem dX6_count_91 : decode cX6_count 91 = .ok (.ireturn, 1) := by decide +kernel
theorem dX6_count_92 : decode cX6_count 92 = .ok (.aload_n 0, 1) := by decide +kernel
theorem dX6_count_93 : decode cX6_count 93 = .ok (.getfield 43, 3) := by decide +kernel
theorem dX7_in_0 : decode cX7_in 0 = .ok (.lload_n 0, 1) := by decide +kernel
theorem dX7_in_1 : decode cX7_in 1 = .ok (.lload_n 2, 1) := by decide +kernel
theorem dX7_in_2 : decode cX7_in 2 = .ok (.lcmp, 1) := by decide +kernel
theorem dX7_in_3 : decode cX7_in 3 = .ok (.ifCond .lt 14, 3) := by decide +kernel
theorem dX7_in_6 : decode cX7_in 6 = .ok (.lload_n 0, 1) := by decide +kernel
theorem dX7_in_7 : decode cX7_in 7 = .ok (.lload 4, 2) := by decide +kernel
theorem dX7_in_9 : decode cX7_in 9 = .ok (.lcmp, 1) := by decide +kernel
theorem dX7_in_10 : decode cX7_in 10 = .ok (.ifCond .gt 7, 3) := by decide +kernel
theorem dX7_in_13 : decode cX7_in 13 = .ok (.iconst 1, 1) := by decide +kernel
theorem dX7_in_14 : decode cX7_in 14 = .ok (.goto 4, 3) := by decide +kernel
theorem dX7_in_17 : decode cX7_in 17 = .ok (.iconst 0, 1) := by decide +kernel
theorem dX7_in_18 : decode cX7_in 18 = .ok (.ireturn, 1) := by decide +kernel
theorem dX7_isIn_0 : decode cX7_isIn 0 = .ok (.lload_n 0, 1) := by decide +kernel
theorem dX7_isIn_1 : decode cX7_isIn 1 = .ok (.iload_n 2, 1) := by decide +kernel
theorem dX7_isIn_2 : decode cX7_isIn 2 = .ok (.lushr, 1) := by decide +kernel
theorem dX7_isIn_3 : decode cX7_isIn 3 = .ok (.lconst 1, 1) := by decide +kernel
theorem dX7_isIn_4 : decode cX7_isIn 4 = .ok (.land, 1) := by decide +kernel
theorem dX7_isIn_5 : decode cX7_isIn 5 = .ok (.lconst 1, 1) := by decide +kernel
theorem dX7_isIn_6 : decode cX7_isIn 6 = .ok (.lcmp, 1) := by decide +kernel
theorem dX7_isIn_7 : decode cX7_isIn 7 = .ok (.ifCond .ne 7, 3) := by decide +kernel
theorem dX7_isIn_10 : decode cX7_isIn 10 = .ok (.iconst 1, 1) := by decide +kernel
theorem dX7_isIn_11 : decode cX7_isIn 11 = .ok (.goto 4, 3) := by decide +kernel
theorem dX7_isIn_14 : decode cX7_isIn 14 = .ok (.iconst 0, 1) := by decide +kernel
theorem dX7_isIn_15 : decode cX7_isIn 15 = .ok (.ireturn, 1) := by decide +kernel
theorem dX7_isSign_0 : decode cX7_isSign 0 = .ok (.iload_n 0, 1) := by decide +kernel
theorem dX7_isSign_1 : decode cX7_isSign 1 = .ok (.i2l, 1) := by decide +kernel
theorem dX7_isSign_2 : decode cX7_isSign 2 = .ok (.ldc2_w 35, 3) := by decide +kernel
theorem dX7_isSign_5 : decode cX7_isSign 5 = .ok (.ldc2_w 37, 3) := by decide +kernel
theorem dX7_isSign_8 : decode cX7_isSign 8 = .ok (.invokestatic 39, 3) := by decide +kernel
theorem dX7_isSign_11 : decode cX7_isSign 11 = .ok (.ifCond .eq 13, 3) := by decide +kernel
theorem dX7_isSign_14 : decode cX7_isSign 14 = .ok (.iload_n 0, 1) := by decide +kernel
theorem dX7_isSign_15 : decode cX7_isSign 15 = .ok (.bipush 39, 2) := by decide +kernel
theorem dX7_isSign_17 : decode cX7_isSign 17 = .ok (.if_icmp .eq 7, 3) := by decide +kernel
theorem dX7_isSign_20 : decode cX7_isSign 20 = .ok (.iconst 1, 1) := by decide +kernel
theorem dX7_isSign_21 : decode cX7_isSign 21 = .ok (.goto 4, 3) := by decide +kernel
theorem dX7_isSign_24 : decode cX7_isSign 24 = .ok (.iconst 0, 1) := by decide +kernel
theorem dX7_isSign_25 : decode cX7_isSign 25 = .ok (.ireturn, 1) := by decide +kernel
theorem dX7_rows_0 : decode cX7_rows 0 = .ok (.aload_n 0, 1) := by decide +kernel
theorem dX7_rows_1 : decode cX7_rows 1 = .ok (.getfield 7, 3) := by decide +kernel
theorem dX7_rows_4 : decode cX7_rows 4 = .ok (.iconst 0, 1) := by decide +kernel
theorem dX7_rows_5 : decode cX7_rows 5 = .ok (.laload, 1) := by decide +kernel
theorem dX7_rows_6 : decode cX7_rows 6 = .ok (.l2i, 1) := by decide +kernel
theorem dX7_rows_7 : decode cX7_rows 7 = .ok (.ireturn, 1) := by decide +kernel
theorem dX7_wide_0 : decode cX7_wide 0 = .ok (.aload_n 0, 1) := by decide +kernel
theorem dX7_wide_1 : decode cX7_wide 1 = .ok (.getfield 7, 3) := by decide +kernel
theorem dX7_wide_4 : decode cX7_wide 4 = .ok (.iconst 1, 1) := by decide +kernel
theorem dX7_wide_5 : decode cX7_wide 5 = .ok (.laload, 1) := by decide +kernel
theorem dX7_wide_6 : decode cX7_wide 6 = .ok (.l2i, 1) := by decide +kernel
theorem dX7_wide_7 : decode cX7_wide 7 = .ok (.ireturn, 1) := by decide +kernel
theorem dX7_cells_0 : decode cX7_cells 0 = .ok (.aload_n 0, 1) := by decide +kernel
theorem dX7_cells_1 : decode cX7_cells 1 = .ok (.invokevirtual 43, 3) := by decide +kernel
theorem dX7_cells_4 : decode cX7_cells 4 = .ok (.aload_n 0, 1) := by decide +kernel
theorem dX7_cells_5 : decode cX7_cells 5 = .ok (.invokevirtual 47, 3) := by decide +kernel
theorem dX7_cells_8 : decode cX7_cells 8 = .ok (.imul, 1) := by decide +kernel
theorem dX7_cells_9 : decode cX7_cells 9 = .ok (.ireturn, 1) := by decide +kernel
theorem dX7_drums_0 : decode cX7_drums 0 = .ok (.aload_n 0, 1) := by decide +kernel
theorem dX7_drums_1 : decode cX7_drums 1 = .ok (.getfield 7, 3) := by decide +kernel
theorem dX7_drums_4 : decode cX7_drums 4 = .ok (.iconst 3, 1) := by decide +kernel
theorem dX7_drums_5 : decode cX7_drums 5 = .ok (.laload, 1) := by decide +kernel
theorem dX7_drums_6 : decode cX7_drums 6 = .ok (.l2i, 1) := by decide +kernel
theorem dX7_drums_7 : decode cX7_drums 7 = .ok (.ireturn, 1) := by decide +kernel
theorem dX7_isBoard_0 : decode cX7_isBoard 0 = .ok (.aload_n 0, 1) := by decide +kernel
theorem dX7_isBoard_1 : decode cX7_isBoard 1 = .ok (.invokevirtual 50, 3) := by decide +kernel
theorem dX7_isBoard_4 : decode cX7_isBoard 4 = .ok (.ifCond .le 7, 3) := by decide +kernel
theorem dX7_isBoard_7 : decode cX7_isBoard 7 = .ok (.iconst 1, 1) := by decide +kernel
theorem dX7_isBoard_8 : decode cX7_isBoard 8 = .ok (.goto 4, 3) := by decide +kernel
theorem dX7_isBoard_11 : decode cX7_isBoard 11 = .ok (.iconst 0, 1) := by decide +kernel
theorem dX7_isBoard_12 : decode cX7_isBoard 12 = .ok (.ireturn, 1) := by decide +kernel
theorem dX7_isCell_0 : decode cX7_isCell 0 = .ok (.iload_n 1, 1) := by decide +kernel
theorem dX7_isCell_1 : decode cX7_isCell 1 = .ok (.i2l, 1) := by decide +kernel
theorem dX7_isCell_2 : decode cX7_isCell 2 = .ok (.lconst 0, 1) := by decide +kernel
theorem dX7_isCell_3 : decode cX7_isCell 3 = .ok (.aload_n 0, 1) := by decide +kernel
theorem dX7_isCell_4 : decode cX7_isCell 4 = .ok (.invokevirtual 53, 3) := by decide +kernel
theorem dX7_isCell_7 : decode cX7_isCell 7 = .ok (.iconst 1, 1) := by decide +kernel
theorem dX7_isCell_8 : decode cX7_isCell 8 = .ok (.isub, 1) := by decide +kernel
theorem dX7_isCell_9 : decode cX7_isCell 9 = .ok (.i2l, 1) := by decide +kernel
theorem dX7_isCell_10 : decode cX7_isCell 10 = .ok (.invokestatic 39, 3) := by decide +kernel
theorem dX7_isCell_13 : decode cX7_isCell 13 = .ok (.ireturn, 1) := by decide +kernel
theorem dX7_isRow_0 : decode cX7_isRow 0 = .ok (.iload_n 1, 1) := by decide +kernel
theorem dX7_isRow_1 : decode cX7_isRow 1 = .ok (.i2l, 1) := by decide +kernel
theorem dX7_isRow_2 : decode cX7_isRow 2 = .ok (.lconst 0, 1) := by decide +kernel

theorem dX7_isRow_3 : decode cX7_isRow 3 = .ok (.aload_n 0, 1) := by decide +kernel
theorem dX7_isRow_4 : decode cX7_isRow 4 = .ok (.invokevirtual 43, 3) := by decide +kernel
theorem dX7_isRow_7 : decode cX7_isRow 7 = .ok (.iconst 1, 1) := by decide +kernel
theorem dX7_isRow_8 : decode cX7_isRow 8 = .ok (.isub, 1) := by decide +kernel
theorem dX7_isRow_9 : decode cX7_isRow 9 = .ok (.i2l, 1) := by decide +kernel
theorem dX7_isRow_10 : decode cX7_isRow 10 = .ok (.invokestatic 39, 3) := by decide +kernel
theorem dX7_isRow_13 : decode cX7_isRow 13 = .ok (.ireturn, 1) := by decide +kernel
theorem dX7_isDrum_0 : decode cX7_isDrum 0 = .ok (.iload_n 1, 1) := by decide +kernel
theorem dX7_isDrum_1 : decode cX7_isDrum 1 = .ok (.i2l, 1) := by decide +kernel
theorem dX7_isDrum_2 : decode cX7_isDrum 2 = .ok (.lconst 0, 1) := by decide +kernel
theorem dX7_isDrum_3 : decode cX7_isDrum 3 = .ok (.aload_n 0, 1) := by decide +kernel
theorem dX7_isDrum_4 : decode cX7_isDrum 4 = .ok (.invokevirtual 50, 3) := by decide +kernel
theorem dX7_isDrum_7 : decode cX7_isDrum 7 = .ok (.iconst 1, 1) := by decide +kernel
theorem dX7_isDrum_8 : decode cX7_isDrum 8 = .ok (.isub, 1) := by decide +kernel
theorem dX7_isDrum_9 : decode cX7_isDrum 9 = .ok (.i2l, 1) := by decide +kernel
theorem dX7_isDrum_10 : decode cX7_isDrum 10 = .ok (.invokestatic 39, 3) := by decide +kernel
theorem dX7_isDrum_13 : decode cX7_isDrum 13 = .ok (.ireturn, 1) := by decide +kernel
theorem dX7_of_0 : decode cX7_of 0 = .ok (.aload_n 0, 1) := by decide +kernel
theorem dX7_of_1 : decode cX7_of 1 = .ok (.getfield 7, 3) := by decide +kernel
theorem dX7_of_4 : decode cX7_of 4 = .ok (.sipush 176, 3) := by decide +kernel
theorem dX7_of_7 : decode cX7_of 7 = .ok (.bipush 8, 2) := by decide +kernel
theorem dX7_of_9 : decode cX7_of 9 = .ok (.iload_n 1, 1) := by decide +kernel
theorem dX7_of_10 : decode cX7_of 10 = .ok (.imul, 1) := by decide +kernel
theorem dX7_of_11 : decode cX7_of 11 = .ok (.iadd, 1) := by decide +kernel
theorem dX7_of_12 : decode cX7_of 12 = .ok (.iload_n 2, 1) := by decide +kernel
theorem dX7_of_13 : decode cX7_of 13 = .ok (.iadd, 1) := by decide +kernel
theorem dX7_of_14 : decode cX7_of 14 = .ok (.laload, 1) := by decide +kernel
theorem dX7_of_15 : decode cX7_of 15 = .ok (.l2i, 1) := by decide +kernel
theorem dX7_of_16 : decode cX7_of 16 = .ok (.ireturn, 1) := by decide +kernel
theorem dX7_sets_0 : decode cX7_sets 0 = .ok (.aload_n 0, 1) := by decide +kernel
theorem dX7_sets_1 : decode cX7_sets 1 = .ok (.getfield 7, 3) := by decide +kernel
theorem dX7_sets_4 : decode cX7_sets 4 = .ok (.sipush 176, 3) := by decide +kernel
theorem dX7_sets_7 : decode cX7_sets 7 = .ok (.bipush 8, 2) := by decide +kernel
theorem dX7_sets_9 : decode cX7_sets 9 = .ok (.iload_n 1, 1) := by decide +kernel
theorem dX7_sets_10 : decode cX7_sets 10 = .ok (.imul, 1) := by decide +kernel
theorem dX7_sets_11 : decode cX7_sets 11 = .ok (.iadd, 1) := by decide +kernel
theorem dX7_sets_12 : decode cX7_sets 12 = .ok (.iload_n 2, 1) := by decide +kernel
theorem dX7_sets_13 : decode cX7_sets 13 = .ok (.iadd, 1) := by decide +kernel
theorem dX7_sets_14 : decode cX7_sets 14 = .ok (.lload_n 3, 1) := by decide +kernel
theorem dX7_sets_15 : decode cX7_sets 15 = .ok (.lastore, 1) := by decide +kernel
theorem dX7_sets_16 : decode cX7_sets 16 = .ok (.return_, 1) := by decide +kernel
theorem dX7_wornOf_0 : decode cX7_wornOf 0 = .ok (.aload_n 0, 1) := by decide +kernel
theorem dX7_wornOf_1 : decode cX7_wornOf 1 = .ok (.getfield 7, 3) := by decide +kernel
theorem dX7_wornOf_4 : decode cX7_wornOf 4 = .ok (.sipush 176, 3) := by decide +kernel
theorem dX7_wornOf_7 : decode cX7_wornOf 7 = .ok (.bipush 8, 2) := by decide +kernel
theorem dX7_wornOf_9 : decode cX7_wornOf 9 = .ok (.iload_n 1, 1) := by decide +kernel
theorem dX7_wornOf_10 : decode cX7_wornOf 10 = .ok (.imul, 1) := by decide +kernel
theorem dX7_wornOf_11 : decode cX7_wornOf 11 = .ok (.iadd, 1) := by decide +kernel
theorem dX7_wornOf_12 : decode cX7_wornOf 12 = .ok (.bipush 7, 2) := by decide +kernel
theorem dX7_wornOf_14 : decode cX7_wornOf 14 = .ok (.iadd, 1) := by decide +kernel
theorem dX7_wornOf_15 : decode cX7_wornOf 15 = .ok (.laload, 1) := by decide +kernel
theorem dX7_wornOf_16 : decode cX7_wornOf 16 = .ok (.lreturn, 1) := by decide +kernel
theorem dX7_currentOf_0 : decode cX7_currentOf 0 = .ok (.aload_n 0, 1) := by decide +kernel
theorem dX7_currentOf_1 : decode cX7_currentOf 1 = .ok (.getfield 7, 3) := by decide +kernel
theorem dX7_currentOf_4 : decode cX7_currentOf 4 = .ok (.bipush 8, 2) := by decide +kernel
theorem dX7_currentOf_6 : decode cX7_currentOf 6 = .ok (.bipush 42, 2) := by decide +kernel
theorem dX7_currentOf_8 : decode cX7_currentOf 8 = .ok (.iload_n 1, 1) := by decide +kernel
theorem dX7_currentOf_9 : decode cX7_currentOf 9 = .ok (.imul, 1) := by decide +kernel
theorem dX7_currentOf_10 : decode cX7_currentOf 10 = .ok (.iadd, 1) := by decide +kernel
theorem dX7_currentOf_11 : decode cX7_currentOf 11 = .ok (.laload, 1) := by decide +kernel
theorem dX7_currentOf_12 : decode cX7_currentOf 12 = .ok (.l2i, 1) := by decide +kernel
theorem dX7_currentOf_13 : decode cX7_currentOf 13 = .ok (.ireturn, 1) := by decide +kernel
theorem dX7_flapsOf_0 : decode cX7_flapsOf 0 = .ok (.aload_n 0, 1) := by decide +kernel
theorem dX7_flapsOf_1 : decode cX7_flapsOf 1 = .ok (.getfield 7, 3) := by decide +kernel
theorem dX7_flapsOf_4 : decode cX7_flapsOf 4 = .ok (.bipush 8, 2) := by decide +kernel
theorem dX7_flapsOf_6 : decode cX7_flapsOf 6 = .ok (.bipush 42, 2) := by decide +kernel
theorem dX7_flapsOf_8 : decode cX7_flapsOf 8 = .ok (.iload_n 1, 1) := by decide +kernel
theorem dX7_flapsOf_9 : decode cX7_flapsOf 9 = .ok (.imul, 1) := by decide +kernel
theorem dX7_flapsOf_10 : decode cX7_flapsOf 10 = .ok (.iadd, 1) := by decide +kernel
theorem dX7_flapsOf_11 : decode cX7_flapsOf 11 = .ok (.iconst 1, 1) := by decide +kernel
theorem dX7_flapsOf_12 : decode cX7_flapsOf 12 = .ok (.iadd, 1) := by decide +kernel
theorem dX7_flapsOf_13 : decode cX7_flapsOf 13 = .ok (.laload, 1) := by decide +kernel
theorem dX7_flapsOf_14 : decode cX7_flapsOf 14 = .ok (.l2i, 1) := by decide +kernel
theorem dX7_flapsOf_15 : decode cX7_flapsOf 15 = .ok (.ireturn, 1) := by decide +kernel
theorem dX7_signOf_0 : decode cX7_signOf 0 = .ok (.aload_n 0, 1) := by decide +kernel
theorem dX7_signOf_1 : decode cX7_signOf 1 = .ok (.getfield 7, 3) := by decide +kernel
theorem dX7_signOf_4 : decode cX7_signOf 4 = .ok (.bipush 8, 2) := by decide +kernel
theorem dX7_signOf_6 : decode cX7_signOf 6 = .ok (.bipush 42, 2) := by decide +kernel
theorem dX7_signOf_8 : decode cX7_signOf 8 = .ok (.iload_n 1, 1) := by decide +kernel
theorem dX7_signOf_9 : decode cX7_signOf 9 = .ok (.imul, 1) := by decide +kernel
theorem dX7_signOf_10 : decode cX7_signOf 10 = .ok (.iadd, 1) := by decide +kernel
theorem dX7_signOf_11 : decode cX7_signOf 11 = .ok (.iconst 2, 1) := by decide +kernel
theorem dX7_signOf_12 : decode cX7_signOf 12 = .ok (.iadd, 1) := by decide +kernel
theorem dX7_signOf_13 : decode cX7_signOf 13 = .ok (.iload_n 2, 1) := by decide +kernel
theorem dX7_signOf_14 : decode cX7_signOf 14 = .ok (.iadd, 1) := by decide +kernel
theorem dX7_signOf_15 : decode cX7_signOf 15 = .ok (.laload, 1) := by decide +kernel
theorem dX7_signOf_16 : decode cX7_signOf 16 = .ok (.l2i, 1) := by decide +kernel
theorem dX7_signOf_17 : decode cX7_signOf 17 = .ok (.ireturn, 1) := by decide +kernel
theorem dX7_flaps_0 : decode cX7_flaps 0 = .ok (.aload_n 0, 1) := by decide +kernel
theorem dX7_flaps_1 : decode cX7_flaps 1 = .ok (.aload_n 0, 1) := by decide +kernel
theorem dX7_flaps_2 : decode cX7_flaps 2 = .ok (.iload_n 1, 1) := by decide +kernel
theorem dX7_flaps_3 : decode cX7_flaps 3 = .ok (.iconst 0, 1) := by decide +kernel
theorem dX7_flaps_4 : decode cX7_flaps 4 = .ok (.invokevirtual 56, 3) := by decide +kernel
theorem dX7_flaps_7 : decode cX7_flaps 7 = .ok (.invokevirtual 60, 3) := by decide +kernel
theorem dX7_flaps_10 : decode cX7_flaps 10 = .ok (.ireturn, 1) := by decide +kernel
theorem dX7_current_0 : decode cX7_current 0 = .ok (.aload_n 0, 1) := by decide +kernel
theorem dX7_current_1 : decode cX7_current 1 = .ok (.aload_n 0, 1) := by decide +kernel
theorem dX7_current_2 : decode cX7_current 2 = .ok (.iload_n 1, 1) := by decide +kernel
theorem dX7_current_3 : decode cX7_current 3 = .ok (.iconst 0, 1) := by decide +kernel
theorem dX7_current_4 : decode cX7_current 4 = .ok (.invokevirtual 56, 3) := by decide +kernel
theorem dX7_current_7 : decode cX7_current 7 = .ok (.invokevirtual 64, 3) := by decide +kernel
theorem dX7_current_10 : decode cX7_current 10 = .ok (.ireturn, 1) := by decide +kernel
theorem dX7_on_0 : decode cX7_on 0 = .ok (.iload_n 1, 1) := by decide +kernel
theorem dX7_on_1 : decode cX7_on 1 = .ok (.iload_n 0, 1) := by decide +kernel
theorem dX7_on_2 : decode cX7_on 2 = .ok (.isub, 1) := by decide +kernel
theorem dX7_on_3 : decode cX7_on 3 = .ok (.iload_n 2, 1) := by decide +kernel
theorem dX7_on_4 : decode cX7_on 4 = .ok (.iadd, 1) := by decide +kernel
theorem dX7_on_5 : decode cX7_on 5 = .ok (.iload_n 2, 1) := by decide +kernel
theorem dX7_on_6 : decode cX7_on 6 = .ok (.irem, 1) := by decide +kernel
theorem dX7_on_7 : decode cX7_on 7 = .ok (.ireturn, 1) := by decide +kernel
theorem dX7_leftOf_0 : decode cX7_leftOf 0 = .ok (.aload_n 0, 1) := by decide +kernel
theorem dX7_leftOf_1 : decode cX7_leftOf 1 = .ok (.iload_n 1, 1) := by decide +kernel
theorem dX7_leftOf_2 : decode cX7_leftOf 2 = .ok (.iconst 2, 1) := by decide +kernel
theorem dX7_leftOf_3 : decode cX7_leftOf 3 = .ok (.invokevirtual 56, 3) := by decide +kernel
theorem dX7_leftOf_6 : decode cX7_leftOf 6 = .ok (.aload_n 0, 1) := by decide +kernel
theorem dX7_leftOf_7 : decode cX7_leftOf 7 = .ok (.iload_n 1, 1) := by decide +kernel
theorem dX7_leftOf_8 : decode cX7_leftOf 8 = .ok (.iconst 3, 1) := by decide +kernel
theorem dX7_leftOf_9 : decode cX7_leftOf 9 = .ok (.invokevirtual 56, 3) := by decide +kernel
theorem dX7_leftOf_12 : decode cX7_leftOf 12 = .ok (.aload_n 0, 1) := by decide +kernel
theorem dX7_leftOf_13 : decode cX7_leftOf 13 = .ok (.iload_n 1, 1) := by decide +kernel
theorem dX7_leftOf_14 : decode cX7_leftOf 14 = .ok (.invokevirtual 67, 3) := by decide +kernel
theorem dX7_leftOf_17 : decode cX7_leftOf 17 = .ok (.invokestatic 70, 3) := by decide +kernel
theorem dX7_leftOf_20 : decode cX7_leftOf 20 = .ok (.ireturn, 1) := by decide +kernel
theorem dX7_bits_0 : decode cX7_bits 0 = .ok (.iconst 0, 1) := by decide +kernel
theorem dX7_bits_1 : decode cX7_bits 1 = .ok (.istore_n 2, 1) := by decide +kernel
theorem dX7_bits_2 : decode cX7_bits 2 = .ok (.iconst 0, 1) := by decide +kernel
theorem dX7_bits_3 : decode cX7_bits 3 = .ok (.istore_n 3, 1) := by decide +kernel
theorem dX7_bits_4 : decode cX7_bits 4 = .ok (.iload_n 3, 1) := by decide +kernel
theorem dX7_bits_5 : decode cX7_bits 5 = .ok (.bipush 64, 2) := by decide +kernel
theorem dX7_bits_7 : decode cX7_bits 7 = .ok (.if_icmp .ge 25, 3) := by decide +kernel
theorem dX7_bits_10 : decode cX7_bits 10 = .ok (.iload_n 2, 1) := by decide +kernel
theorem dX7_bits_11 : decode cX7_bits 11 = .ok (.lload_n 0, 1) := by decide +kernel
theorem dX7_bits_12 : decode cX7_bits 12 = .ok (.iload_n 3, 1) := by decide +kernel
theorem dX7_bits_13 : decode cX7_bits 13 = .ok (.invokestatic 74, 3) := by decide +kernel
theorem dX7_bits_16 : decode cX7_bits 16 = .ok (.ifCond .eq 7, 3) := by decide +kernel
theorem dX7_bits_19 : decode cX7_bits 19 = .ok (.iconst 1, 1) := by decide +kernel
theorem dX7_bits_20 : decode cX7_bits 20 = .ok (.goto 4, 3) := by decide +kernel
theorem dX7_bits_23 : decode cX7_bits 23 = .ok (.iconst 0, 1) := by decide +kernel
theorem dX7_bits_24 : decode cX7_bits 24 = .ok (.iadd, 1) := by decide +kernel
theorem dX7_bits_25 : decode cX7_bits 25 = .ok (.istore_n 2, 1) := by decide +kernel
theorem dX7_bits_26 : decode cX7_bits 26 = .ok (.iinc 3 1, 3) := by decide +kernel
theorem dX7_bits_29 : decode cX7_bits 29 = .ok (.goto (-25), 3) := by decide +kernel
theorem dX7_bits_32 : decode cX7_bits 32 = .ok (.iload_n 2, 1) := by decide +kernel
theorem dX7_bits_33 : decode cX7_bits 33 = .ok (.ireturn, 1) := by decide +kernel
theorem dX7_steps_0 : decode cX7_steps 0 = .ok (.aload_n 0, 1) := by decide +kernel
theorem dX7_steps_1 : decode cX7_steps 1 = .ok (.iload_n 1, 1) := by decide +kernel
theorem dX7_steps_2 : decode cX7_steps 2 = .ok (.iconst 2, 1) := by decide +kernel
theorem dX7_steps_3 : decode cX7_steps 3 = .ok (.invokevirtual 56, 3) := by decide +kernel
theorem dX7_steps_6 : decode cX7_steps 6 = .ok (.iconst 1, 1) := by decide +kernel
theorem dX7_steps_7 : decode cX7_steps 7 = .ok (.iadd, 1) := by decide +kernel
theorem dX7_steps_8 : decode cX7_steps 8 = .ok (.aload_n 0, 1) := by decide +kernel
theorem dX7_steps_9 : decode cX7_steps 9 = .ok (.iload_n 1, 1) := by decide +kernel
theorem dX7_steps_10 : decode cX7_steps 10 = .ok (.invokevirtual 67, 3) := by decide +kernel
theorem dX7_steps_13 : decode cX7_steps 13 = .ok (.irem, 1) := by decide +kernel
theorem dX7_steps_14 : decode cX7_steps 14 = .ok (.istore_n 2, 1) := by decide +kernel
theorem dX7_steps_15 : decode cX7_steps 15 = .ok (.aload_n 0, 1) := by decide +kernel
theorem dX7_steps_16 : decode cX7_steps 16 = .ok (.iload_n 1, 1) := by decide +kernel
theorem dX7_steps_17 : decode cX7_steps 17 = .ok (.iconst 2, 1) := by decide +kernel
theorem dX7_steps_18 : decode cX7_steps 18 = .ok (.iload_n 2, 1) := by decide +kernel
theorem dX7_steps_19 : decode cX7_steps 19 = .ok (.i2l, 1) := by decide +kernel
theorem dX7_steps_20 : decode cX7_steps 20 = .ok (.invokevirtual 78, 3) := by decide +kernel
theorem dX7_steps_23 : decode cX7_steps 23 = .ok (.aload_n 0, 1) := by decide +kernel
theorem dX7_steps_24 : decode cX7_steps 24 = .ok (.iload_n 1, 1) := by decide +kernel
theorem dX7_steps_25 : decode cX7_steps 25 = .ok (.iconst 5, 1) := by decide +kernel
theorem dX7_steps_26 : decode cX7_steps 26 = .ok (.aload_n 0, 1) := by decide +kernel
theorem dX7_steps_27 : decode cX7_steps 27 = .ok (.iload_n 1, 1) := by decide +kernel
theorem dX7_steps_28 : decode cX7_steps 28 = .ok (.iconst 5, 1) := by decide +kernel
theorem dX7_steps_29 : decode cX7_steps 29 = .ok (.invokevirtual 56, 3) := by decide +kernel
theorem dX7_steps_32 : decode cX7_steps 32 = .ok (.iconst 1, 1) := by decide +kernel
theorem dX7_steps_33 : decode cX7_steps 33 = .ok (.iadd, 1) := by decide +kernel
theorem dX7_steps_34 : decode cX7_steps 34 = .ok (.i2l, 1) := by decide +kernel
theorem dX7_steps_35 : decode cX7_steps 35 = .ok (.invokevirtual 78, 3) := by decide +kernel
theorem dX7_steps_38 : decode cX7_steps 38 = .ok (.aload_n 0, 1) := by decide +kernel
theorem dX7_steps_39 : decode cX7_steps 39 = .ok (.getfield 7, 3) := by decide +kernel
theorem dX7_steps_42 : decode cX7_steps 42 = .ok (.bipush 6, 2) := by decide +kernel
theorem dX7_steps_44 : decode cX7_steps 44 = .ok (.dup2, 1) := by decide +kernel
theorem dX7_steps_45 : decode cX7_steps 45 = .ok (.laload, 1) := by decide +kernel
theorem dX7_steps_46 : decode cX7_steps 46 = .ok (.lconst 1, 1) := by decide +kernel
theorem dX7_steps_47 : decode cX7_steps 47 = .ok (.ladd, 1) := by decide +kernel
theorem dX7_steps_48 : decode cX7_steps 48 = .ok (.lastore, 1) := by decide +kernel
theorem dX7_steps_49 : decode cX7_steps 49 = .ok (.aload_n 0, 1) := by decide +kernel
theorem dX7_steps_50 : decode cX7_steps 50 = .ok (.iload_n 1, 1) := by decide +kernel
theorem dX7_steps_51 : decode cX7_steps 51 = .ok (.iconst 4, 1) := by decide +kernel
theorem dX7_steps_52 : decode cX7_steps 52 = .ok (.invokevirtual 56, 3) := by decide +kernel
theorem dX7_steps_55 : decode cX7_steps 55 = .ok (.ifCond .le 19, 3) := by decide +kernel
theorem dX7_steps_58 : decode cX7_steps 58 = .ok (.aload_n 0, 1) := by decide +kernel
theorem dX7_steps_59 : decode cX7_steps 59 = .ok (.iload_n 1, 1) := by decide +kernel
theorem dX7_steps_60 : decode cX7_steps 60 = .ok (.iconst 4, 1) := by decide +kernel
theorem dX7_steps_61 : decode cX7_steps 61 = .ok (.aload_n 0, 1) := by decide +kernel
theorem dX7_steps_62 : decode cX7_steps 62 = .ok (.iload_n 1, 1) := by decide +kernel
theorem dX7_steps_63 : decode cX7_steps 63 = .ok (.iconst 4, 1) := by decide +kernel
theorem dX7_steps_64 : decode cX7_steps 64 = .ok (.invokevirtual 56, 3) := by decide +kernel
theorem dX7_steps_67 : decode cX7_steps 67 = .ok (.iconst 1, 1) := by decide +kernel
theorem dX7_steps_68 : decode cX7_steps 68 = .ok (.isub, 1) := by decide +kernel
theorem dX7_steps_69 : decode cX7_steps 69 = .ok (.i2l, 1) := by decide +kernel
theorem dX7_steps_70 : decode cX7_steps 70 = .ok (.invokevirtual 78, 3) := by decide +kernel
theorem dX7_steps_73 : decode cX7_steps 73 = .ok (.return_, 1) := by decide +kernel
theorem dX7_steps_74 : decode cX7_steps 74 = .ok (.aload_n 0, 1) := by decide +kernel
theorem dX7_steps_75 : decode cX7_steps 75 = .ok (.iload_n 1, 1) := by decide +kernel
theorem dX7_steps_76 : decode cX7_steps 76 = .ok (.iconst 1, 1) := by decide +kernel
theorem dX7_steps_77 : decode cX7_steps 77 = .ok (.aload_n 0, 1) := by decide +kernel
theorem dX7_steps_78 : decode cX7_steps 78 = .ok (.iload_n 1, 1) := by decide +kernel
theorem dX7_steps_79 : decode cX7_steps 79 = .ok (.iconst 1, 1) := by decide +kernel
theorem dX7_steps_80 : decode cX7_steps 80 = .ok (.invokevirtual 56, 3) := by decide +kernel
theorem dX7_steps_83 : decode cX7_steps 83 = .ok (.iconst 1, 1) := by decide +kernel
theorem dX7_steps_84 : decode cX7_steps 84 = .ok (.iadd, 1) := by decide +kernel
theorem dX7_steps_85 : decode cX7_steps 85 = .ok (.aload_n 0, 1) := by decide +kernel
theorem dX7_steps_86 : decode cX7_steps 86 = .ok (.iload_n 1, 1) := by decide +kernel
theorem dX7_steps_87 : decode cX7_steps 87 = .ok (.invokevirtual 67, 3) := by decide +kernel
theorem dX7_steps_90 : decode cX7_steps 90 = .ok (.irem, 1) := by decide +kernel
theorem dX7_steps_91 : decode cX7_steps 91 = .ok (.i2l, 1) := by decide +kernel
theorem dX7_steps_92 : decode cX7_steps 92 = .ok (.invokevirtual 78, 3) := by decide +kernel
theorem dX7_steps_95 : decode cX7_steps 95 = .ok (.aload_n 0, 1) := by decide +kernel
theorem dX7_steps_96 : decode cX7_steps 96 = .ok (.iload_n 1, 1) := by decide +kernel
theorem dX7_steps_97 : decode cX7_steps 97 = .ok (.iconst 1, 1) := by decide +kernel
theorem dX7_steps_98 : decode cX7_steps 98 = .ok (.invokevirtual 56, 3) := by decide +kernel
theorem dX7_steps_101 : decode cX7_steps 101 = .ok (.ifCond .eq 4, 3) := by decide +kernel
theorem dX7_steps_104 : decode cX7_steps 104 = .ok (.return_, 1) := by decide +kernel
theorem dX7_steps_105 : decode cX7_steps 105 = .ok (.aload_n 0, 1) := by decide +kernel
theorem dX7_steps_106 : decode cX7_steps 106 = .ok (.iload_n 1, 1) := by decide +kernel
theorem dX7_steps_107 : decode cX7_steps 107 = .ok (.bipush 6, 2) := by decide +kernel
theorem dX7_steps_109 : decode cX7_steps 109 = .ok (.aload_n 0, 1) := by decide +kernel
theorem dX7_steps_110 : decode cX7_steps 110 = .ok (.iload_n 1, 1) := by decide +kernel
theorem dX7_steps_111 : decode cX7_steps 111 = .ok (.bipush 6, 2) := by decide +kernel
theorem dX7_steps_113 : decode cX7_steps 113 = .ok (.invokevirtual 56, 3) := by decide +kernel
theorem dX7_steps_116 : decode cX7_steps 116 = .ok (.iload_n 2, 1) := by decide +kernel
theorem dX7_steps_117 : decode cX7_steps 117 = .ok (.iadd, 1) := by decide +kernel
theorem dX7_steps_118 : decode cX7_steps 118 = .ok (.i2l, 1) := by decide +kernel
theorem dX7_steps_119 : decode cX7_steps 119 = .ok (.invokevirtual 78, 3) := by decide +kernel
theorem dX7_steps_122 : decode cX7_steps 122 = .ok (.aload_n 0, 1) := by decide +kernel
theorem dX7_steps_123 : decode cX7_steps 123 = .ok (.getfield 7, 3) := by decide +kernel
theorem dX7_steps_126 : decode cX7_steps 126 = .ok (.bipush 7, 2) := by decide +kernel
theorem dX7_steps_128 : decode cX7_steps 128 = .ok (.dup2, 1) := by decide +kernel
theorem dX7_steps_129 : decode cX7_steps 129 = .ok (.laload, 1) := by decide +kernel
theorem dX7_steps_130 : decode cX7_steps 130 = .ok (.iload_n 2, 1) := by decide +kernel
theorem dX7_steps_131 : decode cX7_steps 131 = .ok (.i2l, 1) := by decide +kernel
theorem dX7_steps_132 : decode cX7_steps 132 = .ok (.ladd, 1) := by decide +kernel
theorem dX7_steps_133 : decode cX7_steps 133 = .ok (.lastore, 1) := by decide +kernel
theorem dX7_steps_134 : decode cX7_steps 134 = .ok (.aload_n 0, 1) := by decide +kernel
theorem dX7_steps_135 : decode cX7_steps 135 = .ok (.iload_n 1, 1) := by decide +kernel
theorem dX7_steps_136 : decode cX7_steps 136 = .ok (.iconst 2, 1) := by decide +kernel
theorem dX7_steps_137 : decode cX7_steps 137 = .ok (.lconst 0, 1) := by decide +kernel
theorem dX7_steps_138 : decode cX7_steps 138 = .ok (.invokevirtual 78, 3) := by decide +kernel
theorem dX7_steps_141 : decode cX7_steps 141 = .ok (.return_, 1) := by decide +kernel
theorem dX7_findsTurning_0 : decode cX7_findsTurning 0 = .ok (.aload_n 0, 1) := by decide +kernel
theorem dX7_findsTurning_1 : decode cX7_findsTurning 1 = .ok (.lconst 0, 1) := by decide +kernel
theorem dX7_findsTurning_2 : decode cX7_findsTurning 2 = .ok (.putfield 82, 3) := by decide +kernel
theorem dX7_findsTurning_5 : decode cX7_findsTurning 5 = .ok (.aload_n 0, 1) := by decide +kernel
theorem dX7_findsTurning_6 : decode cX7_findsTurning 6 = .ok (.iconst 0, 1) := by decide +kernel
theorem dX7_findsTurning_7 : decode cX7_findsTurning 7 = .ok (.putfield 86, 3) := by decide +kernel
theorem dX7_findsTurning_10 : decode cX7_findsTurning 10 = .ok (.aload_n 0, 1) := by decide +kernel
theorem dX7_findsTurning_11 : decode cX7_findsTurning 11 = .ok (.iconst 0, 1) := by decide +kernel
theorem dX7_findsTurning_12 : decode cX7_findsTurning 12 = .ok (.putfield 90, 3) := by decide +kernel
theorem dX7_findsTurning_15 : decode cX7_findsTurning 15 = .ok (.lconst 0, 1) := by decide +kernel
theorem dX7_findsTurning_16 : decode cX7_findsTurning 16 = .ok (.lstore_n 1, 1) := by decide +kernel
theorem dX7_findsTurning_17 : decode cX7_findsTurning 17 = .ok (.iconst 0, 1) := by decide +kernel
theorem dX7_findsTurning_18 : decode cX7_findsTurning 18 = .ok (.istore_n 3, 1) := by decide +kernel
theorem dX7_findsTurning_19 : decode cX7_findsTurning 19 = .ok (.iload_n 3, 1) := by decide +kernel
theorem dX7_findsTurning_20 : decode cX7_findsTurning 20 = .ok (.aload_n 0, 1) := by decide +kernel
theorem dX7_findsTurning_21 : decode cX7_findsTurning 21 = .ok (.invokevirtual 53, 3) := by decide +kernel
theorem dX7_findsTurning_24 : decode cX7_findsTurning 24 = .ok (.if_icmp .ge 150, 3) := by decide +kernel
theorem dX7_findsTurning_27 : decode cX7_findsTurning 27 = .ok (.iconst (-1), 1) := by decide +kernel
theorem dX7_findsTurning_28 : decode cX7_findsTurning 28 = .ok (.istore 4, 2) := by decide +kernel
theorem dX7_findsTurning_30 : decode cX7_findsTurning 30 = .ok (.iconst 0, 1) := by decide +kernel
theorem dX7_findsTurning_31 : decode cX7_findsTurning 31 = .ok (.istore 5, 2) := by decide +kernel
theorem dX7_findsTurning_33 : decode cX7_findsTurning 33 = .ok (.iload 5, 2) := by decide +kernel
theorem dX7_findsTurning_35 : decode cX7_findsTurning 35 = .ok (.aload_n 0, 1) := by decide +kernel
theorem dX7_findsTurning_36 : decode cX7_findsTurning 36 = .ok (.invokevirtual 53, 3) := by decide +kernel
theorem dX7_findsTurning_39 : decode cX7_findsTurning 39 = .ok (.if_icmp .ge 52, 3) := by decide +kernel
theorem dX7_findsTurning_42 : decode cX7_findsTurning 42 = .ok (.lload_n 1, 1) := by decide +kernel
theorem dX7_findsTurning_43 : decode cX7_findsTurning 43 = .ok (.iload 5, 2) := by decide +kernel
theorem dX7_findsTurning_45 : decode cX7_findsTurning 45 = .ok (.invokestatic 74, 3) := by decide +kernel
theorem dX7_findsTurning_48 : decode cX7_findsTurning 48 = .ok (.ifCond .ne 37, 3) := by decide +kernel
theorem dX7_findsTurning_51 : decode cX7_findsTurning 51 = .ok (.aload_n 0, 1) := by decide +kernel
theorem dX7_findsTurning_52 : decode cX7_findsTurning 52 = .ok (.iload 5, 2) := by decide +kernel
theorem dX7_findsTurning_54 : decode cX7_findsTurning 54 = .ok (.invokevirtual 93, 3) := by decide +kernel
theorem dX7_findsTurning_57 : decode cX7_findsTurning 57 = .ok (.ifCond .le 28, 3) := by decide +kernel
theorem dX7_findsTurning_60 : decode cX7_findsTurning 60 = .ok (.iload 4, 2) := by decide +kernel
theorem dX7_findsTurning_62 : decode cX7_findsTurning 62 = .ok (.iconst (-1), 1) := by decide +kernel
theorem dX7_findsTurning_63 : decode cX7_findsTurning 63 = .ok (.if_icmp .eq 18, 3) := by decide +kernel
theorem dX7_findsTurning_66 : decode cX7_findsTurning 66 = .ok (.aload_n 0, 1) := by decide +kernel
theorem dX7_findsTurning_67 : decode cX7_findsTurning 67 = .ok (.iload 5, 2) := by decide +kernel
theorem dX7_findsTurning_69 : decode cX7_findsTurning 69 = .ok (.invokevirtual 93, 3) := by decide +kernel
theorem dX7_findsTurning_72 : decode cX7_findsTurning 72 = .ok (.aload_n 0, 1) := by decide +kernel
theorem dX7_findsTurning_73 : decode cX7_findsTurning 73 = .ok (.iload 4, 2) := by decide +kernel
theorem dX7_findsTurning_75 : decode cX7_findsTurning 75 = .ok (.invokevirtual 93, 3) := by decide +kernel
theorem dX7_findsTurning_78 : decode cX7_findsTurning 78 = .ok (.if_icmp .le 7, 3) := by decide +kernel
theorem dX7_findsTurning_81 : decode cX7_findsTurning 81 = .ok (.iload 5, 2) := by decide +kernel
theorem dX7_findsTurning_83 : decode cX7_findsTurning 83 = .ok (.istore 4, 2) := by decide +kernel
theorem dX7_findsTurning_85 : decode cX7_findsTurning 85 = .ok (.iinc 5 1, 3) := by decide +kernel
theorem dX7_findsTurning_88 : decode cX7_findsTurning 88 = .ok (.goto (-55), 3) := by decide +kernel
theorem dX7_findsTurning_91 : decode cX7_findsTurning 91 = .ok (.iload 4, 2) := by decide +kernel
theorem dX7_findsTurning_93 : decode cX7_findsTurning 93 = .ok (.iconst (-1), 1) := by decide +kernel
theorem dX7_findsTurning_94 : decode cX7_findsTurning 94 = .ok (.if_icmp .ne 4, 3) := by decide +kernel
theorem dX7_findsTurning_97 : decode cX7_findsTurning 97 = .ok (.return_, 1) := by decide +kernel
theorem dX7_findsTurning_98 : decode cX7_findsTurning 98 = .ok (.lload_n 1, 1) := by decide +kernel
theorem dX7_findsTurning_99 : decode cX7_findsTurning 99 = .ok (.lconst 1, 1) := by decide +kernel
theorem dX7_findsTurning_100 : decode cX7_findsTurning 100 = .ok (.iload 4, 2) := by decide +kernel
theorem dX7_findsTurning_102 : decode cX7_findsTurning 102 = .ok (.lshl, 1) := by decide +kernel
theorem dX7_findsTurning_103 : decode cX7_findsTurning 103 = .ok (.lor, 1) := by decide +kernel
theorem dX7_findsTurning_104 : decode cX7_findsTurning 104 = .ok (.lstore_n 1, 1) := by decide +kernel
theorem dX7_findsTurning_105 : decode cX7_findsTurning 105 = .ok (.aload_n 0, 1) := by decide +kernel
theorem dX7_findsTurning_106 : decode cX7_findsTurning 106 = .ok (.getfield 90, 3) := by decide +kernel
theorem dX7_findsTurning_109 : decode cX7_findsTurning 109 = .ok (.aload_n 0, 1) := by decide +kernel
theorem dX7_findsTurning_110 : decode cX7_findsTurning 110 = .ok (.iload 4, 2) := by decide +kernel
theorem dX7_findsTurning_112 : decode cX7_findsTurning 112 = .ok (.invokevirtual 96, 3) := by decide +kernel
theorem dX7_findsTurning_115 : decode cX7_findsTurning 115 = .ok (.iadd, 1) := by decide +kernel
theorem dX7_findsTurning_116 : decode cX7_findsTurning 116 = .ok (.i2l, 1) := by decide +kernel
theorem dX7_findsTurning_117 : decode cX7_findsTurning 117 = .ok (.aload_n 0, 1) := by decide +kernel
theorem dX7_findsTurning_118 : decode cX7_findsTurning 118 = .ok (.getfield 7, 3) := by decide +kernel
theorem dX7_findsTurning_121 : decode cX7_findsTurning 121 = .ok (.iconst 2, 1) := by decide +kernel
theorem dX7_findsTurning_122 : decode cX7_findsTurning 122 = .ok (.laload, 1) := by decide +kernel
theorem dX7_findsTurning_123 : decode cX7_findsTurning 123 = .ok (.lcmp, 1) := by decide +kernel
theorem dX7_findsTurning_124 : decode cX7_findsTurning 124 = .ok (.ifCond .le 6, 3) := by decide +kernel
theorem dX7_findsTurning_127 : decode cX7_findsTurning 127 = .ok (.goto 41, 3) := by decide +kernel
theorem dX7_findsTurning_130 : decode cX7_findsTurning 130 = .ok (.aload_n 0, 1) := by decide +kernel
theorem dX7_findsTurning_131 : decode cX7_findsTurning 131 = .ok (.dup, 1) := by decide +kernel
theorem dX7_findsTurning_132 : decode cX7_findsTurning 132 = .ok (.getfield 82, 3) := by decide +kernel
theorem dX7_findsTurning_135 : decode cX7_findsTurning 135 = .ok (.lconst 1, 1) := by decide +kernel
theorem dX7_findsTurning_136 : decode cX7_findsTurning 136 = .ok (.iload 4, 2) := by decide +kernel
theorem dX7_findsTurning_138 : decode cX7_findsTurning 138 = .ok (.lshl, 1) := by decide +kernel
theorem dX7_findsTurning_139 : decode cX7_findsTurning 139 = .ok (.lor, 1) := by decide +kernel
theorem dX7_findsTurning_140 : decode cX7_findsTurning 140 = .ok (.putfield 82, 3) := by decide +kernel
theorem dX7_findsTurning_143 : decode cX7_findsTurning 143 = .ok (.aload_n 0, 1) := by decide +kernel
theorem dX7_findsTurning_144 : decode cX7_findsTurning 144 = .ok (.dup, 1) := by decide +kernel
theorem dX7_findsTurning_145 : decode cX7_findsTurning 145 = .ok (.getfield 86, 3) := by decide +kernel
theorem dX7_findsTurning_148 : decode cX7_findsTurning 148 = .ok (.iconst 1, 1) := by decide +kernel
theorem dX7_findsTurning_149 : decode cX7_findsTurning 149 = .ok (.iadd, 1) := by decide +kernel
theorem dX7_findsTurning_150 : decode cX7_findsTurning 150 = .ok (.putfield 86, 3) := by decide +kernel
theorem dX7_findsTurning_153 : decode cX7_findsTurning 153 = .ok (.aload_n 0, 1) := by decide +kernel
theorem dX7_findsTurning_154 : decode cX7_findsTurning 154 = .ok (.dup, 1) := by decide +kernel
theorem dX7_findsTurning_155 : decode cX7_findsTurning 155 = .ok (.getfield 90, 3) := by decide +kernel
theorem dX7_findsTurning_158 : decode cX7_findsTurning 158 = .ok (.aload_n 0, 1) := by decide +kernel
theorem dX7_findsTurning_159 : decode cX7_findsTurning 159 = .ok (.iload 4, 2) := by decide +kernel
theorem dX7_findsTurning_161 : decode cX7_findsTurning 161 = .ok (.invokevirtual 96, 3) := by decide +kernel
theorem dX7_findsTurning_164 : decode cX7_findsTurning 164 = .ok (.iadd, 1) := by decide +kernel
theorem dX7_findsTurning_165 : decode cX7_findsTurning 165 = .ok (.putfield 90, 3) := by decide +kernel
theorem dX7_findsTurning_168 : decode cX7_findsTurning 168 = .ok (.iinc 3 1, 3) := by decide +kernel
theorem dX7_findsTurning_171 : decode cX7_findsTurning 171 = .ok (.goto (-152), 3) := by decide +kernel
theorem dX7_findsTurning_174 : decode cX7_findsTurning 174 = .ok (.return_, 1) := by decide +kernel
theorem dX7_ticks_0 : decode cX7_ticks 0 = .ok (.aload_n 0, 1) := by decide +kernel
theorem dX7_ticks_1 : decode cX7_ticks 1 = .ok (.invokevirtual 99, 3) := by decide +kernel
theorem dX7_ticks_4 : decode cX7_ticks 4 = .ok (.iconst 0, 1) := by decide +kernel
theorem dX7_ticks_5 : decode cX7_ticks 5 = .ok (.istore_n 1, 1) := by decide +kernel
theorem dX7_ticks_6 : decode cX7_ticks 6 = .ok (.iload_n 1, 1) := by decide +kernel
theorem dX7_ticks_7 : decode cX7_ticks 7 = .ok (.aload_n 0, 1) := by decide +kernel
theorem dX7_ticks_8 : decode cX7_ticks 8 = .ok (.invokevirtual 53, 3) := by decide +kernel
theorem dX7_ticks_11 : decode cX7_ticks 11 = .ok (.if_icmp .ge 25, 3) := by decide +kernel
theorem dX7_ticks_14 : decode cX7_ticks 14 = .ok (.aload_n 0, 1) := by decide +kernel
theorem dX7_ticks_15 : decode cX7_ticks 15 = .ok (.getfield 82, 3) := by decide +kernel
theorem dX7_ticks_18 : decode cX7_ticks 18 = .ok (.iload_n 1, 1) := by decide +kernel
theorem dX7_ticks_19 : decode cX7_ticks 19 = .ok (.invokestatic 74, 3) := by decide +kernel
theorem dX7_ticks_22 : decode cX7_ticks 22 = .ok (.ifCond .eq 8, 3) := by decide +kernel
theorem dX7_ticks_25 : decode cX7_ticks 25 = .ok (.aload_n 0, 1) := by decide +kernel
theorem dX7_ticks_26 : decode cX7_ticks 26 = .ok (.iload_n 1, 1) := by decide +kernel
theorem dX7_ticks_27 : decode cX7_ticks 27 = .ok (.invokevirtual 102, 3) := by decide +kernel
theorem dX7_ticks_30 : decode cX7_ticks 30 = .ok (.iinc 1 1, 3) := by decide +kernel
theorem dX7_ticks_33 : decode cX7_ticks 33 = .ok (.goto (-27), 3) := by decide +kernel
theorem dX7_ticks_36 : decode cX7_ticks 36 = .ok (.aload_n 0, 1) := by decide +kernel
theorem dX7_ticks_37 : decode cX7_ticks 37 = .ok (.getfield 86, 3) := by decide +kernel
theorem dX7_ticks_40 : decode cX7_ticks 40 = .ok (.ifCond .ne 5, 3) := by decide +kernel
theorem dX7_ticks_43 : decode cX7_ticks 43 = .ok (.iconst 0, 1) := by decide +kernel
theorem dX7_ticks_44 : decode cX7_ticks 44 = .ok (.ireturn, 1) := by decide +kernel
theorem dX7_ticks_45 : decode cX7_ticks 45 = .ok (.aload_n 0, 1) := by decide +kernel
theorem dX7_ticks_46 : decode cX7_ticks 46 = .ok (.getfield 7, 3) := by decide +kernel
theorem dX7_ticks_49 : decode cX7_ticks 49 = .ok (.iconst 4, 1) := by decide +kernel
theorem dX7_ticks_50 : decode cX7_ticks 50 = .ok (.aload_n 0, 1) := by decide +kernel
theorem dX7_ticks_51 : decode cX7_ticks 51 = .ok (.getfield 7, 3) := by decide +kernel
theorem dX7_ticks_54 : decode cX7_ticks 54 = .ok (.iconst 4, 1) := by decide +kernel
theorem dX7_ticks_55 : decode cX7_ticks 55 = .ok (.laload, 1) := by decide +kernel
theorem dX7_ticks_56 : decode cX7_ticks 56 = .ok (.aload_n 0, 1) := by decide +kernel
theorem dX7_ticks_57 : decode cX7_ticks 57 = .ok (.getfield 86, 3) := by decide +kernel
theorem dX7_ticks_60 : decode cX7_ticks 60 = .ok (.aload_n 0, 1) := by decide +kernel
theorem dX7_ticks_61 : decode cX7_ticks 61 = .ok (.getfield 86, 3) := by decide +kernel
theorem dX7_ticks_64 : decode cX7_ticks 64 = .ok (.imul, 1) := by decide +kernel
theorem dX7_ticks_65 : decode cX7_ticks 65 = .ok (.i2l, 1) := by decide +kernel
theorem dX7_ticks_66 : decode cX7_ticks 66 = .ok (.ladd, 1) := by decide +kernel
theorem dX7_ticks_67 : decode cX7_ticks 67 = .ok (.l2i, 1) := by decide +kernel
theorem dX7_ticks_68 : decode cX7_ticks 68 = .ok (.i2l, 1) := by decide +kernel
theorem dX7_ticks_69 : decode cX7_ticks 69 = .ok (.lastore, 1) := by decide +kernel
theorem dX7_ticks_70 : decode cX7_ticks 70 = .ok (.aload_n 0, 1) := by decide +kernel
theorem dX7_ticks_71 : decode cX7_ticks 71 = .ok (.getfield 7, 3) := by decide +kernel
theorem dX7_ticks_74 : decode cX7_ticks 74 = .ok (.iconst 5, 1) := by decide +kernel
theorem dX7_ticks_75 : decode cX7_ticks 75 = .ok (.dup2, 1) := by decide +kernel
theorem dX7_ticks_76 : decode cX7_ticks 76 = .ok (.laload, 1) := by decide +kernel
theorem dX7_ticks_77 : decode cX7_ticks 77 = .ok (.lconst 1, 1) := by decide +kernel
theorem dX7_ticks_78 : decode cX7_ticks 78 = .ok (.ladd, 1) := by decide +kernel
theorem dX7_ticks_79 : decode cX7_ticks 79 = .ok (.lastore, 1) := by decide +kernel
theorem dX7_ticks_80 : decode cX7_ticks 80 = .ok (.aload_n 0, 1) := by decide +kernel
theorem dX7_ticks_81 : decode cX7_ticks 81 = .ok (.getfield 86, 3) := by decide +kernel
theorem dX7_ticks_84 : decode cX7_ticks 84 = .ok (.ireturn, 1) := by decide +kernel
theorem dX7_flapFor_0 : decode cX7_flapFor 0 = .ok (.iconst (-1), 1) := by decide +kernel
theorem dX7_flapFor_1 : decode cX7_flapFor 1 = .ok (.istore_n 3, 1) := by decide +kernel
theorem dX7_flapFor_2 : decode cX7_flapFor 2 = .ok (.iconst 0, 1) := by decide +kernel
theorem dX7_flapFor_3 : decode cX7_flapFor 3 = .ok (.istore 4, 2) := by decide +kernel
theorem dX7_flapFor_5 : decode cX7_flapFor 5 = .ok (.iload 4, 2) := by decide +kernel
theorem dX7_flapFor_7 : decode cX7_flapFor 7 = .ok (.aload_n 0, 1) := by decide +kernel
theorem dX7_flapFor_8 : decode cX7_flapFor 8 = .ok (.iload_n 1, 1) := by decide +kernel
theorem dX7_flapFor_9 : decode cX7_flapFor 9 = .ok (.invokevirtual 67, 3) := by decide +kernel
theorem dX7_flapFor_12 : decode cX7_flapFor 12 = .ok (.if_icmp .ge 83, 3) := by decide +kernel
theorem dX7_flapFor_15 : decode cX7_flapFor 15 = .ok (.aload_n 0, 1) := by decide +kernel
theorem dX7_flapFor_16 : decode cX7_flapFor 16 = .ok (.aload_n 0, 1) := by decide +kernel
theorem dX7_flapFor_17 : decode cX7_flapFor 17 = .ok (.iload_n 1, 1) := by decide +kernel
theorem dX7_flapFor_18 : decode cX7_flapFor 18 = .ok (.iconst 0, 1) := by decide +kernel
theorem dX7_flapFor_19 : decode cX7_flapFor 19 = .ok (.invokevirtual 56, 3) := by decide +kernel
theorem dX7_flapFor_22 : decode cX7_flapFor 22 = .ok (.iload 4, 2) := by decide +kernel
theorem dX7_flapFor_24 : decode cX7_flapFor 24 = .ok (.invokevirtual 106, 3) := by decide +kernel
theorem dX7_flapFor_27 : decode cX7_flapFor 27 = .ok (.iload_n 2, 1) := by decide +kernel
theorem dX7_flapFor_28 : decode cX7_flapFor 28 = .ok (.if_icmp .ne 61, 3) := by decide +kernel
theorem dX7_flapFor_31 : decode cX7_flapFor 31 = .ok (.aload_n 0, 1) := by decide +kernel
theorem dX7_flapFor_32 : decode cX7_flapFor 32 = .ok (.iload_n 1, 1) := by decide +kernel
theorem dX7_flapFor_33 : decode cX7_flapFor 33 = .ok (.invokevirtual 109, 3) := by decide +kernel
theorem dX7_flapFor_36 : decode cX7_flapFor 36 = .ok (.iload 4, 2) := by decide +kernel
theorem dX7_flapFor_38 : decode cX7_flapFor 38 = .ok (.invokestatic 74, 3) := by decide +kernel
theorem dX7_flapFor_41 : decode cX7_flapFor 41 = .ok (.ifCond .eq 6, 3) := by decide +kernel
theorem dX7_flapFor_44 : decode cX7_flapFor 44 = .ok (.goto 45, 3) := by decide +kernel
theorem dX7_flapFor_47 : decode cX7_flapFor 47 = .ok (.iload_n 3, 1) := by decide +kernel
theorem dX7_flapFor_48 : decode cX7_flapFor 48 = .ok (.iconst (-1), 1) := by decide +kernel
theorem dX7_flapFor_49 : decode cX7_flapFor 49 = .ok (.if_icmp .eq 37, 3) := by decide +kernel
theorem dX7_flapFor_52 : decode cX7_flapFor 52 = .ok (.aload_n 0, 1) := by decide +kernel
theorem dX7_flapFor_53 : decode cX7_flapFor 53 = .ok (.iload_n 1, 1) := by decide +kernel
theorem dX7_flapFor_54 : decode cX7_flapFor 54 = .ok (.iconst 2, 1) := by decide +kernel
theorem dX7_flapFor_55 : decode cX7_flapFor 55 = .ok (.invokevirtual 56, 3) := by decide +kernel
theorem dX7_flapFor_58 : decode cX7_flapFor 58 = .ok (.iload 4, 2) := by decide +kernel
theorem dX7_flapFor_60 : decode cX7_flapFor 60 = .ok (.aload_n 0, 1) := by decide +kernel
theorem dX7_flapFor_61 : decode cX7_flapFor 61 = .ok (.iload_n 1, 1) := by decide +kernel
theorem dX7_flapFor_62 : decode cX7_flapFor 62 = .ok (.invokevirtual 67, 3) := by decide +kernel
theorem dX7_flapFor_65 : decode cX7_flapFor 65 = .ok (.invokestatic 70, 3) := by decide +kernel
theorem dX7_flapFor_68 : decode cX7_flapFor 68 = .ok (.aload_n 0, 1) := by decide +kernel
theorem dX7_flapFor_69 : decode cX7_flapFor 69 = .ok (.iload_n 1, 1) := by decide +kernel
theorem dX7_flapFor_70 : decode cX7_flapFor 70 = .ok (.iconst 2, 1) := by decide +kernel
theorem dX7_flapFor_71 : decode cX7_flapFor 71 = .ok (.invokevirtual 56, 3) := by decide +kernel
theorem dX7_flapFor_74 : decode cX7_flapFor 74 = .ok (.iload_n 3, 1) := by decide +kernel
theorem dX7_flapFor_75 : decode cX7_flapFor 75 = .ok (.aload_n 0, 1) := by decide +kernel
theorem dX7_flapFor_76 : decode cX7_flapFor 76 = .ok (.iload_n 1, 1) := by decide +kernel
theorem dX7_flapFor_77 : decode cX7_flapFor 77 = .ok (.invokevirtual 67, 3) := by decide +kernel
theorem dX7_flapFor_80 : decode cX7_flapFor 80 = .ok (.invokestatic 70, 3) := by decide +kernel
theorem dX7_flapFor_83 : decode cX7_flapFor 83 = .ok (.if_icmp .ge 6, 3) := by decide +kernel
theorem dX7_flapFor_86 : decode cX7_flapFor 86 = .ok (.iload 4, 2) := by decide +kernel
theorem dX7_flapFor_88 : decode cX7_flapFor 88 = .ok (.istore_n 3, 1) := by decide +kernel
theorem dX7_flapFor_89 : decode cX7_flapFor 89 = .ok (.iinc 4 1, 3) := by decide +kernel
theorem dX7_flapFor_92 : decode cX7_flapFor 92 = .ok (.goto (-87), 3) := by decide +kernel
theorem dX7_flapFor_95 : decode cX7_flapFor 95 = .ok (.iload_n 3, 1) := by decide +kernel
theorem dX7_flapFor_96 : decode cX7_flapFor 96 = .ok (.ireturn, 1) := by decide +kernel
theorem dX7_wantsFlap_0 : decode cX7_wantsFlap 0 = .ok (.aload_n 0, 1) := by decide +kernel
theorem dX7_wantsFlap_1 : decode cX7_wantsFlap 1 = .ok (.iload_n 1, 1) := by decide +kernel
theorem dX7_wantsFlap_2 : decode cX7_wantsFlap 2 = .ok (.iconst 3, 1) := by decide +kernel
theorem dX7_wantsFlap_3 : decode cX7_wantsFlap 3 = .ok (.iload_n 2, 1) := by decide +kernel
theorem dX7_wantsFlap_4 : decode cX7_wantsFlap 4 = .ok (.i2l, 1) := by decide +kernel
theorem dX7_wantsFlap_5 : decode cX7_wantsFlap 5 = .ok (.invokevirtual 78, 3) := by decide +kernel
theorem dX7_wantsFlap_8 : decode cX7_wantsFlap 8 = .ok (.iload_n 3, 1) := by decide +kernel
theorem dX7_wantsFlap_9 : decode cX7_wantsFlap 9 = .ok (.ifCond .eq 47, 3) := by decide +kernel
theorem dX7_wantsFlap_12 : decode cX7_wantsFlap 12 = .ok (.iload_n 2, 1) := by decide +kernel
theorem dX7_wantsFlap_13 : decode cX7_wantsFlap 13 = .ok (.aload_n 0, 1) := by decide +kernel
theorem dX7_wantsFlap_14 : decode cX7_wantsFlap 14 = .ok (.iload_n 1, 1) := by decide +kernel
theorem dX7_wantsFlap_15 : decode cX7_wantsFlap 15 = .ok (.iconst 2, 1) := by decide +kernel
theorem dX7_wantsFlap_16 : decode cX7_wantsFlap 16 = .ok (.invokevirtual 56, 3) := by decide +kernel
theorem dX7_wantsFlap_19 : decode cX7_wantsFlap 19 = .ok (.if_icmp .eq 37, 3) := by decide +kernel
theorem dX7_wantsFlap_22 : decode cX7_wantsFlap 22 = .ok (.aload_n 0, 1) := by decide +kernel
theorem dX7_wantsFlap_23 : decode cX7_wantsFlap 23 = .ok (.getfield 7, 3) := by decide +kernel
theorem dX7_wantsFlap_26 : decode cX7_wantsFlap 26 = .ok (.sipush 496, 3) := by decide +kernel
theorem dX7_wantsFlap_29 : decode cX7_wantsFlap 29 = .ok (.bipush 40, 2) := by decide +kernel
theorem dX7_wantsFlap_31 : decode cX7_wantsFlap 31 = .ok (.bipush 40, 2) := by decide +kernel
theorem dX7_wantsFlap_33 : decode cX7_wantsFlap 33 = .ok (.aload_n 0, 1) := by decide +kernel
theorem dX7_wantsFlap_34 : decode cX7_wantsFlap 34 = .ok (.iload_n 1, 1) := by decide +kernel
theorem dX7_wantsFlap_35 : decode cX7_wantsFlap 35 = .ok (.iconst 0, 1) := by decide +kernel
theorem dX7_wantsFlap_36 : decode cX7_wantsFlap 36 = .ok (.invokevirtual 56, 3) := by decide +kernel
theorem dX7_wantsFlap_39 : decode cX7_wantsFlap 39 = .ok (.imul, 1) := by decide +kernel
theorem dX7_wantsFlap_40 : decode cX7_wantsFlap 40 = .ok (.aload_n 0, 1) := by decide +kernel
theorem dX7_wantsFlap_41 : decode cX7_wantsFlap 41 = .ok (.iload_n 1, 1) := by decide +kernel
theorem dX7_wantsFlap_42 : decode cX7_wantsFlap 42 = .ok (.iconst 2, 1) := by decide +kernel
theorem dX7_wantsFlap_43 : decode cX7_wantsFlap 43 = .ok (.invokevirtual 56, 3) := by decide +kernel
theorem dX7_wantsFlap_46 : decode cX7_wantsFlap 46 = .ok (.iadd, 1) := by decide +kernel
theorem dX7_wantsFlap_47 : decode cX7_wantsFlap 47 = .ok (.imul, 1) := by decide +kernel
theorem dX7_wantsFlap_48 : decode cX7_wantsFlap 48 = .ok (.iadd, 1) := by decide +kernel
theorem dX7_wantsFlap_49 : decode cX7_wantsFlap 49 = .ok (.iload_n 2, 1) := by decide +kernel
theorem dX7_wantsFlap_50 : decode cX7_wantsFlap 50 = .ok (.iadd, 1) := by decide +kernel
theorem dX7_wantsFlap_51 : decode cX7_wantsFlap 51 = .ok (.dup2, 1) := by decide +kernel
theorem dX7_wantsFlap_52 : decode cX7_wantsFlap 52 = .ok (.laload, 1) := by decide +kernel
theorem dX7_wantsFlap_53 : decode cX7_wantsFlap 53 = .ok (.lconst 1, 1) := by decide +kernel
theorem dX7_wantsFlap_54 : decode cX7_wantsFlap 54 = .ok (.ladd, 1) := by decide +kernel
theorem dX7_wantsFlap_55 : decode cX7_wantsFlap 55 = .ok (.lastore, 1) := by decide +kernel
theorem dX7_wantsFlap_56 : decode cX7_wantsFlap 56 = .ok (.return_, 1) := by decide +kernel
theorem dX7_wantsSigns_0 : decode cX7_wantsSigns 0 = .ok (.iconst 0, 1) := by decide +kernel
theorem dX7_wantsSigns_1 : decode cX7_wantsSigns 1 = .ok (.istore 5, 2) := by decide +kernel
theorem dX7_wantsSigns_3 : decode cX7_wantsSigns 3 = .ok (.iconst 0, 1) := by decide +kernel
theorem dX7_wantsSigns_4 : decode cX7_wantsSigns 4 = .ok (.istore 6, 2) := by decide +kernel
theorem dX7_wantsSigns_6 : decode cX7_wantsSigns 6 = .ok (.iload 6, 2) := by decide +kernel
theorem dX7_wantsSigns_8 : decode cX7_wantsSigns 8 = .ok (.aload_n 0, 1) := by decide +kernel
theorem dX7_wantsSigns_9 : decode cX7_wantsSigns 9 = .ok (.invokevirtual 47, 3) := by decide +kernel
theorem dX7_wantsSigns_12 : decode cX7_wantsSigns 12 = .ok (.if_icmp .ge 69, 3) := by decide +kernel
theorem dX7_wantsSigns_15 : decode cX7_wantsSigns 15 = .ok (.aload_n 0, 1) := by decide +kernel
theorem dX7_wantsSigns_16 : decode cX7_wantsSigns 16 = .ok (.invokevirtual 47, 3) := by decide +kernel
theorem dX7_wantsSigns_19 : decode cX7_wantsSigns 19 = .ok (.iload_n 1, 1) := by decide +kernel
theorem dX7_wantsSigns_20 : decode cX7_wantsSigns 20 = .ok (.imul, 1) := by decide +kernel
theorem dX7_wantsSigns_21 : decode cX7_wantsSigns 21 = .ok (.iload 6, 2) := by decide +kernel
theorem dX7_wantsSigns_23 : decode cX7_wantsSigns 23 = .ok (.iadd, 1) := by decide +kernel
theorem dX7_wantsSigns_24 : decode cX7_wantsSigns 24 = .ok (.istore 7, 2) := by decide +kernel
theorem dX7_wantsSigns_26 : decode cX7_wantsSigns 26 = .ok (.iload 6, 2) := by decide +kernel
theorem dX7_wantsSigns_28 : decode cX7_wantsSigns 28 = .ok (.iload_n 3, 1) := by decide +kernel
theorem dX7_wantsSigns_29 : decode cX7_wantsSigns 29 = .ok (.if_icmp .ge 21, 3) := by decide +kernel
theorem dX7_wantsSigns_32 : decode cX7_wantsSigns 32 = .ok (.aload_n 0, 1) := by decide +kernel
theorem dX7_wantsSigns_33 : decode cX7_wantsSigns 33 = .ok (.iload 7, 2) := by decide +kernel
theorem dX7_wantsSigns_35 : decode cX7_wantsSigns 35 = .ok (.aload_n 0, 1) := by decide +kernel
theorem dX7_wantsSigns_36 : decode cX7_wantsSigns 36 = .ok (.getfield 31, 3) := by decide +kernel
theorem dX7_wantsSigns_39 : decode cX7_wantsSigns 39 = .ok (.iload_n 2, 1) := by decide +kernel
theorem dX7_wantsSigns_40 : decode cX7_wantsSigns 40 = .ok (.iload 6, 2) := by decide +kernel
theorem dX7_wantsSigns_42 : decode cX7_wantsSigns 42 = .ok (.iadd, 1) := by decide +kernel
theorem dX7_wantsSigns_43 : decode cX7_wantsSigns 43 = .ok (.baload, 1) := by decide +kernel
theorem dX7_wantsSigns_44 : decode cX7_wantsSigns 44 = .ok (.invokevirtual 113, 3) := by decide +kernel
theorem dX7_wantsSigns_47 : decode cX7_wantsSigns 47 = .ok (.goto 4, 3) := by decide +kernel
theorem dX7_wantsSigns_50 : decode cX7_wantsSigns 50 = .ok (.iconst 0, 1) := by decide +kernel
theorem dX7_wantsSigns_51 : decode cX7_wantsSigns 51 = .ok (.istore 8, 2) := by decide +kernel
theorem dX7_wantsSigns_53 : decode cX7_wantsSigns 53 = .ok (.iload 8, 2) := by decide +kernel
theorem dX7_wantsSigns_55 : decode cX7_wantsSigns 55 = .ok (.iconst (-1), 1) := by decide +kernel
theorem dX7_wantsSigns_56 : decode cX7_wantsSigns 56 = .ok (.if_icmp .ne 9, 3) := by decide +kernel
theorem dX7_wantsSigns_59 : decode cX7_wantsSigns 59 = .ok (.iinc 5 1, 3) := by decide +kernel
theorem dX7_wantsSigns_62 : decode cX7_wantsSigns 62 = .ok (.goto 13, 3) := by decide +kernel
theorem dX7_wantsSigns_65 : decode cX7_wantsSigns 65 = .ok (.aload_n 0, 1) := by decide +kernel
theorem dX7_wantsSigns_66 : decode cX7_wantsSigns 66 = .ok (.iload 7, 2) := by decide +kernel
theorem dX7_wantsSigns_68 : decode cX7_wantsSigns 68 = .ok (.iload 8, 2) := by decide +kernel
theorem dX7_wantsSigns_70 : decode cX7_wantsSigns 70 = .ok (.iload 4, 2) := by decide +kernel
theorem dX7_wantsSigns_72 : decode cX7_wantsSigns 72 = .ok (.invokevirtual 116, 3) := by decide +kernel
theorem dX7_wantsSigns_75 : decode cX7_wantsSigns 75 = .ok (.iinc 6 1, 3) := by decide +kernel
theorem dX7_wantsSigns_78 : decode cX7_wantsSigns 78 = .ok (.goto (-72), 3) := by decide +kernel
theorem dX7_wantsSigns_81 : decode cX7_wantsSigns 81 = .ok (.iload 5, 2) := by decide +kernel
theorem dX7_wantsSigns_83 : decode cX7_wantsSigns 83 = .ok (.ireturn, 1) := by decide +kernel
theorem dX7_scrolls_0 : decode cX7_scrolls 0 = .ok (.iconst 0, 1) := by decide +kernel
theorem dX7_scrolls_1 : decode cX7_scrolls 1 = .ok (.istore_n 3, 1) := by decide +kernel
theorem dX7_scrolls_2 : decode cX7_scrolls 2 = .ok (.iconst 0, 1) := by decide +kernel
theorem dX7_scrolls_3 : decode cX7_scrolls 3 = .ok (.istore 4, 2) := by decide +kernel
theorem dX7_scrolls_5 : decode cX7_scrolls 5 = .ok (.iload 4, 2) := by decide +kernel
theorem dX7_scrolls_7 : decode cX7_scrolls 7 = .ok (.aload_n 0, 1) := by decide +kernel
theorem dX7_scrolls_8 : decode cX7_scrolls 8 = .ok (.invokevirtual 53, 3) := by decide +kernel
theorem dX7_scrolls_11 : decode cX7_scrolls 11 = .ok (.if_icmp .ge 34, 3) := by decide +kernel
theorem dX7_scrolls_14 : decode cX7_scrolls 14 = .ok (.aload_n 0, 1) := by decide +kernel
theorem dX7_scrolls_15 : decode cX7_scrolls 15 = .ok (.getfield 27, 3) := by decide +kernel
theorem dX7_scrolls_18 : decode cX7_scrolls 18 = .ok (.iload 4, 2) := by decide +kernel
theorem dX7_scrolls_20 : decode cX7_scrolls 20 = .ok (.aload_n 0, 1) := by decide +kernel
theorem dX7_scrolls_21 : decode cX7_scrolls 21 = .ok (.aload_n 0, 1) := by decide +kernel
theorem dX7_scrolls_22 : decode cX7_scrolls 22 = .ok (.iload 4, 2) := by decide +kernel
theorem dX7_scrolls_24 : decode cX7_scrolls 24 = .ok (.iconst 0, 1) := by decide +kernel
theorem dX7_scrolls_25 : decode cX7_scrolls 25 = .ok (.invokevirtual 56, 3) := by decide +kernel
theorem dX7_scrolls_28 : decode cX7_scrolls 28 = .ok (.aload_n 0, 1) := by decide +kernel
theorem dX7_scrolls_29 : decode cX7_scrolls 29 = .ok (.iload 4, 2) := by decide +kernel
theorem dX7_scrolls_31 : decode cX7_scrolls 31 = .ok (.iconst 3, 1) := by decide +kernel
theorem dX7_scrolls_32 : decode cX7_scrolls 32 = .ok (.invokevirtual 56, 3) := by decide +kernel
theorem dX7_scrolls_35 : decode cX7_scrolls 35 = .ok (.invokevirtual 106, 3) := by decide +kernel
theorem dX7_scrolls_38 : decode cX7_scrolls 38 = .ok (.iastore, 1) := by decide +kernel
theorem dX7_scrolls_39 : decode cX7_scrolls 39 = .ok (.iinc 4 1, 3) := by decide +kernel
theorem dX7_scrolls_42 : decode cX7_scrolls 42 = .ok (.goto (-37), 3) := by decide +kernel
theorem dX7_scrolls_45 : decode cX7_scrolls 45 = .ok (.iconst 0, 1) := by decide +kernel
theorem dX7_scrolls_46 : decode cX7_scrolls 46 = .ok (.istore 4, 2) := by decide +kernel
theorem dX7_scrolls_48 : decode cX7_scrolls 48 = .ok (.iload 4, 2) := by decide +kernel
theorem dX7_scrolls_50 : decode cX7_scrolls 50 = .ok (.aload_n 0, 1) := by decide +kernel
theorem dX7_scrolls_51 : decode cX7_scrolls 51 = .ok (.invokevirtual 47, 3) := by decide +kernel
theorem dX7_scrolls_54 : decode cX7_scrolls 54 = .ok (.iadd, 1) := by decide +kernel
theorem dX7_scrolls_55 : decode cX7_scrolls 55 = .ok (.aload_n 0, 1) := by decide +kernel
theorem dX7_scrolls_56 : decode cX7_scrolls 56 = .ok (.invokevirtual 53, 3) := by decide +kernel
theorem dX7_scrolls_59 : decode cX7_scrolls 59 = .ok (.if_icmp .ge 50, 3) := by decide +kernel
theorem dX7_scrolls_62 : decode cX7_scrolls 62 = .ok (.aload_n 0, 1) := by decide +kernel
theorem dX7_scrolls_63 : decode cX7_scrolls 63 = .ok (.iload 4, 2) := by decide +kernel
theorem dX7_scrolls_65 : decode cX7_scrolls 65 = .ok (.aload_n 0, 1) := by decide +kernel
theorem dX7_scrolls_66 : decode cX7_scrolls 66 = .ok (.getfield 27, 3) := by decide +kernel
theorem dX7_scrolls_69 : decode cX7_scrolls 69 = .ok (.iload 4, 2) := by decide +kernel
theorem dX7_scrolls_71 : decode cX7_scrolls 71 = .ok (.aload_n 0, 1) := by decide +kernel
theorem dX7_scrolls_72 : decode cX7_scrolls 72 = .ok (.invokevirtual 47, 3) := by decide +kernel
theorem dX7_scrolls_75 : decode cX7_scrolls 75 = .ok (.iadd, 1) := by decide +kernel
theorem dX7_scrolls_76 : decode cX7_scrolls 76 = .ok (.iaload, 1) := by decide +kernel
theorem dX7_scrolls_77 : decode cX7_scrolls 77 = .ok (.invokevirtual 113, 3) := by decide +kernel
theorem dX7_scrolls_80 : decode cX7_scrolls 80 = .ok (.istore 5, 2) := by decide +kernel
theorem dX7_scrolls_82 : decode cX7_scrolls 82 = .ok (.iload 5, 2) := by decide +kernel
theorem dX7_scrolls_84 : decode cX7_scrolls 84 = .ok (.iconst (-1), 1) := by decide +kernel
theorem dX7_scrolls_85 : decode cX7_scrolls 85 = .ok (.if_icmp .ne 9, 3) := by decide +kernel
theorem dX7_scrolls_88 : decode cX7_scrolls 88 = .ok (.iinc 3 1, 3) := by decide +kernel
theorem dX7_scrolls_91 : decode cX7_scrolls 91 = .ok (.goto 12, 3) := by decide +kernel
theorem dX7_scrolls_94 : decode cX7_scrolls 94 = .ok (.aload_n 0, 1) := by decide +kernel
theorem dX7_scrolls_95 : decode cX7_scrolls 95 = .ok (.iload 4, 2) := by decide +kernel
theorem dX7_scrolls_97 : decode cX7_scrolls 97 = .ok (.iload 5, 2) := by decide +kernel
theorem dX7_scrolls_99 : decode cX7_scrolls 99 = .ok (.iconst 1, 1) := by decide +kernel
theorem dX7_scrolls_100 : decode cX7_scrolls 100 = .ok (.invokevirtual 116, 3) := by decide +kernel
theorem dX7_scrolls_103 : decode cX7_scrolls 103 = .ok (.iinc 4 1, 3) := by decide +kernel
theorem dX7_scrolls_106 : decode cX7_scrolls 106 = .ok (.goto (-58), 3) := by decide +kernel
theorem dX7_scrolls_109 : decode cX7_scrolls 109 = .ok (.iload_n 3, 1) := by decide +kernel
theorem dX7_scrolls_110 : decode cX7_scrolls 110 = .ok (.aload_n 0, 1) := by decide +kernel
theorem dX7_scrolls_111 : decode cX7_scrolls 111 = .ok (.aload_n 0, 1) := by decide +kernel
theorem dX7_scrolls_112 : decode cX7_scrolls 112 = .ok (.invokevirtual 43, 3) := by decide +kernel
theorem dX7_scrolls_115 : decode cX7_scrolls 115 = .ok (.iconst 1, 1) := by decide +kernel
theorem dX7_scrolls_116 : decode cX7_scrolls 116 = .ok (.isub, 1) := by decide +kernel
theorem dX7_scrolls_117 : decode cX7_scrolls 117 = .ok (.iload_n 1, 1) := by decide +kernel
theorem dX7_scrolls_118 : decode cX7_scrolls 118 = .ok (.iload_n 2, 1) := by decide +kernel
theorem dX7_scrolls_119 : decode cX7_scrolls 119 = .ok (.iconst 1, 1) := by decide +kernel
theorem dX7_scrolls_120 : decode cX7_scrolls 120 = .ok (.invokevirtual 120, 3) := by decide +kernel
theorem dX7_scrolls_123 : decode cX7_scrolls 123 = .ok (.iadd, 1) := by decide +kernel
theorem dX7_scrolls_124 : decode cX7_scrolls 124 = .ok (.ireturn, 1) := by decide +kernel
theorem dX7_keepsAct_0 : decode cX7_keepsAct 0 = .ok (.aload_n 0, 1) := by decide +kernel
theorem dX7_keepsAct_1 : decode cX7_keepsAct 1 = .ok (.getfield 124, 3) := by decide +kernel
theorem dX7_keepsAct_4 : decode cX7_keepsAct 4 = .ok (.bipush 10, 2) := by decide +kernel
theorem dX7_keepsAct_6 : decode cX7_keepsAct 6 = .ok (.if_icmp .ne 45, 3) := by decide +kernel
theorem dX7_keepsAct_9 : decode cX7_keepsAct 9 = .ok (.sipush 6896, 3) := by decide +kernel
theorem dX7_keepsAct_12 : decode cX7_keepsAct 12 = .ok (.istore_n 1, 1) := by decide +kernel
theorem dX7_keepsAct_13 : decode cX7_keepsAct 13 = .ok (.iload_n 1, 1) := by decide +kernel
theorem dX7_keepsAct_14 : decode cX7_keepsAct 14 = .ok (.ldc 13, 2) := by decide +kernel
theorem dX7_keepsAct_16 : decode cX7_keepsAct 16 = .ok (.if_icmp .ge 25, 3) := by decide +kernel
theorem dX7_keepsAct_19 : decode cX7_keepsAct 19 = .ok (.aload_n 0, 1) := by decide +kernel
theorem dX7_keepsAct_20 : decode cX7_keepsAct 20 = .ok (.getfield 14, 3) := by decide +kernel
theorem dX7_keepsAct_23 : decode cX7_keepsAct 23 = .ok (.iload_n 1, 1) := by decide +kernel
theorem dX7_keepsAct_24 : decode cX7_keepsAct 24 = .ok (.sipush 6896, 3) := by decide +kernel
theorem dX7_keepsAct_27 : decode cX7_keepsAct 27 = .ok (.isub, 1) := by decide +kernel
theorem dX7_keepsAct_28 : decode cX7_keepsAct 28 = .ok (.aload_n 0, 1) := by decide +kernel
theorem dX7_keepsAct_29 : decode cX7_keepsAct 29 = .ok (.getfield 14, 3) := by decide +kernel
theorem dX7_keepsAct_32 : decode cX7_keepsAct 32 = .ok (.iload_n 1, 1) := by decide +kernel
theorem dX7_keepsAct_33 : decode cX7_keepsAct 33 = .ok (.laload, 1) := by decide +kernel
theorem dX7_keepsAct_34 : decode cX7_keepsAct 34 = .ok (.lastore, 1) := by decide +kernel
theorem dX7_keepsAct_35 : decode cX7_keepsAct 35 = .ok (.iinc 1 1, 3) := by decide +kernel
theorem dX7_keepsAct_38 : decode cX7_keepsAct 38 = .ok (.goto (-25), 3) := by decide +kernel
theorem dX7_keepsAct_41 : decode cX7_keepsAct 41 = .ok (.aload_n 0, 1) := by decide +kernel
theorem dX7_keepsAct_42 : decode cX7_keepsAct 42 = .ok (.dup, 1) := by decide +kernel
theorem dX7_keepsAct_43 : decode cX7_keepsAct 43 = .ok (.getfield 124, 3) := by decide +kernel
theorem dX7_keepsAct_46 : decode cX7_keepsAct 46 = .ok (.iconst 1, 1) := by decide +kernel
theorem dX7_keepsAct_47 : decode cX7_keepsAct 47 = .ok (.isub, 1) := by decide +kernel
theorem dX7_keepsAct_48 : decode cX7_keepsAct 48 = .ok (.putfield 124, 3) := by decide +kernel
theorem dX7_keepsAct_51 : decode cX7_keepsAct 51 = .ok (.iconst 0, 1) := by decide +kernel
theorem dX7_keepsAct_52 : decode cX7_keepsAct 52 = .ok (.istore_n 1, 1) := by decide +kernel
theorem dX7_keepsAct_53 : decode cX7_keepsAct 53 = .ok (.iload_n 1, 1) := by decide +kernel
theorem dX7_keepsAct_54 : decode cX7_keepsAct 54 = .ok (.sipush 6896, 3) := by decide +kernel
theorem dX7_keepsAct_57 : decode cX7_keepsAct 57 = .ok (.if_icmp .ge 30, 3) := by decide +kernel
theorem dX7_keepsAct_60 : decode cX7_keepsAct 60 = .ok (.aload_n 0, 1) := by decide +kernel
theorem dX7_keepsAct_61 : decode cX7_keepsAct 61 = .ok (.getfield 14, 3) := by decide +kernel
theorem dX7_keepsAct_64 : decode cX7_keepsAct 64 = .ok (.sipush 6896, 3) := by decide +kernel
theorem dX7_keepsAct_67 : decode cX7_keepsAct 67 = .ok (.aload_n 0, 1) := by decide +kernel
theorem dX7_keepsAct_68 : decode cX7_keepsAct 68 = .ok (.getfield 124, 3) := by decide +kernel
theorem dX7_keepsAct_71 : decode cX7_keepsAct 71 = .ok (.imul, 1) := by decide +kernel
theorem dX7_keepsAct_72 : decode cX7_keepsAct 72 = .ok (.iload_n 1, 1) := by decide +kernel
theorem dX7_keepsAct_73 : decode cX7_keepsAct 73 = .ok (.iadd, 1) := by decide +kernel
theorem dX7_keepsAct_74 : decode cX7_keepsAct 74 = .ok (.aload_n 0, 1) := by decide +kernel
theorem dX7_keepsAct_75 : decode cX7_keepsAct 75 = .ok (.getfield 7, 3) := by decide +kernel
theorem dX7_keepsAct_78 : decode cX7_keepsAct 78 = .ok (.iload_n 1, 1) := by decide +kernel
theorem dX7_keepsAct_79 : decode cX7_keepsAct 79 = .ok (.laload, 1) := by decide +kernel
theorem dX7_keepsAct_80 : decode cX7_keepsAct 80 = .ok (.lastore, 1) := by decide +kernel
theorem dX7_keepsAct_81 : decode cX7_keepsAct 81 = .ok (.iinc 1 1, 3) := by decide +kernel
theorem dX7_keepsAct_84 : decode cX7_keepsAct 84 = .ok (.goto (-31), 3) := by decide +kernel
theorem dX7_keepsAct_87 : decode cX7_keepsAct 87 = .ok (.aload_n 0, 1) := by decide +kernel
theorem dX7_keepsAct_88 : decode cX7_keepsAct 88 = .ok (.dup, 1) := by decide +kernel
theorem dX7_keepsAct_89 : decode cX7_keepsAct 89 = .ok (.getfield 124, 3) := by decide +kernel
theorem dX7_keepsAct_92 : decode cX7_keepsAct 92 = .ok (.iconst 1, 1) := by decide +kernel
theorem dX7_keepsAct_93 : decode cX7_keepsAct 93 = .ok (.iadd, 1) := by decide +kernel
theorem dX7_keepsAct_94 : decode cX7_keepsAct 94 = .ok (.putfield 124, 3) := by decide +kernel
theorem dX7_keepsAct_97 : decode cX7_keepsAct 97 = .ok (.return_, 1) := by decide +kernel
theorem dX7_areSigns_0 : decode cX7_areSigns 0 = .ok (.iconst 0, 1) := by decide +kernel
theorem dX7_areSigns_1 : decode cX7_areSigns 1 = .ok (.istore_n 3, 1) := by decide +kernel
theorem dX7_areSigns_2 : decode cX7_areSigns 2 = .ok (.iload_n 3, 1) := by decide +kernel
theorem dX7_areSigns_3 : decode cX7_areSigns 3 = .ok (.iload_n 2, 1) := by decide +kernel
theorem dX7_areSigns_4 : decode cX7_areSigns 4 = .ok (.if_icmp .ge 25, 3) := by decide +kernel
theorem dX7_areSigns_7 : decode cX7_areSigns 7 = .ok (.aload_n 0, 1) := by decide +kernel
theorem dX7_areSigns_8 : decode cX7_areSigns 8 = .ok (.getfield 31, 3) := by decide +kernel
theorem dX7_areSigns_11 : decode cX7_areSigns 11 = .ok (.iload_n 1, 1) := by decide +kernel
theorem dX7_areSigns_12 : decode cX7_areSigns 12 = .ok (.iload_n 3, 1) := by decide +kernel
theorem dX7_areSigns_13 : decode cX7_areSigns 13 = .ok (.iadd, 1) := by decide +kernel
theorem dX7_areSigns_14 : decode cX7_areSigns 14 = .ok (.baload, 1) := by decide +kernel
theorem dX7_areSigns_15 : decode cX7_areSigns 15 = .ok (.invokestatic 127, 3) := by decide +kernel
theorem dX7_areSigns_18 : decode cX7_areSigns 18 = .ok (.ifCond .ne 5, 3) := by decide +kernel
theorem dX7_areSigns_21 : decode cX7_areSigns 21 = .ok (.iconst 0, 1) := by decide +kernel
theorem dX7_areSigns_22 : decode cX7_areSigns 22 = .ok (.ireturn, 1) := by decide +kernel
theorem dX7_areSigns_23 : decode cX7_areSigns 23 = .ok (.iinc 3 1, 3) := by decide +kernel
theorem dX7_areSigns_26 : decode cX7_areSigns 26 = .ok (.goto (-24), 3) := by decide +kernel
theorem dX7_areSigns_29 : decode cX7_areSigns 29 = .ok (.iconst 1, 1) := by decide +kernel
theorem dX7_areSigns_30 : decode cX7_areSigns 30 = .ok (.ireturn, 1) := by decide +kernel
theorem dX7_isRowText_0 : decode cX7_isRowText 0 = .ok (.iload_n 1, 1) := by decide +kernel
theorem dX7_isRowText_1 : decode cX7_isRowText 1 = .ok (.aload_n 0, 1) := by decide +kernel
theorem dX7_isRowText_2 : decode cX7_isRowText 2 = .ok (.invokevirtual 47, 3) := by decide +kernel
theorem dX7_isRowText_5 : decode cX7_isRowText 5 = .ok (.if_icmp .gt 16, 3) := by decide +kernel
theorem dX7_isRowText_8 : decode cX7_isRowText 8 = .ok (.aload_n 0, 1) := by decide +kernel
theorem dX7_isRowText_9 : decode cX7_isRowText 9 = .ok (.iconst 0, 1) := by decide +kernel
theorem dX7_isRowText_10 : decode cX7_isRowText 10 = .ok (.iload_n 1, 1) := by decide +kernel
theorem dX7_isRowText_11 : decode cX7_isRowText 11 = .ok (.invokevirtual 131, 3) := by decide +kernel
theorem dX7_isRowText_14 : decode cX7_isRowText 14 = .ok (.ifCond .eq 7, 3) := by decide +kernel
theorem dX7_isRowText_17 : decode cX7_isRowText 17 = .ok (.iconst 1, 1) := by decide +kernel
theorem dX7_isRowText_18 : decode cX7_isRowText 18 = .ok (.goto 4, 3) := by decide +kernel
theorem dX7_isRowText_21 : decode cX7_isRowText 21 = .ok (.iconst 0, 1) := by decide +kernel
theorem dX7_isRowText_22 : decode cX7_isRowText 22 = .ok (.ireturn, 1) := by decide +kernel
theorem dX7_row_0 : decode cX7_row 0 = .ok (.aload_n 0, 1) := by decide +kernel
theorem dX7_row_1 : decode cX7_row 1 = .ok (.getfield 135, 3) := by decide +kernel
theorem dX7_row_4 : decode cX7_row 4 = .ok (.istore_n 2, 1) := by decide +kernel
theorem dX7_row_5 : decode cX7_row 5 = .ok (.aload_n 0, 1) := by decide +kernel
theorem dX7_row_6 : decode cX7_row 6 = .ok (.iconst 0, 1) := by decide +kernel
theorem dX7_row_7 : decode cX7_row 7 = .ok (.putfield 135, 3) := by decide +kernel
theorem dX7_row_10 : decode cX7_row 10 = .ok (.aload_n 0, 1) := by decide +kernel
theorem dX7_row_11 : decode cX7_row 11 = .ok (.iload_n 1, 1) := by decide +kernel
theorem dX7_row_12 : decode cX7_row 12 = .ok (.invokevirtual 138, 3) := by decide +kernel
theorem dX7_row_15 : decode cX7_row 15 = .ok (.ifCond .ne 5, 3) := by decide +kernel
theorem dX7_row_18 : decode cX7_row 18 = .ok (.iconst (-1), 1) := by decide +kernel
theorem dX7_row_19 : decode cX7_row 19 = .ok (.ireturn, 1) := by decide +kernel
theorem dX7_row_20 : decode cX7_row 20 = .ok (.aload_n 0, 1) := by decide +kernel
theorem dX7_row_21 : decode cX7_row 21 = .ok (.iload_n 2, 1) := by decide +kernel
theorem dX7_row_22 : decode cX7_row 22 = .ok (.invokevirtual 141, 3) := by decide +kernel
theorem dX7_row_25 : decode cX7_row 25 = .ok (.ifCond .ne 6, 3) := by decide +kernel
theorem dX7_row_28 : decode cX7_row 28 = .ok (.bipush (-2), 2) := by decide +kernel
theorem dX7_row_30 : decode cX7_row 30 = .ok (.ireturn, 1) := by decide +kernel
theorem dX7_row_31 : decode cX7_row 31 = .ok (.aload_n 0, 1) := by decide +kernel

theorem dX7_row_32 : decode cX7_row 32 = .ok (.invokevirtual 144, 3) := by decide +kernel
theorem dX7_row_35 : decode cX7_row 35 = .ok (.aload_n 0, 1) := by decide +kernel
theorem dX7_row_36 : decode cX7_row 36 = .ok (.iload_n 1, 1) := by decide +kernel
theorem dX7_row_37 : decode cX7_row 37 = .ok (.iconst 0, 1) := by decide +kernel
theorem dX7_row_38 : decode cX7_row 38 = .ok (.iload_n 2, 1) := by decide +kernel
theorem dX7_row_39 : decode cX7_row 39 = .ok (.iconst 1, 1) := by decide +kernel
theorem dX7_row_40 : decode cX7_row 40 = .ok (.invokevirtual 120, 3) := by decide +kernel
theorem dX7_row_43 : decode cX7_row 43 = .ok (.ireturn, 1) := by decide +kernel
theorem dX7_scroll_0 : decode cX7_scroll 0 = .ok (.aload_n 0, 1) := by decide +kernel
theorem dX7_scroll_1 : decode cX7_scroll 1 = .ok (.getfield 135, 3) := by decide +kernel
theorem dX7_scroll_4 : decode cX7_scroll 4 = .ok (.istore_n 1, 1) := by decide +kernel
theorem dX7_scroll_5 : decode cX7_scroll 5 = .ok (.aload_n 0, 1) := by decide +kernel
theorem dX7_scroll_6 : decode cX7_scroll 6 = .ok (.iconst 0, 1) := by decide +kernel
theorem dX7_scroll_7 : decode cX7_scroll 7 = .ok (.putfield 135, 3) := by decide +kernel
theorem dX7_scroll_10 : decode cX7_scroll 10 = .ok (.aload_n 0, 1) := by decide +kernel
theorem dX7_scroll_11 : decode cX7_scroll 11 = .ok (.invokevirtual 147, 3) := by decide +kernel
theorem dX7_scroll_14 : decode cX7_scroll 14 = .ok (.ifCond .ne 5, 3) := by decide +kernel
theorem dX7_scroll_17 : decode cX7_scroll 17 = .ok (.iconst (-1), 1) := by decide +kernel
theorem dX7_scroll_18 : decode cX7_scroll 18 = .ok (.ireturn, 1) := by decide +kernel
theorem dX7_scroll_19 : decode cX7_scroll 19 = .ok (.aload_n 0, 1) := by decide +kernel
theorem dX7_scroll_20 : decode cX7_scroll 20 = .ok (.iload_n 1, 1) := by decide +kernel
theorem dX7_scroll_21 : decode cX7_scroll 21 = .ok (.invokevirtual 141, 3) := by decide +kernel
theorem dX7_scroll_24 : decode cX7_scroll 24 = .ok (.ifCond .ne 6, 3) := by decide +kernel
theorem dX7_scroll_27 : decode cX7_scroll 27 = .ok (.bipush (-2), 2) := by decide +kernel
theorem dX7_scroll_29 : decode cX7_scroll 29 = .ok (.ireturn, 1) := by decide +kernel
theorem dX7_scroll_30 : decode cX7_scroll 30 = .ok (.aload_n 0, 1) := by decide +kernel
theorem dX7_scroll_31 : decode cX7_scroll 31 = .ok (.invokevirtual 144, 3) := by decide +kernel
theorem dX7_scroll_34 : decode cX7_scroll 34 = .ok (.aload_n 0, 1) := by decide +kernel
theorem dX7_scroll_35 : decode cX7_scroll 35 = .ok (.iconst 0, 1) := by decide +kernel
theorem dX7_scroll_36 : decode cX7_scroll 36 = .ok (.iload_n 1, 1) := by decide +kernel
theorem dX7_scroll_37 : decode cX7_scroll 37 = .ok (.invokevirtual 151, 3) := by decide +kernel
theorem dX7_scroll_40 : decode cX7_scroll 40 = .ok (.ireturn, 1) := by decide +kernel
theorem dX7_tick_0 : decode cX7_tick 0 = .ok (.aload_n 0, 1) := by decide +kernel
theorem dX7_tick_1 : decode cX7_tick 1 = .ok (.invokevirtual 147, 3) := by decide +kernel
theorem dX7_tick_4 : decode cX7_tick 4 = .ok (.ifCond .eq 15, 3) := by decide +kernel
theorem dX7_tick_7 : decode cX7_tick 7 = .ok (.iload_n 1, 1) := by decide +kernel
theorem dX7_tick_8 : decode cX7_tick 8 = .ok (.i2l, 1) := by decide +kernel
theorem dX7_tick_9 : decode cX7_tick 9 = .ok (.lconst 1, 1) := by decide +kernel
theorem dX7_tick_10 : decode cX7_tick 10 = .ok (.ldc2_w 154, 3) := by decide +kernel
theorem dX7_tick_13 : decode cX7_tick 13 = .ok (.invokestatic 39, 3) := by decide +kernel
theorem dX7_tick_16 : decode cX7_tick 16 = .ok (.ifCond .ne 5, 3) := by decide +kernel
theorem dX7_tick_19 : decode cX7_tick 19 = .ok (.iconst (-1), 1) := by decide +kernel
theorem dX7_tick_20 : decode cX7_tick 20 = .ok (.ireturn, 1) := by decide +kernel
theorem dX7_tick_21 : decode cX7_tick 21 = .ok (.aload_n 0, 1) := by decide +kernel
theorem dX7_tick_22 : decode cX7_tick 22 = .ok (.invokevirtual 144, 3) := by decide +kernel
theorem dX7_tick_25 : decode cX7_tick 25 = .ok (.iconst 0, 1) := by decide +kernel
theorem dX7_tick_26 : decode cX7_tick 26 = .ok (.istore_n 2, 1) := by decide +kernel
theorem dX7_tick_27 : decode cX7_tick 27 = .ok (.iconst 0, 1) := by decide +kernel
theorem dX7_tick_28 : decode cX7_tick 28 = .ok (.istore_n 3, 1) := by decide +kernel
theorem dX7_tick_29 : decode cX7_tick 29 = .ok (.iload_n 3, 1) := by decide +kernel
theorem dX7_tick_30 : decode cX7_tick 30 = .ok (.iload_n 1, 1) := by decide +kernel
theorem dX7_tick_31 : decode cX7_tick 31 = .ok (.if_icmp .ge 16, 3) := by decide +kernel
theorem dX7_tick_34 : decode cX7_tick 34 = .ok (.iload_n 2, 1) := by decide +kernel
theorem dX7_tick_35 : decode cX7_tick 35 = .ok (.aload_n 0, 1) := by decide +kernel
theorem dX7_tick_36 : decode cX7_tick 36 = .ok (.invokevirtual 156, 3) := by decide +kernel
theorem dX7_tick_39 : decode cX7_tick 39 = .ok (.iadd, 1) := by decide +kernel
theorem dX7_tick_40 : decode cX7_tick 40 = .ok (.istore_n 2, 1) := by decide +kernel
theorem dX7_tick_41 : decode cX7_tick 41 = .ok (.iinc 3 1, 3) := by decide +kernel
theorem dX7_tick_44 : decode cX7_tick 44 = .ok (.goto (-15), 3) := by decide +kernel
theorem dX7_tick_47 : decode cX7_tick 47 = .ok (.iload_n 2, 1) := by decide +kernel
theorem dX7_tick_48 : decode cX7_tick 48 = .ok (.ireturn, 1) := by decide +kernel
theorem dX7_settles_0 : decode cX7_settles 0 = .ok (.iconst 0, 1) := by decide +kernel
theorem dX7_settles_1 : decode cX7_settles 1 = .ok (.istore_n 1, 1) := by decide +kernel
theorem dX7_settles_2 : decode cX7_settles 2 = .ok (.aload_n 0, 1) := by decide +kernel
theorem dX7_settles_3 : decode cX7_settles 3 = .ok (.invokevirtual 156, 3) := by decide +kernel
theorem dX7_settles_6 : decode cX7_settles 6 = .ok (.ifCond .le 9, 3) := by decide +kernel
theorem dX7_settles_9 : decode cX7_settles 9 = .ok (.iinc 1 1, 3) := by decide +kernel
theorem dX7_settles_12 : decode cX7_settles 12 = .ok (.goto (-10), 3) := by decide +kernel
theorem dX7_settles_15 : decode cX7_settles 15 = .ok (.iload_n 1, 1) := by decide +kernel
theorem dX7_settles_16 : decode cX7_settles 16 = .ok (.ireturn, 1) := by decide +kernel
theorem dX7_settle_0 : decode cX7_settle 0 = .ok (.aload_n 0, 1) := by decide +kernel
theorem dX7_settle_1 : decode cX7_settle 1 = .ok (.invokevirtual 147, 3) := by decide +kernel
theorem dX7_settle_4 : decode cX7_settle 4 = .ok (.ifCond .ne 5, 3) := by decide +kernel
theorem dX7_settle_7 : decode cX7_settle 7 = .ok (.iconst (-1), 1) := by decide +kernel
theorem dX7_settle_8 : decode cX7_settle 8 = .ok (.ireturn, 1) := by decide +kernel
theorem dX7_settle_9 : decode cX7_settle 9 = .ok (.aload_n 0, 1) := by decide +kernel
theorem dX7_settle_10 : decode cX7_settle 10 = .ok (.invokevirtual 99, 3) := by decide +kernel
theorem dX7_settle_13 : decode cX7_settle 13 = .ok (.aload_n 0, 1) := by decide +kernel
theorem dX7_settle_14 : decode cX7_settle 14 = .ok (.getfield 86, 3) := by decide +kernel
theorem dX7_settle_17 : decode cX7_settle 17 = .ok (.ifCond .ne 6, 3) := by decide +kernel
theorem dX7_settle_20 : decode cX7_settle 20 = .ok (.bipush (-2), 2) := by decide +kernel
theorem dX7_settle_22 : decode cX7_settle 22 = .ok (.ireturn, 1) := by decide +kernel
theorem dX7_settle_23 : decode cX7_settle 23 = .ok (.aload_n 0, 1) := by decide +kernel
theorem dX7_settle_24 : decode cX7_settle 24 = .ok (.invokevirtual 144, 3) := by decide +kernel
theorem dX7_settle_27 : decode cX7_settle 27 = .ok (.aload_n 0, 1) := by decide +kernel
theorem dX7_settle_28 : decode cX7_settle 28 = .ok (.invokevirtual 159, 3) := by decide +kernel
theorem dX7_settle_31 : decode cX7_settle 31 = .ok (.ireturn, 1) := by decide +kernel
theorem dX7_lose_0 : decode cX7_lose 0 = .ok (.aload_n 0, 1) := by decide +kernel
theorem dX7_lose_1 : decode cX7_lose 1 = .ok (.iload_n 1, 1) := by decide +kernel
theorem dX7_lose_2 : decode cX7_lose 2 = .ok (.invokevirtual 162, 3) := by decide +kernel
theorem dX7_lose_5 : decode cX7_lose 5 = .ok (.ifCond .eq 15, 3) := by decide +kernel
theorem dX7_lose_8 : decode cX7_lose 8 = .ok (.iload_n 2, 1) := by decide +kernel
theorem dX7_lose_9 : decode cX7_lose 9 = .ok (.i2l, 1) := by decide +kernel
theorem dX7_lose_10 : decode cX7_lose 10 = .ok (.lconst 0, 1) := by decide +kernel
theorem dX7_lose_11 : decode cX7_lose 11 = .ok (.ldc2_w 165, 3) := by decide +kernel
theorem dX7_lose_14 : decode cX7_lose 14 = .ok (.invokestatic 39, 3) := by decide +kernel
theorem dX7_lose_17 : decode cX7_lose 17 = .ok (.ifCond .ne 5, 3) := by decide +kernel
theorem dX7_lose_20 : decode cX7_lose 20 = .ok (.iconst (-1), 1) := by decide +kernel
theorem dX7_lose_21 : decode cX7_lose 21 = .ok (.ireturn, 1) := by decide +kernel
theorem dX7_lose_22 : decode cX7_lose 22 = .ok (.aload_n 0, 1) := by decide +kernel
theorem dX7_lose_23 : decode cX7_lose 23 = .ok (.iload_n 1, 1) := by decide +kernel
theorem dX7_lose_24 : decode cX7_lose 24 = .ok (.iconst 4, 1) := by decide +kernel
theorem dX7_lose_25 : decode cX7_lose 25 = .ok (.invokevirtual 56, 3) := by decide +kernel
theorem dX7_lose_28 : decode cX7_lose 28 = .ok (.istore_n 3, 1) := by decide +kernel
theorem dX7_lose_29 : decode cX7_lose 29 = .ok (.iload_n 3, 1) := by decide +kernel
theorem dX7_lose_30 : decode cX7_lose 30 = .ok (.iload_n 2, 1) := by decide +kernel
theorem dX7_lose_31 : decode cX7_lose 31 = .ok (.if_icmp .ne 6, 3) := by decide +kernel
theorem dX7_lose_34 : decode cX7_lose 34 = .ok (.bipush (-2), 2) := by decide +kernel
theorem dX7_lose_36 : decode cX7_lose 36 = .ok (.ireturn, 1) := by decide +kernel
theorem dX7_lose_37 : decode cX7_lose 37 = .ok (.aload_n 0, 1) := by decide +kernel
theorem dX7_lose_38 : decode cX7_lose 38 = .ok (.invokevirtual 144, 3) := by decide +kernel
theorem dX7_lose_41 : decode cX7_lose 41 = .ok (.aload_n 0, 1) := by decide +kernel
theorem dX7_lose_42 : decode cX7_lose 42 = .ok (.iload_n 1, 1) := by decide +kernel
theorem dX7_lose_43 : decode cX7_lose 43 = .ok (.iconst 4, 1) := by decide +kernel
theorem dX7_lose_44 : decode cX7_lose 44 = .ok (.iload_n 2, 1) := by decide +kernel
theorem dX7_lose_45 : decode cX7_lose 45 = .ok (.i2l, 1) := by decide +kernel
theorem dX7_lose_46 : decode cX7_lose 46 = .ok (.invokevirtual 78, 3) := by decide +kernel
theorem dX7_lose_49 : decode cX7_lose 49 = .ok (.iload_n 3, 1) := by decide +kernel
theorem dX7_lose_50 : decode cX7_lose 50 = .ok (.ireturn, 1) := by decide +kernel
theorem dX7_isFlap_0 : decode cX7_isFlap 0 = .ok (.aload_n 0, 1) := by decide +kernel
theorem dX7_isFlap_1 : decode cX7_isFlap 1 = .ok (.iload_n 1, 1) := by decide +kernel
theorem dX7_isFlap_2 : decode cX7_isFlap 2 = .ok (.invokevirtual 162, 3) := by decide +kernel
theorem dX7_isFlap_5 : decode cX7_isFlap 5 = .ok (.ifCond .eq 24, 3) := by decide +kernel
theorem dX7_isFlap_8 : decode cX7_isFlap 8 = .ok (.iload_n 2, 1) := by decide +kernel
theorem dX7_isFlap_9 : decode cX7_isFlap 9 = .ok (.i2l, 1) := by decide +kernel
theorem dX7_isFlap_10 : decode cX7_isFlap 10 = .ok (.lconst 1, 1) := by decide +kernel
theorem dX7_isFlap_11 : decode cX7_isFlap 11 = .ok (.aload_n 0, 1) := by decide +kernel
theorem dX7_isFlap_12 : decode cX7_isFlap 12 = .ok (.iload_n 1, 1) := by decide +kernel
theorem dX7_isFlap_13 : decode cX7_isFlap 13 = .ok (.invokevirtual 67, 3) := by decide +kernel
theorem dX7_isFlap_16 : decode cX7_isFlap 16 = .ok (.iconst 1, 1) := by decide +kernel
theorem dX7_isFlap_17 : decode cX7_isFlap 17 = .ok (.isub, 1) := by decide +kernel
theorem dX7_isFlap_18 : decode cX7_isFlap 18 = .ok (.i2l, 1) := by decide +kernel
theorem dX7_isFlap_19 : decode cX7_isFlap 19 = .ok (.invokestatic 39, 3) := by decide +kernel
theorem dX7_isFlap_22 : decode cX7_isFlap 22 = .ok (.ifCond .eq 7, 3) := by decide +kernel
theorem dX7_isFlap_25 : decode cX7_isFlap 25 = .ok (.iconst 1, 1) := by decide +kernel
theorem dX7_isFlap_26 : decode cX7_isFlap 26 = .ok (.goto 4, 3) := by decide +kernel
theorem dX7_isFlap_29 : decode cX7_isFlap 29 = .ok (.iconst 0, 1) := by decide +kernel
theorem dX7_isFlap_30 : decode cX7_isFlap 30 = .ok (.ireturn, 1) := by decide +kernel
theorem dX7_wears_0 : decode cX7_wears 0 = .ok (.aload_n 0, 1) := by decide +kernel
theorem dX7_wears_1 : decode cX7_wears 1 = .ok (.iload_n 1, 1) := by decide +kernel
theorem dX7_wears_2 : decode cX7_wears 2 = .ok (.bipush 7, 2) := by decide +kernel
theorem dX7_wears_4 : decode cX7_wears 4 = .ok (.aload_n 0, 1) := by decide +kernel
theorem dX7_wears_5 : decode cX7_wears 5 = .ok (.iload_n 1, 1) := by decide +kernel
theorem dX7_wears_6 : decode cX7_wears 6 = .ok (.invokevirtual 109, 3) := by decide +kernel
theorem dX7_wears_9 : decode cX7_wears 9 = .ok (.lconst 1, 1) := by decide +kernel
theorem dX7_wears_10 : decode cX7_wears 10 = .ok (.iload_n 2, 1) := by decide +kernel
theorem dX7_wears_11 : decode cX7_wears 11 = .ok (.lshl, 1) := by decide +kernel
theorem dX7_wears_12 : decode cX7_wears 12 = .ok (.lor, 1) := by decide +kernel
theorem dX7_wears_13 : decode cX7_wears 13 = .ok (.invokevirtual 78, 3) := by decide +kernel
theorem dX7_wears_16 : decode cX7_wears 16 = .ok (.aload_n 0, 1) := by decide +kernel
theorem dX7_wears_17 : decode cX7_wears 17 = .ok (.iload_n 1, 1) := by decide +kernel
theorem dX7_wears_18 : decode cX7_wears 18 = .ok (.iconst 3, 1) := by decide +kernel
theorem dX7_wears_19 : decode cX7_wears 19 = .ok (.invokevirtual 56, 3) := by decide +kernel
theorem dX7_wears_22 : decode cX7_wears 22 = .ok (.iload_n 2, 1) := by decide +kernel
theorem dX7_wears_23 : decode cX7_wears 23 = .ok (.if_icmp .ne 10, 3) := by decide +kernel
theorem dX7_wears_26 : decode cX7_wears 26 = .ok (.aload_n 0, 1) := by decide +kernel
theorem dX7_wears_27 : decode cX7_wears 27 = .ok (.iload_n 1, 1) := by decide +kernel
theorem dX7_wears_28 : decode cX7_wears 28 = .ok (.iconst 3, 1) := by decide +kernel
theorem dX7_wears_29 : decode cX7_wears 29 = .ok (.lconst 0, 1) := by decide +kernel
theorem dX7_wears_30 : decode cX7_wears 30 = .ok (.invokevirtual 78, 3) := by decide +kernel
theorem dX7_wears_33 : decode cX7_wears 33 = .ok (.return_, 1) := by decide +kernel
theorem dX7_wear_0 : decode cX7_wear 0 = .ok (.aload_n 0, 1) := by decide +kernel
theorem dX7_wear_1 : decode cX7_wear 1 = .ok (.iload_n 1, 1) := by decide +kernel
theorem dX7_wear_2 : decode cX7_wear 2 = .ok (.iload_n 2, 1) := by decide +kernel
theorem dX7_wear_3 : decode cX7_wear 3 = .ok (.invokevirtual 167, 3) := by decide +kernel
theorem dX7_wear_6 : decode cX7_wear 6 = .ok (.ifCond .ne 5, 3) := by decide +kernel
theorem dX7_wear_9 : decode cX7_wear 9 = .ok (.iconst (-1), 1) := by decide +kernel
theorem dX7_wear_10 : decode cX7_wear 10 = .ok (.ireturn, 1) := by decide +kernel
theorem dX7_wear_11 : decode cX7_wear 11 = .ok (.aload_n 0, 1) := by decide +kernel
theorem dX7_wear_12 : decode cX7_wear 12 = .ok (.iload_n 1, 1) := by decide +kernel
theorem dX7_wear_13 : decode cX7_wear 13 = .ok (.invokevirtual 109, 3) := by decide +kernel
theorem dX7_wear_16 : decode cX7_wear 16 = .ok (.iload_n 2, 1) := by decide +kernel
theorem dX7_wear_17 : decode cX7_wear 17 = .ok (.invokestatic 74, 3) := by decide +kernel
theorem dX7_wear_20 : decode cX7_wear 20 = .ok (.ifCond .eq 6, 3) := by decide +kernel
theorem dX7_wear_23 : decode cX7_wear 23 = .ok (.bipush (-2), 2) := by decide +kernel
theorem dX7_wear_25 : decode cX7_wear 25 = .ok (.ireturn, 1) := by decide +kernel
theorem dX7_wear_26 : decode cX7_wear 26 = .ok (.aload_n 0, 1) := by decide +kernel
theorem dX7_wear_27 : decode cX7_wear 27 = .ok (.invokevirtual 144, 3) := by decide +kernel
theorem dX7_wear_30 : decode cX7_wear 30 = .ok (.aload_n 0, 1) := by decide +kernel
theorem dX7_wear_31 : decode cX7_wear 31 = .ok (.iload_n 1, 1) := by decide +kernel
theorem dX7_wear_32 : decode cX7_wear 32 = .ok (.iload_n 2, 1) := by decide +kernel
theorem dX7_wear_33 : decode cX7_wear 33 = .ok (.invokevirtual 170, 3) := by decide +kernel
theorem dX7_wear_36 : decode cX7_wear 36 = .ok (.aload_n 0, 1) := by decide +kernel
theorem dX7_wear_37 : decode cX7_wear 37 = .ok (.iload_n 1, 1) := by decide +kernel
theorem dX7_wear_38 : decode cX7_wear 38 = .ok (.invokevirtual 109, 3) := by decide +kernel
theorem dX7_wear_41 : decode cX7_wear 41 = .ok (.invokestatic 174, 3) := by decide +kernel
theorem dX7_wear_44 : decode cX7_wear 44 = .ok (.ireturn, 1) := by decide +kernel
theorem dX7_mend_0 : decode cX7_mend 0 = .ok (.aload_n 0, 1) := by decide +kernel
theorem dX7_mend_1 : decode cX7_mend 1 = .ok (.iload_n 1, 1) := by decide +kernel
theorem dX7_mend_2 : decode cX7_mend 2 = .ok (.iload_n 2, 1) := by decide +kernel
theorem dX7_mend_3 : decode cX7_mend 3 = .ok (.invokevirtual 167, 3) := by decide +kernel
theorem dX7_mend_6 : decode cX7_mend 6 = .ok (.ifCond .ne 5, 3) := by decide +kernel
theorem dX7_mend_9 : decode cX7_mend 9 = .ok (.iconst (-1), 1) := by decide +kernel
theorem dX7_mend_10 : decode cX7_mend 10 = .ok (.ireturn, 1) := by decide +kernel
theorem dX7_mend_11 : decode cX7_mend 11 = .ok (.aload_n 0, 1) := by decide +kernel
theorem dX7_mend_12 : decode cX7_mend 12 = .ok (.iload_n 1, 1) := by decide +kernel
theorem dX7_mend_13 : decode cX7_mend 13 = .ok (.invokevirtual 109, 3) := by decide +kernel
theorem dX7_mend_16 : decode cX7_mend 16 = .ok (.iload_n 2, 1) := by decide +kernel
theorem dX7_mend_17 : decode cX7_mend 17 = .ok (.invokestatic 74, 3) := by decide +kernel
theorem dX7_mend_20 : decode cX7_mend 20 = .ok (.ifCond .ne 6, 3) := by decide +kernel
theorem dX7_mend_23 : decode cX7_mend 23 = .ok (.bipush (-2), 2) := by decide +kernel
theorem dX7_mend_25 : decode cX7_mend 25 = .ok (.ireturn, 1) := by decide +kernel
theorem dX7_mend_26 : decode cX7_mend 26 = .ok (.aload_n 0, 1) := by decide +kernel
theorem dX7_mend_27 : decode cX7_mend 27 = .ok (.invokevirtual 144, 3) := by decide +kernel
theorem dX7_mend_30 : decode cX7_mend 30 = .ok (.aload_n 0, 1) := by decide +kernel
theorem dX7_mend_31 : decode cX7_mend 31 = .ok (.iload_n 1, 1) := by decide +kernel
theorem dX7_mend_32 : decode cX7_mend 32 = .ok (.bipush 7, 2) := by decide +kernel
theorem dX7_mend_34 : decode cX7_mend 34 = .ok (.aload_n 0, 1) := by decide +kernel
theorem dX7_mend_35 : decode cX7_mend 35 = .ok (.iload_n 1, 1) := by decide +kernel
theorem dX7_mend_36 : decode cX7_mend 36 = .ok (.invokevirtual 109, 3) := by decide +kernel
theorem dX7_mend_39 : decode cX7_mend 39 = .ok (.lconst 1, 1) := by decide +kernel
theorem dX7_mend_40 : decode cX7_mend 40 = .ok (.iload_n 2, 1) := by decide +kernel
theorem dX7_mend_41 : decode cX7_mend 41 = .ok (.lshl, 1) := by decide +kernel
theorem dX7_mend_42 : decode cX7_mend 42 = .ok (.ldc2_w 178, 3) := by decide +kernel
theorem dX7_mend_45 : decode cX7_mend 45 = .ok (.lxor, 1) := by decide +kernel
theorem dX7_mend_46 : decode cX7_mend 46 = .ok (.land, 1) := by decide +kernel
theorem dX7_mend_47 : decode cX7_mend 47 = .ok (.invokevirtual 78, 3) := by decide +kernel
theorem dX7_mend_50 : decode cX7_mend 50 = .ok (.aload_n 0, 1) := by decide +kernel
theorem dX7_mend_51 : decode cX7_mend 51 = .ok (.iload_n 1, 1) := by decide +kernel
theorem dX7_mend_52 : decode cX7_mend 52 = .ok (.invokevirtual 109, 3) := by decide +kernel
theorem dX7_mend_55 : decode cX7_mend 55 = .ok (.invokestatic 174, 3) := by decide +kernel
theorem dX7_mend_58 : decode cX7_mend 58 = .ok (.ireturn, 1) := by decide +kernel
theorem dX7_limit_0 : decode cX7_limit 0 = .ok (.aload_n 0, 1) := by decide +kernel
theorem dX7_limit_1 : decode cX7_limit 1 = .ok (.invokevirtual 147, 3) := by decide +kernel
theorem dX7_limit_4 : decode cX7_limit 4 = .ok (.ifCond .eq 15, 3) := by decide +kernel
theorem dX7_limit_7 : decode cX7_limit 7 = .ok (.iload_n 1, 1) := by decide +kernel
theorem dX7_limit_8 : decode cX7_limit 8 = .ok (.i2l, 1) := by decide +kernel
theorem dX7_limit_9 : decode cX7_limit 9 = .ok (.lconst 1, 1) := by decide +kernel
theorem dX7_limit_10 : decode cX7_limit 10 = .ok (.ldc2_w 154, 3) := by decide +kernel
theorem dX7_limit_13 : decode cX7_limit 13 = .ok (.invokestatic 39, 3) := by decide +kernel
theorem dX7_limit_16 : decode cX7_limit 16 = .ok (.ifCond .ne 5, 3) := by decide +kernel
theorem dX7_limit_19 : decode cX7_limit 19 = .ok (.iconst (-1), 1) := by decide +kernel
theorem dX7_limit_20 : decode cX7_limit 20 = .ok (.ireturn, 1) := by decide +kernel
theorem dX7_limit_21 : decode cX7_limit 21 = .ok (.aload_n 0, 1) := by decide +kernel
theorem dX7_limit_22 : decode cX7_limit 22 = .ok (.getfield 7, 3) := by decide +kernel
theorem dX7_limit_25 : decode cX7_limit 25 = .ok (.iconst 2, 1) := by decide +kernel
theorem dX7_limit_26 : decode cX7_limit 26 = .ok (.laload, 1) := by decide +kernel
theorem dX7_limit_27 : decode cX7_limit 27 = .ok (.l2i, 1) := by decide +kernel
theorem dX7_limit_28 : decode cX7_limit 28 = .ok (.istore_n 2, 1) := by decide +kernel
theorem dX7_limit_29 : decode cX7_limit 29 = .ok (.iload_n 2, 1) := by decide +kernel
theorem dX7_limit_30 : decode cX7_limit 30 = .ok (.iload_n 1, 1) := by decide +kernel
theorem dX7_limit_31 : decode cX7_limit 31 = .ok (.if_icmp .ne 6, 3) := by decide +kernel
theorem dX7_limit_34 : decode cX7_limit 34 = .ok (.bipush (-2), 2) := by decide +kernel
theorem dX7_limit_36 : decode cX7_limit 36 = .ok (.ireturn, 1) := by decide +kernel
theorem dX7_limit_37 : decode cX7_limit 37 = .ok (.aload_n 0, 1) := by decide +kernel
theorem dX7_limit_38 : decode cX7_limit 38 = .ok (.invokevirtual 144, 3) := by decide +kernel
theorem dX7_limit_41 : decode cX7_limit 41 = .ok (.aload_n 0, 1) := by decide +kernel
theorem dX7_limit_42 : decode cX7_limit 42 = .ok (.getfield 7, 3) := by decide +kernel
theorem dX7_limit_45 : decode cX7_limit 45 = .ok (.iconst 2, 1) := by decide +kernel
theorem dX7_limit_46 : decode cX7_limit 46 = .ok (.iload_n 1, 1) := by decide +kernel
theorem dX7_limit_47 : decode cX7_limit 47 = .ok (.i2l, 1) := by decide +kernel
theorem dX7_limit_48 : decode cX7_limit 48 = .ok (.lastore, 1) := by decide +kernel
theorem dX7_limit_49 : decode cX7_limit 49 = .ok (.iload_n 2, 1) := by decide +kernel
theorem dX7_limit_50 : decode cX7_limit 50 = .ok (.ireturn, 1) := by decide +kernel
theorem dX7_exchange_0 : decode cX7_exchange 0 = .ok (.aload_n 0, 1) := by decide +kernel
theorem dX7_exchange_1 : decode cX7_exchange 1 = .ok (.iload_n 1, 1) := by decide +kernel
theorem dX7_exchange_2 : decode cX7_exchange 2 = .ok (.invokevirtual 180, 3) := by decide +kernel
theorem dX7_exchange_5 : decode cX7_exchange 5 = .ok (.ifCond .eq 42, 3) := by decide +kernel
theorem dX7_exchange_8 : decode cX7_exchange 8 = .ok (.iload_n 2, 1) := by decide +kernel
theorem dX7_exchange_9 : decode cX7_exchange 9 = .ok (.i2l, 1) := by decide +kernel
theorem dX7_exchange_10 : decode cX7_exchange 10 = .ok (.lconst 1, 1) := by decide +kernel
theorem dX7_exchange_11 : decode cX7_exchange 11 = .ok (.aload_n 0, 1) := by decide +kernel
theorem dX7_exchange_12 : decode cX7_exchange 12 = .ok (.iload_n 1, 1) := by decide +kernel
theorem dX7_exchange_13 : decode cX7_exchange 13 = .ok (.invokevirtual 60, 3) := by decide +kernel
theorem dX7_exchange_16 : decode cX7_exchange 16 = .ok (.iconst 1, 1) := by decide +kernel
theorem dX7_exchange_17 : decode cX7_exchange 17 = .ok (.isub, 1) := by decide +kernel
theorem dX7_exchange_18 : decode cX7_exchange 18 = .ok (.i2l, 1) := by decide +kernel
theorem dX7_exchange_19 : decode cX7_exchange 19 = .ok (.invokestatic 39, 3) := by decide +kernel
theorem dX7_exchange_22 : decode cX7_exchange 22 = .ok (.ifCond .eq 25, 3) := by decide +kernel
theorem dX7_exchange_25 : decode cX7_exchange 25 = .ok (.iload_n 3, 1) := by decide +kernel
theorem dX7_exchange_26 : decode cX7_exchange 26 = .ok (.i2l, 1) := by decide +kernel
theorem dX7_exchange_27 : decode cX7_exchange 27 = .ok (.lconst 1, 1) := by decide +kernel
theorem dX7_exchange_28 : decode cX7_exchange 28 = .ok (.aload_n 0, 1) := by decide +kernel
theorem dX7_exchange_29 : decode cX7_exchange 29 = .ok (.iload_n 1, 1) := by decide +kernel
theorem dX7_exchange_30 : decode cX7_exchange 30 = .ok (.invokevirtual 60, 3) := by decide +kernel
theorem dX7_exchange_33 : decode cX7_exchange 33 = .ok (.iconst 1, 1) := by decide +kernel
theorem dX7_exchange_34 : decode cX7_exchange 34 = .ok (.isub, 1) := by decide +kernel
theorem dX7_exchange_35 : decode cX7_exchange 35 = .ok (.i2l, 1) := by decide +kernel
theorem dX7_exchange_36 : decode cX7_exchange 36 = .ok (.invokestatic 39, 3) := by decide +kernel
theorem dX7_exchange_39 : decode cX7_exchange 39 = .ok (.ifCond .eq 8, 3) := by decide +kernel
theorem dX7_exchange_42 : decode cX7_exchange 42 = .ok (.iload_n 2, 1) := by decide +kernel
theorem dX7_exchange_43 : decode cX7_exchange 43 = .ok (.iload_n 3, 1) := by decide +kernel
theorem dX7_exchange_44 : decode cX7_exchange 44 = .ok (.if_icmp .ne 5, 3) := by decide +kernel
theorem dX7_exchange_47 : decode cX7_exchange 47 = .ok (.iconst (-1), 1) := by decide +kernel
theorem dX7_exchange_48 : decode cX7_exchange 48 = .ok (.ireturn, 1) := by decide +kernel
theorem dX7_exchange_49 : decode cX7_exchange 49 = .ok (.aload_n 0, 1) := by decide +kernel
theorem dX7_exchange_50 : decode cX7_exchange 50 = .ok (.invokevirtual 144, 3) := by decide +kernel
theorem dX7_exchange_53 : decode cX7_exchange 53 = .ok (.bipush 8, 2) := by decide +kernel
theorem dX7_exchange_55 : decode cX7_exchange 55 = .ok (.bipush 42, 2) := by decide +kernel
theorem dX7_exchange_57 : decode cX7_exchange 57 = .ok (.iload_n 1, 1) := by decide +kernel
theorem dX7_exchange_58 : decode cX7_exchange 58 = .ok (.imul, 1) := by decide +kernel
theorem dX7_exchange_59 : decode cX7_exchange 59 = .ok (.iadd, 1) := by decide +kernel
theorem dX7_exchange_60 : decode cX7_exchange 60 = .ok (.iconst 2, 1) := by decide +kernel
theorem dX7_exchange_61 : decode cX7_exchange 61 = .ok (.iadd, 1) := by decide +kernel
theorem dX7_exchange_62 : decode cX7_exchange 62 = .ok (.istore 4, 2) := by decide +kernel
theorem dX7_exchange_64 : decode cX7_exchange 64 = .ok (.aload_n 0, 1) := by decide +kernel
theorem dX7_exchange_65 : decode cX7_exchange 65 = .ok (.getfield 7, 3) := by decide +kernel
theorem dX7_exchange_68 : decode cX7_exchange 68 = .ok (.iload 4, 2) := by decide +kernel
theorem dX7_exchange_70 : decode cX7_exchange 70 = .ok (.iload_n 2, 1) := by decide +kernel
theorem dX7_exchange_71 : decode cX7_exchange 71 = .ok (.iadd, 1) := by decide +kernel
theorem dX7_exchange_72 : decode cX7_exchange 72 = .ok (.laload, 1) := by decide +kernel
theorem dX7_exchange_73 : decode cX7_exchange 73 = .ok (.lstore 5, 2) := by decide +kernel
theorem dX7_exchange_75 : decode cX7_exchange 75 = .ok (.aload_n 0, 1) := by decide +kernel
theorem dX7_exchange_76 : decode cX7_exchange 76 = .ok (.getfield 7, 3) := by decide +kernel
theorem dX7_exchange_79 : decode cX7_exchange 79 = .ok (.iload 4, 2) := by decide +kernel
theorem dX7_exchange_81 : decode cX7_exchange 81 = .ok (.iload_n 2, 1) := by decide +kernel
theorem dX7_exchange_82 : decode cX7_exchange 82 = .ok (.iadd, 1) := by decide +kernel
theorem dX7_exchange_83 : decode cX7_exchange 83 = .ok (.aload_n 0, 1) := by decide +kernel
theorem dX7_exchange_84 : decode cX7_exchange 84 = .ok (.getfield 7, 3) := by decide +kernel
theorem dX7_exchange_87 : decode cX7_exchange 87 = .ok (.iload 4, 2) := by decide +kernel
theorem dX7_exchange_89 : decode cX7_exchange 89 = .ok (.iload_n 3, 1) := by decide +kernel
theorem dX7_exchange_90 : decode cX7_exchange 90 = .ok (.iadd, 1) := by decide +kernel
theorem dX7_exchange_91 : decode cX7_exchange 91 = .ok (.laload, 1) := by decide +kernel
theorem dX7_exchange_92 : decode cX7_exchange 92 = .ok (.lastore, 1) := by decide +kernel
theorem dX7_exchange_93 : decode cX7_exchange 93 = .ok (.aload_n 0, 1) := by decide +kernel
theorem dX7_exchange_94 : decode cX7_exchange 94 = .ok (.getfield 7, 3) := by decide +kernel
theorem dX7_exchange_97 : decode cX7_exchange 97 = .ok (.iload 4, 2) := by decide +kernel
theorem dX7_exchange_99 : decode cX7_exchange 99 = .ok (.iload_n 3, 1) := by decide +kernel
theorem dX7_exchange_100 : decode cX7_exchange 100 = .ok (.iadd, 1) := by decide +kernel
theorem dX7_exchange_101 : decode cX7_exchange 101 = .ok (.lload 5, 2) := by decide +kernel
theorem dX7_exchange_103 : decode cX7_exchange 103 = .ok (.lastore, 1) := by decide +kernel
theorem dX7_exchange_104 : decode cX7_exchange 104 = .ok (.sipush 496, 3) := by decide +kernel
theorem dX7_exchange_107 : decode cX7_exchange 107 = .ok (.istore 7, 2) := by decide +kernel
theorem dX7_exchange_109 : decode cX7_exchange 109 = .ok (.iload 7, 2) := by decide +kernel
theorem dX7_exchange_111 : decode cX7_exchange 111 = .ok (.sipush 6896, 3) := by decide +kernel
theorem dX7_exchange_114 : decode cX7_exchange 114 = .ok (.if_icmp .ge 17, 3) := by decide +kernel
theorem dX7_exchange_117 : decode cX7_exchange 117 = .ok (.aload_n 0, 1) := by decide +kernel
theorem dX7_exchange_118 : decode cX7_exchange 118 = .ok (.getfield 7, 3) := by decide +kernel
theorem dX7_exchange_121 : decode cX7_exchange 121 = .ok (.iload 7, 2) := by decide +kernel
theorem dX7_exchange_123 : decode cX7_exchange 123 = .ok (.lconst 0, 1) := by decide +kernel
theorem dX7_exchange_124 : decode cX7_exchange 124 = .ok (.lastore, 1) := by decide +kernel
theorem dX7_exchange_125 : decode cX7_exchange 125 = .ok (.iinc 7 1, 3) := by decide +kernel
theorem dX7_exchange_128 : decode cX7_exchange 128 = .ok (.goto (-19), 3) := by decide +kernel
theorem dX7_exchange_131 : decode cX7_exchange 131 = .ok (.iconst 1, 1) := by decide +kernel
theorem dX7_exchange_132 : decode cX7_exchange 132 = .ok (.ireturn, 1) := by decide +kernel
theorem dX7_undo_0 : decode cX7_undo 0 = .ok (.aload_n 0, 1) := by decide +kernel
theorem dX7_undo_1 : decode cX7_undo 1 = .ok (.getfield 124, 3) := by decide +kernel
theorem dX7_undo_4 : decode cX7_undo 4 = .ok (.ifCond .ne 5, 3) := by decide +kernel
theorem dX7_undo_7 : decode cX7_undo 7 = .ok (.iconst (-1), 1) := by decide +kernel
theorem dX7_undo_8 : decode cX7_undo 8 = .ok (.ireturn, 1) := by decide +kernel
theorem dX7_undo_9 : decode cX7_undo 9 = .ok (.aload_n 0, 1) := by decide +kernel
theorem dX7_undo_10 : decode cX7_undo 10 = .ok (.dup, 1) := by decide +kernel
theorem dX7_undo_11 : decode cX7_undo 11 = .ok (.getfield 124, 3) := by decide +kernel
theorem dX7_undo_14 : decode cX7_undo 14 = .ok (.iconst 1, 1) := by decide +kernel
theorem dX7_undo_15 : decode cX7_undo 15 = .ok (.isub, 1) := by decide +kernel
theorem dX7_undo_16 : decode cX7_undo 16 = .ok (.putfield 124, 3) := by decide +kernel
theorem dX7_undo_19 : decode cX7_undo 19 = .ok (.iconst 0, 1) := by decide +kernel
theorem dX7_undo_20 : decode cX7_undo 20 = .ok (.istore_n 1, 1) := by decide +kernel
theorem dX7_undo_21 : decode cX7_undo 21 = .ok (.iload_n 1, 1) := by decide +kernel
theorem dX7_undo_22 : decode cX7_undo 22 = .ok (.sipush 6896, 3) := by decide +kernel
theorem dX7_undo_25 : decode cX7_undo 25 = .ok (.if_icmp .ge 30, 3) := by decide +kernel
theorem dX7_undo_28 : decode cX7_undo 28 = .ok (.aload_n 0, 1) := by decide +kernel
theorem dX7_undo_29 : decode cX7_undo 29 = .ok (.getfield 7, 3) := by decide +kernel
theorem dX7_undo_32 : decode cX7_undo 32 = .ok (.iload_n 1, 1) := by decide +kernel
theorem dX7_undo_33 : decode cX7_undo 33 = .ok (.aload_n 0, 1) := by decide +kernel
theorem dX7_undo_34 : decode cX7_undo 34 = .ok (.getfield 14, 3) := by decide +kernel
theorem dX7_undo_37 : decode cX7_undo 37 = .ok (.sipush 6896, 3) := by decide +kernel
theorem dX7_undo_40 : decode cX7_undo 40 = .ok (.aload_n 0, 1) := by decide +kernel
theorem dX7_undo_41 : decode cX7_undo 41 = .ok (.getfield 124, 3) := by decide +kernel
theorem dX7_undo_44 : decode cX7_undo 44 = .ok (.imul, 1) := by decide +kernel
theorem dX7_undo_45 : decode cX7_undo 45 = .ok (.iload_n 1, 1) := by decide +kernel
theorem dX7_undo_46 : decode cX7_undo 46 = .ok (.iadd, 1) := by decide +kernel
theorem dX7_undo_47 : decode cX7_undo 47 = .ok (.laload, 1) := by decide +kernel
theorem dX7_undo_48 : decode cX7_undo 48 = .ok (.lastore, 1) := by decide +kernel
theorem dX7_undo_49 : decode cX7_undo 49 = .ok (.iinc 1 1, 3) := by decide +kernel
theorem dX7_undo_52 : decode cX7_undo 52 = .ok (.goto (-31), 3) := by decide +kernel
theorem dX7_undo_55 : decode cX7_undo 55 = .ok (.aload_n 0, 1) := by decide +kernel
theorem dX7_undo_56 : decode cX7_undo 56 = .ok (.getfield 124, 3) := by decide +kernel
theorem dX7_undo_59 : decode cX7_undo 59 = .ok (.ireturn, 1) := by decide +kernel
theorem dX7_keep_0 : decode cX7_keep 0 = .ok (.iload_n 1, 1) := by decide +kernel
theorem dX7_keep_1 : decode cX7_keep 1 = .ok (.i2l, 1) := by decide +kernel
theorem dX7_keep_2 : decode cX7_keep 2 = .ok (.lconst 0, 1) := by decide +kernel
theorem dX7_keep_3 : decode cX7_keep 3 = .ok (.lconst 1, 1) := by decide +kernel
theorem dX7_keep_4 : decode cX7_keep 4 = .ok (.invokestatic 39, 3) := by decide +kernel
theorem dX7_keep_7 : decode cX7_keep 7 = .ok (.ifCond .ne 5, 3) := by decide +kernel
theorem dX7_keep_10 : decode cX7_keep 10 = .ok (.iconst (-1), 1) := by decide +kernel
theorem dX7_keep_11 : decode cX7_keep 11 = .ok (.ireturn, 1) := by decide +kernel
theorem dX7_keep_12 : decode cX7_keep 12 = .ok (.iconst 0, 1) := by decide +kernel
theorem dX7_keep_13 : decode cX7_keep 13 = .ok (.istore_n 2, 1) := by decide +kernel
theorem dX7_keep_14 : decode cX7_keep 14 = .ok (.iload_n 2, 1) := by decide +kernel
theorem dX7_keep_15 : decode cX7_keep 15 = .ok (.sipush 6896, 3) := by decide +kernel
theorem dX7_keep_18 : decode cX7_keep 18 = .ok (.if_icmp .ge 27, 3) := by decide +kernel
theorem dX7_keep_21 : decode cX7_keep 21 = .ok (.aload_n 0, 1) := by decide +kernel
theorem dX7_keep_22 : decode cX7_keep 22 = .ok (.getfield 17, 3) := by decide +kernel
theorem dX7_keep_25 : decode cX7_keep 25 = .ok (.sipush 6896, 3) := by decide +kernel
theorem dX7_keep_28 : decode cX7_keep 28 = .ok (.iload_n 1, 1) := by decide +kernel
theorem dX7_keep_29 : decode cX7_keep 29 = .ok (.imul, 1) := by decide +kernel
theorem dX7_keep_30 : decode cX7_keep 30 = .ok (.iload_n 2, 1) := by decide +kernel
theorem dX7_keep_31 : decode cX7_keep 31 = .ok (.iadd, 1) := by decide +kernel
theorem dX7_keep_32 : decode cX7_keep 32 = .ok (.aload_n 0, 1) := by decide +kernel
theorem dX7_keep_33 : decode cX7_keep 33 = .ok (.getfield 7, 3) := by decide +kernel
theorem dX7_keep_36 : decode cX7_keep 36 = .ok (.iload_n 2, 1) := by decide +kernel
theorem dX7_keep_37 : decode cX7_keep 37 = .ok (.laload, 1) := by decide +kernel
theorem dX7_keep_38 : decode cX7_keep 38 = .ok (.lastore, 1) := by decide +kernel
theorem dX7_keep_39 : decode cX7_keep 39 = .ok (.iinc 2 1, 3) := by decide +kernel
theorem dX7_keep_42 : decode cX7_keep 42 = .ok (.goto (-28), 3) := by decide +kernel
theorem dX7_keep_45 : decode cX7_keep 45 = .ok (.aload_n 0, 1) := by decide +kernel
theorem dX7_keep_46 : decode cX7_keep 46 = .ok (.getfield 20, 3) := by decide +kernel
theorem dX7_keep_49 : decode cX7_keep 49 = .ok (.iload_n 1, 1) := by decide +kernel
theorem dX7_keep_50 : decode cX7_keep 50 = .ok (.iconst 1, 1) := by decide +kernel
theorem dX7_keep_51 : decode cX7_keep 51 = .ok (.bastore, 1) := by decide +kernel
theorem dX7_keep_52 : decode cX7_keep 52 = .ok (.aload_n 0, 1) := by decide +kernel
theorem dX7_keep_53 : decode cX7_keep 53 = .ok (.invokevirtual 53, 3) := by decide +kernel
theorem dX7_keep_56 : decode cX7_keep 56 = .ok (.ireturn, 1) := by decide +kernel
theorem dX7_back_0 : decode cX7_back 0 = .ok (.iload_n 1, 1) := by decide +kernel
theorem dX7_back_1 : decode cX7_back 1 = .ok (.i2l, 1) := by decide +kernel
theorem dX7_back_2 : decode cX7_back 2 = .ok (.lconst 0, 1) := by decide +kernel
theorem dX7_back_3 : decode cX7_back 3 = .ok (.lconst 1, 1) := by decide +kernel
theorem dX7_back_4 : decode cX7_back 4 = .ok (.invokestatic 39, 3) := by decide +kernel
theorem dX7_back_7 : decode cX7_back 7 = .ok (.ifCond .ne 5, 3) := by decide +kernel
theorem dX7_back_10 : decode cX7_back 10 = .ok (.iconst (-1), 1) := by decide +kernel
theorem dX7_back_11 : decode cX7_back 11 = .ok (.ireturn, 1) := by decide +kernel
theorem dX7_back_12 : decode cX7_back 12 = .ok (.aload_n 0, 1) := by decide +kernel
theorem dX7_back_13 : decode cX7_back 13 = .ok (.getfield 20, 3) := by decide +kernel
theorem dX7_back_16 : decode cX7_back 16 = .ok (.iload_n 1, 1) := by decide +kernel
theorem dX7_back_17 : decode cX7_back 17 = .ok (.baload, 1) := by decide +kernel
theorem dX7_back_18 : decode cX7_back 18 = .ok (.ifCond .ne 6, 3) := by decide +kernel
theorem dX7_back_21 : decode cX7_back 21 = .ok (.bipush (-2), 2) := by decide +kernel
theorem dX7_back_23 : decode cX7_back 23 = .ok (.ireturn, 1) := by decide +kernel
theorem dX7_back_24 : decode cX7_back 24 = .ok (.iconst 0, 1) := by decide +kernel
theorem dX7_back_25 : decode cX7_back 25 = .ok (.istore_n 2, 1) := by decide +kernel
theorem dX7_back_26 : decode cX7_back 26 = .ok (.iload_n 2, 1) := by decide +kernel
theorem dX7_back_27 : decode cX7_back 27 = .ok (.sipush 6896, 3) := by decide +kernel
theorem dX7_back_30 : decode cX7_back 30 = .ok (.if_icmp .ge 27, 3) := by decide +kernel
theorem dX7_back_33 : decode cX7_back 33 = .ok (.aload_n 0, 1) := by decide +kernel
theorem dX7_back_34 : decode cX7_back 34 = .ok (.getfield 7, 3) := by decide +kernel
theorem dX7_back_37 : decode cX7_back 37 = .ok (.iload_n 2, 1) := by decide +kernel
theorem dX7_back_38 : decode cX7_back 38 = .ok (.aload_n 0, 1) := by decide +kernel
theorem dX7_back_39 : decode cX7_back 39 = .ok (.getfield 17, 3) := by decide +kernel
theorem dX7_back_42 : decode cX7_back 42 = .ok (.sipush 6896, 3) := by decide +kernel
theorem dX7_back_45 : decode cX7_back 45 = .ok (.iload_n 1, 1) := by decide +kernel
theorem dX7_back_46 : decode cX7_back 46 = .ok (.imul, 1) := by decide +kernel
theorem dX7_back_47 : decode cX7_back 47 = .ok (.iload_n 2, 1) := by decide +kernel
theorem dX7_back_48 : decode cX7_back 48 = .ok (.iadd, 1) := by decide +kernel
theorem dX7_back_49 : decode cX7_back 49 = .ok (.laload, 1) := by decide +kernel
theorem dX7_back_50 : decode cX7_back 50 = .ok (.lastore, 1) := by decide +kernel
theorem dX7_back_51 : decode cX7_back 51 = .ok (.iinc 2 1, 3) := by decide +kernel
theorem dX7_back_54 : decode cX7_back 54 = .ok (.goto (-28), 3) := by decide +kernel
theorem dX7_back_57 : decode cX7_back 57 = .ok (.aload_n 0, 1) := by decide +kernel
theorem dX7_back_58 : decode cX7_back 58 = .ok (.iconst 0, 1) := by decide +kernel
theorem dX7_back_59 : decode cX7_back 59 = .ok (.putfield 124, 3) := by decide +kernel
theorem dX7_back_62 : decode cX7_back 62 = .ok (.aload_n 0, 1) := by decide +kernel
theorem dX7_back_63 : decode cX7_back 63 = .ok (.invokevirtual 53, 3) := by decide +kernel
theorem dX7_back_66 : decode cX7_back 66 = .ok (.ireturn, 1) := by decide +kernel
theorem dX7_cell_0 : decode cX7_cell 0 = .ok (.aload_n 0, 1) := by decide +kernel
theorem dX7_cell_1 : decode cX7_cell 1 = .ok (.iload_n 1, 1) := by decide +kernel
theorem dX7_cell_2 : decode cX7_cell 2 = .ok (.invokevirtual 162, 3) := by decide +kernel
theorem dX7_cell_5 : decode cX7_cell 5 = .ok (.ifCond .ne 5, 3) := by decide +kernel
theorem dX7_cell_8 : decode cX7_cell 8 = .ok (.iconst (-1), 1) := by decide +kernel
theorem dX7_cell_9 : decode cX7_cell 9 = .ok (.ireturn, 1) := by decide +kernel
theorem dX7_cell_10 : decode cX7_cell 10 = .ok (.iload_n 2, 1) := by decide +kernel
theorem dX7_cell_11 : decode cX7_cell 11 = .ok (.tableswitch 93 0 8 #[49, 49, 49, 49, 56, 62, 69, 76, 84], 49) := by decide +kernel
theorem dX7_cell_60 : decode cX7_cell 60 = .ok (.aload_n 0, 1) := by decide +kernel
theorem dX7_cell_61 : decode cX7_cell 61 = .ok (.iload_n 1, 1) := by decide +kernel
theorem dX7_cell_62 : decode cX7_cell 62 = .ok (.iload_n 2, 1) := by decide +kernel
theorem dX7_cell_63 : decode cX7_cell 63 = .ok (.invokevirtual 56, 3) := by decide +kernel
theorem dX7_cell_66 : decode cX7_cell 66 = .ok (.ireturn, 1) := by decide +kernel
theorem dX7_cell_67 : decode cX7_cell 67 = .ok (.aload_n 0, 1) := by decide +kernel
theorem dX7_cell_68 : decode cX7_cell 68 = .ok (.iload_n 1, 1) := by decide +kernel
theorem dX7_cell_69 : decode cX7_cell 69 = .ok (.invokevirtual 93, 3) := by decide +kernel
theorem dX7_cell_72 : decode cX7_cell 72 = .ok (.ireturn, 1) := by decide +kernel
theorem dX7_cell_73 : decode cX7_cell 73 = .ok (.aload_n 0, 1) := by decide +kernel
theorem dX7_cell_74 : decode cX7_cell 74 = .ok (.iload_n 1, 1) := by decide +kernel
theorem dX7_cell_75 : decode cX7_cell 75 = .ok (.iconst 4, 1) := by decide +kernel
theorem dX7_cell_76 : decode cX7_cell 76 = .ok (.invokevirtual 56, 3) := by decide +kernel
theorem dX7_cell_79 : decode cX7_cell 79 = .ok (.ireturn, 1) := by decide +kernel
theorem dX7_cell_80 : decode cX7_cell 80 = .ok (.aload_n 0, 1) := by decide +kernel
theorem dX7_cell_81 : decode cX7_cell 81 = .ok (.iload_n 1, 1) := by decide +kernel
theorem dX7_cell_82 : decode cX7_cell 82 = .ok (.iconst 5, 1) := by decide +kernel
theorem dX7_cell_83 : decode cX7_cell 83 = .ok (.invokevirtual 56, 3) := by decide +kernel
theorem dX7_cell_86 : decode cX7_cell 86 = .ok (.ireturn, 1) := by decide +kernel
theorem dX7_cell_87 : decode cX7_cell 87 = .ok (.aload_n 0, 1) := by decide +kernel
theorem dX7_cell_88 : decode cX7_cell 88 = .ok (.iload_n 1, 1) := by decide +kernel
theorem dX7_cell_89 : decode cX7_cell 89 = .ok (.bipush 6, 2) := by decide +kernel
theorem dX7_cell_91 : decode cX7_cell 91 = .ok (.invokevirtual 56, 3) := by decide +kernel
theorem dX7_cell_94 : decode cX7_cell 94 = .ok (.ireturn, 1) := by decide +kernel
theorem dX7_cell_95 : decode cX7_cell 95 = .ok (.aload_n 0, 1) := by decide +kernel
theorem dX7_cell_96 : decode cX7_cell 96 = .ok (.iload_n 1, 1) := by decide +kernel
theorem dX7_cell_97 : decode cX7_cell 97 = .ok (.invokevirtual 109, 3) := by decide +kernel
theorem dX7_cell_100 : decode cX7_cell 100 = .ok (.invokestatic 174, 3) := by decide +kernel
theorem dX7_cell_103 : decode cX7_cell 103 = .ok (.ireturn, 1) := by decide +kernel
theorem dX7_cell_104 : decode cX7_cell 104 = .ok (.iconst (-1), 1) := by decide +kernel
theorem dX7_cell_105 : decode cX7_cell 105 = .ok (.ireturn, 1) := by decide +kernel
theorem dX7_worn_0 : decode cX7_worn 0 = .ok (.aload_n 0, 1) := by decide +kernel
theorem dX7_worn_1 : decode cX7_worn 1 = .ok (.iload_n 1, 1) := by decide +kernel
theorem dX7_worn_2 : decode cX7_worn 2 = .ok (.invokevirtual 162, 3) := by decide +kernel
theorem dX7_worn_5 : decode cX7_worn 5 = .ok (.ifCond .eq 11, 3) := by decide +kernel
theorem dX7_worn_8 : decode cX7_worn 8 = .ok (.aload_n 0, 1) := by decide +kernel
theorem dX7_worn_9 : decode cX7_worn 9 = .ok (.iload_n 1, 1) := by decide +kernel
theorem dX7_worn_10 : decode cX7_worn 10 = .ok (.invokevirtual 109, 3) := by decide +kernel
theorem dX7_worn_13 : decode cX7_worn 13 = .ok (.goto 6, 3) := by decide +kernel
theorem dX7_worn_16 : decode cX7_worn 16 = .ok (.ldc2_w 178, 3) := by decide +kernel
theorem dX7_worn_19 : decode cX7_worn 19 = .ok (.lreturn, 1) := by decide +kernel
theorem dX7_cellsWith_0 : decode cX7_cellsWith 0 = .ok (.iconst 0, 1) := by decide +kernel
theorem dX7_cellsWith_1 : decode cX7_cellsWith 1 = .ok (.istore_n 2, 1) := by decide +kernel
theorem dX7_cellsWith_2 : decode cX7_cellsWith 2 = .ok (.iconst 0, 1) := by decide +kernel
theorem dX7_cellsWith_3 : decode cX7_cellsWith 3 = .ok (.istore_n 3, 1) := by decide +kernel
theorem dX7_cellsWith_4 : decode cX7_cellsWith 4 = .ok (.iload_n 3, 1) := by decide +kernel
theorem dX7_cellsWith_5 : decode cX7_cellsWith 5 = .ok (.aload_n 0, 1) := by decide +kernel
theorem dX7_cellsWith_6 : decode cX7_cellsWith 6 = .ok (.invokevirtual 53, 3) := by decide +kernel
theorem dX7_cellsWith_9 : decode cX7_cellsWith 9 = .ok (.if_icmp .ge 27, 3) := by decide +kernel
theorem dX7_cellsWith_12 : decode cX7_cellsWith 12 = .ok (.iload_n 2, 1) := by decide +kernel
theorem dX7_cellsWith_13 : decode cX7_cellsWith 13 = .ok (.aload_n 0, 1) := by decide +kernel
theorem dX7_cellsWith_14 : decode cX7_cellsWith 14 = .ok (.iload_n 3, 1) := by decide +kernel
theorem dX7_cellsWith_15 : decode cX7_cellsWith 15 = .ok (.iconst 0, 1) := by decide +kernel
theorem dX7_cellsWith_16 : decode cX7_cellsWith 16 = .ok (.invokevirtual 56, 3) := by decide +kernel
theorem dX7_cellsWith_19 : decode cX7_cellsWith 19 = .ok (.iload_n 1, 1) := by decide +kernel
theorem dX7_cellsWith_20 : decode cX7_cellsWith 20 = .ok (.if_icmp .ne 7, 3) := by decide +kernel
theorem dX7_cellsWith_23 : decode cX7_cellsWith 23 = .ok (.iconst 1, 1) := by decide +kernel
theorem dX7_cellsWith_24 : decode cX7_cellsWith 24 = .ok (.goto 4, 3) := by decide +kernel
theorem dX7_cellsWith_27 : decode cX7_cellsWith 27 = .ok (.iconst 0, 1) := by decide +kernel
theorem dX7_cellsWith_28 : decode cX7_cellsWith 28 = .ok (.iadd, 1) := by decide +kernel
theorem dX7_cellsWith_29 : decode cX7_cellsWith 29 = .ok (.istore_n 2, 1) := by decide +kernel
theorem dX7_cellsWith_30 : decode cX7_cellsWith 30 = .ok (.iinc 3 1, 3) := by decide +kernel
theorem dX7_cellsWith_33 : decode cX7_cellsWith 33 = .ok (.goto (-29), 3) := by decide +kernel
theorem dX7_cellsWith_36 : decode cX7_cellsWith 36 = .ok (.iload_n 2, 1) := by decide +kernel
theorem dX7_cellsWith_37 : decode cX7_cellsWith 37 = .ok (.ireturn, 1) := by decide +kernel
theorem dX7_manyWith_0 : decode cX7_manyWith 0 = .ok (.iconst 0, 1) := by decide +kernel
theorem dX7_manyWith_1 : decode cX7_manyWith 1 = .ok (.istore_n 3, 1) := by decide +kernel
theorem dX7_manyWith_2 : decode cX7_manyWith 2 = .ok (.iconst 0, 1) := by decide +kernel
theorem dX7_manyWith_3 : decode cX7_manyWith 3 = .ok (.istore 4, 2) := by decide +kernel
theorem dX7_manyWith_5 : decode cX7_manyWith 5 = .ok (.iload 4, 2) := by decide +kernel
theorem dX7_manyWith_7 : decode cX7_manyWith 7 = .ok (.aload_n 0, 1) := by decide +kernel
theorem dX7_manyWith_8 : decode cX7_manyWith 8 = .ok (.iload_n 1, 1) := by decide +kernel
theorem dX7_manyWith_9 : decode cX7_manyWith 9 = .ok (.invokevirtual 60, 3) := by decide +kernel
theorem dX7_manyWith_12 : decode cX7_manyWith 12 = .ok (.if_icmp .ge 28, 3) := by decide +kernel
theorem dX7_manyWith_15 : decode cX7_manyWith 15 = .ok (.iload_n 3, 1) := by decide +kernel
theorem dX7_manyWith_16 : decode cX7_manyWith 16 = .ok (.aload_n 0, 1) := by decide +kernel
theorem dX7_manyWith_17 : decode cX7_manyWith 17 = .ok (.iload_n 1, 1) := by decide +kernel
theorem dX7_manyWith_18 : decode cX7_manyWith 18 = .ok (.iload 4, 2) := by decide +kernel
theorem dX7_manyWith_20 : decode cX7_manyWith 20 = .ok (.invokevirtual 106, 3) := by decide +kernel
theorem dX7_manyWith_23 : decode cX7_manyWith 23 = .ok (.iload_n 2, 1) := by decide +kernel
theorem dX7_manyWith_24 : decode cX7_manyWith 24 = .ok (.if_icmp .ne 7, 3) := by decide +kernel
theorem dX7_manyWith_27 : decode cX7_manyWith 27 = .ok (.iconst 1, 1) := by decide +kernel
theorem dX7_manyWith_28 : decode cX7_manyWith 28 = .ok (.goto 4, 3) := by decide +kernel
theorem dX7_manyWith_31 : decode cX7_manyWith 31 = .ok (.iconst 0, 1) := by decide +kernel
theorem dX7_manyWith_32 : decode cX7_manyWith 32 = .ok (.iadd, 1) := by decide +kernel
theorem dX7_manyWith_33 : decode cX7_manyWith 33 = .ok (.istore_n 3, 1) := by decide +kernel
theorem dX7_manyWith_34 : decode cX7_manyWith 34 = .ok (.iinc 4 1, 3) := by decide +kernel
theorem dX7_manyWith_37 : decode cX7_manyWith 37 = .ok (.goto (-32), 3) := by decide +kernel
theorem dX7_manyWith_40 : decode cX7_manyWith 40 = .ok (.iload_n 3, 1) := by decide +kernel
theorem dX7_manyWith_41 : decode cX7_manyWith 41 = .ok (.ireturn, 1) := by decide +kernel
theorem dX7_signsOf_0 : decode cX7_signsOf 0 = .ok (.iconst 0, 1) := by decide +kernel
theorem dX7_signsOf_1 : decode cX7_signsOf 1 = .ok (.istore_n 3, 1) := by decide +kernel
theorem dX7_signsOf_2 : decode cX7_signsOf 2 = .ok (.bipush 32, 2) := by decide +kernel
theorem dX7_signsOf_4 : decode cX7_signsOf 4 = .ok (.istore 4, 2) := by decide +kernel
theorem dX7_signsOf_6 : decode cX7_signsOf 6 = .ok (.iload 4, 2) := by decide +kernel
theorem dX7_signsOf_8 : decode cX7_signsOf 8 = .ok (.bipush 127, 2) := by decide +kernel
theorem dX7_signsOf_10 : decode cX7_signsOf 10 = .ok (.if_icmp .ge 47, 3) := by decide +kernel
theorem dX7_signsOf_13 : decode cX7_signsOf 13 = .ok (.aload_n 0, 1) := by decide +kernel
theorem dX7_signsOf_14 : decode cX7_signsOf 14 = .ok (.iload_n 1, 1) := by decide +kernel
theorem dX7_signsOf_15 : decode cX7_signsOf 15 = .ok (.iload 4, 2) := by decide +kernel
theorem dX7_signsOf_17 : decode cX7_signsOf 17 = .ok (.invokevirtual 183, 3) := by decide +kernel
theorem dX7_signsOf_20 : decode cX7_signsOf 20 = .ok (.istore 5, 2) := by decide +kernel
theorem dX7_signsOf_22 : decode cX7_signsOf 22 = .ok (.iload_n 2, 1) := by decide +kernel
theorem dX7_signsOf_23 : decode cX7_signsOf 23 = .ok (.ifCond .ne 19, 3) := by decide +kernel
theorem dX7_signsOf_26 : decode cX7_signsOf 26 = .ok (.iload_n 3, 1) := by decide +kernel
theorem dX7_signsOf_27 : decode cX7_signsOf 27 = .ok (.iload 5, 2) := by decide +kernel
theorem dX7_signsOf_29 : decode cX7_signsOf 29 = .ok (.ifCond .le 7, 3) := by decide +kernel
theorem dX7_signsOf_32 : decode cX7_signsOf 32 = .ok (.iconst 1, 1) := by decide +kernel
theorem dX7_signsOf_33 : decode cX7_signsOf 33 = .ok (.goto 4, 3) := by decide +kernel
theorem dX7_signsOf_36 : decode cX7_signsOf 36 = .ok (.iconst 0, 1) := by decide +kernel
theorem dX7_signsOf_37 : decode cX7_signsOf 37 = .ok (.iadd, 1) := by decide +kernel
theorem dX7_signsOf_38 : decode cX7_signsOf 38 = .ok (.istore_n 3, 1) := by decide +kernel
theorem dX7_signsOf_39 : decode cX7_signsOf 39 = .ok (.goto 12, 3) := by decide +kernel
theorem dX7_signsOf_42 : decode cX7_signsOf 42 = .ok (.iload 5, 2) := by decide +kernel
theorem dX7_signsOf_44 : decode cX7_signsOf 44 = .ok (.iload_n 3, 1) := by decide +kernel
theorem dX7_signsOf_45 : decode cX7_signsOf 45 = .ok (.if_icmp .le 6, 3) := by decide +kernel
theorem dX7_signsOf_48 : decode cX7_signsOf 48 = .ok (.iload 5, 2) := by decide +kernel
theorem dX7_signsOf_50 : decode cX7_signsOf 50 = .ok (.istore_n 3, 1) := by decide +kernel
theorem dX7_signsOf_51 : decode cX7_signsOf 51 = .ok (.iinc 4 1, 3) := by decide +kernel
theorem dX7_signsOf_54 : decode cX7_signsOf 54 = .ok (.goto (-48), 3) := by decide +kernel
theorem dX7_signsOf_57 : decode cX7_signsOf 57 = .ok (.iload_n 3, 1) := by decide +kernel
theorem dX7_signsOf_58 : decode cX7_signsOf 58 = .ok (.ireturn, 1) := by decide +kernel
theorem dX7_drum_0 : decode cX7_drum 0 = .ok (.aload_n 0, 1) := by decide +kernel
theorem dX7_drum_1 : decode cX7_drum 1 = .ok (.iload_n 1, 1) := by decide +kernel
theorem dX7_drum_2 : decode cX7_drum 2 = .ok (.invokevirtual 180, 3) := by decide +kernel
theorem dX7_drum_5 : decode cX7_drum 5 = .ok (.ifCond .ne 5, 3) := by decide +kernel
theorem dX7_drum_8 : decode cX7_drum 8 = .ok (.iconst (-1), 1) := by decide +kernel
theorem dX7_drum_9 : decode cX7_drum 9 = .ok (.ireturn, 1) := by decide +kernel
theorem dX7_drum_10 : decode cX7_drum 10 = .ok (.iload_n 2, 1) := by decide +kernel
theorem dX7_drum_11 : decode cX7_drum 11 = .ok (.tableswitch 65 0 4 #[33, 39, 45, 51, 58], 33) := by decide +kernel
theorem dX7_drum_44 : decode cX7_drum 44 = .ok (.aload_n 0, 1) := by decide +kernel
theorem dX7_drum_45 : decode cX7_drum 45 = .ok (.iload_n 1, 1) := by decide +kernel
theorem dX7_drum_46 : decode cX7_drum 46 = .ok (.invokevirtual 64, 3) := by decide +kernel
theorem dX7_drum_49 : decode cX7_drum 49 = .ok (.ireturn, 1) := by decide +kernel
theorem dX7_drum_50 : decode cX7_drum 50 = .ok (.aload_n 0, 1) := by decide +kernel
theorem dX7_drum_51 : decode cX7_drum 51 = .ok (.iload_n 1, 1) := by decide +kernel
theorem dX7_drum_52 : decode cX7_drum 52 = .ok (.invokevirtual 60, 3) := by decide +kernel
theorem dX7_drum_55 : decode cX7_drum 55 = .ok (.ireturn, 1) := by decide +kernel
theorem dX7_drum_56 : decode cX7_drum 56 = .ok (.aload_n 0, 1) := by decide +kernel
theorem dX7_drum_57 : decode cX7_drum 57 = .ok (.iload_n 1, 1) := by decide +kernel
theorem dX7_drum_58 : decode cX7_drum 58 = .ok (.invokevirtual 186, 3) := by decide +kernel
theorem dX7_drum_61 : decode cX7_drum 61 = .ok (.ireturn, 1) := by decide +kernel
theorem dX7_drum_62 : decode cX7_drum 62 = .ok (.aload_n 0, 1) := by decide +kernel
theorem dX7_drum_63 : decode cX7_drum 63 = .ok (.iload_n 1, 1) := by decide +kernel
theorem dX7_drum_64 : decode cX7_drum 64 = .ok (.iconst 0, 1) := by decide +kernel
theorem dX7_drum_65 : decode cX7_drum 65 = .ok (.invokevirtual 189, 3) := by decide +kernel
theorem dX7_drum_68 : decode cX7_drum 68 = .ok (.ireturn, 1) := by decide +kernel
theorem dX7_drum_69 : decode cX7_drum 69 = .ok (.aload_n 0, 1) := by decide +kernel
theorem dX7_drum_70 : decode cX7_drum 70 = .ok (.iload_n 1, 1) := by decide +kernel
theorem dX7_drum_71 : decode cX7_drum 71 = .ok (.iconst 1, 1) := by decide +kernel
theorem dX7_drum_72 : decode cX7_drum 72 = .ok (.invokevirtual 189, 3) := by decide +kernel
theorem dX7_drum_75 : decode cX7_drum 75 = .ok (.ireturn, 1) := by decide +kernel
theorem dX7_drum_76 : decode cX7_drum 76 = .ok (.iconst (-1), 1) := by decide +kernel
theorem dX7_drum_77 : decode cX7_drum 77 = .ok (.ireturn, 1) := by decide +kernel
theorem dX7_sign_0 : decode cX7_sign 0 = .ok (.aload_n 0, 1) := by decide +kernel
theorem dX7_sign_1 : decode cX7_sign 1 = .ok (.iload_n 1, 1) := by decide +kernel
theorem dX7_sign_2 : decode cX7_sign 2 = .ok (.invokevirtual 180, 3) := by decide +kernel
theorem dX7_sign_5 : decode cX7_sign 5 = .ok (.ifCond .eq 29, 3) := by decide +kernel
theorem dX7_sign_8 : decode cX7_sign 8 = .ok (.iload_n 2, 1) := by decide +kernel
theorem dX7_sign_9 : decode cX7_sign 9 = .ok (.i2l, 1) := by decide +kernel
theorem dX7_sign_10 : decode cX7_sign 10 = .ok (.lconst 0, 1) := by decide +kernel
theorem dX7_sign_11 : decode cX7_sign 11 = .ok (.aload_n 0, 1) := by decide +kernel
theorem dX7_sign_12 : decode cX7_sign 12 = .ok (.iload_n 1, 1) := by decide +kernel
theorem dX7_sign_13 : decode cX7_sign 13 = .ok (.invokevirtual 60, 3) := by decide +kernel
theorem dX7_sign_16 : decode cX7_sign 16 = .ok (.iconst 1, 1) := by decide +kernel
theorem dX7_sign_17 : decode cX7_sign 17 = .ok (.isub, 1) := by decide +kernel
theorem dX7_sign_18 : decode cX7_sign 18 = .ok (.i2l, 1) := by decide +kernel
theorem dX7_sign_19 : decode cX7_sign 19 = .ok (.invokestatic 39, 3) := by decide +kernel
theorem dX7_sign_22 : decode cX7_sign 22 = .ok (.ifCond .eq 12, 3) := by decide +kernel
theorem dX7_sign_25 : decode cX7_sign 25 = .ok (.aload_n 0, 1) := by decide +kernel
theorem dX7_sign_26 : decode cX7_sign 26 = .ok (.iload_n 1, 1) := by decide +kernel
theorem dX7_sign_27 : decode cX7_sign 27 = .ok (.iload_n 2, 1) := by decide +kernel
theorem dX7_sign_28 : decode cX7_sign 28 = .ok (.invokevirtual 106, 3) := by decide +kernel
theorem dX7_sign_31 : decode cX7_sign 31 = .ok (.goto 4, 3) := by decide +kernel
theorem dX7_sign_34 : decode cX7_sign 34 = .ok (.iconst (-1), 1) := by decide +kernel
theorem dX7_sign_35 : decode cX7_sign 35 = .ok (.ireturn, 1) := by decide +kernel
theorem dX7_signAt_0 : decode cX7_signAt 0 = .ok (.aload_n 0, 1) := by decide +kernel
theorem dX7_signAt_1 : decode cX7_signAt 1 = .ok (.aload_n 0, 1) := by decide +kernel
theorem dX7_signAt_2 : decode cX7_signAt 2 = .ok (.iload_n 1, 1) := by decide +kernel
theorem dX7_signAt_3 : decode cX7_signAt 3 = .ok (.iconst 0, 1) := by decide +kernel
theorem dX7_signAt_4 : decode cX7_signAt 4 = .ok (.invokevirtual 56, 3) := by decide +kernel
theorem dX7_signAt_7 : decode cX7_signAt 7 = .ok (.aload_n 0, 1) := by decide +kernel
theorem dX7_signAt_8 : decode cX7_signAt 8 = .ok (.iload_n 1, 1) := by decide +kernel
theorem dX7_signAt_9 : decode cX7_signAt 9 = .ok (.iconst 1, 1) := by decide +kernel
theorem dX7_signAt_10 : decode cX7_signAt 10 = .ok (.iload_n 2, 1) := by decide +kernel
theorem dX7_signAt_11 : decode cX7_signAt 11 = .ok (.iadd, 1) := by decide +kernel
theorem dX7_signAt_12 : decode cX7_signAt 12 = .ok (.invokevirtual 56, 3) := by decide +kernel
theorem dX7_signAt_15 : decode cX7_signAt 15 = .ok (.invokevirtual 106, 3) := by decide +kernel
theorem dX7_signAt_18 : decode cX7_signAt 18 = .ok (.ireturn, 1) := by decide +kernel
theorem dX7_at_0 : decode cX7_at 0 = .ok (.aload_n 0, 1) := by decide +kernel
theorem dX7_at_1 : decode cX7_at 1 = .ok (.iload_n 1, 1) := by decide +kernel
theorem dX7_at_2 : decode cX7_at 2 = .ok (.invokevirtual 138, 3) := by decide +kernel
theorem dX7_at_5 : decode cX7_at 5 = .ok (.ifCond .eq 47, 3) := by decide +kernel
theorem dX7_at_8 : decode cX7_at 8 = .ok (.iload_n 2, 1) := by decide +kernel
theorem dX7_at_9 : decode cX7_at 9 = .ok (.i2l, 1) := by decide +kernel
theorem dX7_at_10 : decode cX7_at 10 = .ok (.lconst 0, 1) := by decide +kernel
theorem dX7_at_11 : decode cX7_at 11 = .ok (.aload_n 0, 1) := by decide +kernel
theorem dX7_at_12 : decode cX7_at 12 = .ok (.invokevirtual 47, 3) := by decide +kernel
theorem dX7_at_15 : decode cX7_at 15 = .ok (.iconst 1, 1) := by decide +kernel
theorem dX7_at_16 : decode cX7_at 16 = .ok (.isub, 1) := by decide +kernel
theorem dX7_at_17 : decode cX7_at 17 = .ok (.i2l, 1) := by decide +kernel
theorem dX7_at_18 : decode cX7_at 18 = .ok (.invokestatic 39, 3) := by decide +kernel
theorem dX7_at_21 : decode cX7_at 21 = .ok (.ifCond .eq 31, 3) := by decide +kernel
theorem dX7_at_24 : decode cX7_at 24 = .ok (.iload_n 3, 1) := by decide +kernel
theorem dX7_at_25 : decode cX7_at 25 = .ok (.i2l, 1) := by decide +kernel
theorem dX7_at_26 : decode cX7_at 26 = .ok (.lconst 0, 1) := by decide +kernel
theorem dX7_at_27 : decode cX7_at 27 = .ok (.ldc2_w 193, 3) := by decide +kernel
theorem dX7_at_30 : decode cX7_at 30 = .ok (.invokestatic 39, 3) := by decide +kernel
theorem dX7_at_33 : decode cX7_at 33 = .ok (.ifCond .eq 19, 3) := by decide +kernel
theorem dX7_at_36 : decode cX7_at 36 = .ok (.aload_n 0, 1) := by decide +kernel
theorem dX7_at_37 : decode cX7_at 37 = .ok (.aload_n 0, 1) := by decide +kernel
theorem dX7_at_38 : decode cX7_at 38 = .ok (.invokevirtual 47, 3) := by decide +kernel
theorem dX7_at_41 : decode cX7_at 41 = .ok (.iload_n 1, 1) := by decide +kernel
theorem dX7_at_42 : decode cX7_at 42 = .ok (.imul, 1) := by decide +kernel
theorem dX7_at_43 : decode cX7_at 43 = .ok (.iload_n 2, 1) := by decide +kernel
theorem dX7_at_44 : decode cX7_at 44 = .ok (.iadd, 1) := by decide +kernel
theorem dX7_at_45 : decode cX7_at 45 = .ok (.iload_n 3, 1) := by decide +kernel
theorem dX7_at_46 : decode cX7_at 46 = .ok (.invokevirtual 195, 3) := by decide +kernel
theorem dX7_at_49 : decode cX7_at 49 = .ok (.goto 4, 3) := by decide +kernel
theorem dX7_at_52 : decode cX7_at 52 = .ok (.iconst (-1), 1) := by decide +kernel
theorem dX7_at_53 : decode cX7_at 53 = .ok (.ireturn, 1) := by decide +kernel
theorem dX7_isOther_0 : decode cX7_isOther 0 = .ok (.aload_n 0, 1) := by decide +kernel
theorem dX7_isOther_1 : decode cX7_isOther 1 = .ok (.iload_n 1, 1) := by decide +kernel
theorem dX7_isOther_2 : decode cX7_isOther 2 = .ok (.iconst 0, 1) := by decide +kernel
theorem dX7_isOther_3 : decode cX7_isOther 3 = .ok (.invokevirtual 195, 3) := by decide +kernel
theorem dX7_isOther_6 : decode cX7_isOther 6 = .ok (.aload_n 0, 1) := by decide +kernel
theorem dX7_isOther_7 : decode cX7_isOther 7 = .ok (.iload_n 1, 1) := by decide +kernel
theorem dX7_isOther_8 : decode cX7_isOther 8 = .ok (.iconst 2, 1) := by decide +kernel
theorem dX7_isOther_9 : decode cX7_isOther 9 = .ok (.invokevirtual 195, 3) := by decide +kernel
theorem dX7_isOther_12 : decode cX7_isOther 12 = .ok (.if_icmp .eq 7, 3) := by decide +kernel
theorem dX7_isOther_15 : decode cX7_isOther 15 = .ok (.iconst 1, 1) := by decide +kernel
theorem dX7_isOther_16 : decode cX7_isOther 16 = .ok (.goto 4, 3) := by decide +kernel
theorem dX7_isOther_19 : decode cX7_isOther 19 = .ok (.iconst 0, 1) := by decide +kernel
theorem dX7_isOther_20 : decode cX7_isOther 20 = .ok (.ireturn, 1) := by decide +kernel
theorem dX7_isSuch_0 : decode cX7_isSuch 0 = .ok (.iload_n 2, 1) := by decide +kernel
theorem dX7_isSuch_1 : decode cX7_isSuch 1 = .ok (.tableswitch 81 0 3 #[31, 45, 66, 72], 31) := by decide +kernel
theorem dX7_isSuch_32 : decode cX7_isSuch 32 = .ok (.aload_n 0, 1) := by decide +kernel
theorem dX7_isSuch_33 : decode cX7_isSuch 33 = .ok (.iload_n 1, 1) := by decide +kernel
theorem dX7_isSuch_34 : decode cX7_isSuch 34 = .ok (.invokevirtual 93, 3) := by decide +kernel
theorem dX7_isSuch_37 : decode cX7_isSuch 37 = .ok (.ifCond .le 7, 3) := by decide +kernel
theorem dX7_isSuch_40 : decode cX7_isSuch 40 = .ok (.iconst 1, 1) := by decide +kernel
theorem dX7_isSuch_41 : decode cX7_isSuch 41 = .ok (.goto 4, 3) := by decide +kernel
theorem dX7_isSuch_44 : decode cX7_isSuch 44 = .ok (.iconst 0, 1) := by decide +kernel
theorem dX7_isSuch_45 : decode cX7_isSuch 45 = .ok (.ireturn, 1) := by decide +kernel
theorem dX7_isSuch_46 : decode cX7_isSuch 46 = .ok (.aload_n 0, 1) := by decide +kernel
theorem dX7_isSuch_47 : decode cX7_isSuch 47 = .ok (.iload_n 1, 1) := by decide +kernel
theorem dX7_isSuch_48 : decode cX7_isSuch 48 = .ok (.iconst 1, 1) := by decide +kernel
theorem dX7_isSuch_49 : decode cX7_isSuch 49 = .ok (.invokevirtual 56, 3) := by decide +kernel

theorem dX7_isSuch_52 : decode cX7_isSuch 52 = .ok (.aload_n 0, 1) := by decide +kernel
theorem dX7_isSuch_53 : decode cX7_isSuch 53 = .ok (.iload_n 1, 1) := by decide +kernel
theorem dX7_isSuch_54 : decode cX7_isSuch 54 = .ok (.iconst 2, 1) := by decide +kernel
theorem dX7_isSuch_55 : decode cX7_isSuch 55 = .ok (.invokevirtual 56, 3) := by decide +kernel
theorem dX7_isSuch_58 : decode cX7_isSuch 58 = .ok (.if_icmp .eq 7, 3) := by decide +kernel
theorem dX7_isSuch_61 : decode cX7_isSuch 61 = .ok (.iconst 1, 1) := by decide +kernel
theorem dX7_isSuch_62 : decode cX7_isSuch 62 = .ok (.goto 4, 3) := by decide +kernel
theorem dX7_isSuch_65 : decode cX7_isSuch 65 = .ok (.iconst 0, 1) := by decide +kernel
theorem dX7_isSuch_66 : decode cX7_isSuch 66 = .ok (.ireturn, 1) := by decide +kernel
theorem dX7_isSuch_67 : decode cX7_isSuch 67 = .ok (.aload_n 0, 1) := by decide +kernel
theorem dX7_isSuch_68 : decode cX7_isSuch 68 = .ok (.iload_n 1, 1) := by decide +kernel
theorem dX7_isSuch_69 : decode cX7_isSuch 69 = .ok (.invokevirtual 198, 3) := by decide +kernel
theorem dX7_isSuch_72 : decode cX7_isSuch 72 = .ok (.ireturn, 1) := by decide +kernel
theorem dX7_isSuch_73 : decode cX7_isSuch 73 = .ok (.aload_n 0, 1) := by decide +kernel
theorem dX7_isSuch_74 : decode cX7_isSuch 74 = .ok (.getfield 82, 3) := by decide +kernel
theorem dX7_isSuch_77 : decode cX7_isSuch 77 = .ok (.iload_n 1, 1) := by decide +kernel
theorem dX7_isSuch_78 : decode cX7_isSuch 78 = .ok (.invokestatic 74, 3) := by decide +kernel
theorem dX7_isSuch_81 : decode cX7_isSuch 81 = .ok (.ireturn, 1) := by decide +kernel
theorem dX7_isSuch_82 : decode cX7_isSuch 82 = .ok (.aload_n 0, 1) := by decide +kernel
theorem dX7_isSuch_83 : decode cX7_isSuch 83 = .ok (.iload_n 1, 1) := by decide +kernel
theorem dX7_isSuch_84 : decode cX7_isSuch 84 = .ok (.invokevirtual 96, 3) := by decide +kernel
theorem dX7_isSuch_87 : decode cX7_isSuch 87 = .ok (.i2l, 1) := by decide +kernel
theorem dX7_isSuch_88 : decode cX7_isSuch 88 = .ok (.aload_n 0, 1) := by decide +kernel
theorem dX7_isSuch_89 : decode cX7_isSuch 89 = .ok (.getfield 7, 3) := by decide +kernel
theorem dX7_isSuch_92 : decode cX7_isSuch 92 = .ok (.iconst 2, 1) := by decide +kernel
theorem dX7_isSuch_93 : decode cX7_isSuch 93 = .ok (.laload, 1) := by decide +kernel
theorem dX7_isSuch_94 : decode cX7_isSuch 94 = .ok (.lcmp, 1) := by decide +kernel
theorem dX7_isSuch_95 : decode cX7_isSuch 95 = .ok (.ifCond .le 7, 3) := by decide +kernel
theorem dX7_isSuch_98 : decode cX7_isSuch 98 = .ok (.iconst 1, 1) := by decide +kernel
theorem dX7_isSuch_99 : decode cX7_isSuch 99 = .ok (.goto 4, 3) := by decide +kernel
theorem dX7_isSuch_102 : decode cX7_isSuch 102 = .ok (.iconst 0, 1) := by decide +kernel
theorem dX7_isSuch_103 : decode cX7_isSuch 103 = .ok (.ireturn, 1) := by decide +kernel
theorem dX7_which_0 : decode cX7_which 0 = .ok (.aload_n 0, 1) := by decide +kernel
theorem dX7_which_1 : decode cX7_which 1 = .ok (.invokevirtual 147, 3) := by decide +kernel
theorem dX7_which_4 : decode cX7_which 4 = .ok (.ifCond .eq 15, 3) := by decide +kernel
theorem dX7_which_7 : decode cX7_which 7 = .ok (.iload_n 1, 1) := by decide +kernel
theorem dX7_which_8 : decode cX7_which 8 = .ok (.i2l, 1) := by decide +kernel
theorem dX7_which_9 : decode cX7_which 9 = .ok (.lconst 0, 1) := by decide +kernel
theorem dX7_which_10 : decode cX7_which 10 = .ok (.ldc2_w 201, 3) := by decide +kernel
theorem dX7_which_13 : decode cX7_which 13 = .ok (.invokestatic 39, 3) := by decide +kernel
theorem dX7_which_16 : decode cX7_which 16 = .ok (.ifCond .ne 7, 3) := by decide +kernel
theorem dX7_which_19 : decode cX7_which 19 = .ok (.ldc2_w 178, 3) := by decide +kernel
theorem dX7_which_22 : decode cX7_which 22 = .ok (.lreturn, 1) := by decide +kernel
theorem dX7_which_23 : decode cX7_which 23 = .ok (.aload_n 0, 1) := by decide +kernel
theorem dX7_which_24 : decode cX7_which 24 = .ok (.invokevirtual 99, 3) := by decide +kernel
theorem dX7_which_27 : decode cX7_which 27 = .ok (.lconst 0, 1) := by decide +kernel
theorem dX7_which_28 : decode cX7_which 28 = .ok (.lstore_n 2, 1) := by decide +kernel
theorem dX7_which_29 : decode cX7_which 29 = .ok (.iconst 0, 1) := by decide +kernel
theorem dX7_which_30 : decode cX7_which 30 = .ok (.istore 4, 2) := by decide +kernel
theorem dX7_which_32 : decode cX7_which 32 = .ok (.iload 4, 2) := by decide +kernel
theorem dX7_which_34 : decode cX7_which 34 = .ok (.aload_n 0, 1) := by decide +kernel
theorem dX7_which_35 : decode cX7_which 35 = .ok (.invokevirtual 53, 3) := by decide +kernel
theorem dX7_which_38 : decode cX7_which 38 = .ok (.if_icmp .ge 26, 3) := by decide +kernel
theorem dX7_which_41 : decode cX7_which 41 = .ok (.aload_n 0, 1) := by decide +kernel
theorem dX7_which_42 : decode cX7_which 42 = .ok (.iload 4, 2) := by decide +kernel
theorem dX7_which_44 : decode cX7_which 44 = .ok (.iload_n 1, 1) := by decide +kernel
theorem dX7_which_45 : decode cX7_which 45 = .ok (.invokevirtual 203, 3) := by decide +kernel
theorem dX7_which_48 : decode cX7_which 48 = .ok (.ifCond .eq 10, 3) := by decide +kernel
theorem dX7_which_51 : decode cX7_which 51 = .ok (.lload_n 2, 1) := by decide +kernel
theorem dX7_which_52 : decode cX7_which 52 = .ok (.lconst 1, 1) := by decide +kernel
theorem dX7_which_53 : decode cX7_which 53 = .ok (.iload 4, 2) := by decide +kernel
theorem dX7_which_55 : decode cX7_which 55 = .ok (.lshl, 1) := by decide +kernel
theorem dX7_which_56 : decode cX7_which 56 = .ok (.lor, 1) := by decide +kernel
theorem dX7_which_57 : decode cX7_which 57 = .ok (.lstore_n 2, 1) := by decide +kernel
theorem dX7_which_58 : decode cX7_which 58 = .ok (.iinc 4 1, 3) := by decide +kernel
theorem dX7_which_61 : decode cX7_which 61 = .ok (.goto (-29), 3) := by decide +kernel
theorem dX7_which_64 : decode cX7_which 64 = .ok (.lload_n 2, 1) := by decide +kernel
theorem dX7_which_65 : decode cX7_which 65 = .ok (.lreturn, 1) := by decide +kernel
theorem dX7_left_0 : decode cX7_left 0 = .ok (.aload_n 0, 1) := by decide +kernel
theorem dX7_left_1 : decode cX7_left 1 = .ok (.invokevirtual 147, 3) := by decide +kernel
theorem dX7_left_4 : decode cX7_left 4 = .ok (.ifCond .eq 15, 3) := by decide +kernel
theorem dX7_left_7 : decode cX7_left 7 = .ok (.iload_n 1, 1) := by decide +kernel
theorem dX7_left_8 : decode cX7_left 8 = .ok (.i2l, 1) := by decide +kernel
theorem dX7_left_9 : decode cX7_left 9 = .ok (.lconst 0, 1) := by decide +kernel
theorem dX7_left_10 : decode cX7_left 10 = .ok (.ldc2_w 206, 3) := by decide +kernel
theorem dX7_left_13 : decode cX7_left 13 = .ok (.invokestatic 39, 3) := by decide +kernel
theorem dX7_left_16 : decode cX7_left 16 = .ok (.ifCond .ne 5, 3) := by decide +kernel
theorem dX7_left_19 : decode cX7_left 19 = .ok (.iconst (-1), 1) := by decide +kernel
theorem dX7_left_20 : decode cX7_left 20 = .ok (.ireturn, 1) := by decide +kernel
theorem dX7_left_21 : decode cX7_left 21 = .ok (.iconst 0, 1) := by decide +kernel
theorem dX7_left_22 : decode cX7_left 22 = .ok (.istore_n 2, 1) := by decide +kernel
theorem dX7_left_23 : decode cX7_left 23 = .ok (.iconst 0, 1) := by decide +kernel
theorem dX7_left_24 : decode cX7_left 24 = .ok (.istore_n 3, 1) := by decide +kernel
theorem dX7_left_25 : decode cX7_left 25 = .ok (.iconst 0, 1) := by decide +kernel
theorem dX7_left_26 : decode cX7_left 26 = .ok (.istore 4, 2) := by decide +kernel
theorem dX7_left_28 : decode cX7_left 28 = .ok (.iconst 0, 1) := by decide +kernel
theorem dX7_left_29 : decode cX7_left 29 = .ok (.istore 5, 2) := by decide +kernel
theorem dX7_left_31 : decode cX7_left 31 = .ok (.iload 5, 2) := by decide +kernel
theorem dX7_left_33 : decode cX7_left 33 = .ok (.aload_n 0, 1) := by decide +kernel
theorem dX7_left_34 : decode cX7_left 34 = .ok (.invokevirtual 53, 3) := by decide +kernel
theorem dX7_left_37 : decode cX7_left 37 = .ok (.if_icmp .ge 53, 3) := by decide +kernel
theorem dX7_left_40 : decode cX7_left 40 = .ok (.iload_n 2, 1) := by decide +kernel
theorem dX7_left_41 : decode cX7_left 41 = .ok (.aload_n 0, 1) := by decide +kernel
theorem dX7_left_42 : decode cX7_left 42 = .ok (.iload 5, 2) := by decide +kernel
theorem dX7_left_44 : decode cX7_left 44 = .ok (.invokevirtual 93, 3) := by decide +kernel
theorem dX7_left_47 : decode cX7_left 47 = .ok (.iadd, 1) := by decide +kernel
theorem dX7_left_48 : decode cX7_left 48 = .ok (.istore_n 2, 1) := by decide +kernel
theorem dX7_left_49 : decode cX7_left 49 = .ok (.iload 4, 2) := by decide +kernel
theorem dX7_left_51 : decode cX7_left 51 = .ok (.aload_n 0, 1) := by decide +kernel
theorem dX7_left_52 : decode cX7_left 52 = .ok (.iload 5, 2) := by decide +kernel
theorem dX7_left_54 : decode cX7_left 54 = .ok (.invokevirtual 93, 3) := by decide +kernel
theorem dX7_left_57 : decode cX7_left 57 = .ok (.aload_n 0, 1) := by decide +kernel
theorem dX7_left_58 : decode cX7_left 58 = .ok (.iload 5, 2) := by decide +kernel
theorem dX7_left_60 : decode cX7_left 60 = .ok (.invokevirtual 96, 3) := by decide +kernel
theorem dX7_left_63 : decode cX7_left 63 = .ok (.imul, 1) := by decide +kernel
theorem dX7_left_64 : decode cX7_left 64 = .ok (.iadd, 1) := by decide +kernel
theorem dX7_left_65 : decode cX7_left 65 = .ok (.istore 4, 2) := by decide +kernel
theorem dX7_left_67 : decode cX7_left 67 = .ok (.aload_n 0, 1) := by decide +kernel
theorem dX7_left_68 : decode cX7_left 68 = .ok (.iload 5, 2) := by decide +kernel
theorem dX7_left_70 : decode cX7_left 70 = .ok (.invokevirtual 93, 3) := by decide +kernel
theorem dX7_left_73 : decode cX7_left 73 = .ok (.iload_n 3, 1) := by decide +kernel
theorem dX7_left_74 : decode cX7_left 74 = .ok (.if_icmp .le 10, 3) := by decide +kernel
theorem dX7_left_77 : decode cX7_left 77 = .ok (.aload_n 0, 1) := by decide +kernel
theorem dX7_left_78 : decode cX7_left 78 = .ok (.iload 5, 2) := by decide +kernel
theorem dX7_left_80 : decode cX7_left 80 = .ok (.invokevirtual 93, 3) := by decide +kernel
theorem dX7_left_83 : decode cX7_left 83 = .ok (.istore_n 3, 1) := by decide +kernel
theorem dX7_left_84 : decode cX7_left 84 = .ok (.iinc 5 1, 3) := by decide +kernel
theorem dX7_left_87 : decode cX7_left 87 = .ok (.goto (-56), 3) := by decide +kernel
theorem dX7_left_90 : decode cX7_left 90 = .ok (.iload 4, 2) := by decide +kernel
theorem dX7_left_92 : decode cX7_left 92 = .ok (.i2l, 1) := by decide +kernel
theorem dX7_left_93 : decode cX7_left 93 = .ok (.aload_n 0, 1) := by decide +kernel
theorem dX7_left_94 : decode cX7_left 94 = .ok (.getfield 7, 3) := by decide +kernel
theorem dX7_left_97 : decode cX7_left 97 = .ok (.iconst 2, 1) := by decide +kernel
theorem dX7_left_98 : decode cX7_left 98 = .ok (.laload, 1) := by decide +kernel
theorem dX7_left_99 : decode cX7_left 99 = .ok (.ladd, 1) := by decide +kernel
theorem dX7_left_100 : decode cX7_left 100 = .ok (.lconst 1, 1) := by decide +kernel
theorem dX7_left_101 : decode cX7_left 101 = .ok (.lsub, 1) := by decide +kernel
theorem dX7_left_102 : decode cX7_left 102 = .ok (.aload_n 0, 1) := by decide +kernel
theorem dX7_left_103 : decode cX7_left 103 = .ok (.getfield 7, 3) := by decide +kernel
theorem dX7_left_106 : decode cX7_left 106 = .ok (.iconst 2, 1) := by decide +kernel
theorem dX7_left_107 : decode cX7_left 107 = .ok (.laload, 1) := by decide +kernel
theorem dX7_left_108 : decode cX7_left 108 = .ok (.ldiv, 1) := by decide +kernel
theorem dX7_left_109 : decode cX7_left 109 = .ok (.l2i, 1) := by decide +kernel
theorem dX7_left_110 : decode cX7_left 110 = .ok (.istore 5, 2) := by decide +kernel
theorem dX7_left_112 : decode cX7_left 112 = .ok (.iload_n 1, 1) := by decide +kernel
theorem dX7_left_113 : decode cX7_left 113 = .ok (.ifCond .ne 7, 3) := by decide +kernel
theorem dX7_left_116 : decode cX7_left 116 = .ok (.iload_n 2, 1) := by decide +kernel
theorem dX7_left_117 : decode cX7_left 117 = .ok (.goto 34, 3) := by decide +kernel
theorem dX7_left_120 : decode cX7_left 120 = .ok (.iload_n 1, 1) := by decide +kernel
theorem dX7_left_121 : decode cX7_left 121 = .ok (.iconst 1, 1) := by decide +kernel
theorem dX7_left_122 : decode cX7_left 122 = .ok (.if_icmp .ne 7, 3) := by decide +kernel
theorem dX7_left_125 : decode cX7_left 125 = .ok (.iload_n 3, 1) := by decide +kernel
theorem dX7_left_126 : decode cX7_left 126 = .ok (.goto 25, 3) := by decide +kernel
theorem dX7_left_129 : decode cX7_left 129 = .ok (.iload_n 1, 1) := by decide +kernel
theorem dX7_left_130 : decode cX7_left 130 = .ok (.iconst 2, 1) := by decide +kernel
theorem dX7_left_131 : decode cX7_left 131 = .ok (.if_icmp .ne 8, 3) := by decide +kernel
theorem dX7_left_134 : decode cX7_left 134 = .ok (.iload 4, 2) := by decide +kernel
theorem dX7_left_136 : decode cX7_left 136 = .ok (.goto 15, 3) := by decide +kernel
theorem dX7_left_139 : decode cX7_left 139 = .ok (.iload 5, 2) := by decide +kernel
theorem dX7_left_141 : decode cX7_left 141 = .ok (.iload_n 3, 1) := by decide +kernel
theorem dX7_left_142 : decode cX7_left 142 = .ok (.if_icmp .le 8, 3) := by decide +kernel
theorem dX7_left_145 : decode cX7_left 145 = .ok (.iload 5, 2) := by decide +kernel
theorem dX7_left_147 : decode cX7_left 147 = .ok (.goto 4, 3) := by decide +kernel
theorem dX7_left_150 : decode cX7_left 150 = .ok (.iload_n 3, 1) := by decide +kernel
theorem dX7_left_151 : decode cX7_left 151 = .ok (.ireturn, 1) := by decide +kernel
theorem dX7_putsAside_0 : decode cX7_putsAside 0 = .ok (.iconst 0, 1) := by decide +kernel
theorem dX7_putsAside_1 : decode cX7_putsAside 1 = .ok (.istore_n 1, 1) := by decide +kernel
theorem dX7_putsAside_2 : decode cX7_putsAside 2 = .ok (.iload_n 1, 1) := by decide +kernel
theorem dX7_putsAside_3 : decode cX7_putsAside 3 = .ok (.sipush 6896, 3) := by decide +kernel
theorem dX7_putsAside_6 : decode cX7_putsAside 6 = .ok (.if_icmp .ge 21, 3) := by decide +kernel
theorem dX7_putsAside_9 : decode cX7_putsAside 9 = .ok (.aload_n 0, 1) := by decide +kernel
theorem dX7_putsAside_10 : decode cX7_putsAside 10 = .ok (.getfield 24, 3) := by decide +kernel
theorem dX7_putsAside_13 : decode cX7_putsAside 13 = .ok (.iload_n 1, 1) := by decide +kernel
theorem dX7_putsAside_14 : decode cX7_putsAside 14 = .ok (.aload_n 0, 1) := by decide +kernel
theorem dX7_putsAside_15 : decode cX7_putsAside 15 = .ok (.getfield 7, 3) := by decide +kernel
theorem dX7_putsAside_18 : decode cX7_putsAside 18 = .ok (.iload_n 1, 1) := by decide +kernel
theorem dX7_putsAside_19 : decode cX7_putsAside 19 = .ok (.laload, 1) := by decide +kernel
theorem dX7_putsAside_20 : decode cX7_putsAside 20 = .ok (.lastore, 1) := by decide +kernel
theorem dX7_putsAside_21 : decode cX7_putsAside 21 = .ok (.iinc 1 1, 3) := by decide +kernel
theorem dX7_putsAside_24 : decode cX7_putsAside 24 = .ok (.goto (-22), 3) := by decide +kernel
theorem dX7_putsAside_27 : decode cX7_putsAside 27 = .ok (.return_, 1) := by decide +kernel
theorem dX7_takesBack_0 : decode cX7_takesBack 0 = .ok (.iconst 0, 1) := by decide +kernel
theorem dX7_takesBack_1 : decode cX7_takesBack 1 = .ok (.istore_n 1, 1) := by decide +kernel
theorem dX7_takesBack_2 : decode cX7_takesBack 2 = .ok (.iload_n 1, 1) := by decide +kernel
theorem dX7_takesBack_3 : decode cX7_takesBack 3 = .ok (.sipush 6896, 3) := by decide +kernel
theorem dX7_takesBack_6 : decode cX7_takesBack 6 = .ok (.if_icmp .ge 21, 3) := by decide +kernel
theorem dX7_takesBack_9 : decode cX7_takesBack 9 = .ok (.aload_n 0, 1) := by decide +kernel
theorem dX7_takesBack_10 : decode cX7_takesBack 10 = .ok (.getfield 7, 3) := by decide +kernel
theorem dX7_takesBack_13 : decode cX7_takesBack 13 = .ok (.iload_n 1, 1) := by decide +kernel
theorem dX7_takesBack_14 : decode cX7_takesBack 14 = .ok (.aload_n 0, 1) := by decide +kernel
theorem dX7_takesBack_15 : decode cX7_takesBack 15 = .ok (.getfield 24, 3) := by decide +kernel
theorem dX7_takesBack_18 : decode cX7_takesBack 18 = .ok (.iload_n 1, 1) := by decide +kernel
theorem dX7_takesBack_19 : decode cX7_takesBack 19 = .ok (.laload, 1) := by decide +kernel
theorem dX7_takesBack_20 : decode cX7_takesBack 20 = .ok (.lastore, 1) := by decide +kernel
theorem dX7_takesBack_21 : decode cX7_takesBack 21 = .ok (.iinc 1 1, 3) := by decide +kernel
theorem dX7_takesBack_24 : decode cX7_takesBack 24 = .ok (.goto (-22), 3) := by decide +kernel
theorem dX7_takesBack_27 : decode cX7_takesBack 27 = .ok (.return_, 1) := by decide +kernel
theorem dX7_others_0 : decode cX7_others 0 = .ok (.iconst 0, 1) := by decide +kernel
theorem dX7_others_1 : decode cX7_others 1 = .ok (.istore_n 1, 1) := by decide +kernel
theorem dX7_others_2 : decode cX7_others 2 = .ok (.iconst 0, 1) := by decide +kernel
theorem dX7_others_3 : decode cX7_others 3 = .ok (.istore_n 2, 1) := by decide +kernel
theorem dX7_others_4 : decode cX7_others 4 = .ok (.iload_n 2, 1) := by decide +kernel
theorem dX7_others_5 : decode cX7_others 5 = .ok (.aload_n 0, 1) := by decide +kernel
theorem dX7_others_6 : decode cX7_others 6 = .ok (.invokevirtual 53, 3) := by decide +kernel
theorem dX7_others_9 : decode cX7_others 9 = .ok (.if_icmp .ge 25, 3) := by decide +kernel
theorem dX7_others_12 : decode cX7_others 12 = .ok (.iload_n 1, 1) := by decide +kernel
theorem dX7_others_13 : decode cX7_others 13 = .ok (.aload_n 0, 1) := by decide +kernel
theorem dX7_others_14 : decode cX7_others 14 = .ok (.iload_n 2, 1) := by decide +kernel
theorem dX7_others_15 : decode cX7_others 15 = .ok (.invokevirtual 198, 3) := by decide +kernel
theorem dX7_others_18 : decode cX7_others 18 = .ok (.ifCond .eq 7, 3) := by decide +kernel
theorem dX7_others_21 : decode cX7_others 21 = .ok (.iconst 1, 1) := by decide +kernel
theorem dX7_others_22 : decode cX7_others 22 = .ok (.goto 4, 3) := by decide +kernel
theorem dX7_others_25 : decode cX7_others 25 = .ok (.iconst 0, 1) := by decide +kernel
theorem dX7_others_26 : decode cX7_others 26 = .ok (.iadd, 1) := by decide +kernel
theorem dX7_others_27 : decode cX7_others 27 = .ok (.istore_n 1, 1) := by decide +kernel
theorem dX7_others_28 : decode cX7_others 28 = .ok (.iinc 2 1, 3) := by decide +kernel
theorem dX7_others_31 : decode cX7_others 31 = .ok (.goto (-27), 3) := by decide +kernel
theorem dX7_others_34 : decode cX7_others 34 = .ok (.iload_n 1, 1) := by decide +kernel
theorem dX7_others_35 : decode cX7_others 35 = .ok (.ireturn, 1) := by decide +kernel
theorem dX7_when_0 : decode cX7_when 0 = .ok (.aload_n 0, 1) := by decide +kernel
theorem dX7_when_1 : decode cX7_when 1 = .ok (.invokevirtual 147, 3) := by decide +kernel
theorem dX7_when_4 : decode cX7_when 4 = .ok (.ifCond .eq 15, 3) := by decide +kernel
theorem dX7_when_7 : decode cX7_when 7 = .ok (.iload_n 1, 1) := by decide +kernel
theorem dX7_when_8 : decode cX7_when 8 = .ok (.i2l, 1) := by decide +kernel
theorem dX7_when_9 : decode cX7_when 9 = .ok (.lconst 0, 1) := by decide +kernel
theorem dX7_when_10 : decode cX7_when 10 = .ok (.ldc2_w 208, 3) := by decide +kernel
theorem dX7_when_13 : decode cX7_when 13 = .ok (.invokestatic 39, 3) := by decide +kernel
theorem dX7_when_16 : decode cX7_when 16 = .ok (.ifCond .ne 5, 3) := by decide +kernel
theorem dX7_when_19 : decode cX7_when 19 = .ok (.iconst (-1), 1) := by decide +kernel
theorem dX7_when_20 : decode cX7_when 20 = .ok (.ireturn, 1) := by decide +kernel
theorem dX7_when_21 : decode cX7_when 21 = .ok (.aload_n 0, 1) := by decide +kernel
theorem dX7_when_22 : decode cX7_when 22 = .ok (.invokevirtual 210, 3) := by decide +kernel
theorem dX7_when_25 : decode cX7_when 25 = .ok (.iconst 0, 1) := by decide +kernel
theorem dX7_when_26 : decode cX7_when 26 = .ok (.istore_n 2, 1) := by decide +kernel
theorem dX7_when_27 : decode cX7_when 27 = .ok (.iconst 0, 1) := by decide +kernel
theorem dX7_when_28 : decode cX7_when 28 = .ok (.istore_n 3, 1) := by decide +kernel
theorem dX7_when_29 : decode cX7_when 29 = .ok (.iconst 0, 1) := by decide +kernel
theorem dX7_when_30 : decode cX7_when 30 = .ok (.istore 4, 2) := by decide +kernel
theorem dX7_when_32 : decode cX7_when 32 = .ok (.aload_n 0, 1) := by decide +kernel
theorem dX7_when_33 : decode cX7_when 33 = .ok (.invokevirtual 156, 3) := by decide +kernel
theorem dX7_when_36 : decode cX7_when 36 = .ok (.ifCond .le 36, 3) := by decide +kernel
theorem dX7_when_39 : decode cX7_when 39 = .ok (.iinc 2 1, 3) := by decide +kernel
theorem dX7_when_42 : decode cX7_when 42 = .ok (.iload_n 3, 1) := by decide +kernel
theorem dX7_when_43 : decode cX7_when 43 = .ok (.aload_n 0, 1) := by decide +kernel
theorem dX7_when_44 : decode cX7_when 44 = .ok (.getfield 86, 3) := by decide +kernel
theorem dX7_when_47 : decode cX7_when 47 = .ok (.aload_n 0, 1) := by decide +kernel
theorem dX7_when_48 : decode cX7_when 48 = .ok (.getfield 86, 3) := by decide +kernel
theorem dX7_when_51 : decode cX7_when 51 = .ok (.imul, 1) := by decide +kernel
theorem dX7_when_52 : decode cX7_when 52 = .ok (.iadd, 1) := by decide +kernel
theorem dX7_when_53 : decode cX7_when 53 = .ok (.istore_n 3, 1) := by decide +kernel
theorem dX7_when_54 : decode cX7_when 54 = .ok (.aload_n 0, 1) := by decide +kernel
theorem dX7_when_55 : decode cX7_when 55 = .ok (.getfield 90, 3) := by decide +kernel
theorem dX7_when_58 : decode cX7_when 58 = .ok (.iload 4, 2) := by decide +kernel
theorem dX7_when_60 : decode cX7_when 60 = .ok (.if_icmp .le (-28), 3) := by decide +kernel
theorem dX7_when_63 : decode cX7_when 63 = .ok (.aload_n 0, 1) := by decide +kernel
theorem dX7_when_64 : decode cX7_when 64 = .ok (.getfield 90, 3) := by decide +kernel
theorem dX7_when_67 : decode cX7_when 67 = .ok (.istore 4, 2) := by decide +kernel
theorem dX7_when_69 : decode cX7_when 69 = .ok (.goto (-37), 3) := by decide +kernel
theorem dX7_when_72 : decode cX7_when 72 = .ok (.aload_n 0, 1) := by decide +kernel
theorem dX7_when_73 : decode cX7_when 73 = .ok (.getfield 7, 3) := by decide +kernel
theorem dX7_when_76 : decode cX7_when 76 = .ok (.bipush 6, 2) := by decide +kernel
theorem dX7_when_78 : decode cX7_when 78 = .ok (.laload, 1) := by decide +kernel
theorem dX7_when_79 : decode cX7_when 79 = .ok (.aload_n 0, 1) := by decide +kernel
theorem dX7_when_80 : decode cX7_when 80 = .ok (.getfield 24, 3) := by decide +kernel
theorem dX7_when_83 : decode cX7_when 83 = .ok (.bipush 6, 2) := by decide +kernel
theorem dX7_when_85 : decode cX7_when 85 = .ok (.laload, 1) := by decide +kernel
theorem dX7_when_86 : decode cX7_when 86 = .ok (.lsub, 1) := by decide +kernel
theorem dX7_when_87 : decode cX7_when 87 = .ok (.l2i, 1) := by decide +kernel
theorem dX7_when_88 : decode cX7_when 88 = .ok (.istore 5, 2) := by decide +kernel
theorem dX7_when_90 : decode cX7_when 90 = .ok (.aload_n 0, 1) := by decide +kernel
theorem dX7_when_91 : decode cX7_when 91 = .ok (.getfield 7, 3) := by decide +kernel
theorem dX7_when_94 : decode cX7_when 94 = .ok (.bipush 7, 2) := by decide +kernel
theorem dX7_when_96 : decode cX7_when 96 = .ok (.laload, 1) := by decide +kernel
theorem dX7_when_97 : decode cX7_when 97 = .ok (.aload_n 0, 1) := by decide +kernel
theorem dX7_when_98 : decode cX7_when 98 = .ok (.getfield 24, 3) := by decide +kernel
theorem dX7_when_101 : decode cX7_when 101 = .ok (.bipush 7, 2) := by decide +kernel
theorem dX7_when_103 : decode cX7_when 103 = .ok (.laload, 1) := by decide +kernel
theorem dX7_when_104 : decode cX7_when 104 = .ok (.lsub, 1) := by decide +kernel
theorem dX7_when_105 : decode cX7_when 105 = .ok (.l2i, 1) := by decide +kernel
theorem dX7_when_106 : decode cX7_when 106 = .ok (.istore 6, 2) := by decide +kernel
theorem dX7_when_108 : decode cX7_when 108 = .ok (.aload_n 0, 1) := by decide +kernel
theorem dX7_when_109 : decode cX7_when 109 = .ok (.invokevirtual 213, 3) := by decide +kernel
theorem dX7_when_112 : decode cX7_when 112 = .ok (.istore 7, 2) := by decide +kernel
theorem dX7_when_114 : decode cX7_when 114 = .ok (.aload_n 0, 1) := by decide +kernel
theorem dX7_when_115 : decode cX7_when 115 = .ok (.invokevirtual 216, 3) := by decide +kernel
theorem dX7_when_118 : decode cX7_when 118 = .ok (.iload_n 1, 1) := by decide +kernel
theorem dX7_when_119 : decode cX7_when 119 = .ok (.tableswitch 46 0 4 #[33, 35, 38, 40, 43], 33) := by decide +kernel
theorem dX7_when_152 : decode cX7_when 152 = .ok (.iload_n 2, 1) := by decide +kernel
theorem dX7_when_153 : decode cX7_when 153 = .ok (.ireturn, 1) := by decide +kernel
theorem dX7_when_154 : decode cX7_when 154 = .ok (.iload 5, 2) := by decide +kernel
theorem dX7_when_156 : decode cX7_when 156 = .ok (.ireturn, 1) := by decide +kernel
theorem dX7_when_157 : decode cX7_when 157 = .ok (.iload_n 3, 1) := by decide +kernel
theorem dX7_when_158 : decode cX7_when 158 = .ok (.ireturn, 1) := by decide +kernel
theorem dX7_when_159 : decode cX7_when 159 = .ok (.iload 4, 2) := by decide +kernel
theorem dX7_when_161 : decode cX7_when 161 = .ok (.ireturn, 1) := by decide +kernel
theorem dX7_when_162 : decode cX7_when 162 = .ok (.iload 7, 2) := by decide +kernel
theorem dX7_when_164 : decode cX7_when 164 = .ok (.ireturn, 1) := by decide +kernel
theorem dX7_when_165 : decode cX7_when 165 = .ok (.iload 6, 2) := by decide +kernel
theorem dX7_when_167 : decode cX7_when 167 = .ok (.ireturn, 1) := by decide +kernel
theorem dX7_total_0 : decode cX7_total 0 = .ok (.aload_n 0, 1) := by decide +kernel
theorem dX7_total_1 : decode cX7_total 1 = .ok (.invokevirtual 147, 3) := by decide +kernel
theorem dX7_total_4 : decode cX7_total 4 = .ok (.ifCond .eq 27, 3) := by decide +kernel
theorem dX7_total_7 : decode cX7_total 7 = .ok (.iload_n 1, 1) := by decide +kernel
theorem dX7_total_8 : decode cX7_total 8 = .ok (.i2l, 1) := by decide +kernel
theorem dX7_total_9 : decode cX7_total 9 = .ok (.lconst 0, 1) := by decide +kernel
theorem dX7_total_10 : decode cX7_total 10 = .ok (.ldc2_w 206, 3) := by decide +kernel
theorem dX7_total_13 : decode cX7_total 13 = .ok (.invokestatic 39, 3) := by decide +kernel
theorem dX7_total_16 : decode cX7_total 16 = .ok (.ifCond .eq 15, 3) := by decide +kernel
theorem dX7_total_19 : decode cX7_total 19 = .ok (.aload_n 0, 1) := by decide +kernel
theorem dX7_total_20 : decode cX7_total 20 = .ok (.getfield 7, 3) := by decide +kernel
theorem dX7_total_23 : decode cX7_total 23 = .ok (.iconst 4, 1) := by decide +kernel
theorem dX7_total_24 : decode cX7_total 24 = .ok (.iload_n 1, 1) := by decide +kernel
theorem dX7_total_25 : decode cX7_total 25 = .ok (.iadd, 1) := by decide +kernel
theorem dX7_total_26 : decode cX7_total 26 = .ok (.laload, 1) := by decide +kernel
theorem dX7_total_27 : decode cX7_total 27 = .ok (.l2i, 1) := by decide +kernel
theorem dX7_total_28 : decode cX7_total 28 = .ok (.goto 4, 3) := by decide +kernel
theorem dX7_total_31 : decode cX7_total 31 = .ok (.iconst (-1), 1) := by decide +kernel
theorem dX7_total_32 : decode cX7_total 32 = .ok (.ireturn, 1) := by decide +kernel
theorem dX7_rests_0 : decode cX7_rests 0 = .ok (.aload_n 0, 1) := by decide +kernel
theorem dX7_rests_1 : decode cX7_rests 1 = .ok (.iload_n 1, 1) := by decide +kernel
theorem dX7_rests_2 : decode cX7_rests 2 = .ok (.invokevirtual 162, 3) := by decide +kernel
theorem dX7_rests_5 : decode cX7_rests 5 = .ok (.ifCond .ne 5, 3) := by decide +kernel
theorem dX7_rests_8 : decode cX7_rests 8 = .ok (.iconst (-1), 1) := by decide +kernel
theorem dX7_rests_9 : decode cX7_rests 9 = .ok (.ireturn, 1) := by decide +kernel
theorem dX7_rests_10 : decode cX7_rests 10 = .ok (.aload_n 0, 1) := by decide +kernel
theorem dX7_rests_11 : decode cX7_rests 11 = .ok (.invokevirtual 210, 3) := by decide +kernel
theorem dX7_rests_14 : decode cX7_rests 14 = .ok (.iconst 0, 1) := by decide +kernel
theorem dX7_rests_15 : decode cX7_rests 15 = .ok (.istore_n 2, 1) := by decide +kernel
theorem dX7_rests_16 : decode cX7_rests 16 = .ok (.aload_n 0, 1) := by decide +kernel
theorem dX7_rests_17 : decode cX7_rests 17 = .ok (.iload_n 1, 1) := by decide +kernel
theorem dX7_rests_18 : decode cX7_rests 18 = .ok (.invokevirtual 93, 3) := by decide +kernel
theorem dX7_rests_21 : decode cX7_rests 21 = .ok (.ifCond .le 23, 3) := by decide +kernel
theorem dX7_rests_24 : decode cX7_rests 24 = .ok (.iload_n 2, 1) := by decide +kernel
theorem dX7_rests_25 : decode cX7_rests 25 = .ok (.sipush 9999, 3) := by decide +kernel
theorem dX7_rests_28 : decode cX7_rests 28 = .ok (.if_icmp .gt 16, 3) := by decide +kernel
theorem dX7_rests_31 : decode cX7_rests 31 = .ok (.aload_n 0, 1) := by decide +kernel
theorem dX7_rests_32 : decode cX7_rests 32 = .ok (.invokevirtual 156, 3) := by decide +kernel
theorem dX7_rests_35 : decode cX7_rests 35 = .ok (.ifCond .le 9, 3) := by decide +kernel
theorem dX7_rests_38 : decode cX7_rests 38 = .ok (.iinc 2 1, 3) := by decide +kernel
theorem dX7_rests_41 : decode cX7_rests 41 = .ok (.goto (-25), 3) := by decide +kernel
theorem dX7_rests_44 : decode cX7_rests 44 = .ok (.aload_n 0, 1) := by decide +kernel
theorem dX7_rests_45 : decode cX7_rests 45 = .ok (.iload_n 1, 1) := by decide +kernel
theorem dX7_rests_46 : decode cX7_rests 46 = .ok (.invokevirtual 93, 3) := by decide +kernel
theorem dX7_rests_49 : decode cX7_rests 49 = .ok (.ifCond .gt 10, 3) := by decide +kernel
theorem dX7_rests_52 : decode cX7_rests 52 = .ok (.iload_n 2, 1) := by decide +kernel
theorem dX7_rests_53 : decode cX7_rests 53 = .ok (.sipush 9999, 3) := by decide +kernel
theorem dX7_rests_56 : decode cX7_rests 56 = .ok (.if_icmp .le 8, 3) := by decide +kernel
theorem dX7_rests_59 : decode cX7_rests 59 = .ok (.bipush (-2), 2) := by decide +kernel
theorem dX7_rests_61 : decode cX7_rests 61 = .ok (.goto 4, 3) := by decide +kernel
theorem dX7_rests_64 : decode cX7_rests 64 = .ok (.iload_n 2, 1) := by decide +kernel
theorem dX7_rests_65 : decode cX7_rests 65 = .ok (.istore_n 3, 1) := by decide +kernel
theorem dX7_rests_66 : decode cX7_rests 66 = .ok (.aload_n 0, 1) := by decide +kernel
theorem dX7_rests_67 : decode cX7_rests 67 = .ok (.invokevirtual 216, 3) := by decide +kernel
theorem dX7_rests_70 : decode cX7_rests 70 = .ok (.iload_n 3, 1) := by decide +kernel
theorem dX7_rests_71 : decode cX7_rests 71 = .ok (.ireturn, 1) := by decide +kernel
theorem dX7_unlike_0 : decode cX7_unlike 0 = .ok (.aload_n 0, 1) := by decide +kernel
theorem dX7_unlike_1 : decode cX7_unlike 1 = .ok (.iload_n 1, 1) := by decide +kernel
theorem dX7_unlike_2 : decode cX7_unlike 2 = .ok (.invokevirtual 138, 3) := by decide +kernel
theorem dX7_unlike_5 : decode cX7_unlike 5 = .ok (.ifCond .eq 16, 3) := by decide +kernel
theorem dX7_unlike_8 : decode cX7_unlike 8 = .ok (.aload_n 0, 1) := by decide +kernel
theorem dX7_unlike_9 : decode cX7_unlike 9 = .ok (.iload_n 2, 1) := by decide +kernel
theorem dX7_unlike_10 : decode cX7_unlike 10 = .ok (.invokevirtual 138, 3) := by decide +kernel
theorem dX7_unlike_13 : decode cX7_unlike 13 = .ok (.ifCond .eq 8, 3) := by decide +kernel
theorem dX7_unlike_16 : decode cX7_unlike 16 = .ok (.iload_n 1, 1) := by decide +kernel
theorem dX7_unlike_17 : decode cX7_unlike 17 = .ok (.iload_n 2, 1) := by decide +kernel
theorem dX7_unlike_18 : decode cX7_unlike 18 = .ok (.if_icmp .ne 5, 3) := by decide +kernel
theorem dX7_unlike_21 : decode cX7_unlike 21 = .ok (.iconst (-1), 1) := by decide +kernel
theorem dX7_unlike_22 : decode cX7_unlike 22 = .ok (.ireturn, 1) := by decide +kernel
theorem dX7_unlike_23 : decode cX7_unlike 23 = .ok (.iconst 0, 1) := by decide +kernel
theorem dX7_unlike_24 : decode cX7_unlike 24 = .ok (.istore_n 3, 1) := by decide +kernel
theorem dX7_unlike_25 : decode cX7_unlike 25 = .ok (.iconst 0, 1) := by decide +kernel
theorem dX7_unlike_26 : decode cX7_unlike 26 = .ok (.istore 4, 2) := by decide +kernel
theorem dX7_unlike_28 : decode cX7_unlike 28 = .ok (.iload 4, 2) := by decide +kernel
theorem dX7_unlike_30 : decode cX7_unlike 30 = .ok (.aload_n 0, 1) := by decide +kernel
theorem dX7_unlike_31 : decode cX7_unlike 31 = .ok (.invokevirtual 47, 3) := by decide +kernel
theorem dX7_unlike_34 : decode cX7_unlike 34 = .ok (.if_icmp .ge 48, 3) := by decide +kernel
theorem dX7_unlike_37 : decode cX7_unlike 37 = .ok (.iload_n 3, 1) := by decide +kernel
theorem dX7_unlike_38 : decode cX7_unlike 38 = .ok (.aload_n 0, 1) := by decide +kernel
theorem dX7_unlike_39 : decode cX7_unlike 39 = .ok (.aload_n 0, 1) := by decide +kernel
theorem dX7_unlike_40 : decode cX7_unlike 40 = .ok (.invokevirtual 47, 3) := by decide +kernel
theorem dX7_unlike_43 : decode cX7_unlike 43 = .ok (.iload_n 1, 1) := by decide +kernel
theorem dX7_unlike_44 : decode cX7_unlike 44 = .ok (.imul, 1) := by decide +kernel
theorem dX7_unlike_45 : decode cX7_unlike 45 = .ok (.iload 4, 2) := by decide +kernel
theorem dX7_unlike_47 : decode cX7_unlike 47 = .ok (.iadd, 1) := by decide +kernel
theorem dX7_unlike_48 : decode cX7_unlike 48 = .ok (.iconst 2, 1) := by decide +kernel
theorem dX7_unlike_49 : decode cX7_unlike 49 = .ok (.invokevirtual 195, 3) := by decide +kernel
theorem dX7_unlike_52 : decode cX7_unlike 52 = .ok (.aload_n 0, 1) := by decide +kernel
theorem dX7_unlike_53 : decode cX7_unlike 53 = .ok (.aload_n 0, 1) := by decide +kernel
theorem dX7_unlike_54 : decode cX7_unlike 54 = .ok (.invokevirtual 47, 3) := by decide +kernel
theorem dX7_unlike_57 : decode cX7_unlike 57 = .ok (.iload_n 2, 1) := by decide +kernel
theorem dX7_unlike_58 : decode cX7_unlike 58 = .ok (.imul, 1) := by decide +kernel
theorem dX7_unlike_59 : decode cX7_unlike 59 = .ok (.iload 4, 2) := by decide +kernel
theorem dX7_unlike_61 : decode cX7_unlike 61 = .ok (.iadd, 1) := by decide +kernel
theorem dX7_unlike_62 : decode cX7_unlike 62 = .ok (.iconst 2, 1) := by decide +kernel
theorem dX7_unlike_63 : decode cX7_unlike 63 = .ok (.invokevirtual 195, 3) := by decide +kernel
theorem dX7_unlike_66 : decode cX7_unlike 66 = .ok (.if_icmp .eq 7, 3) := by decide +kernel
theorem dX7_unlike_69 : decode cX7_unlike 69 = .ok (.iconst 1, 1) := by decide +kernel
theorem dX7_unlike_70 : decode cX7_unlike 70 = .ok (.goto 4, 3) := by decide +kernel
theorem dX7_unlike_73 : decode cX7_unlike 73 = .ok (.iconst 0, 1) := by decide +kernel
theorem dX7_unlike_74 : decode cX7_unlike 74 = .ok (.iadd, 1) := by decide +kernel
theorem dX7_unlike_75 : decode cX7_unlike 75 = .ok (.istore_n 3, 1) := by decide +kernel
theorem dX7_unlike_76 : decode cX7_unlike 76 = .ok (.iinc 4 1, 3) := by decide +kernel
theorem dX7_unlike_79 : decode cX7_unlike 79 = .ok (.goto (-51), 3) := by decide +kernel
theorem dX7_unlike_82 : decode cX7_unlike 82 = .ok (.iload_n 3, 1) := by decide +kernel
theorem dX7_unlike_83 : decode cX7_unlike 83 = .ok (.ireturn, 1) := by decide +kernel
theorem dX7_digest_0 : decode cX7_digest 0 = .ok (.ldc2_w 219, 3) := by decide +kernel
theorem dX7_digest_3 : decode cX7_digest 3 = .ok (.lstore_n 1, 1) := by decide +kernel
theorem dX7_digest_4 : decode cX7_digest 4 = .ok (.iconst 0, 1) := by decide +kernel
theorem dX7_digest_5 : decode cX7_digest 5 = .ok (.istore_n 3, 1) := by decide +kernel
theorem dX7_digest_6 : decode cX7_digest 6 = .ok (.iload_n 3, 1) := by decide +kernel
theorem dX7_digest_7 : decode cX7_digest 7 = .ok (.aload_n 0, 1) := by decide +kernel
theorem dX7_digest_8 : decode cX7_digest 8 = .ok (.invokevirtual 53, 3) := by decide +kernel
theorem dX7_digest_11 : decode cX7_digest 11 = .ok (.if_icmp .ge 51, 3) := by decide +kernel
theorem dX7_digest_14 : decode cX7_digest 14 = .ok (.iconst 0, 1) := by decide +kernel
theorem dX7_digest_15 : decode cX7_digest 15 = .ok (.istore 4, 2) := by decide +kernel
theorem dX7_digest_17 : decode cX7_digest 17 = .ok (.iload 4, 2) := by decide +kernel
theorem dX7_digest_19 : decode cX7_digest 19 = .ok (.iconst 4, 1) := by decide +kernel
theorem dX7_digest_20 : decode cX7_digest 20 = .ok (.if_icmp .gt 24, 3) := by decide +kernel
theorem dX7_digest_23 : decode cX7_digest 23 = .ok (.ldc2_w 221, 3) := by decide +kernel
theorem dX7_digest_26 : decode cX7_digest 26 = .ok (.lload_n 1, 1) := by decide +kernel
theorem dX7_digest_27 : decode cX7_digest 27 = .ok (.lmul, 1) := by decide +kernel
theorem dX7_digest_28 : decode cX7_digest 28 = .ok (.aload_n 0, 1) := by decide +kernel
theorem dX7_digest_29 : decode cX7_digest 29 = .ok (.iload_n 3, 1) := by decide +kernel
theorem dX7_digest_30 : decode cX7_digest 30 = .ok (.iload 4, 2) := by decide +kernel
theorem dX7_digest_32 : decode cX7_digest 32 = .ok (.invokevirtual 56, 3) := by decide +kernel
theorem dX7_digest_35 : decode cX7_digest 35 = .ok (.i2l, 1) := by decide +kernel
theorem dX7_digest_36 : decode cX7_digest 36 = .ok (.ladd, 1) := by decide +kernel
theorem dX7_digest_37 : decode cX7_digest 37 = .ok (.lstore_n 1, 1) := by decide +kernel
theorem dX7_digest_38 : decode cX7_digest 38 = .ok (.iinc 4 1, 3) := by decide +kernel
theorem dX7_digest_41 : decode cX7_digest 41 = .ok (.goto (-24), 3) := by decide +kernel
theorem dX7_digest_44 : decode cX7_digest 44 = .ok (.ldc2_w 221, 3) := by decide +kernel
theorem dX7_digest_47 : decode cX7_digest 47 = .ok (.lload_n 1, 1) := by decide +kernel
theorem dX7_digest_48 : decode cX7_digest 48 = .ok (.lmul, 1) := by decide +kernel
theorem dX7_digest_49 : decode cX7_digest 49 = .ok (.aload_n 0, 1) := by decide +kernel
theorem dX7_digest_50 : decode cX7_digest 50 = .ok (.iload_n 3, 1) := by decide +kernel
theorem dX7_digest_51 : decode cX7_digest 51 = .ok (.invokevirtual 109, 3) := by decide +kernel
theorem dX7_digest_54 : decode cX7_digest 54 = .ok (.ladd, 1) := by decide +kernel
theorem dX7_digest_55 : decode cX7_digest 55 = .ok (.lstore_n 1, 1) := by decide +kernel
theorem dX7_digest_56 : decode cX7_digest 56 = .ok (.iinc 3 1, 3) := by decide +kernel
theorem dX7_digest_59 : decode cX7_digest 59 = .ok (.goto (-53), 3) := by decide +kernel
theorem dX7_digest_62 : decode cX7_digest 62 = .ok (.lload_n 1, 1) := by decide +kernel
theorem dX7_digest_63 : decode cX7_digest 63 = .ok (.lreturn, 1) := by decide +kernel
theorem dX7_letter_0 : decode cX7_letter 0 = .ok (.iload_n 1, 1) := by decide +kernel
theorem dX7_letter_1 : decode cX7_letter 1 = .ok (.i2l, 1) := by decide +kernel
theorem dX7_letter_2 : decode cX7_letter 2 = .ok (.lconst 0, 1) := by decide +kernel
theorem dX7_letter_3 : decode cX7_letter 3 = .ok (.lconst 1, 1) := by decide +kernel
theorem dX7_letter_4 : decode cX7_letter 4 = .ok (.invokestatic 39, 3) := by decide +kernel
theorem dX7_letter_7 : decode cX7_letter 7 = .ok (.ifCond .eq 8, 3) := by decide +kernel
theorem dX7_letter_10 : decode cX7_letter 10 = .ok (.iload_n 2, 1) := by decide +kernel
theorem dX7_letter_11 : decode cX7_letter 11 = .ok (.iconst (-1), 1) := by decide +kernel
theorem dX7_letter_12 : decode cX7_letter 12 = .ok (.if_icmp .ge 5, 3) := by decide +kernel
theorem dX7_letter_15 : decode cX7_letter 15 = .ok (.iconst (-1), 1) := by decide +kernel
theorem dX7_letter_16 : decode cX7_letter 16 = .ok (.ireturn, 1) := by decide +kernel
theorem dX7_letter_17 : decode cX7_letter 17 = .ok (.aload_n 0, 1) := by decide +kernel
theorem dX7_letter_18 : decode cX7_letter 18 = .ok (.invokevirtual 53, 3) := by decide +kernel
theorem dX7_letter_21 : decode cX7_letter 21 = .ok (.ifCond .ne 7, 3) := by decide +kernel
theorem dX7_letter_24 : decode cX7_letter 24 = .ok (.iconst 0, 1) := by decide +kernel
theorem dX7_letter_25 : decode cX7_letter 25 = .ok (.goto 16, 3) := by decide +kernel
theorem dX7_letter_28 : decode cX7_letter 28 = .ok (.aload_n 0, 1) := by decide +kernel
theorem dX7_letter_29 : decode cX7_letter 29 = .ok (.invokevirtual 47, 3) := by decide +kernel
theorem dX7_letter_32 : decode cX7_letter 32 = .ok (.iconst 1, 1) := by decide +kernel
theorem dX7_letter_33 : decode cX7_letter 33 = .ok (.iadd, 1) := by decide +kernel
theorem dX7_letter_34 : decode cX7_letter 34 = .ok (.aload_n 0, 1) := by decide +kernel
theorem dX7_letter_35 : decode cX7_letter 35 = .ok (.invokevirtual 43, 3) := by decide +kernel
theorem dX7_letter_38 : decode cX7_letter 38 = .ok (.imul, 1) := by decide +kernel
theorem dX7_letter_39 : decode cX7_letter 39 = .ok (.iconst 1, 1) := by decide +kernel
theorem dX7_letter_40 : decode cX7_letter 40 = .ok (.isub, 1) := by decide +kernel
theorem dX7_letter_41 : decode cX7_letter 41 = .ok (.istore_n 3, 1) := by decide +kernel
theorem dX7_letter_42 : decode cX7_letter 42 = .ok (.iload_n 2, 1) := by decide +kernel
theorem dX7_letter_43 : decode cX7_letter 43 = .ok (.iconst (-1), 1) := by decide +kernel
theorem dX7_letter_44 : decode cX7_letter 44 = .ok (.if_icmp .ne 5, 3) := by decide +kernel
theorem dX7_letter_47 : decode cX7_letter 47 = .ok (.iload_n 3, 1) := by decide +kernel
theorem dX7_letter_48 : decode cX7_letter 48 = .ok (.ireturn, 1) := by decide +kernel
theorem dX7_letter_49 : decode cX7_letter 49 = .ok (.iload_n 2, 1) := by decide +kernel
theorem dX7_letter_50 : decode cX7_letter 50 = .ok (.iload_n 3, 1) := by decide +kernel
theorem dX7_letter_51 : decode cX7_letter 51 = .ok (.if_icmp .lt 6, 3) := by decide +kernel
theorem dX7_letter_54 : decode cX7_letter 54 = .ok (.bipush (-2), 2) := by decide +kernel
theorem dX7_letter_56 : decode cX7_letter 56 = .ok (.ireturn, 1) := by decide +kernel
theorem dX7_letter_57 : decode cX7_letter 57 = .ok (.iload_n 2, 1) := by decide +kernel
theorem dX7_letter_58 : decode cX7_letter 58 = .ok (.aload_n 0, 1) := by decide +kernel
theorem dX7_letter_59 : decode cX7_letter 59 = .ok (.invokevirtual 47, 3) := by decide +kernel
theorem dX7_letter_62 : decode cX7_letter 62 = .ok (.iconst 1, 1) := by decide +kernel
theorem dX7_letter_63 : decode cX7_letter 63 = .ok (.iadd, 1) := by decide +kernel
theorem dX7_letter_64 : decode cX7_letter 64 = .ok (.irem, 1) := by decide +kernel
theorem dX7_letter_65 : decode cX7_letter 65 = .ok (.istore 4, 2) := by decide +kernel
theorem dX7_letter_67 : decode cX7_letter 67 = .ok (.iload 4, 2) := by decide +kernel
theorem dX7_letter_69 : decode cX7_letter 69 = .ok (.aload_n 0, 1) := by decide +kernel
theorem dX7_letter_70 : decode cX7_letter 70 = .ok (.invokevirtual 47, 3) := by decide +kernel
theorem dX7_letter_73 : decode cX7_letter 73 = .ok (.if_icmp .ne 8, 3) := by decide +kernel
theorem dX7_letter_76 : decode cX7_letter 76 = .ok (.bipush 47, 2) := by decide +kernel
theorem dX7_letter_78 : decode cX7_letter 78 = .ok (.goto 26, 3) := by decide +kernel
theorem dX7_letter_81 : decode cX7_letter 81 = .ok (.aload_n 0, 1) := by decide +kernel
theorem dX7_letter_82 : decode cX7_letter 82 = .ok (.iload_n 2, 1) := by decide +kernel
theorem dX7_letter_83 : decode cX7_letter 83 = .ok (.aload_n 0, 1) := by decide +kernel
theorem dX7_letter_84 : decode cX7_letter 84 = .ok (.invokevirtual 47, 3) := by decide +kernel
theorem dX7_letter_87 : decode cX7_letter 87 = .ok (.iconst 1, 1) := by decide +kernel
theorem dX7_letter_88 : decode cX7_letter 88 = .ok (.iadd, 1) := by decide +kernel
theorem dX7_letter_89 : decode cX7_letter 89 = .ok (.idiv, 1) := by decide +kernel
theorem dX7_letter_90 : decode cX7_letter 90 = .ok (.aload_n 0, 1) := by decide +kernel
theorem dX7_letter_91 : decode cX7_letter 91 = .ok (.invokevirtual 47, 3) := by decide +kernel
theorem dX7_letter_94 : decode cX7_letter 94 = .ok (.imul, 1) := by decide +kernel
theorem dX7_letter_95 : decode cX7_letter 95 = .ok (.iload 4, 2) := by decide +kernel
theorem dX7_letter_97 : decode cX7_letter 97 = .ok (.iadd, 1) := by decide +kernel
theorem dX7_letter_98 : decode cX7_letter 98 = .ok (.iconst 2, 1) := by decide +kernel
theorem dX7_letter_99 : decode cX7_letter 99 = .ok (.iload_n 1, 1) := by decide +kernel
theorem dX7_letter_100 : decode cX7_letter 100 = .ok (.imul, 1) := by decide +kernel
theorem dX7_letter_101 : decode cX7_letter 101 = .ok (.invokevirtual 195, 3) := by decide +kernel
theorem dX7_letter_104 : decode cX7_letter 104 = .ok (.ireturn, 1) := by decide +kernel
theorem dX7_count_0 : decode cX7_count 0 = .ok (.iload_n 1, 1) := by decide +kernel
theorem dX7_count_1 : decode cX7_count 1 = .ok (.tableswitch 128 0 8 #[51, 56, 61, 66, 74, 79, 84, 89, 119], 51) := by decide +kernel
theorem dX7_count_52 : decode cX7_count 52 = .ok (.aload_n 0, 1) := by decide +kernel
theorem dX7_count_53 : decode cX7_count 53 = .ok (.invokevirtual 43, 3) := by decide +kernel
theorem dX7_count_56 : decode cX7_count 56 = .ok (.ireturn, 1) := by decide +kernel
theorem dX7_count_57 : decode cX7_count 57 = .ok (.aload_n 0, 1) := by decide +kernel
theorem dX7_count_58 : decode cX7_count 58 = .ok (.invokevirtual 47, 3) := by decide +kernel
theorem dX7_count_61 : decode cX7_count 61 = .ok (.ireturn, 1) := by decide +kernel
theorem dX7_count_62 : decode cX7_count 62 = .ok (.aload_n 0, 1) := by decide +kernel
theorem dX7_count_63 : decode cX7_count 63 = .ok (.invokevirtual 53, 3) := by decide +kernel
theorem dX7_count_66 : decode cX7_count 66 = .ok (.ireturn, 1) := by decide +kernel
theorem dX7_count_67 : decode cX7_count 67 = .ok (.aload_n 0, 1) := by decide +kernel
theorem dX7_count_68 : decode cX7_count 68 = .ok (.getfield 7, 3) := by decide +kernel
theorem dX7_count_71 : decode cX7_count 71 = .ok (.iconst 2, 1) := by decide +kernel
theorem dX7_count_72 : decode cX7_count 72 = .ok (.laload, 1) := by decide +kernel
theorem dX7_count_73 : decode cX7_count 73 = .ok (.l2i, 1) := by decide +kernel
theorem dX7_count_74 : decode cX7_count 74 = .ok (.ireturn, 1) := by decide +kernel
theorem dX7_count_75 : decode cX7_count 75 = .ok (.aload_n 0, 1) := by decide +kernel
theorem dX7_count_76 : decode cX7_count 76 = .ok (.invokevirtual 50, 3) := by decide +kernel
theorem dX7_count_79 : decode cX7_count 79 = .ok (.ireturn, 1) := by decide +kernel
theorem dX7_count_80 : decode cX7_count 80 = .ok (.aload_n 0, 1) := by decide +kernel
theorem dX7_count_81 : decode cX7_count 81 = .ok (.getfield 124, 3) := by decide +kernel
theorem dX7_count_84 : decode cX7_count 84 = .ok (.ireturn, 1) := by decide +kernel
theorem dX7_count_85 : decode cX7_count 85 = .ok (.aload_n 0, 1) := by decide +kernel
theorem dX7_count_86 : decode cX7_count 86 = .ok (.getfield 135, 3) := by decide +kernel
theorem dX7_count_89 : decode cX7_count 89 = .ok (.ireturn, 1) := by decide +kernel
theorem dX7_count_90 : decode cX7_count 90 = .ok (.aload_n 0, 1) := by decide +kernel
theorem dX7_count_91 : decode cX7_count 91 = .ok (.getfield 20, 3) := by decide +kernel
theorem dX7_count_94 : decode cX7_count 94 = .ok (.iconst 0, 1) := by decide +kernel
theorem dX7_count_95 : decode cX7_count 95 = .ok (.baload, 1) := by decide +kernel
theorem dX7_count_96 : decode cX7_count 96 = .ok (.ifCond .eq 7, 3) := by decide +kernel
theorem dX7_count_99 : decode cX7_count 99 = .ok (.iconst 1, 1) := by decide +kernel
theorem dX7_count_100 : decode cX7_count 100 = .ok (.goto 4, 3) := by decide +kernel
theorem dX7_count_103 : decode cX7_count 103 = .ok (.iconst 0, 1) := by decide +kernel
theorem dX7_count_104 : decode cX7_count 104 = .ok (.aload_n 0, 1) := by decide +kernel
theorem dX7_count_105 : decode cX7_count 105 = .ok (.getfield 20, 3) := by decide +kernel
theorem dX7_count_108 : decode cX7_count 108 = .ok (.iconst 1, 1) := by decide +kernel
theorem dX7_count_109 : decode cX7_count 109 = .ok (.baload, 1) := by decide +kernel
theorem dX7_count_110 : decode cX7_count 110 = .ok (.ifCond .eq 7, 3) := by decide +kernel
theorem dX7_count_113 : decode cX7_count 113 = .ok (.iconst 2, 1) := by decide +kernel
theorem dX7_count_114 : decode cX7_count 114 = .ok (.goto 4, 3) := by decide +kernel
theorem dX7_count_117 : decode cX7_count 117 = .ok (.iconst 0, 1) := by decide +kernel
theorem dX7_count_118 : decode cX7_count 118 = .ok (.iadd, 1) := by decide +kernel
theorem dX7_count_119 : decode cX7_count 119 = .ok (.ireturn, 1) := by decide +kernel
theorem dX7_count_120 : decode cX7_count 120 = .ok (.aload_n 0, 1) := by decide +kernel
theorem dX7_count_121 : decode cX7_count 121 = .ok (.invokevirtual 99, 3) := by decide +kernel
theorem dX7_count_124 : decode cX7_count 124 = .ok (.aload_n 0, 1) := by decide +kernel
theorem dX7_count_125 : decode cX7_count 125 = .ok (.getfield 86, 3) := by decide +kernel
theorem dX7_count_128 : decode cX7_count 128 = .ok (.ireturn, 1) := by decide +kernel
theorem dX7_count_129 : decode cX7_count 129 = .ok (.iconst (-1), 1) := by decide +kernel
theorem dX7_count_130 : decode cX7_count 130 = .ok (.ireturn, 1) := by decide +kernel
theorem dX7_asks_0 : decode cX7_asks 0 = .ok (.aload_n 0, 1) := by decide +kernel
theorem dX7_asks_1 : decode cX7_asks 1 = .ok (.iconst 0, 1) := by decide +kernel
theorem dX7_asks_2 : decode cX7_asks 2 = .ok (.putfield 223, 3) := by decide +kernel
theorem dX7_asks_5 : decode cX7_asks 5 = .ok (.aload_n 0, 1) := by decide +kernel
theorem dX7_asks_6 : decode cX7_asks 6 = .ok (.iconst 0, 1) := by decide +kernel
theorem dX7_asks_7 : decode cX7_asks 7 = .ok (.putfield 226, 3) := by decide +kernel
theorem dX7_asks_10 : decode cX7_asks 10 = .ok (.iconst 0, 1) := by decide +kernel
theorem dX7_asks_11 : decode cX7_asks 11 = .ok (.istore 5, 2) := by decide +kernel
theorem dX7_asks_13 : decode cX7_asks 13 = .ok (.iload 5, 2) := by decide +kernel
theorem dX7_asks_15 : decode cX7_asks 15 = .ok (.aload_n 0, 1) := by decide +kernel
theorem dX7_asks_16 : decode cX7_asks 16 = .ok (.invokevirtual 47, 3) := by decide +kernel
theorem dX7_asks_19 : decode cX7_asks 19 = .ok (.if_icmp .ge 116, 3) := by decide +kernel
theorem dX7_asks_22 : decode cX7_asks 22 = .ok (.aload_n 0, 1) := by decide +kernel
theorem dX7_asks_23 : decode cX7_asks 23 = .ok (.invokevirtual 47, 3) := by decide +kernel
theorem dX7_asks_26 : decode cX7_asks 26 = .ok (.iload_n 1, 1) := by decide +kernel
theorem dX7_asks_27 : decode cX7_asks 27 = .ok (.imul, 1) := by decide +kernel
theorem dX7_asks_28 : decode cX7_asks 28 = .ok (.iload 5, 2) := by decide +kernel
theorem dX7_asks_30 : decode cX7_asks 30 = .ok (.iadd, 1) := by decide +kernel
theorem dX7_asks_31 : decode cX7_asks 31 = .ok (.istore 6, 2) := by decide +kernel
theorem dX7_asks_33 : decode cX7_asks 33 = .ok (.iload 5, 2) := by decide +kernel
theorem dX7_asks_35 : decode cX7_asks 35 = .ok (.iload_n 2, 1) := by decide +kernel
theorem dX7_asks_36 : decode cX7_asks 36 = .ok (.if_icmp .lt 16, 3) := by decide +kernel
theorem dX7_asks_39 : decode cX7_asks 39 = .ok (.iload 5, 2) := by decide +kernel
theorem dX7_asks_41 : decode cX7_asks 41 = .ok (.iload_n 2, 1) := by decide +kernel
theorem dX7_asks_42 : decode cX7_asks 42 = .ok (.iload 4, 2) := by decide +kernel
theorem dX7_asks_44 : decode cX7_asks 44 = .ok (.iadd, 1) := by decide +kernel
theorem dX7_asks_45 : decode cX7_asks 45 = .ok (.if_icmp .ge 7, 3) := by decide +kernel
theorem dX7_asks_48 : decode cX7_asks 48 = .ok (.iconst 1, 1) := by decide +kernel
theorem dX7_asks_49 : decode cX7_asks 49 = .ok (.goto 4, 3) := by decide +kernel
theorem dX7_asks_52 : decode cX7_asks 52 = .ok (.iconst 0, 1) := by decide +kernel
theorem dX7_asks_53 : decode cX7_asks 53 = .ok (.istore 7, 2) := by decide +kernel
theorem dX7_asks_55 : decode cX7_asks 55 = .ok (.iload 7, 2) := by decide +kernel
theorem dX7_asks_57 : decode cX7_asks 57 = .ok (.ifCond .eq 23, 3) := by decide +kernel
theorem dX7_asks_60 : decode cX7_asks 60 = .ok (.aload_n 0, 1) := by decide +kernel
theorem dX7_asks_61 : decode cX7_asks 61 = .ok (.iload 6, 2) := by decide +kernel
theorem dX7_asks_63 : decode cX7_asks 63 = .ok (.aload_n 0, 1) := by decide +kernel
theorem dX7_asks_64 : decode cX7_asks 64 = .ok (.getfield 31, 3) := by decide +kernel
theorem dX7_asks_67 : decode cX7_asks 67 = .ok (.iload_n 3, 1) := by decide +kernel
theorem dX7_asks_68 : decode cX7_asks 68 = .ok (.iload 5, 2) := by decide +kernel
theorem dX7_asks_70 : decode cX7_asks 70 = .ok (.iadd, 1) := by decide +kernel
theorem dX7_asks_71 : decode cX7_asks 71 = .ok (.iload_n 2, 1) := by decide +kernel
theorem dX7_asks_72 : decode cX7_asks 72 = .ok (.isub, 1) := by decide +kernel
theorem dX7_asks_73 : decode cX7_asks 73 = .ok (.baload, 1) := by decide +kernel
theorem dX7_asks_74 : decode cX7_asks 74 = .ok (.invokevirtual 113, 3) := by decide +kernel
theorem dX7_asks_77 : decode cX7_asks 77 = .ok (.goto 4, 3) := by decide +kernel
theorem dX7_asks_80 : decode cX7_asks 80 = .ok (.iconst 0, 1) := by decide +kernel
theorem dX7_asks_81 : decode cX7_asks 81 = .ok (.istore 8, 2) := by decide +kernel
theorem dX7_asks_83 : decode cX7_asks 83 = .ok (.iload 8, 2) := by decide +kernel
theorem dX7_asks_85 : decode cX7_asks 85 = .ok (.iconst (-1), 1) := by decide +kernel
theorem dX7_asks_86 : decode cX7_asks 86 = .ok (.if_icmp .ne 16, 3) := by decide +kernel
theorem dX7_asks_89 : decode cX7_asks 89 = .ok (.aload_n 0, 1) := by decide +kernel
theorem dX7_asks_90 : decode cX7_asks 90 = .ok (.dup, 1) := by decide +kernel
theorem dX7_asks_91 : decode cX7_asks 91 = .ok (.getfield 226, 3) := by decide +kernel
theorem dX7_asks_94 : decode cX7_asks 94 = .ok (.iconst 1, 1) := by decide +kernel
theorem dX7_asks_95 : decode cX7_asks 95 = .ok (.iadd, 1) := by decide +kernel
theorem dX7_asks_96 : decode cX7_asks 96 = .ok (.putfield 226, 3) := by decide +kernel
theorem dX7_asks_99 : decode cX7_asks 99 = .ok (.goto 30, 3) := by decide +kernel
theorem dX7_asks_102 : decode cX7_asks 102 = .ok (.aload_n 0, 1) := by decide +kernel
theorem dX7_asks_103 : decode cX7_asks 103 = .ok (.dup, 1) := by decide +kernel
theorem dX7_asks_104 : decode cX7_asks 104 = .ok (.getfield 223, 3) := by decide +kernel
theorem dX7_asks_107 : decode cX7_asks 107 = .ok (.aload_n 0, 1) := by decide +kernel
theorem dX7_asks_108 : decode cX7_asks 108 = .ok (.iload 6, 2) := by decide +kernel
theorem dX7_asks_110 : decode cX7_asks 110 = .ok (.iconst 2, 1) := by decide +kernel
theorem dX7_asks_111 : decode cX7_asks 111 = .ok (.invokevirtual 56, 3) := by decide +kernel
theorem dX7_asks_114 : decode cX7_asks 114 = .ok (.iload 8, 2) := by decide +kernel
theorem dX7_asks_116 : decode cX7_asks 116 = .ok (.aload_n 0, 1) := by decide +kernel
theorem dX7_asks_117 : decode cX7_asks 117 = .ok (.iload 6, 2) := by decide +kernel
theorem dX7_asks_119 : decode cX7_asks 119 = .ok (.invokevirtual 67, 3) := by decide +kernel
theorem dX7_asks_122 : decode cX7_asks 122 = .ok (.invokestatic 70, 3) := by decide +kernel
theorem dX7_asks_125 : decode cX7_asks 125 = .ok (.iadd, 1) := by decide +kernel
theorem dX7_asks_126 : decode cX7_asks 126 = .ok (.putfield 223, 3) := by decide +kernel
theorem dX7_asks_129 : decode cX7_asks 129 = .ok (.iinc 5 1, 3) := by decide +kernel
theorem dX7_asks_132 : decode cX7_asks 132 = .ok (.goto (-119), 3) := by decide +kernel
theorem dX7_asks_135 : decode cX7_asks 135 = .ok (.return_, 1) := by decide +kernel
theorem dX7_cost_0 : decode cX7_cost 0 = .ok (.aload_n 0, 1) := by decide +kernel
theorem dX7_cost_1 : decode cX7_cost 1 = .ok (.iload_n 1, 1) := by decide +kernel
theorem dX7_cost_2 : decode cX7_cost 2 = .ok (.invokevirtual 138, 3) := by decide +kernel
theorem dX7_cost_5 : decode cX7_cost 5 = .ok (.ifCond .ne 5, 3) := by decide +kernel
theorem dX7_cost_8 : decode cX7_cost 8 = .ok (.iconst (-1), 1) := by decide +kernel
theorem dX7_cost_9 : decode cX7_cost 9 = .ok (.ireturn, 1) := by decide +kernel
theorem dX7_cost_10 : decode cX7_cost 10 = .ok (.aload_n 0, 1) := by decide +kernel
theorem dX7_cost_11 : decode cX7_cost 11 = .ok (.aload_n 0, 1) := by decide +kernel
theorem dX7_cost_12 : decode cX7_cost 12 = .ok (.getfield 135, 3) := by decide +kernel
theorem dX7_cost_15 : decode cX7_cost 15 = .ok (.invokevirtual 141, 3) := by decide +kernel
theorem dX7_cost_18 : decode cX7_cost 18 = .ok (.ifCond .ne 6, 3) := by decide +kernel
theorem dX7_cost_21 : decode cX7_cost 21 = .ok (.bipush (-2), 2) := by decide +kernel
theorem dX7_cost_23 : decode cX7_cost 23 = .ok (.ireturn, 1) := by decide +kernel
theorem dX7_cost_24 : decode cX7_cost 24 = .ok (.aload_n 0, 1) := by decide +kernel
theorem dX7_cost_25 : decode cX7_cost 25 = .ok (.iload_n 1, 1) := by decide +kernel
theorem dX7_cost_26 : decode cX7_cost 26 = .ok (.iconst 0, 1) := by decide +kernel
theorem dX7_cost_27 : decode cX7_cost 27 = .ok (.iconst 0, 1) := by decide +kernel
theorem dX7_cost_28 : decode cX7_cost 28 = .ok (.aload_n 0, 1) := by decide +kernel
theorem dX7_cost_29 : decode cX7_cost 29 = .ok (.getfield 135, 3) := by decide +kernel
theorem dX7_cost_32 : decode cX7_cost 32 = .ok (.invokevirtual 229, 3) := by decide +kernel
theorem dX7_cost_35 : decode cX7_cost 35 = .ok (.aload_n 0, 1) := by decide +kernel
theorem dX7_cost_36 : decode cX7_cost 36 = .ok (.getfield 223, 3) := by decide +kernel
theorem dX7_cost_39 : decode cX7_cost 39 = .ok (.ireturn, 1) := by decide +kernel
theorem dX7_endOf_0 : decode cX7_endOf 0 = .ok (.iload_n 1, 1) := by decide +kernel
theorem dX7_endOf_1 : decode cX7_endOf 1 = .ok (.istore_n 2, 1) := by decide +kernel
theorem dX7_endOf_2 : decode cX7_endOf 2 = .ok (.iload_n 2, 1) := by decide +kernel
theorem dX7_endOf_3 : decode cX7_endOf 3 = .ok (.aload_n 0, 1) := by decide +kernel
theorem dX7_endOf_4 : decode cX7_endOf 4 = .ok (.getfield 135, 3) := by decide +kernel
theorem dX7_endOf_7 : decode cX7_endOf 7 = .ok (.if_icmp .ge 20, 3) := by decide +kernel
theorem dX7_endOf_10 : decode cX7_endOf 10 = .ok (.aload_n 0, 1) := by decide +kernel
theorem dX7_endOf_11 : decode cX7_endOf 11 = .ok (.getfield 31, 3) := by decide +kernel
theorem dX7_endOf_14 : decode cX7_endOf 14 = .ok (.iload_n 2, 1) := by decide +kernel
theorem dX7_endOf_15 : decode cX7_endOf 15 = .ok (.baload, 1) := by decide +kernel
theorem dX7_endOf_16 : decode cX7_endOf 16 = .ok (.bipush 47, 2) := by decide +kernel
theorem dX7_endOf_18 : decode cX7_endOf 18 = .ok (.if_icmp .eq 9, 3) := by decide +kernel
theorem dX7_endOf_21 : decode cX7_endOf 21 = .ok (.iinc 2 1, 3) := by decide +kernel
theorem dX7_endOf_24 : decode cX7_endOf 24 = .ok (.goto (-22), 3) := by decide +kernel
theorem dX7_endOf_27 : decode cX7_endOf 27 = .ok (.iload_n 2, 1) := by decide +kernel
theorem dX7_endOf_28 : decode cX7_endOf 28 = .ok (.ireturn, 1) := by decide +kernel
theorem dX7_best_0 : decode cX7_best 0 = .ok (.aload_n 0, 1) := by decide +kernel
theorem dX7_best_1 : decode cX7_best 1 = .ok (.iload_n 1, 1) := by decide +kernel
theorem dX7_best_2 : decode cX7_best 2 = .ok (.invokevirtual 138, 3) := by decide +kernel
theorem dX7_best_5 : decode cX7_best 5 = .ok (.ifCond .eq 15, 3) := by decide +kernel
theorem dX7_best_8 : decode cX7_best 8 = .ok (.iload_n 2, 1) := by decide +kernel
theorem dX7_best_9 : decode cX7_best 9 = .ok (.i2l, 1) := by decide +kernel
theorem dX7_best_10 : decode cX7_best 10 = .ok (.lconst 0, 1) := by decide +kernel
theorem dX7_best_11 : decode cX7_best 11 = .ok (.ldc2_w 193, 3) := by decide +kernel
theorem dX7_best_14 : decode cX7_best 14 = .ok (.invokestatic 39, 3) := by decide +kernel
theorem dX7_best_17 : decode cX7_best 17 = .ok (.ifCond .ne 5, 3) := by decide +kernel
theorem dX7_best_20 : decode cX7_best 20 = .ok (.iconst (-1), 1) := by decide +kernel
theorem dX7_best_21 : decode cX7_best 21 = .ok (.ireturn, 1) := by decide +kernel
theorem dX7_best_22 : decode cX7_best 22 = .ok (.iconst (-1), 1) := by decide +kernel
theorem dX7_best_23 : decode cX7_best 23 = .ok (.istore_n 3, 1) := by decide +kernel
theorem dX7_best_24 : decode cX7_best 24 = .ok (.iconst 0, 1) := by decide +kernel
theorem dX7_best_25 : decode cX7_best 25 = .ok (.istore 4, 2) := by decide +kernel
theorem dX7_best_27 : decode cX7_best 27 = .ok (.iconst 0, 1) := by decide +kernel
theorem dX7_best_28 : decode cX7_best 28 = .ok (.istore 5, 2) := by decide +kernel
theorem dX7_best_30 : decode cX7_best 30 = .ok (.iconst 0, 1) := by decide +kernel
theorem dX7_best_31 : decode cX7_best 31 = .ok (.istore 6, 2) := by decide +kernel
theorem dX7_best_33 : decode cX7_best 33 = .ok (.iconst 0, 1) := by decide +kernel
theorem dX7_best_34 : decode cX7_best 34 = .ok (.istore 7, 2) := by decide +kernel
theorem dX7_best_36 : decode cX7_best 36 = .ok (.iload 7, 2) := by decide +kernel
theorem dX7_best_38 : decode cX7_best 38 = .ok (.aload_n 0, 1) := by decide +kernel
theorem dX7_best_39 : decode cX7_best 39 = .ok (.getfield 135, 3) := by decide +kernel
theorem dX7_best_42 : decode cX7_best 42 = .ok (.if_icmp .gt 110, 3) := by decide +kernel
theorem dX7_best_45 : decode cX7_best 45 = .ok (.aload_n 0, 1) := by decide +kernel
theorem dX7_best_46 : decode cX7_best 46 = .ok (.iload 7, 2) := by decide +kernel
theorem dX7_best_48 : decode cX7_best 48 = .ok (.invokevirtual 233, 3) := by decide +kernel
theorem dX7_best_51 : decode cX7_best 51 = .ok (.iload 7, 2) := by decide +kernel
theorem dX7_best_53 : decode cX7_best 53 = .ok (.isub, 1) := by decide +kernel
theorem dX7_best_54 : decode cX7_best 54 = .ok (.istore 8, 2) := by decide +kernel
theorem dX7_best_56 : decode cX7_best 56 = .ok (.iload 8, 2) := by decide +kernel
theorem dX7_best_58 : decode cX7_best 58 = .ok (.aload_n 0, 1) := by decide +kernel
theorem dX7_best_59 : decode cX7_best 59 = .ok (.invokevirtual 47, 3) := by decide +kernel
theorem dX7_best_62 : decode cX7_best 62 = .ok (.if_icmp .gt 14, 3) := by decide +kernel
theorem dX7_best_65 : decode cX7_best 65 = .ok (.aload_n 0, 1) := by decide +kernel
theorem dX7_best_66 : decode cX7_best 66 = .ok (.iload 7, 2) := by decide +kernel

theorem dX7_best_68 : decode cX7_best 68 = .ok (.iload 8, 2) := by decide +kernel
theorem dX7_best_70 : decode cX7_best 70 = .ok (.invokevirtual 131, 3) := by decide +kernel
theorem dX7_best_73 : decode cX7_best 73 = .ok (.ifCond .ne 6, 3) := by decide +kernel
theorem dX7_best_76 : decode cX7_best 76 = .ok (.bipush (-2), 2) := by decide +kernel
theorem dX7_best_78 : decode cX7_best 78 = .ok (.ireturn, 1) := by decide +kernel
theorem dX7_best_79 : decode cX7_best 79 = .ok (.aload_n 0, 1) := by decide +kernel
theorem dX7_best_80 : decode cX7_best 80 = .ok (.iload_n 1, 1) := by decide +kernel
theorem dX7_best_81 : decode cX7_best 81 = .ok (.iconst 0, 1) := by decide +kernel
theorem dX7_best_82 : decode cX7_best 82 = .ok (.iload 7, 2) := by decide +kernel
theorem dX7_best_84 : decode cX7_best 84 = .ok (.iload 8, 2) := by decide +kernel
theorem dX7_best_86 : decode cX7_best 86 = .ok (.invokevirtual 229, 3) := by decide +kernel
theorem dX7_best_89 : decode cX7_best 89 = .ok (.iload_n 3, 1) := by decide +kernel
theorem dX7_best_90 : decode cX7_best 90 = .ok (.iconst (-1), 1) := by decide +kernel
theorem dX7_best_91 : decode cX7_best 91 = .ok (.if_icmp .eq 30, 3) := by decide +kernel
theorem dX7_best_94 : decode cX7_best 94 = .ok (.aload_n 0, 1) := by decide +kernel
theorem dX7_best_95 : decode cX7_best 95 = .ok (.getfield 223, 3) := by decide +kernel
theorem dX7_best_98 : decode cX7_best 98 = .ok (.iload 4, 2) := by decide +kernel
theorem dX7_best_100 : decode cX7_best 100 = .ok (.if_icmp .lt 21, 3) := by decide +kernel
theorem dX7_best_103 : decode cX7_best 103 = .ok (.aload_n 0, 1) := by decide +kernel
theorem dX7_best_104 : decode cX7_best 104 = .ok (.getfield 223, 3) := by decide +kernel
theorem dX7_best_107 : decode cX7_best 107 = .ok (.iload 4, 2) := by decide +kernel
theorem dX7_best_109 : decode cX7_best 109 = .ok (.if_icmp .ne 27, 3) := by decide +kernel
theorem dX7_best_112 : decode cX7_best 112 = .ok (.aload_n 0, 1) := by decide +kernel
theorem dX7_best_113 : decode cX7_best 113 = .ok (.getfield 226, 3) := by decide +kernel
theorem dX7_best_116 : decode cX7_best 116 = .ok (.iload 5, 2) := by decide +kernel
theorem dX7_best_118 : decode cX7_best 118 = .ok (.if_icmp .ge 18, 3) := by decide +kernel
theorem dX7_best_121 : decode cX7_best 121 = .ok (.iload 6, 2) := by decide +kernel
theorem dX7_best_123 : decode cX7_best 123 = .ok (.istore_n 3, 1) := by decide +kernel
theorem dX7_best_124 : decode cX7_best 124 = .ok (.aload_n 0, 1) := by decide +kernel
theorem dX7_best_125 : decode cX7_best 125 = .ok (.getfield 223, 3) := by decide +kernel
theorem dX7_best_128 : decode cX7_best 128 = .ok (.istore 4, 2) := by decide +kernel
theorem dX7_best_130 : decode cX7_best 130 = .ok (.aload_n 0, 1) := by decide +kernel
theorem dX7_best_131 : decode cX7_best 131 = .ok (.getfield 226, 3) := by decide +kernel
theorem dX7_best_134 : decode cX7_best 134 = .ok (.istore 5, 2) := by decide +kernel
theorem dX7_best_136 : decode cX7_best 136 = .ok (.iinc 6 1, 3) := by decide +kernel
theorem dX7_best_139 : decode cX7_best 139 = .ok (.aload_n 0, 1) := by decide +kernel
theorem dX7_best_140 : decode cX7_best 140 = .ok (.iload 7, 2) := by decide +kernel
theorem dX7_best_142 : decode cX7_best 142 = .ok (.invokevirtual 233, 3) := by decide +kernel
theorem dX7_best_145 : decode cX7_best 145 = .ok (.iconst 1, 1) := by decide +kernel
theorem dX7_best_146 : decode cX7_best 146 = .ok (.iadd, 1) := by decide +kernel
theorem dX7_best_147 : decode cX7_best 147 = .ok (.istore 7, 2) := by decide +kernel
theorem dX7_best_149 : decode cX7_best 149 = .ok (.goto (-113), 3) := by decide +kernel
theorem dX7_best_152 : decode cX7_best 152 = .ok (.iload_n 2, 1) := by decide +kernel
theorem dX7_best_153 : decode cX7_best 153 = .ok (.ifCond .ne 7, 3) := by decide +kernel
theorem dX7_best_156 : decode cX7_best 156 = .ok (.iload_n 3, 1) := by decide +kernel
theorem dX7_best_157 : decode cX7_best 157 = .ok (.goto 15, 3) := by decide +kernel
theorem dX7_best_160 : decode cX7_best 160 = .ok (.iload_n 2, 1) := by decide +kernel
theorem dX7_best_161 : decode cX7_best 161 = .ok (.iconst 1, 1) := by decide +kernel
theorem dX7_best_162 : decode cX7_best 162 = .ok (.if_icmp .ne 8, 3) := by decide +kernel
theorem dX7_best_165 : decode cX7_best 165 = .ok (.iload 4, 2) := by decide +kernel
theorem dX7_best_167 : decode cX7_best 167 = .ok (.goto 5, 3) := by decide +kernel
theorem dX7_best_170 : decode cX7_best 170 = .ok (.iload 5, 2) := by decide +kernel
theorem dX7_best_172 : decode cX7_best 172 = .ok (.ireturn, 1) := by decide +kernel
theorem dX7_place_0 : decode cX7_place 0 = .ok (.aload_n 0, 1) := by decide +kernel
theorem dX7_place_1 : decode cX7_place 1 = .ok (.iload_n 1, 1) := by decide +kernel
theorem dX7_place_2 : decode cX7_place 2 = .ok (.invokevirtual 138, 3) := by decide +kernel
theorem dX7_place_5 : decode cX7_place 5 = .ok (.ifCond .eq 13, 3) := by decide +kernel
theorem dX7_place_8 : decode cX7_place 8 = .ok (.iload_n 2, 1) := by decide +kernel
theorem dX7_place_9 : decode cX7_place 9 = .ok (.i2l, 1) := by decide +kernel
theorem dX7_place_10 : decode cX7_place 10 = .ok (.lconst 0, 1) := by decide +kernel
theorem dX7_place_11 : decode cX7_place 11 = .ok (.lconst 1, 1) := by decide +kernel
theorem dX7_place_12 : decode cX7_place 12 = .ok (.invokestatic 39, 3) := by decide +kernel
theorem dX7_place_15 : decode cX7_place 15 = .ok (.ifCond .ne 5, 3) := by decide +kernel
theorem dX7_place_18 : decode cX7_place 18 = .ok (.iconst (-1), 1) := by decide +kernel
theorem dX7_place_19 : decode cX7_place 19 = .ok (.ireturn, 1) := by decide +kernel
theorem dX7_place_20 : decode cX7_place 20 = .ok (.aload_n 0, 1) := by decide +kernel
theorem dX7_place_21 : decode cX7_place 21 = .ok (.getfield 135, 3) := by decide +kernel
theorem dX7_place_24 : decode cX7_place 24 = .ok (.ifCond .eq 14, 3) := by decide +kernel
theorem dX7_place_27 : decode cX7_place 27 = .ok (.aload_n 0, 1) := by decide +kernel
theorem dX7_place_28 : decode cX7_place 28 = .ok (.aload_n 0, 1) := by decide +kernel
theorem dX7_place_29 : decode cX7_place 29 = .ok (.getfield 135, 3) := by decide +kernel
theorem dX7_place_32 : decode cX7_place 32 = .ok (.invokevirtual 141, 3) := by decide +kernel
theorem dX7_place_35 : decode cX7_place 35 = .ok (.ifCond .ne 6, 3) := by decide +kernel
theorem dX7_place_38 : decode cX7_place 38 = .ok (.bipush (-2), 2) := by decide +kernel
theorem dX7_place_40 : decode cX7_place 40 = .ok (.ireturn, 1) := by decide +kernel
theorem dX7_place_41 : decode cX7_place 41 = .ok (.iconst (-1), 1) := by decide +kernel
theorem dX7_place_42 : decode cX7_place 42 = .ok (.istore_n 3, 1) := by decide +kernel
theorem dX7_place_43 : decode cX7_place 43 = .ok (.iconst 0, 1) := by decide +kernel
theorem dX7_place_44 : decode cX7_place 44 = .ok (.istore 4, 2) := by decide +kernel
theorem dX7_place_46 : decode cX7_place 46 = .ok (.iconst 0, 1) := by decide +kernel
theorem dX7_place_47 : decode cX7_place 47 = .ok (.istore 5, 2) := by decide +kernel
theorem dX7_place_49 : decode cX7_place 49 = .ok (.iconst 0, 1) := by decide +kernel
theorem dX7_place_50 : decode cX7_place 50 = .ok (.istore 6, 2) := by decide +kernel
theorem dX7_place_52 : decode cX7_place 52 = .ok (.iload 6, 2) := by decide +kernel
theorem dX7_place_54 : decode cX7_place 54 = .ok (.aload_n 0, 1) := by decide +kernel
theorem dX7_place_55 : decode cX7_place 55 = .ok (.getfield 135, 3) := by decide +kernel
theorem dX7_place_58 : decode cX7_place 58 = .ok (.iadd, 1) := by decide +kernel
theorem dX7_place_59 : decode cX7_place 59 = .ok (.aload_n 0, 1) := by decide +kernel
theorem dX7_place_60 : decode cX7_place 60 = .ok (.invokevirtual 47, 3) := by decide +kernel
theorem dX7_place_63 : decode cX7_place 63 = .ok (.if_icmp .gt 71, 3) := by decide +kernel
theorem dX7_place_66 : decode cX7_place 66 = .ok (.aload_n 0, 1) := by decide +kernel
theorem dX7_place_67 : decode cX7_place 67 = .ok (.iload_n 1, 1) := by decide +kernel
theorem dX7_place_68 : decode cX7_place 68 = .ok (.iload 6, 2) := by decide +kernel
theorem dX7_place_70 : decode cX7_place 70 = .ok (.iconst 0, 1) := by decide +kernel
theorem dX7_place_71 : decode cX7_place 71 = .ok (.aload_n 0, 1) := by decide +kernel
theorem dX7_place_72 : decode cX7_place 72 = .ok (.getfield 135, 3) := by decide +kernel
theorem dX7_place_75 : decode cX7_place 75 = .ok (.invokevirtual 229, 3) := by decide +kernel
theorem dX7_place_78 : decode cX7_place 78 = .ok (.iload_n 3, 1) := by decide +kernel
theorem dX7_place_79 : decode cX7_place 79 = .ok (.iconst (-1), 1) := by decide +kernel
theorem dX7_place_80 : decode cX7_place 80 = .ok (.if_icmp .eq 33, 3) := by decide +kernel
theorem dX7_place_83 : decode cX7_place 83 = .ok (.aload_n 0, 1) := by decide +kernel
theorem dX7_place_84 : decode cX7_place 84 = .ok (.getfield 226, 3) := by decide +kernel
theorem dX7_place_87 : decode cX7_place 87 = .ok (.iload 5, 2) := by decide +kernel
theorem dX7_place_89 : decode cX7_place 89 = .ok (.if_icmp .gt 39, 3) := by decide +kernel
theorem dX7_place_92 : decode cX7_place 92 = .ok (.aload_n 0, 1) := by decide +kernel
theorem dX7_place_93 : decode cX7_place 93 = .ok (.getfield 226, 3) := by decide +kernel
theorem dX7_place_96 : decode cX7_place 96 = .ok (.iload 5, 2) := by decide +kernel
theorem dX7_place_98 : decode cX7_place 98 = .ok (.if_icmp .ne 15, 3) := by decide +kernel
theorem dX7_place_101 : decode cX7_place 101 = .ok (.aload_n 0, 1) := by decide +kernel
theorem dX7_place_102 : decode cX7_place 102 = .ok (.getfield 223, 3) := by decide +kernel
theorem dX7_place_105 : decode cX7_place 105 = .ok (.iload 4, 2) := by decide +kernel
theorem dX7_place_107 : decode cX7_place 107 = .ok (.if_icmp .lt 6, 3) := by decide +kernel
theorem dX7_place_110 : decode cX7_place 110 = .ok (.goto 18, 3) := by decide +kernel
theorem dX7_place_113 : decode cX7_place 113 = .ok (.iload 6, 2) := by decide +kernel
theorem dX7_place_115 : decode cX7_place 115 = .ok (.istore_n 3, 1) := by decide +kernel
theorem dX7_place_116 : decode cX7_place 116 = .ok (.aload_n 0, 1) := by decide +kernel
theorem dX7_place_117 : decode cX7_place 117 = .ok (.getfield 223, 3) := by decide +kernel
theorem dX7_place_120 : decode cX7_place 120 = .ok (.istore 4, 2) := by decide +kernel
theorem dX7_place_122 : decode cX7_place 122 = .ok (.aload_n 0, 1) := by decide +kernel
theorem dX7_place_123 : decode cX7_place 123 = .ok (.getfield 226, 3) := by decide +kernel
theorem dX7_place_126 : decode cX7_place 126 = .ok (.istore 5, 2) := by decide +kernel
theorem dX7_place_128 : decode cX7_place 128 = .ok (.iinc 6 1, 3) := by decide +kernel
theorem dX7_place_131 : decode cX7_place 131 = .ok (.goto (-79), 3) := by decide +kernel
theorem dX7_place_134 : decode cX7_place 134 = .ok (.iload_n 2, 1) := by decide +kernel
theorem dX7_place_135 : decode cX7_place 135 = .ok (.ifCond .ne 7, 3) := by decide +kernel
theorem dX7_place_138 : decode cX7_place 138 = .ok (.iload_n 3, 1) := by decide +kernel
theorem dX7_place_139 : decode cX7_place 139 = .ok (.goto 5, 3) := by decide +kernel
theorem dX7_place_142 : decode cX7_place 142 = .ok (.iload 4, 2) := by decide +kernel
theorem dX7_place_144 : decode cX7_place 144 = .ok (.ireturn, 1) := by decide +kernel
theorem dX7_logged_0 : decode cX7_logged 0 = .ok (.aload_n 0, 1) := by decide +kernel
theorem dX7_logged_1 : decode cX7_logged 1 = .ok (.getfield 7, 3) := by decide +kernel
theorem dX7_logged_4 : decode cX7_logged 4 = .ok (.sipush 496, 3) := by decide +kernel
theorem dX7_logged_7 : decode cX7_logged 7 = .ok (.bipush 40, 2) := by decide +kernel
theorem dX7_logged_9 : decode cX7_logged 9 = .ok (.bipush 40, 2) := by decide +kernel
theorem dX7_logged_11 : decode cX7_logged 11 = .ok (.iload_n 1, 1) := by decide +kernel
theorem dX7_logged_12 : decode cX7_logged 12 = .ok (.imul, 1) := by decide +kernel
theorem dX7_logged_13 : decode cX7_logged 13 = .ok (.iload_n 2, 1) := by decide +kernel
theorem dX7_logged_14 : decode cX7_logged 14 = .ok (.iadd, 1) := by decide +kernel
theorem dX7_logged_15 : decode cX7_logged 15 = .ok (.imul, 1) := by decide +kernel
theorem dX7_logged_16 : decode cX7_logged 16 = .ok (.iadd, 1) := by decide +kernel
theorem dX7_logged_17 : decode cX7_logged 17 = .ok (.iload_n 3, 1) := by decide +kernel
theorem dX7_logged_18 : decode cX7_logged 18 = .ok (.iadd, 1) := by decide +kernel
theorem dX7_logged_19 : decode cX7_logged 19 = .ok (.laload, 1) := by decide +kernel
theorem dX7_logged_20 : decode cX7_logged 20 = .ok (.l2i, 1) := by decide +kernel
theorem dX7_logged_21 : decode cX7_logged 21 = .ok (.ireturn, 1) := by decide +kernel
theorem dX7_moved_0 : decode cX7_moved 0 = .ok (.iload_n 0, 1) := by decide +kernel
theorem dX7_moved_1 : decode cX7_moved 1 = .ok (.iload_n 1, 1) := by decide +kernel
theorem dX7_moved_2 : decode cX7_moved 2 = .ok (.if_icmp .ne 7, 3) := by decide +kernel
theorem dX7_moved_5 : decode cX7_moved 5 = .ok (.iload_n 2, 1) := by decide +kernel
theorem dX7_moved_6 : decode cX7_moved 6 = .ok (.goto 13, 3) := by decide +kernel
theorem dX7_moved_9 : decode cX7_moved 9 = .ok (.iload_n 0, 1) := by decide +kernel
theorem dX7_moved_10 : decode cX7_moved 10 = .ok (.iload_n 2, 1) := by decide +kernel
theorem dX7_moved_11 : decode cX7_moved 11 = .ok (.if_icmp .ne 7, 3) := by decide +kernel
theorem dX7_moved_14 : decode cX7_moved 14 = .ok (.iload_n 1, 1) := by decide +kernel
theorem dX7_moved_15 : decode cX7_moved 15 = .ok (.goto 4, 3) := by decide +kernel
theorem dX7_moved_18 : decode cX7_moved 18 = .ok (.iload_n 0, 1) := by decide +kernel
theorem dX7_moved_19 : decode cX7_moved 19 = .ok (.ireturn, 1) := by decide +kernel
theorem dX7_journey_0 : decode cX7_journey 0 = .ok (.aload_n 0, 1) := by decide +kernel
theorem dX7_journey_1 : decode cX7_journey 1 = .ok (.iload_n 1, 1) := by decide +kernel
theorem dX7_journey_2 : decode cX7_journey 2 = .ok (.invokevirtual 60, 3) := by decide +kernel
theorem dX7_journey_5 : decode cX7_journey 5 = .ok (.istore 4, 2) := by decide +kernel
theorem dX7_journey_7 : decode cX7_journey 7 = .ok (.iconst 0, 1) := by decide +kernel
theorem dX7_journey_8 : decode cX7_journey 8 = .ok (.istore 5, 2) := by decide +kernel
theorem dX7_journey_10 : decode cX7_journey 10 = .ok (.iconst 0, 1) := by decide +kernel
theorem dX7_journey_11 : decode cX7_journey 11 = .ok (.istore 6, 2) := by decide +kernel
theorem dX7_journey_13 : decode cX7_journey 13 = .ok (.iload 6, 2) := by decide +kernel
theorem dX7_journey_15 : decode cX7_journey 15 = .ok (.iload 4, 2) := by decide +kernel
theorem dX7_journey_17 : decode cX7_journey 17 = .ok (.if_icmp .ge 71, 3) := by decide +kernel
theorem dX7_journey_20 : decode cX7_journey 20 = .ok (.iconst 0, 1) := by decide +kernel
theorem dX7_journey_21 : decode cX7_journey 21 = .ok (.istore 7, 2) := by decide +kernel
theorem dX7_journey_23 : decode cX7_journey 23 = .ok (.iload 7, 2) := by decide +kernel
theorem dX7_journey_25 : decode cX7_journey 25 = .ok (.iload 4, 2) := by decide +kernel
theorem dX7_journey_27 : decode cX7_journey 27 = .ok (.if_icmp .ge 55, 3) := by decide +kernel
theorem dX7_journey_30 : decode cX7_journey 30 = .ok (.aload_n 0, 1) := by decide +kernel
theorem dX7_journey_31 : decode cX7_journey 31 = .ok (.iload_n 1, 1) := by decide +kernel
theorem dX7_journey_32 : decode cX7_journey 32 = .ok (.iload 6, 2) := by decide +kernel
theorem dX7_journey_34 : decode cX7_journey 34 = .ok (.iload 7, 2) := by decide +kernel
theorem dX7_journey_36 : decode cX7_journey 36 = .ok (.invokevirtual 236, 3) := by decide +kernel
theorem dX7_journey_39 : decode cX7_journey 39 = .ok (.ifCond .le 37, 3) := by decide +kernel
theorem dX7_journey_42 : decode cX7_journey 42 = .ok (.iload 5, 2) := by decide +kernel
theorem dX7_journey_44 : decode cX7_journey 44 = .ok (.aload_n 0, 1) := by decide +kernel
theorem dX7_journey_45 : decode cX7_journey 45 = .ok (.iload_n 1, 1) := by decide +kernel
theorem dX7_journey_46 : decode cX7_journey 46 = .ok (.iload 6, 2) := by decide +kernel
theorem dX7_journey_48 : decode cX7_journey 48 = .ok (.iload 7, 2) := by decide +kernel
theorem dX7_journey_50 : decode cX7_journey 50 = .ok (.invokevirtual 236, 3) := by decide +kernel
theorem dX7_journey_53 : decode cX7_journey 53 = .ok (.iload 6, 2) := by decide +kernel
theorem dX7_journey_55 : decode cX7_journey 55 = .ok (.iload_n 2, 1) := by decide +kernel
theorem dX7_journey_56 : decode cX7_journey 56 = .ok (.iload_n 3, 1) := by decide +kernel
theorem dX7_journey_57 : decode cX7_journey 57 = .ok (.invokestatic 239, 3) := by decide +kernel
theorem dX7_journey_60 : decode cX7_journey 60 = .ok (.iload 7, 2) := by decide +kernel
theorem dX7_journey_62 : decode cX7_journey 62 = .ok (.iload_n 2, 1) := by decide +kernel
theorem dX7_journey_63 : decode cX7_journey 63 = .ok (.iload_n 3, 1) := by decide +kernel
theorem dX7_journey_64 : decode cX7_journey 64 = .ok (.invokestatic 239, 3) := by decide +kernel
theorem dX7_journey_67 : decode cX7_journey 67 = .ok (.iload 4, 2) := by decide +kernel
theorem dX7_journey_69 : decode cX7_journey 69 = .ok (.invokestatic 70, 3) := by decide +kernel
theorem dX7_journey_72 : decode cX7_journey 72 = .ok (.imul, 1) := by decide +kernel
theorem dX7_journey_73 : decode cX7_journey 73 = .ok (.iadd, 1) := by decide +kernel
theorem dX7_journey_74 : decode cX7_journey 74 = .ok (.istore 5, 2) := by decide +kernel
theorem dX7_journey_76 : decode cX7_journey 76 = .ok (.iinc 7 1, 3) := by decide +kernel
theorem dX7_journey_79 : decode cX7_journey 79 = .ok (.goto (-56), 3) := by decide +kernel
theorem dX7_journey_82 : decode cX7_journey 82 = .ok (.iinc 6 1, 3) := by decide +kernel
theorem dX7_journey_85 : decode cX7_journey 85 = .ok (.goto (-72), 3) := by decide +kernel
theorem dX7_journey_88 : decode cX7_journey 88 = .ok (.iload 5, 2) := by decide +kernel
theorem dX7_journey_90 : decode cX7_journey 90 = .ok (.ireturn, 1) := by decide +kernel
theorem dX7_entries_0 : decode cX7_entries 0 = .ok (.iconst 0, 1) := by decide +kernel
theorem dX7_entries_1 : decode cX7_entries 1 = .ok (.istore_n 3, 1) := by decide +kernel
theorem dX7_entries_2 : decode cX7_entries 2 = .ok (.iconst 0, 1) := by decide +kernel
theorem dX7_entries_3 : decode cX7_entries 3 = .ok (.istore 4, 2) := by decide +kernel
theorem dX7_entries_5 : decode cX7_entries 5 = .ok (.iload 4, 2) := by decide +kernel
theorem dX7_entries_7 : decode cX7_entries 7 = .ok (.bipush 40, 2) := by decide +kernel
theorem dX7_entries_9 : decode cX7_entries 9 = .ok (.if_icmp .ge 61, 3) := by decide +kernel
theorem dX7_entries_12 : decode cX7_entries 12 = .ok (.iconst 0, 1) := by decide +kernel
theorem dX7_entries_13 : decode cX7_entries 13 = .ok (.istore 5, 2) := by decide +kernel
theorem dX7_entries_15 : decode cX7_entries 15 = .ok (.iload 5, 2) := by decide +kernel
theorem dX7_entries_17 : decode cX7_entries 17 = .ok (.bipush 40, 2) := by decide +kernel
theorem dX7_entries_19 : decode cX7_entries 19 = .ok (.if_icmp .ge 45, 3) := by decide +kernel
theorem dX7_entries_22 : decode cX7_entries 22 = .ok (.iload_n 3, 1) := by decide +kernel
theorem dX7_entries_23 : decode cX7_entries 23 = .ok (.iload_n 2, 1) := by decide +kernel
theorem dX7_entries_24 : decode cX7_entries 24 = .ok (.ifCond .eq 23, 3) := by decide +kernel
theorem dX7_entries_27 : decode cX7_entries 27 = .ok (.aload_n 0, 1) := by decide +kernel
theorem dX7_entries_28 : decode cX7_entries 28 = .ok (.iload_n 1, 1) := by decide +kernel
theorem dX7_entries_29 : decode cX7_entries 29 = .ok (.iload 4, 2) := by decide +kernel
theorem dX7_entries_31 : decode cX7_entries 31 = .ok (.iload 5, 2) := by decide +kernel
theorem dX7_entries_33 : decode cX7_entries 33 = .ok (.invokevirtual 236, 3) := by decide +kernel
theorem dX7_entries_36 : decode cX7_entries 36 = .ok (.ifCond .le 7, 3) := by decide +kernel
theorem dX7_entries_39 : decode cX7_entries 39 = .ok (.iconst 1, 1) := by decide +kernel
theorem dX7_entries_40 : decode cX7_entries 40 = .ok (.goto 16, 3) := by decide +kernel
theorem dX7_entries_43 : decode cX7_entries 43 = .ok (.iconst 0, 1) := by decide +kernel
theorem dX7_entries_44 : decode cX7_entries 44 = .ok (.goto 12, 3) := by decide +kernel
theorem dX7_entries_47 : decode cX7_entries 47 = .ok (.aload_n 0, 1) := by decide +kernel
theorem dX7_entries_48 : decode cX7_entries 48 = .ok (.iload_n 1, 1) := by decide +kernel
theorem dX7_entries_49 : decode cX7_entries 49 = .ok (.iload 4, 2) := by decide +kernel
theorem dX7_entries_51 : decode cX7_entries 51 = .ok (.iload 5, 2) := by decide +kernel
theorem dX7_entries_53 : decode cX7_entries 53 = .ok (.invokevirtual 236, 3) := by decide +kernel
theorem dX7_entries_56 : decode cX7_entries 56 = .ok (.iadd, 1) := by decide +kernel
theorem dX7_entries_57 : decode cX7_entries 57 = .ok (.istore_n 3, 1) := by decide +kernel
theorem dX7_entries_58 : decode cX7_entries 58 = .ok (.iinc 5 1, 3) := by decide +kernel
theorem dX7_entries_61 : decode cX7_entries 61 = .ok (.goto (-46), 3) := by decide +kernel
theorem dX7_entries_64 : decode cX7_entries 64 = .ok (.iinc 4 1, 3) := by decide +kernel
theorem dX7_entries_67 : decode cX7_entries 67 = .ok (.goto (-62), 3) := by decide +kernel
theorem dX7_entries_70 : decode cX7_entries 70 = .ok (.iload_n 3, 1) := by decide +kernel
theorem dX7_entries_71 : decode cX7_entries 71 = .ok (.ireturn, 1) := by decide +kernel
theorem dX7_log_0 : decode cX7_log 0 = .ok (.aload_n 0, 1) := by decide +kernel
theorem dX7_log_1 : decode cX7_log 1 = .ok (.iload_n 1, 1) := by decide +kernel
theorem dX7_log_2 : decode cX7_log 2 = .ok (.invokevirtual 180, 3) := by decide +kernel
theorem dX7_log_5 : decode cX7_log 5 = .ok (.ifCond .eq 15, 3) := by decide +kernel
theorem dX7_log_8 : decode cX7_log 8 = .ok (.iload_n 2, 1) := by decide +kernel
theorem dX7_log_9 : decode cX7_log 9 = .ok (.i2l, 1) := by decide +kernel
theorem dX7_log_10 : decode cX7_log 10 = .ok (.lconst 0, 1) := by decide +kernel
theorem dX7_log_11 : decode cX7_log 11 = .ok (.ldc2_w 193, 3) := by decide +kernel
theorem dX7_log_14 : decode cX7_log 14 = .ok (.invokestatic 39, 3) := by decide +kernel
theorem dX7_log_17 : decode cX7_log 17 = .ok (.ifCond .ne 5, 3) := by decide +kernel
theorem dX7_log_20 : decode cX7_log 20 = .ok (.iconst (-1), 1) := by decide +kernel
theorem dX7_log_21 : decode cX7_log 21 = .ok (.ireturn, 1) := by decide +kernel
theorem dX7_log_22 : decode cX7_log 22 = .ok (.iload_n 2, 1) := by decide +kernel
theorem dX7_log_23 : decode cX7_log 23 = .ok (.ifCond .ne 13, 3) := by decide +kernel
theorem dX7_log_26 : decode cX7_log 26 = .ok (.aload_n 0, 1) := by decide +kernel
theorem dX7_log_27 : decode cX7_log 27 = .ok (.iload_n 1, 1) := by decide +kernel
theorem dX7_log_28 : decode cX7_log 28 = .ok (.iconst 0, 1) := by decide +kernel
theorem dX7_log_29 : decode cX7_log 29 = .ok (.iconst 0, 1) := by decide +kernel
theorem dX7_log_30 : decode cX7_log 30 = .ok (.invokevirtual 242, 3) := by decide +kernel
theorem dX7_log_33 : decode cX7_log 33 = .ok (.goto 18, 3) := by decide +kernel
theorem dX7_log_36 : decode cX7_log 36 = .ok (.aload_n 0, 1) := by decide +kernel
theorem dX7_log_37 : decode cX7_log 37 = .ok (.iload_n 1, 1) := by decide +kernel
theorem dX7_log_38 : decode cX7_log 38 = .ok (.iload_n 2, 1) := by decide +kernel
theorem dX7_log_39 : decode cX7_log 39 = .ok (.iconst 2, 1) := by decide +kernel
theorem dX7_log_40 : decode cX7_log 40 = .ok (.if_icmp .ne 7, 3) := by decide +kernel
theorem dX7_log_43 : decode cX7_log 43 = .ok (.iconst 1, 1) := by decide +kernel
theorem dX7_log_44 : decode cX7_log 44 = .ok (.goto 4, 3) := by decide +kernel
theorem dX7_log_47 : decode cX7_log 47 = .ok (.iconst 0, 1) := by decide +kernel
theorem dX7_log_48 : decode cX7_log 48 = .ok (.invokevirtual 245, 3) := by decide +kernel
theorem dX7_log_51 : decode cX7_log 51 = .ok (.ireturn, 1) := by decide +kernel
theorem dX7_often_0 : decode cX7_often 0 = .ok (.aload_n 0, 1) := by decide +kernel
theorem dX7_often_1 : decode cX7_often 1 = .ok (.iload_n 1, 1) := by decide +kernel
theorem dX7_often_2 : decode cX7_often 2 = .ok (.invokevirtual 180, 3) := by decide +kernel
theorem dX7_often_5 : decode cX7_often 5 = .ok (.ifCond .eq 20, 3) := by decide +kernel
theorem dX7_often_8 : decode cX7_often 8 = .ok (.iload_n 2, 1) := by decide +kernel
theorem dX7_often_9 : decode cX7_often 9 = .ok (.i2l, 1) := by decide +kernel
theorem dX7_often_10 : decode cX7_often 10 = .ok (.lconst 0, 1) := by decide +kernel
theorem dX7_often_11 : decode cX7_often 11 = .ok (.aload_n 0, 1) := by decide +kernel
theorem dX7_often_12 : decode cX7_often 12 = .ok (.iload_n 1, 1) := by decide +kernel
theorem dX7_often_13 : decode cX7_often 13 = .ok (.invokevirtual 60, 3) := by decide +kernel
theorem dX7_often_16 : decode cX7_often 16 = .ok (.iconst 1, 1) := by decide +kernel
theorem dX7_often_17 : decode cX7_often 17 = .ok (.isub, 1) := by decide +kernel
theorem dX7_often_18 : decode cX7_often 18 = .ok (.i2l, 1) := by decide +kernel
theorem dX7_often_19 : decode cX7_often 19 = .ok (.invokestatic 39, 3) := by decide +kernel
theorem dX7_often_22 : decode cX7_often 22 = .ok (.ifCond .ne 5, 3) := by decide +kernel
theorem dX7_often_25 : decode cX7_often 25 = .ok (.iconst (-1), 1) := by decide +kernel
theorem dX7_often_26 : decode cX7_often 26 = .ok (.ireturn, 1) := by decide +kernel
theorem dX7_often_27 : decode cX7_often 27 = .ok (.iconst 0, 1) := by decide +kernel
theorem dX7_often_28 : decode cX7_often 28 = .ok (.istore 4, 2) := by decide +kernel
theorem dX7_often_30 : decode cX7_often 30 = .ok (.iconst 0, 1) := by decide +kernel
theorem dX7_often_31 : decode cX7_often 31 = .ok (.istore 5, 2) := by decide +kernel
theorem dX7_often_33 : decode cX7_often 33 = .ok (.iload 5, 2) := by decide +kernel
theorem dX7_often_35 : decode cX7_often 35 = .ok (.bipush 40, 2) := by decide +kernel
theorem dX7_often_37 : decode cX7_often 37 = .ok (.if_icmp .ge 37, 3) := by decide +kernel
theorem dX7_often_40 : decode cX7_often 40 = .ok (.iload 4, 2) := by decide +kernel
theorem dX7_often_42 : decode cX7_often 42 = .ok (.iload_n 3, 1) := by decide +kernel
theorem dX7_often_43 : decode cX7_often 43 = .ok (.ifCond .eq 14, 3) := by decide +kernel
theorem dX7_often_46 : decode cX7_often 46 = .ok (.aload_n 0, 1) := by decide +kernel
theorem dX7_often_47 : decode cX7_often 47 = .ok (.iload_n 1, 1) := by decide +kernel
theorem dX7_often_48 : decode cX7_often 48 = .ok (.iload 5, 2) := by decide +kernel
theorem dX7_often_50 : decode cX7_often 50 = .ok (.iload_n 2, 1) := by decide +kernel
theorem dX7_often_51 : decode cX7_often 51 = .ok (.invokevirtual 236, 3) := by decide +kernel
theorem dX7_often_54 : decode cX7_often 54 = .ok (.goto 11, 3) := by decide +kernel
theorem dX7_often_57 : decode cX7_often 57 = .ok (.aload_n 0, 1) := by decide +kernel
theorem dX7_often_58 : decode cX7_often 58 = .ok (.iload_n 1, 1) := by decide +kernel
theorem dX7_often_59 : decode cX7_often 59 = .ok (.iload_n 2, 1) := by decide +kernel
theorem dX7_often_60 : decode cX7_often 60 = .ok (.iload 5, 2) := by decide +kernel
theorem dX7_often_62 : decode cX7_often 62 = .ok (.invokevirtual 236, 3) := by decide +kernel
theorem dX7_often_65 : decode cX7_often 65 = .ok (.iadd, 1) := by decide +kernel
theorem dX7_often_66 : decode cX7_often 66 = .ok (.istore 4, 2) := by decide +kernel
theorem dX7_often_68 : decode cX7_often 68 = .ok (.iinc 5 1, 3) := by decide +kernel
theorem dX7_often_71 : decode cX7_often 71 = .ok (.goto (-38), 3) := by decide +kernel
theorem dX7_often_74 : decode cX7_often 74 = .ok (.iload 4, 2) := by decide +kernel
theorem dX7_often_76 : decode cX7_often 76 = .ok (.ireturn, 1) := by decide +kernel
theorem dX7_better_0 : decode cX7_better 0 = .ok (.aload_n 0, 1) := by decide +kernel
theorem dX7_better_1 : decode cX7_better 1 = .ok (.iload_n 1, 1) := by decide +kernel
theorem dX7_better_2 : decode cX7_better 2 = .ok (.invokevirtual 180, 3) := by decide +kernel
theorem dX7_better_5 : decode cX7_better 5 = .ok (.ifCond .eq 15, 3) := by decide +kernel
theorem dX7_better_8 : decode cX7_better 8 = .ok (.iload_n 2, 1) := by decide +kernel
theorem dX7_better_9 : decode cX7_better 9 = .ok (.i2l, 1) := by decide +kernel
theorem dX7_better_10 : decode cX7_better 10 = .ok (.lconst 0, 1) := by decide +kernel
theorem dX7_better_11 : decode cX7_better 11 = .ok (.ldc2_w 193, 3) := by decide +kernel
theorem dX7_better_14 : decode cX7_better 14 = .ok (.invokestatic 39, 3) := by decide +kernel
theorem dX7_better_17 : decode cX7_better 17 = .ok (.ifCond .ne 5, 3) := by decide +kernel
theorem dX7_better_20 : decode cX7_better 20 = .ok (.iconst (-1), 1) := by decide +kernel
theorem dX7_better_21 : decode cX7_better 21 = .ok (.ireturn, 1) := by decide +kernel
theorem dX7_better_22 : decode cX7_better 22 = .ok (.aload_n 0, 1) := by decide +kernel
theorem dX7_better_23 : decode cX7_better 23 = .ok (.iload_n 1, 1) := by decide +kernel
theorem dX7_better_24 : decode cX7_better 24 = .ok (.iconst 0, 1) := by decide +kernel
theorem dX7_better_25 : decode cX7_better 25 = .ok (.iconst 0, 1) := by decide +kernel
theorem dX7_better_26 : decode cX7_better 26 = .ok (.invokevirtual 242, 3) := by decide +kernel
theorem dX7_better_29 : decode cX7_better 29 = .ok (.istore_n 3, 1) := by decide +kernel
theorem dX7_better_30 : decode cX7_better 30 = .ok (.bipush (-2), 2) := by decide +kernel
theorem dX7_better_32 : decode cX7_better 32 = .ok (.istore 4, 2) := by decide +kernel
theorem dX7_better_34 : decode cX7_better 34 = .ok (.bipush (-2), 2) := by decide +kernel
theorem dX7_better_36 : decode cX7_better 36 = .ok (.istore 5, 2) := by decide +kernel
theorem dX7_better_38 : decode cX7_better 38 = .ok (.iconst 1, 1) := by decide +kernel
theorem dX7_better_39 : decode cX7_better 39 = .ok (.istore 6, 2) := by decide +kernel
theorem dX7_better_41 : decode cX7_better 41 = .ok (.iload 6, 2) := by decide +kernel
theorem dX7_better_43 : decode cX7_better 43 = .ok (.aload_n 0, 1) := by decide +kernel
theorem dX7_better_44 : decode cX7_better 44 = .ok (.iload_n 1, 1) := by decide +kernel
theorem dX7_better_45 : decode cX7_better 45 = .ok (.invokevirtual 60, 3) := by decide +kernel
theorem dX7_better_48 : decode cX7_better 48 = .ok (.if_icmp .ge 62, 3) := by decide +kernel
theorem dX7_better_51 : decode cX7_better 51 = .ok (.iload 6, 2) := by decide +kernel
theorem dX7_better_53 : decode cX7_better 53 = .ok (.iconst 1, 1) := by decide +kernel
theorem dX7_better_54 : decode cX7_better 54 = .ok (.iadd, 1) := by decide +kernel
theorem dX7_better_55 : decode cX7_better 55 = .ok (.istore 7, 2) := by decide +kernel
theorem dX7_better_57 : decode cX7_better 57 = .ok (.iload 7, 2) := by decide +kernel
theorem dX7_better_59 : decode cX7_better 59 = .ok (.aload_n 0, 1) := by decide +kernel
theorem dX7_better_60 : decode cX7_better 60 = .ok (.iload_n 1, 1) := by decide +kernel
theorem dX7_better_61 : decode cX7_better 61 = .ok (.invokevirtual 60, 3) := by decide +kernel
theorem dX7_better_64 : decode cX7_better 64 = .ok (.if_icmp .ge 40, 3) := by decide +kernel
theorem dX7_better_67 : decode cX7_better 67 = .ok (.aload_n 0, 1) := by decide +kernel
theorem dX7_better_68 : decode cX7_better 68 = .ok (.iload_n 1, 1) := by decide +kernel
theorem dX7_better_69 : decode cX7_better 69 = .ok (.iload 6, 2) := by decide +kernel
theorem dX7_better_71 : decode cX7_better 71 = .ok (.iload 7, 2) := by decide +kernel
theorem dX7_better_73 : decode cX7_better 73 = .ok (.invokevirtual 242, 3) := by decide +kernel
theorem dX7_better_76 : decode cX7_better 76 = .ok (.istore 8, 2) := by decide +kernel
theorem dX7_better_78 : decode cX7_better 78 = .ok (.iload 8, 2) := by decide +kernel
theorem dX7_better_80 : decode cX7_better 80 = .ok (.iload_n 3, 1) := by decide +kernel
theorem dX7_better_81 : decode cX7_better 81 = .ok (.if_icmp .lt 6, 3) := by decide +kernel
theorem dX7_better_84 : decode cX7_better 84 = .ok (.goto 14, 3) := by decide +kernel
theorem dX7_better_87 : decode cX7_better 87 = .ok (.iload 8, 2) := by decide +kernel
theorem dX7_better_89 : decode cX7_better 89 = .ok (.istore_n 3, 1) := by decide +kernel
theorem dX7_better_90 : decode cX7_better 90 = .ok (.iload 6, 2) := by decide +kernel
theorem dX7_better_92 : decode cX7_better 92 = .ok (.istore 4, 2) := by decide +kernel
theorem dX7_better_94 : decode cX7_better 94 = .ok (.iload 7, 2) := by decide +kernel
theorem dX7_better_96 : decode cX7_better 96 = .ok (.istore 5, 2) := by decide +kernel
theorem dX7_better_98 : decode cX7_better 98 = .ok (.iinc 7 1, 3) := by decide +kernel
theorem dX7_better_101 : decode cX7_better 101 = .ok (.goto (-44), 3) := by decide +kernel
theorem dX7_better_104 : decode cX7_better 104 = .ok (.iinc 6 1, 3) := by decide +kernel
theorem dX7_better_107 : decode cX7_better 107 = .ok (.goto (-66), 3) := by decide +kernel
theorem dX7_better_110 : decode cX7_better 110 = .ok (.iload 4, 2) := by decide +kernel
theorem dX7_better_112 : decode cX7_better 112 = .ok (.bipush (-2), 2) := by decide +kernel
theorem dX7_better_114 : decode cX7_better 114 = .ok (.if_icmp .ne 8, 3) := by decide +kernel
theorem dX7_better_117 : decode cX7_better 117 = .ok (.bipush (-2), 2) := by decide +kernel
theorem dX7_better_119 : decode cX7_better 119 = .ok (.goto 23, 3) := by decide +kernel
theorem dX7_better_122 : decode cX7_better 122 = .ok (.iload_n 2, 1) := by decide +kernel
theorem dX7_better_123 : decode cX7_better 123 = .ok (.ifCond .ne 7, 3) := by decide +kernel
theorem dX7_better_126 : decode cX7_better 126 = .ok (.iload_n 3, 1) := by decide +kernel
theorem dX7_better_127 : decode cX7_better 127 = .ok (.goto 15, 3) := by decide +kernel
theorem dX7_better_130 : decode cX7_better 130 = .ok (.iload_n 2, 1) := by decide +kernel
theorem dX7_better_131 : decode cX7_better 131 = .ok (.iconst 1, 1) := by decide +kernel
theorem dX7_better_132 : decode cX7_better 132 = .ok (.if_icmp .ne 8, 3) := by decide +kernel
theorem dX7_better_135 : decode cX7_better 135 = .ok (.iload 4, 2) := by decide +kernel
theorem dX7_better_137 : decode cX7_better 137 = .ok (.goto 5, 3) := by decide +kernel
theorem dX7_better_140 : decode cX7_better 140 = .ok (.iload 5, 2) := by decide +kernel
theorem dX7_better_142 : decode cX7_better 142 = .ok (.ireturn, 1) := by decide +kernel
theorem dX7_farthest_0 : decode cX7_farthest 0 = .ok (.aload_n 0, 1) := by decide +kernel
theorem dX7_farthest_1 : decode cX7_farthest 1 = .ok (.iload_n 1, 1) := by decide +kernel
theorem dX7_farthest_2 : decode cX7_farthest 2 = .ok (.invokevirtual 162, 3) := by decide +kernel
theorem dX7_farthest_5 : decode cX7_farthest 5 = .ok (.ifCond .eq 13, 3) := by decide +kernel
theorem dX7_farthest_8 : decode cX7_farthest 8 = .ok (.iload_n 2, 1) := by decide +kernel
theorem dX7_farthest_9 : decode cX7_farthest 9 = .ok (.i2l, 1) := by decide +kernel
theorem dX7_farthest_10 : decode cX7_farthest 10 = .ok (.lconst 0, 1) := by decide +kernel
theorem dX7_farthest_11 : decode cX7_farthest 11 = .ok (.lconst 1, 1) := by decide +kernel
theorem dX7_farthest_12 : decode cX7_farthest 12 = .ok (.invokestatic 39, 3) := by decide +kernel
theorem dX7_farthest_15 : decode cX7_farthest 15 = .ok (.ifCond .ne 5, 3) := by decide +kernel
theorem dX7_farthest_18 : decode cX7_farthest 18 = .ok (.iconst (-1), 1) := by decide +kernel
theorem dX7_farthest_19 : decode cX7_farthest 19 = .ok (.ireturn, 1) := by decide +kernel
theorem dX7_farthest_20 : decode cX7_farthest 20 = .ok (.iconst (-1), 1) := by decide +kernel
theorem dX7_farthest_21 : decode cX7_farthest 21 = .ok (.istore_n 3, 1) := by decide +kernel
theorem dX7_farthest_22 : decode cX7_farthest 22 = .ok (.iconst (-1), 1) := by decide +kernel
theorem dX7_farthest_23 : decode cX7_farthest 23 = .ok (.istore 4, 2) := by decide +kernel
theorem dX7_farthest_25 : decode cX7_farthest 25 = .ok (.bipush 32, 2) := by decide +kernel
theorem dX7_farthest_27 : decode cX7_farthest 27 = .ok (.istore 5, 2) := by decide +kernel
theorem dX7_farthest_29 : decode cX7_farthest 29 = .ok (.iload 5, 2) := by decide +kernel
theorem dX7_farthest_31 : decode cX7_farthest 31 = .ok (.bipush 127, 2) := by decide +kernel
theorem dX7_farthest_33 : decode cX7_farthest 33 = .ok (.if_icmp .ge 68, 3) := by decide +kernel
theorem dX7_farthest_36 : decode cX7_farthest 36 = .ok (.aload_n 0, 1) := by decide +kernel
theorem dX7_farthest_37 : decode cX7_farthest 37 = .ok (.iload_n 1, 1) := by decide +kernel
theorem dX7_farthest_38 : decode cX7_farthest 38 = .ok (.iload 5, 2) := by decide +kernel
theorem dX7_farthest_40 : decode cX7_farthest 40 = .ok (.invokevirtual 113, 3) := by decide +kernel
theorem dX7_farthest_43 : decode cX7_farthest 43 = .ok (.istore 6, 2) := by decide +kernel
theorem dX7_farthest_45 : decode cX7_farthest 45 = .ok (.iload 6, 2) := by decide +kernel
theorem dX7_farthest_47 : decode cX7_farthest 47 = .ok (.iconst (-1), 1) := by decide +kernel
theorem dX7_farthest_48 : decode cX7_farthest 48 = .ok (.if_icmp .eq 47, 3) := by decide +kernel
theorem dX7_farthest_51 : decode cX7_farthest 51 = .ok (.aload_n 0, 1) := by decide +kernel
theorem dX7_farthest_52 : decode cX7_farthest 52 = .ok (.iload_n 1, 1) := by decide +kernel
theorem dX7_farthest_53 : decode cX7_farthest 53 = .ok (.iconst 2, 1) := by decide +kernel
theorem dX7_farthest_54 : decode cX7_farthest 54 = .ok (.invokevirtual 56, 3) := by decide +kernel
theorem dX7_farthest_57 : decode cX7_farthest 57 = .ok (.iload 6, 2) := by decide +kernel
theorem dX7_farthest_59 : decode cX7_farthest 59 = .ok (.aload_n 0, 1) := by decide +kernel
theorem dX7_farthest_60 : decode cX7_farthest 60 = .ok (.iload_n 1, 1) := by decide +kernel
theorem dX7_farthest_61 : decode cX7_farthest 61 = .ok (.invokevirtual 67, 3) := by decide +kernel
theorem dX7_farthest_64 : decode cX7_farthest 64 = .ok (.invokestatic 70, 3) := by decide +kernel
theorem dX7_farthest_67 : decode cX7_farthest 67 = .ok (.iload_n 3, 1) := by decide +kernel
theorem dX7_farthest_68 : decode cX7_farthest 68 = .ok (.if_icmp .gt 6, 3) := by decide +kernel
theorem dX7_farthest_71 : decode cX7_farthest 71 = .ok (.goto 24, 3) := by decide +kernel
theorem dX7_farthest_74 : decode cX7_farthest 74 = .ok (.aload_n 0, 1) := by decide +kernel
theorem dX7_farthest_75 : decode cX7_farthest 75 = .ok (.iload_n 1, 1) := by decide +kernel
theorem dX7_farthest_76 : decode cX7_farthest 76 = .ok (.iconst 2, 1) := by decide +kernel
theorem dX7_farthest_77 : decode cX7_farthest 77 = .ok (.invokevirtual 56, 3) := by decide +kernel
theorem dX7_farthest_80 : decode cX7_farthest 80 = .ok (.iload 6, 2) := by decide +kernel
theorem dX7_farthest_82 : decode cX7_farthest 82 = .ok (.aload_n 0, 1) := by decide +kernel
theorem dX7_farthest_83 : decode cX7_farthest 83 = .ok (.iload_n 1, 1) := by decide +kernel
theorem dX7_farthest_84 : decode cX7_farthest 84 = .ok (.invokevirtual 67, 3) := by decide +kernel
theorem dX7_farthest_87 : decode cX7_farthest 87 = .ok (.invokestatic 70, 3) := by decide +kernel
theorem dX7_farthest_90 : decode cX7_farthest 90 = .ok (.istore_n 3, 1) := by decide +kernel
theorem dX7_farthest_91 : decode cX7_farthest 91 = .ok (.iload 5, 2) := by decide +kernel
theorem dX7_farthest_93 : decode cX7_farthest 93 = .ok (.istore 4, 2) := by decide +kernel
theorem dX7_farthest_95 : decode cX7_farthest 95 = .ok (.iinc 5 1, 3) := by decide +kernel
theorem dX7_farthest_98 : decode cX7_farthest 98 = .ok (.goto (-69), 3) := by decide +kernel
theorem dX7_farthest_101 : decode cX7_farthest 101 = .ok (.iload_n 2, 1) := by decide +kernel
theorem dX7_farthest_102 : decode cX7_farthest 102 = .ok (.ifCond .ne 7, 3) := by decide +kernel
theorem dX7_farthest_105 : decode cX7_farthest 105 = .ok (.iload_n 3, 1) := by decide +kernel
theorem dX7_farthest_106 : decode cX7_farthest 106 = .ok (.goto 5, 3) := by decide +kernel
theorem dX7_farthest_109 : decode cX7_farthest 109 = .ok (.iload 4, 2) := by decide +kernel
theorem dX7_farthest_111 : decode cX7_farthest 111 = .ok (.ireturn, 1) := by decide +kernel
theorem dX7_hasElsewhere_0 : decode cX7_hasElsewhere 0 = .ok (.iconst 0, 1) := by decide +kernel
theorem dX7_hasElsewhere_1 : decode cX7_hasElsewhere 1 = .ok (.istore_n 3, 1) := by decide +kernel
theorem dX7_hasElsewhere_2 : decode cX7_hasElsewhere 2 = .ok (.iload_n 3, 1) := by decide +kernel
theorem dX7_hasElsewhere_3 : decode cX7_hasElsewhere 3 = .ok (.aload_n 0, 1) := by decide +kernel
theorem dX7_hasElsewhere_4 : decode cX7_hasElsewhere 4 = .ok (.invokevirtual 50, 3) := by decide +kernel
theorem dX7_hasElsewhere_7 : decode cX7_hasElsewhere 7 = .ok (.if_icmp .ge 25, 3) := by decide +kernel
theorem dX7_hasElsewhere_10 : decode cX7_hasElsewhere 10 = .ok (.iload_n 3, 1) := by decide +kernel
theorem dX7_hasElsewhere_11 : decode cX7_hasElsewhere 11 = .ok (.iload_n 1, 1) := by decide +kernel
theorem dX7_hasElsewhere_12 : decode cX7_hasElsewhere 12 = .ok (.if_icmp .eq 14, 3) := by decide +kernel
theorem dX7_hasElsewhere_15 : decode cX7_hasElsewhere 15 = .ok (.aload_n 0, 1) := by decide +kernel
theorem dX7_hasElsewhere_16 : decode cX7_hasElsewhere 16 = .ok (.iload_n 3, 1) := by decide +kernel
theorem dX7_hasElsewhere_17 : decode cX7_hasElsewhere 17 = .ok (.iload_n 2, 1) := by decide +kernel
theorem dX7_hasElsewhere_18 : decode cX7_hasElsewhere 18 = .ok (.invokevirtual 183, 3) := by decide +kernel
theorem dX7_hasElsewhere_21 : decode cX7_hasElsewhere 21 = .ok (.ifCond .le 5, 3) := by decide +kernel
theorem dX7_hasElsewhere_24 : decode cX7_hasElsewhere 24 = .ok (.iconst 1, 1) := by decide +kernel
theorem dX7_hasElsewhere_25 : decode cX7_hasElsewhere 25 = .ok (.ireturn, 1) := by decide +kernel
theorem dX7_hasElsewhere_26 : decode cX7_hasElsewhere 26 = .ok (.iinc 3 1, 3) := by decide +kernel
theorem dX7_hasElsewhere_29 : decode cX7_hasElsewhere 29 = .ok (.goto (-27), 3) := by decide +kernel
theorem dX7_hasElsewhere_32 : decode cX7_hasElsewhere 32 = .ok (.iconst 0, 1) := by decide +kernel
theorem dX7_hasElsewhere_33 : decode cX7_hasElsewhere 33 = .ok (.ireturn, 1) := by decide +kernel
theorem dX7_lacks_0 : decode cX7_lacks 0 = .ok (.aload_n 0, 1) := by decide +kernel
theorem dX7_lacks_1 : decode cX7_lacks 1 = .ok (.iload_n 1, 1) := by decide +kernel
theorem dX7_lacks_2 : decode cX7_lacks 2 = .ok (.invokevirtual 162, 3) := by decide +kernel
theorem dX7_lacks_5 : decode cX7_lacks 5 = .ok (.ifCond .eq 13, 3) := by decide +kernel
theorem dX7_lacks_8 : decode cX7_lacks 8 = .ok (.iload_n 2, 1) := by decide +kernel
theorem dX7_lacks_9 : decode cX7_lacks 9 = .ok (.i2l, 1) := by decide +kernel
theorem dX7_lacks_10 : decode cX7_lacks 10 = .ok (.lconst 0, 1) := by decide +kernel
theorem dX7_lacks_11 : decode cX7_lacks 11 = .ok (.lconst 1, 1) := by decide +kernel
theorem dX7_lacks_12 : decode cX7_lacks 12 = .ok (.invokestatic 39, 3) := by decide +kernel
theorem dX7_lacks_15 : decode cX7_lacks 15 = .ok (.ifCond .ne 5, 3) := by decide +kernel
theorem dX7_lacks_18 : decode cX7_lacks 18 = .ok (.iconst (-1), 1) := by decide +kernel
theorem dX7_lacks_19 : decode cX7_lacks 19 = .ok (.ireturn, 1) := by decide +kernel
theorem dX7_lacks_20 : decode cX7_lacks 20 = .ok (.iconst 0, 1) := by decide +kernel
theorem dX7_lacks_21 : decode cX7_lacks 21 = .ok (.istore_n 3, 1) := by decide +kernel
theorem dX7_lacks_22 : decode cX7_lacks 22 = .ok (.bipush 32, 2) := by decide +kernel
theorem dX7_lacks_24 : decode cX7_lacks 24 = .ok (.istore 4, 2) := by decide +kernel
theorem dX7_lacks_26 : decode cX7_lacks 26 = .ok (.iload 4, 2) := by decide +kernel
theorem dX7_lacks_28 : decode cX7_lacks 28 = .ok (.bipush 127, 2) := by decide +kernel
theorem dX7_lacks_30 : decode cX7_lacks 30 = .ok (.if_icmp .ge 87, 3) := by decide +kernel
theorem dX7_lacks_33 : decode cX7_lacks 33 = .ok (.aload_n 0, 1) := by decide +kernel
theorem dX7_lacks_34 : decode cX7_lacks 34 = .ok (.aload_n 0, 1) := by decide +kernel
theorem dX7_lacks_35 : decode cX7_lacks 35 = .ok (.iload_n 1, 1) := by decide +kernel
theorem dX7_lacks_36 : decode cX7_lacks 36 = .ok (.iconst 0, 1) := by decide +kernel
theorem dX7_lacks_37 : decode cX7_lacks 37 = .ok (.invokevirtual 56, 3) := by decide +kernel
theorem dX7_lacks_40 : decode cX7_lacks 40 = .ok (.iload 4, 2) := by decide +kernel
theorem dX7_lacks_42 : decode cX7_lacks 42 = .ok (.invokevirtual 183, 3) := by decide +kernel
theorem dX7_lacks_45 : decode cX7_lacks 45 = .ok (.ifCond .le 7, 3) := by decide +kernel
theorem dX7_lacks_48 : decode cX7_lacks 48 = .ok (.iconst 1, 1) := by decide +kernel
theorem dX7_lacks_49 : decode cX7_lacks 49 = .ok (.goto 4, 3) := by decide +kernel
theorem dX7_lacks_52 : decode cX7_lacks 52 = .ok (.iconst 0, 1) := by decide +kernel
theorem dX7_lacks_53 : decode cX7_lacks 53 = .ok (.istore 5, 2) := by decide +kernel
theorem dX7_lacks_55 : decode cX7_lacks 55 = .ok (.iload_n 3, 1) := by decide +kernel
theorem dX7_lacks_56 : decode cX7_lacks 56 = .ok (.iload_n 2, 1) := by decide +kernel
theorem dX7_lacks_57 : decode cX7_lacks 57 = .ok (.ifCond .ne 27, 3) := by decide +kernel
theorem dX7_lacks_60 : decode cX7_lacks 60 = .ok (.iload 5, 2) := by decide +kernel
theorem dX7_lacks_62 : decode cX7_lacks 62 = .ok (.ifCond .eq 18, 3) := by decide +kernel
theorem dX7_lacks_65 : decode cX7_lacks 65 = .ok (.aload_n 0, 1) := by decide +kernel
theorem dX7_lacks_66 : decode cX7_lacks 66 = .ok (.iload_n 1, 1) := by decide +kernel
theorem dX7_lacks_67 : decode cX7_lacks 67 = .ok (.iload 4, 2) := by decide +kernel
theorem dX7_lacks_69 : decode cX7_lacks 69 = .ok (.invokevirtual 113, 3) := by decide +kernel
theorem dX7_lacks_72 : decode cX7_lacks 72 = .ok (.iconst (-1), 1) := by decide +kernel
theorem dX7_lacks_73 : decode cX7_lacks 73 = .ok (.if_icmp .ne 7, 3) := by decide +kernel
theorem dX7_lacks_76 : decode cX7_lacks 76 = .ok (.iconst 1, 1) := by decide +kernel
theorem dX7_lacks_77 : decode cX7_lacks 77 = .ok (.goto 32, 3) := by decide +kernel
theorem dX7_lacks_80 : decode cX7_lacks 80 = .ok (.iconst 0, 1) := by decide +kernel
theorem dX7_lacks_81 : decode cX7_lacks 81 = .ok (.goto 28, 3) := by decide +kernel
theorem dX7_lacks_84 : decode cX7_lacks 84 = .ok (.iload 5, 2) := by decide +kernel
theorem dX7_lacks_86 : decode cX7_lacks 86 = .ok (.ifCond .ne 22, 3) := by decide +kernel
theorem dX7_lacks_89 : decode cX7_lacks 89 = .ok (.aload_n 0, 1) := by decide +kernel
theorem dX7_lacks_90 : decode cX7_lacks 90 = .ok (.aload_n 0, 1) := by decide +kernel
theorem dX7_lacks_91 : decode cX7_lacks 91 = .ok (.iload_n 1, 1) := by decide +kernel
theorem dX7_lacks_92 : decode cX7_lacks 92 = .ok (.iconst 0, 1) := by decide +kernel
theorem dX7_lacks_93 : decode cX7_lacks 93 = .ok (.invokevirtual 56, 3) := by decide +kernel
theorem dX7_lacks_96 : decode cX7_lacks 96 = .ok (.iload 4, 2) := by decide +kernel
theorem dX7_lacks_98 : decode cX7_lacks 98 = .ok (.invokevirtual 248, 3) := by decide +kernel
theorem dX7_lacks_101 : decode cX7_lacks 101 = .ok (.ifCond .eq 7, 3) := by decide +kernel
theorem dX7_lacks_104 : decode cX7_lacks 104 = .ok (.iconst 1, 1) := by decide +kernel
theorem dX7_lacks_105 : decode cX7_lacks 105 = .ok (.goto 4, 3) := by decide +kernel
theorem dX7_lacks_108 : decode cX7_lacks 108 = .ok (.iconst 0, 1) := by decide +kernel
theorem dX7_lacks_109 : decode cX7_lacks 109 = .ok (.iadd, 1) := by decide +kernel
theorem dX7_lacks_110 : decode cX7_lacks 110 = .ok (.istore_n 3, 1) := by decide +kernel
theorem dX7_lacks_111 : decode cX7_lacks 111 = .ok (.iinc 4 1, 3) := by decide +kernel
theorem dX7_lacks_114 : decode cX7_lacks 114 = .ok (.goto (-88), 3) := by decide +kernel
theorem dX7_lacks_117 : decode cX7_lacks 117 = .ok (.iload_n 3, 1) := by decide +kernel
theorem dX7_lacks_118 : decode cX7_lacks 118 = .ok (.ireturn, 1) := by decide +kernel
theorem dX7_lays_0 : decode cX7_lays 0 = .ok (.bipush 24, 2) := by decide +kernel
theorem dX7_lays_2 : decode cX7_lays 2 = .ok (.istore_n 2, 1) := by decide +kernel
theorem dX7_lays_3 : decode cX7_lays 3 = .ok (.iload_n 2, 1) := by decide +kernel
theorem dX7_lays_4 : decode cX7_lays 4 = .ok (.ifCond .lt 32, 3) := by decide +kernel
theorem dX7_lays_7 : decode cX7_lays 7 = .ok (.aload_n 0, 1) := by decide +kernel
theorem dX7_lays_8 : decode cX7_lays 8 = .ok (.getfield 31, 3) := by decide +kernel
theorem dX7_lays_11 : decode cX7_lays 11 = .ok (.aload_n 0, 1) := by decide +kernel
theorem dX7_lays_12 : decode cX7_lays 12 = .ok (.getfield 135, 3) := by decide +kernel
theorem dX7_lays_15 : decode cX7_lays 15 = .ok (.iload_n 1, 1) := by decide +kernel
theorem dX7_lays_16 : decode cX7_lays 16 = .ok (.iload_n 2, 1) := by decide +kernel
theorem dX7_lays_17 : decode cX7_lays 17 = .ok (.ishr, 1) := by decide +kernel
theorem dX7_lays_18 : decode cX7_lays 18 = .ok (.i2b, 1) := by decide +kernel
theorem dX7_lays_19 : decode cX7_lays 19 = .ok (.bastore, 1) := by decide +kernel
theorem dX7_lays_20 : decode cX7_lays 20 = .ok (.aload_n 0, 1) := by decide +kernel
theorem dX7_lays_21 : decode cX7_lays 21 = .ok (.dup, 1) := by decide +kernel
theorem dX7_lays_22 : decode cX7_lays 22 = .ok (.getfield 135, 3) := by decide +kernel
theorem dX7_lays_25 : decode cX7_lays 25 = .ok (.iconst 1, 1) := by decide +kernel
theorem dX7_lays_26 : decode cX7_lays 26 = .ok (.iadd, 1) := by decide +kernel
theorem dX7_lays_27 : decode cX7_lays 27 = .ok (.putfield 135, 3) := by decide +kernel
theorem dX7_lays_30 : decode cX7_lays 30 = .ok (.iinc 2 (-8), 3) := by decide +kernel
theorem dX7_lays_33 : decode cX7_lays 33 = .ok (.goto (-30), 3) := by decide +kernel
theorem dX7_lays_36 : decode cX7_lays 36 = .ok (.return_, 1) := by decide +kernel
theorem dX7_feed_0 : decode cX7_feed 0 = .ok (.aload_n 0, 1) := by decide +kernel
theorem dX7_feed_1 : decode cX7_feed 1 = .ok (.getfield 135, 3) := by decide +kernel
theorem dX7_feed_4 : decode cX7_feed 4 = .ok (.sipush 380, 3) := by decide +kernel
theorem dX7_feed_7 : decode cX7_feed 7 = .ok (.if_icmp .le 5, 3) := by decide +kernel
theorem dX7_feed_10 : decode cX7_feed 10 = .ok (.iconst (-1), 1) := by decide +kernel
theorem dX7_feed_11 : decode cX7_feed 11 = .ok (.ireturn, 1) := by decide +kernel
theorem dX7_feed_12 : decode cX7_feed 12 = .ok (.aload_n 0, 1) := by decide +kernel
theorem dX7_feed_13 : decode cX7_feed 13 = .ok (.iload_n 1, 1) := by decide +kernel
theorem dX7_feed_14 : decode cX7_feed 14 = .ok (.invokevirtual 251, 3) := by decide +kernel
theorem dX7_feed_17 : decode cX7_feed 17 = .ok (.aload_n 0, 1) := by decide +kernel
theorem dX7_feed_18 : decode cX7_feed 18 = .ok (.iload_n 2, 1) := by decide +kernel
theorem dX7_feed_19 : decode cX7_feed 19 = .ok (.invokevirtual 251, 3) := by decide +kernel
theorem dX7_feed_22 : decode cX7_feed 22 = .ok (.aload_n 0, 1) := by decide +kernel
theorem dX7_feed_23 : decode cX7_feed 23 = .ok (.iload_n 3, 1) := by decide +kernel
theorem dX7_feed_24 : decode cX7_feed 24 = .ok (.invokevirtual 251, 3) := by decide +kernel
theorem dX7_feed_27 : decode cX7_feed 27 = .ok (.aload_n 0, 1) := by decide +kernel
theorem dX7_feed_28 : decode cX7_feed 28 = .ok (.iload 4, 2) := by decide +kernel
theorem dX7_feed_30 : decode cX7_feed 30 = .ok (.invokevirtual 251, 3) := by decide +kernel
theorem dX7_feed_33 : decode cX7_feed 33 = .ok (.aload_n 0, 1) := by decide +kernel
theorem dX7_feed_34 : decode cX7_feed 34 = .ok (.iload 5, 2) := by decide +kernel
theorem dX7_feed_36 : decode cX7_feed 36 = .ok (.invokevirtual 251, 3) := by decide +kernel
theorem dX7_feed_39 : decode cX7_feed 39 = .ok (.aload_n 0, 1) := by decide +kernel
theorem dX7_feed_40 : decode cX7_feed 40 = .ok (.getfield 135, 3) := by decide +kernel
theorem dX7_feed_43 : decode cX7_feed 43 = .ok (.ireturn, 1) := by decide +kernel
theorem dX7_end_0 : decode cX7_end 0 = .ok (.iload_n 1, 1) := by decide +kernel
theorem dX7_end_1 : decode cX7_end 1 = .ok (.i2l, 1) := by decide +kernel
theorem dX7_end_2 : decode cX7_end 2 = .ok (.lconst 0, 1) := by decide +kernel
theorem dX7_end_3 : decode cX7_end 3 = .ok (.aload_n 0, 1) := by decide +kernel
theorem dX7_end_4 : decode cX7_end 4 = .ok (.getfield 135, 3) := by decide +kernel
theorem dX7_end_7 : decode cX7_end 7 = .ok (.i2l, 1) := by decide +kernel
theorem dX7_end_8 : decode cX7_end 8 = .ok (.invokestatic 39, 3) := by decide +kernel
theorem dX7_end_11 : decode cX7_end 11 = .ok (.ifCond .ne 5, 3) := by decide +kernel
theorem dX7_end_14 : decode cX7_end 14 = .ok (.iconst (-1), 1) := by decide +kernel
theorem dX7_end_15 : decode cX7_end 15 = .ok (.ireturn, 1) := by decide +kernel
theorem dX7_end_16 : decode cX7_end 16 = .ok (.aload_n 0, 1) := by decide +kernel
theorem dX7_end_17 : decode cX7_end 17 = .ok (.iload_n 1, 1) := by decide +kernel
theorem dX7_end_18 : decode cX7_end 18 = .ok (.putfield 135, 3) := by decide +kernel
theorem dX7_end_21 : decode cX7_end 21 = .ok (.iload_n 1, 1) := by decide +kernel
theorem dX7_end_22 : decode cX7_end 22 = .ok (.ireturn, 1) := by decide +kernel
theorem dX7_byteAt_0 : decode cX7_byteAt 0 = .ok (.iload_n 1, 1) := by decide +kernel
theorem dX7_byteAt_1 : decode cX7_byteAt 1 = .ok (.aload_n 0, 1) := by decide +kernel
theorem dX7_byteAt_2 : decode cX7_byteAt 2 = .ok (.getfield 135, 3) := by decide +kernel
theorem dX7_byteAt_5 : decode cX7_byteAt 5 = .ok (.if_icmp .ge 16, 3) := by decide +kernel
theorem dX7_byteAt_8 : decode cX7_byteAt 8 = .ok (.aload_n 0, 1) := by decide +kernel
theorem dX7_byteAt_9 : decode cX7_byteAt 9 = .ok (.getfield 31, 3) := by decide +kernel
theorem dX7_byteAt_12 : decode cX7_byteAt 12 = .ok (.iload_n 1, 1) := by decide +kernel
theorem dX7_byteAt_13 : decode cX7_byteAt 13 = .ok (.baload, 1) := by decide +kernel
theorem dX7_byteAt_14 : decode cX7_byteAt 14 = .ok (.sipush 255, 3) := by decide +kernel
theorem dX7_byteAt_17 : decode cX7_byteAt 17 = .ok (.iand, 1) := by decide +kernel
theorem dX7_byteAt_18 : decode cX7_byteAt 18 = .ok (.goto 4, 3) := by decide +kernel
theorem dX7_byteAt_21 : decode cX7_byteAt 21 = .ok (.iconst (-1), 1) := by decide +kernel
theorem dX7_byteAt_22 : decode cX7_byteAt 22 = .ok (.ireturn, 1) := by decide +kernel
theorem dX7_nextByte_0 : decode cX7_nextByte 0 = .ok (.aload_n 0, 1) := by decide +kernel
theorem dX7_nextByte_1 : decode cX7_nextByte 1 = .ok (.aload_n 0, 1) := by decide +kernel
theorem dX7_nextByte_2 : decode cX7_nextByte 2 = .ok (.getfield 254, 3) := by decide +kernel
theorem dX7_nextByte_5 : decode cX7_nextByte 5 = .ok (.invokevirtual 257, 3) := by decide +kernel
theorem dX7_nextByte_8 : decode cX7_nextByte 8 = .ok (.bipush 32, 2) := by decide +kernel
theorem dX7_nextByte_10 : decode cX7_nextByte 10 = .ok (.if_icmp .ne 16, 3) := by decide +kernel
theorem dX7_nextByte_13 : decode cX7_nextByte 13 = .ok (.aload_n 0, 1) := by decide +kernel
theorem dX7_nextByte_14 : decode cX7_nextByte 14 = .ok (.dup, 1) := by decide +kernel
theorem dX7_nextByte_15 : decode cX7_nextByte 15 = .ok (.getfield 254, 3) := by decide +kernel
theorem dX7_nextByte_18 : decode cX7_nextByte 18 = .ok (.iconst 1, 1) := by decide +kernel
theorem dX7_nextByte_19 : decode cX7_nextByte 19 = .ok (.iadd, 1) := by decide +kernel
theorem dX7_nextByte_20 : decode cX7_nextByte 20 = .ok (.putfield 254, 3) := by decide +kernel
theorem dX7_nextByte_23 : decode cX7_nextByte 23 = .ok (.goto (-23), 3) := by decide +kernel
theorem dX7_nextByte_26 : decode cX7_nextByte 26 = .ok (.aload_n 0, 1) := by decide +kernel
theorem dX7_nextByte_27 : decode cX7_nextByte 27 = .ok (.aload_n 0, 1) := by decide +kernel
theorem dX7_nextByte_28 : decode cX7_nextByte 28 = .ok (.getfield 254, 3) := by decide +kernel
theorem dX7_nextByte_31 : decode cX7_nextByte 31 = .ok (.invokevirtual 257, 3) := by decide +kernel
theorem dX7_nextByte_34 : decode cX7_nextByte 34 = .ok (.ireturn, 1) := by decide +kernel
theorem dX7_fails_0 : decode cX7_fails 0 = .ok (.aload_n 0, 1) := by decide +kernel
theorem dX7_fails_1 : decode cX7_fails 1 = .ok (.bipush 8, 2) := by decide +kernel
theorem dX7_fails_3 : decode cX7_fails 3 = .ok (.iload_n 2, 1) := by decide +kernel
theorem dX7_fails_4 : decode cX7_fails 4 = .ok (.imul, 1) := by decide +kernel
theorem dX7_fails_5 : decode cX7_fails 5 = .ok (.iload_n 1, 1) := by decide +kernel
theorem dX7_fails_6 : decode cX7_fails 6 = .ok (.iadd, 1) := by decide +kernel
theorem dX7_fails_7 : decode cX7_fails 7 = .ok (.putfield 260, 3) := by decide +kernel
theorem dX7_fails_10 : decode cX7_fails 10 = .ok (.iconst 0, 1) := by decide +kernel
theorem dX7_fails_11 : decode cX7_fails 11 = .ok (.ireturn, 1) := by decide +kernel
theorem dX7_isWord_0 : decode cX7_isWord 0 = .ok (.aload_n 0, 1) := by decide +kernel
theorem dX7_isWord_1 : decode cX7_isWord 1 = .ok (.invokevirtual 263, 3) := by decide +kernel
theorem dX7_isWord_4 : decode cX7_isWord 4 = .ok (.iconst (-1), 1) := by decide +kernel
theorem dX7_isWord_5 : decode cX7_isWord 5 = .ok (.if_icmp .ne 10, 3) := by decide +kernel
theorem dX7_isWord_8 : decode cX7_isWord 8 = .ok (.aload_n 0, 1) := by decide +kernel
theorem dX7_isWord_9 : decode cX7_isWord 9 = .ok (.getfield 135, 3) := by decide +kernel
theorem dX7_isWord_12 : decode cX7_isWord 12 = .ok (.goto 7, 3) := by decide +kernel
theorem dX7_isWord_15 : decode cX7_isWord 15 = .ok (.aload_n 0, 1) := by decide +kernel
theorem dX7_isWord_16 : decode cX7_isWord 16 = .ok (.getfield 254, 3) := by decide +kernel
theorem dX7_isWord_19 : decode cX7_isWord 19 = .ok (.istore_n 2, 1) := by decide +kernel
theorem dX7_isWord_20 : decode cX7_isWord 20 = .ok (.iconst 0, 1) := by decide +kernel
theorem dX7_isWord_21 : decode cX7_isWord 21 = .ok (.istore_n 3, 1) := by decide +kernel
theorem dX7_isWord_22 : decode cX7_isWord 22 = .ok (.iload_n 3, 1) := by decide +kernel
theorem dX7_isWord_23 : decode cX7_isWord 23 = .ok (.aload_n 1, 1) := by decide +kernel
theorem dX7_isWord_24 : decode cX7_isWord 24 = .ok (.invokevirtual 266, 3) := by decide +kernel
theorem dX7_isWord_27 : decode cX7_isWord 27 = .ok (.if_icmp .ge 24, 3) := by decide +kernel
theorem dX7_isWord_30 : decode cX7_isWord 30 = .ok (.aload_n 0, 1) := by decide +kernel
theorem dX7_isWord_31 : decode cX7_isWord 31 = .ok (.iload_n 2, 1) := by decide +kernel
theorem dX7_isWord_32 : decode cX7_isWord 32 = .ok (.iload_n 3, 1) := by decide +kernel
theorem dX7_isWord_33 : decode cX7_isWord 33 = .ok (.iadd, 1) := by decide +kernel
theorem dX7_isWord_34 : decode cX7_isWord 34 = .ok (.invokevirtual 257, 3) := by decide +kernel
theorem dX7_isWord_37 : decode cX7_isWord 37 = .ok (.aload_n 1, 1) := by decide +kernel
theorem dX7_isWord_38 : decode cX7_isWord 38 = .ok (.iload_n 3, 1) := by decide +kernel
theorem dX7_isWord_39 : decode cX7_isWord 39 = .ok (.invokevirtual 271, 3) := by decide +kernel
theorem dX7_isWord_42 : decode cX7_isWord 42 = .ok (.if_icmp .ne 9, 3) := by decide +kernel
theorem dX7_isWord_45 : decode cX7_isWord 45 = .ok (.iinc 3 1, 3) := by decide +kernel
theorem dX7_isWord_48 : decode cX7_isWord 48 = .ok (.goto (-26), 3) := by decide +kernel
theorem dX7_isWord_51 : decode cX7_isWord 51 = .ok (.iload_n 3, 1) := by decide +kernel
theorem dX7_isWord_52 : decode cX7_isWord 52 = .ok (.aload_n 1, 1) := by decide +kernel
theorem dX7_isWord_53 : decode cX7_isWord 53 = .ok (.invokevirtual 266, 3) := by decide +kernel
theorem dX7_isWord_56 : decode cX7_isWord 56 = .ok (.if_icmp .ne 27, 3) := by decide +kernel
theorem dX7_isWord_59 : decode cX7_isWord 59 = .ok (.aload_n 0, 1) := by decide +kernel
theorem dX7_isWord_60 : decode cX7_isWord 60 = .ok (.iload_n 2, 1) := by decide +kernel
theorem dX7_isWord_61 : decode cX7_isWord 61 = .ok (.iload_n 3, 1) := by decide +kernel
theorem dX7_isWord_62 : decode cX7_isWord 62 = .ok (.iadd, 1) := by decide +kernel
theorem dX7_isWord_63 : decode cX7_isWord 63 = .ok (.invokevirtual 257, 3) := by decide +kernel
theorem dX7_isWord_66 : decode cX7_isWord 66 = .ok (.i2l, 1) := by decide +kernel
theorem dX7_isWord_67 : decode cX7_isWord 67 = .ok (.ldc2_w 275, 3) := by decide +kernel
theorem dX7_isWord_70 : decode cX7_isWord 70 = .ok (.ldc2_w 277, 3) := by decide +kernel
theorem dX7_isWord_73 : decode cX7_isWord 73 = .ok (.invokestatic 39, 3) := by decide +kernel
theorem dX7_isWord_76 : decode cX7_isWord 76 = .ok (.ifCond .ne 7, 3) := by decide +kernel
theorem dX7_isWord_79 : decode cX7_isWord 79 = .ok (.iconst 1, 1) := by decide +kernel
theorem dX7_isWord_80 : decode cX7_isWord 80 = .ok (.goto 4, 3) := by decide +kernel
theorem dX7_isWord_83 : decode cX7_isWord 83 = .ok (.iconst 0, 1) := by decide +kernel
theorem dX7_isWord_84 : decode cX7_isWord 84 = .ok (.ireturn, 1) := by decide +kernel
theorem dX7_takesWord_0 : decode cX7_takesWord 0 = .ok (.aload_n 0, 1) := by decide +kernel
theorem dX7_takesWord_1 : decode cX7_takesWord 1 = .ok (.aload_n 1, 1) := by decide +kernel
theorem dX7_takesWord_2 : decode cX7_takesWord 2 = .ok (.invokevirtual 279, 3) := by decide +kernel
theorem dX7_takesWord_5 : decode cX7_takesWord 5 = .ok (.istore_n 2, 1) := by decide +kernel
theorem dX7_takesWord_6 : decode cX7_takesWord 6 = .ok (.iload_n 2, 1) := by decide +kernel
theorem dX7_takesWord_7 : decode cX7_takesWord 7 = .ok (.ifCond .eq 16, 3) := by decide +kernel
theorem dX7_takesWord_10 : decode cX7_takesWord 10 = .ok (.aload_n 0, 1) := by decide +kernel
theorem dX7_takesWord_11 : decode cX7_takesWord 11 = .ok (.dup, 1) := by decide +kernel
theorem dX7_takesWord_12 : decode cX7_takesWord 12 = .ok (.getfield 254, 3) := by decide +kernel
theorem dX7_takesWord_15 : decode cX7_takesWord 15 = .ok (.aload_n 1, 1) := by decide +kernel
theorem dX7_takesWord_16 : decode cX7_takesWord 16 = .ok (.invokevirtual 266, 3) := by decide +kernel
theorem dX7_takesWord_19 : decode cX7_takesWord 19 = .ok (.iadd, 1) := by decide +kernel
theorem dX7_takesWord_20 : decode cX7_takesWord 20 = .ok (.putfield 254, 3) := by decide +kernel
theorem dX7_takesWord_23 : decode cX7_takesWord 23 = .ok (.iload_n 2, 1) := by decide +kernel
theorem dX7_takesWord_24 : decode cX7_takesWord 24 = .ok (.ireturn, 1) := by decide +kernel
theorem dX7_mustWord_0 : decode cX7_mustWord 0 = .ok (.aload_n 0, 1) := by decide +kernel
theorem dX7_mustWord_1 : decode cX7_mustWord 1 = .ok (.aload_n 1, 1) := by decide +kernel
theorem dX7_mustWord_2 : decode cX7_mustWord 2 = .ok (.invokevirtual 283, 3) := by decide +kernel
