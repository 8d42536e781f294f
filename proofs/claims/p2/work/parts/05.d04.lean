theorem dX4_goOn_81 : decode cX4_goOn 81 = .ok (.putfield 41, 3) := by decide +kernel
theorem dX4_goOn_84 : decode cX4_goOn 84 = .ok (.return_, 1) := by decide +kernel
theorem dX4_goOn_85 : decode cX4_goOn 85 = .ok (.aload_n 0, 1) := by decide +kernel
theorem dX4_goOn_86 : decode cX4_goOn 86 = .ok (.aload_n 0, 1) := by decide +kernel
theorem dX4_goOn_87 : decode cX4_goOn 87 = .ok (.aload_n 0, 1) := by decide +kernel
theorem dX4_goOn_88 : decode cX4_goOn 88 = .ok (.getfield 41, 3) := by decide +kernel
theorem dX4_goOn_91 : decode cX4_goOn 91 = .ok (.invokevirtual 54, 3) := by decide +kernel
theorem dX4_goOn_94 : decode cX4_goOn 94 = .ok (.putfield 41, 3) := by decide +kernel
theorem dX4_goOn_97 : decode cX4_goOn 97 = .ok (.iconst 0, 1) := by decide +kernel
theorem dX4_goOn_98 : decode cX4_goOn 98 = .ok (.istore_n 1, 1) := by decide +kernel
theorem dX4_goOn_99 : decode cX4_goOn 99 = .ok (.iload_n 1, 1) := by decide +kernel
theorem dX4_goOn_100 : decode cX4_goOn 100 = .ok (.iconst 3, 1) := by decide +kernel
theorem dX4_goOn_101 : decode cX4_goOn 101 = .ok (.if_icmp .ge 97, 3) := by decide +kernel
theorem dX4_goOn_104 : decode cX4_goOn 104 = .ok (.aload_n 0, 1) := by decide +kernel
theorem dX4_goOn_105 : decode cX4_goOn 105 = .ok (.getfield 44, 3) := by decide +kernel
theorem dX4_goOn_108 : decode cX4_goOn 108 = .ok (.ifCond .le 90, 3) := by decide +kernel
theorem dX4_goOn_111 : decode cX4_goOn 111 = .ok (.aload_n 0, 1) := by decide +kernel
theorem dX4_goOn_112 : decode cX4_goOn 112 = .ok (.getfield 41, 3) := by decide +kernel
theorem dX4_goOn_115 : decode cX4_goOn 115 = .ok (.aload_n 0, 1) := by decide +kernel
theorem dX4_goOn_116 : decode cX4_goOn 116 = .ok (.aload_n 0, 1) := by decide +kernel
theorem dX4_goOn_117 : decode cX4_goOn 117 = .ok (.getfield 27, 3) := by decide +kernel
theorem dX4_goOn_120 : decode cX4_goOn 120 = .ok (.aload_n 0, 1) := by decide +kernel
theorem dX4_goOn_121 : decode cX4_goOn 121 = .ok (.getfield 44, 3) := by decide +kernel
theorem dX4_goOn_124 : decode cX4_goOn 124 = .ok (.iconst 1, 1) := by decide +kernel
theorem dX4_goOn_125 : decode cX4_goOn 125 = .ok (.isub, 1) := by decide +kernel
theorem dX4_goOn_126 : decode cX4_goOn 126 = .ok (.iaload, 1) := by decide +kernel
theorem dX4_goOn_127 : decode cX4_goOn 127 = .ok (.invokevirtual 54, 3) := by decide +kernel
theorem dX4_goOn_130 : decode cX4_goOn 130 = .ok (.if_icmp .ne 68, 3) := by decide +kernel
theorem dX4_goOn_133 : decode cX4_goOn 133 = .ok (.aload_n 0, 1) := by decide +kernel
theorem dX4_goOn_134 : decode cX4_goOn 134 = .ok (.getfield 30, 3) := by decide +kernel
theorem dX4_goOn_137 : decode cX4_goOn 137 = .ok (.aload_n 0, 1) := by decide +kernel
theorem dX4_goOn_138 : decode cX4_goOn 138 = .ok (.getfield 44, 3) := by decide +kernel
theorem dX4_goOn_141 : decode cX4_goOn 141 = .ok (.iconst 1, 1) := by decide +kernel
theorem dX4_goOn_142 : decode cX4_goOn 142 = .ok (.isub, 1) := by decide +kernel
theorem dX4_goOn_143 : decode cX4_goOn 143 = .ok (.iaload, 1) := by decide +kernel
theorem dX4_goOn_144 : decode cX4_goOn 144 = .ok (.ifCond .le 38, 3) := by decide +kernel
theorem dX4_goOn_147 : decode cX4_goOn 147 = .ok (.aload_n 0, 1) := by decide +kernel
theorem dX4_goOn_148 : decode cX4_goOn 148 = .ok (.getfield 30, 3) := by decide +kernel
theorem dX4_goOn_151 : decode cX4_goOn 151 = .ok (.aload_n 0, 1) := by decide +kernel
theorem dX4_goOn_152 : decode cX4_goOn 152 = .ok (.getfield 44, 3) := by decide +kernel
theorem dX4_goOn_155 : decode cX4_goOn 155 = .ok (.iconst 1, 1) := by decide +kernel
theorem dX4_goOn_156 : decode cX4_goOn 156 = .ok (.isub, 1) := by decide +kernel
theorem dX4_goOn_157 : decode cX4_goOn 157 = .ok (.dup2, 1) := by decide +kernel
theorem dX4_goOn_158 : decode cX4_goOn 158 = .ok (.iaload, 1) := by decide +kernel
theorem dX4_goOn_159 : decode cX4_goOn 159 = .ok (.iconst 1, 1) := by decide +kernel
theorem dX4_goOn_160 : decode cX4_goOn 160 = .ok (.isub, 1) := by decide +kernel
theorem dX4_goOn_161 : decode cX4_goOn 161 = .ok (.iastore, 1) := by decide +kernel
theorem dX4_goOn_162 : decode cX4_goOn 162 = .ok (.aload_n 0, 1) := by decide +kernel
theorem dX4_goOn_163 : decode cX4_goOn 163 = .ok (.aload_n 0, 1) := by decide +kernel
theorem dX4_goOn_164 : decode cX4_goOn 164 = .ok (.getfield 27, 3) := by decide +kernel
theorem dX4_goOn_167 : decode cX4_goOn 167 = .ok (.aload_n 0, 1) := by decide +kernel
theorem dX4_goOn_168 : decode cX4_goOn 168 = .ok (.getfield 44, 3) := by decide +kernel
theorem dX4_goOn_171 : decode cX4_goOn 171 = .ok (.iconst 1, 1) := by decide +kernel
theorem dX4_goOn_172 : decode cX4_goOn 172 = .ok (.isub, 1) := by decide +kernel
theorem dX4_goOn_173 : decode cX4_goOn 173 = .ok (.iaload, 1) := by decide +kernel
theorem dX4_goOn_174 : decode cX4_goOn 174 = .ok (.iconst 1, 1) := by decide +kernel
theorem dX4_goOn_175 : decode cX4_goOn 175 = .ok (.iadd, 1) := by decide +kernel
theorem dX4_goOn_176 : decode cX4_goOn 176 = .ok (.putfield 41, 3) := by decide +kernel
theorem dX4_goOn_179 : decode cX4_goOn 179 = .ok (.goto 13, 3) := by decide +kernel
theorem dX4_goOn_182 : decode cX4_goOn 182 = .ok (.aload_n 0, 1) := by decide +kernel
theorem dX4_goOn_183 : decode cX4_goOn 183 = .ok (.dup, 1) := by decide +kernel
theorem dX4_goOn_184 : decode cX4_goOn 184 = .ok (.getfield 44, 3) := by decide +kernel
theorem dX4_goOn_187 : decode cX4_goOn 187 = .ok (.iconst 1, 1) := by decide +kernel
theorem dX4_goOn_188 : decode cX4_goOn 188 = .ok (.isub, 1) := by decide +kernel
theorem dX4_goOn_189 : decode cX4_goOn 189 = .ok (.putfield 44, 3) := by decide +kernel
theorem dX4_goOn_192 : decode cX4_goOn 192 = .ok (.iinc 1 1, 3) := by decide +kernel
theorem dX4_goOn_195 : decode cX4_goOn 195 = .ok (.goto (-96), 3) := by decide +kernel
theorem dX4_goOn_198 : decode cX4_goOn 198 = .ok (.return_, 1) := by decide +kernel
theorem dX4_openTimes_0 : decode cX4_openTimes 0 = .ok (.aload_n 1, 1) := by decide +kernel
theorem dX4_openTimes_1 : decode cX4_openTimes 1 = .ok (.invokevirtual 117, 3) := by decide +kernel
theorem dX4_openTimes_4 : decode cX4_openTimes 4 = .ok (.bipush 40, 2) := by decide +kernel
theorem dX4_openTimes_6 : decode cX4_openTimes 6 = .ok (.if_icmp .ne 20, 3) := by decide +kernel
theorem dX4_openTimes_9 : decode cX4_openTimes 9 = .ok (.aload_n 0, 1) := by decide +kernel
theorem dX4_openTimes_10 : decode cX4_openTimes 10 = .ok (.getfield 44, 3) := by decide +kernel
theorem dX4_openTimes_13 : decode cX4_openTimes 13 = .ok (.iconst 3, 1) := by decide +kernel
theorem dX4_openTimes_14 : decode cX4_openTimes 14 = .ok (.if_icmp .lt 12, 3) := by decide +kernel
theorem dX4_openTimes_17 : decode cX4_openTimes 17 = .ok (.aload_n 1, 1) := by decide +kernel
theorem dX4_openTimes_18 : decode cX4_openTimes 18 = .ok (.aload_n 1, 1) := by decide +kernel
theorem dX4_openTimes_19 : decode cX4_openTimes 19 = .ok (.getfield 120, 3) := by decide +kernel
theorem dX4_openTimes_22 : decode cX4_openTimes 22 = .ok (.iconst 3, 1) := by decide +kernel
theorem dX4_openTimes_23 : decode cX4_openTimes 23 = .ok (.invokevirtual 110, 3) := by decide +kernel
theorem dX4_openTimes_26 : decode cX4_openTimes 26 = .ok (.aload_n 1, 1) := by decide +kernel
theorem dX4_openTimes_27 : decode cX4_openTimes 27 = .ok (.bipush 40, 2) := by decide +kernel
theorem dX4_openTimes_29 : decode cX4_openTimes 29 = .ok (.invokevirtual 121, 3) := by decide +kernel
theorem dX4_openTimes_32 : decode cX4_openTimes 32 = .ok (.aload_n 1, 1) := by decide +kernel
theorem dX4_openTimes_33 : decode cX4_openTimes 33 = .ok (.invokevirtual 70, 3) := by decide +kernel
theorem dX4_openTimes_36 : decode cX4_openTimes 36 = .ok (.ifCond .eq 26, 3) := by decide +kernel
theorem dX4_openTimes_39 : decode cX4_openTimes 39 = .ok (.aload_n 0, 1) := by decide +kernel
theorem dX4_openTimes_40 : decode cX4_openTimes 40 = .ok (.getfield 27, 3) := by decide +kernel
theorem dX4_openTimes_43 : decode cX4_openTimes 43 = .ok (.aload_n 0, 1) := by decide +kernel
theorem dX4_openTimes_44 : decode cX4_openTimes 44 = .ok (.getfield 44, 3) := by decide +kernel
theorem dX4_openTimes_47 : decode cX4_openTimes 47 = .ok (.aload_n 0, 1) := by decide +kernel
theorem dX4_openTimes_48 : decode cX4_openTimes 48 = .ok (.getfield 33, 3) := by decide +kernel
theorem dX4_openTimes_51 : decode cX4_openTimes 51 = .ok (.iastore, 1) := by decide +kernel
theorem dX4_openTimes_52 : decode cX4_openTimes 52 = .ok (.aload_n 0, 1) := by decide +kernel
theorem dX4_openTimes_53 : decode cX4_openTimes 53 = .ok (.dup, 1) := by decide +kernel
theorem dX4_openTimes_54 : decode cX4_openTimes 54 = .ok (.getfield 44, 3) := by decide +kernel
theorem dX4_openTimes_57 : decode cX4_openTimes 57 = .ok (.iconst 1, 1) := by decide +kernel
theorem dX4_openTimes_58 : decode cX4_openTimes 58 = .ok (.iadd, 1) := by decide +kernel
theorem dX4_openTimes_59 : decode cX4_openTimes 59 = .ok (.putfield 44, 3) := by decide +kernel
theorem dX4_openTimes_62 : decode cX4_openTimes 62 = .ok (.return_, 1) := by decide +kernel
theorem dX4_addStep_0 : decode cX4_addStep 0 = .ok (.aload_n 0, 1) := by decide +kernel
theorem dX4_addStep_1 : decode cX4_addStep 1 = .ok (.getfield 33, 3) := by decide +kernel
theorem dX4_addStep_4 : decode cX4_addStep 4 = .ok (.bipush 80, 2) := by decide +kernel
theorem dX4_addStep_6 : decode cX4_addStep 6 = .ok (.if_icmp .ge 69, 3) := by decide +kernel
theorem dX4_addStep_9 : decode cX4_addStep 9 = .ok (.aload_n 0, 1) := by decide +kernel
theorem dX4_addStep_10 : decode cX4_addStep 10 = .ok (.getfield 11, 3) := by decide +kernel
theorem dX4_addStep_13 : decode cX4_addStep 13 = .ok (.aload_n 0, 1) := by decide +kernel
theorem dX4_addStep_14 : decode cX4_addStep 14 = .ok (.getfield 33, 3) := by decide +kernel
theorem dX4_addStep_17 : decode cX4_addStep 17 = .ok (.iload_n 1, 1) := by decide +kernel
theorem dX4_addStep_18 : decode cX4_addStep 18 = .ok (.iastore, 1) := by decide +kernel
theorem dX4_addStep_19 : decode cX4_addStep 19 = .ok (.aload_n 0, 1) := by decide +kernel
theorem dX4_addStep_20 : decode cX4_addStep 20 = .ok (.getfield 15, 3) := by decide +kernel
theorem dX4_addStep_23 : decode cX4_addStep 23 = .ok (.aload_n 0, 1) := by decide +kernel
theorem dX4_addStep_24 : decode cX4_addStep 24 = .ok (.getfield 33, 3) := by decide +kernel
theorem dX4_addStep_27 : decode cX4_addStep 27 = .ok (.iload_n 2, 1) := by decide +kernel
theorem dX4_addStep_28 : decode cX4_addStep 28 = .ok (.iastore, 1) := by decide +kernel
theorem dX4_addStep_29 : decode cX4_addStep 29 = .ok (.aload_n 0, 1) := by decide +kernel
theorem dX4_addStep_30 : decode cX4_addStep 30 = .ok (.getfield 18, 3) := by decide +kernel
theorem dX4_addStep_33 : decode cX4_addStep 33 = .ok (.aload_n 0, 1) := by decide +kernel
theorem dX4_addStep_34 : decode cX4_addStep 34 = .ok (.getfield 33, 3) := by decide +kernel
theorem dX4_addStep_37 : decode cX4_addStep 37 = .ok (.iload_n 3, 1) := by decide +kernel
theorem dX4_addStep_38 : decode cX4_addStep 38 = .ok (.iastore, 1) := by decide +kernel
theorem dX4_addStep_39 : decode cX4_addStep 39 = .ok (.aload_n 0, 1) := by decide +kernel
theorem dX4_addStep_40 : decode cX4_addStep 40 = .ok (.getfield 21, 3) := by decide +kernel
theorem dX4_addStep_43 : decode cX4_addStep 43 = .ok (.aload_n 0, 1) := by decide +kernel
theorem dX4_addStep_44 : decode cX4_addStep 44 = .ok (.getfield 33, 3) := by decide +kernel
theorem dX4_addStep_47 : decode cX4_addStep 47 = .ok (.iload 4, 2) := by decide +kernel
theorem dX4_addStep_49 : decode cX4_addStep 49 = .ok (.iastore, 1) := by decide +kernel
theorem dX4_addStep_50 : decode cX4_addStep 50 = .ok (.aload_n 0, 1) := by decide +kernel
theorem dX4_addStep_51 : decode cX4_addStep 51 = .ok (.getfield 24, 3) := by decide +kernel
theorem dX4_addStep_54 : decode cX4_addStep 54 = .ok (.aload_n 0, 1) := by decide +kernel
theorem dX4_addStep_55 : decode cX4_addStep 55 = .ok (.getfield 33, 3) := by decide +kernel
theorem dX4_addStep_58 : decode cX4_addStep 58 = .ok (.aload_n 0, 1) := by decide +kernel
theorem dX4_addStep_59 : decode cX4_addStep 59 = .ok (.getfield 33, 3) := by decide +kernel
theorem dX4_addStep_62 : decode cX4_addStep 62 = .ok (.iconst 1, 1) := by decide +kernel
theorem dX4_addStep_63 : decode cX4_addStep 63 = .ok (.iadd, 1) := by decide +kernel
theorem dX4_addStep_64 : decode cX4_addStep 64 = .ok (.iastore, 1) := by decide +kernel
theorem dX4_addStep_65 : decode cX4_addStep 65 = .ok (.aload_n 0, 1) := by decide +kernel
theorem dX4_addStep_66 : decode cX4_addStep 66 = .ok (.dup, 1) := by decide +kernel
theorem dX4_addStep_67 : decode cX4_addStep 67 = .ok (.getfield 33, 3) := by decide +kernel
theorem dX4_addStep_70 : decode cX4_addStep 70 = .ok (.iconst 1, 1) := by decide +kernel
theorem dX4_addStep_71 : decode cX4_addStep 71 = .ok (.iadd, 1) := by decide +kernel
theorem dX4_addStep_72 : decode cX4_addStep 72 = .ok (.putfield 33, 3) := by decide +kernel
theorem dX4_addStep_75 : decode cX4_addStep 75 = .ok (.return_, 1) := by decide +kernel
theorem dX4_readStep_0 : decode cX4_readStep 0 = .ok (.iconst 0, 1) := by decide +kernel
theorem dX4_readStep_1 : decode cX4_readStep 1 = .ok (.istore 4, 2) := by decide +kernel
theorem dX4_readStep_3 : decode cX4_readStep 3 = .ok (.iconst 0, 1) := by decide +kernel
theorem dX4_readStep_4 : decode cX4_readStep 4 = .ok (.istore 5, 2) := by decide +kernel
theorem dX4_readStep_6 : decode cX4_readStep 6 = .ok (.aload_n 2, 1) := by decide +kernel
theorem dX4_readStep_7 : decode cX4_readStep 7 = .ok (.iconst 0, 1) := by decide +kernel
theorem dX4_readStep_8 : decode cX4_readStep 8 = .ok (.putfield 78, 3) := by decide +kernel
theorem dX4_readStep_11 : decode cX4_readStep 11 = .ok (.iload_n 1, 1) := by decide +kernel
theorem dX4_readStep_12 : decode cX4_readStep 12 = .ok (.tableswitch 166 6 12 #[44, 124, 75, 93, 109, 121, 149], 44) := by decide +kernel
theorem dX4_readStep_56 : decode cX4_readStep 56 = .ok (.aload_n 2, 1) := by decide +kernel
theorem dX4_readStep_57 : decode cX4_readStep 57 = .ok (.iconst 0, 1) := by decide +kernel
theorem dX4_readStep_58 : decode cX4_readStep 58 = .ok (.aload_n 3, 1) := by decide +kernel
theorem dX4_readStep_59 : decode cX4_readStep 59 = .ok (.getfield 81, 3) := by decide +kernel
theorem dX4_readStep_62 : decode cX4_readStep 62 = .ok (.iconst 1, 1) := by decide +kernel
theorem dX4_readStep_63 : decode cX4_readStep 63 = .ok (.isub, 1) := by decide +kernel
theorem dX4_readStep_64 : decode cX4_readStep 64 = .ok (.invokevirtual 86, 3) := by decide +kernel
theorem dX4_readStep_67 : decode cX4_readStep 67 = .ok (.istore 4, 2) := by decide +kernel
theorem dX4_readStep_69 : decode cX4_readStep 69 = .ok (.aload_n 2, 1) := by decide +kernel
theorem dX4_readStep_70 : decode cX4_readStep 70 = .ok (.iconst 0, 1) := by decide +kernel
theorem dX4_readStep_71 : decode cX4_readStep 71 = .ok (.aload_n 3, 1) := by decide +kernel
theorem dX4_readStep_72 : decode cX4_readStep 72 = .ok (.getfield 90, 3) := by decide +kernel
theorem dX4_readStep_75 : decode cX4_readStep 75 = .ok (.invokevirtual 93, 3) := by decide +kernel
theorem dX4_readStep_78 : decode cX4_readStep 78 = .ok (.aload_n 2, 1) := by decide +kernel
theorem dX4_readStep_79 : decode cX4_readStep 79 = .ok (.getfield 97, 3) := by decide +kernel
theorem dX4_readStep_82 : decode cX4_readStep 82 = .ok (.istore 5, 2) := by decide +kernel
theorem dX4_readStep_84 : decode cX4_readStep 84 = .ok (.goto 103, 3) := by decide +kernel
theorem dX4_readStep_87 : decode cX4_readStep 87 = .ok (.aload_n 2, 1) := by decide +kernel
theorem dX4_readStep_88 : decode cX4_readStep 88 = .ok (.iconst 0, 1) := by decide +kernel
theorem dX4_readStep_89 : decode cX4_readStep 89 = .ok (.aload_n 3, 1) := by decide +kernel
theorem dX4_readStep_90 : decode cX4_readStep 90 = .ok (.getfield 90, 3) := by decide +kernel
theorem dX4_readStep_93 : decode cX4_readStep 93 = .ok (.invokevirtual 93, 3) := by decide +kernel
theorem dX4_readStep_96 : decode cX4_readStep 96 = .ok (.aload_n 2, 1) := by decide +kernel
theorem dX4_readStep_97 : decode cX4_readStep 97 = .ok (.getfield 97, 3) := by decide +kernel
theorem dX4_readStep_100 : decode cX4_readStep 100 = .ok (.istore 5, 2) := by decide +kernel
theorem dX4_readStep_102 : decode cX4_readStep 102 = .ok (.goto 85, 3) := by decide +kernel
theorem dX4_readStep_105 : decode cX4_readStep 105 = .ok (.aload_n 2, 1) := by decide +kernel
theorem dX4_readStep_106 : decode cX4_readStep 106 = .ok (.iconst 0, 1) := by decide +kernel
theorem dX4_readStep_107 : decode cX4_readStep 107 = .ok (.aload_n 3, 1) := by decide +kernel
theorem dX4_readStep_108 : decode cX4_readStep 108 = .ok (.getfield 81, 3) := by decide +kernel
theorem dX4_readStep_111 : decode cX4_readStep 111 = .ok (.iconst 1, 1) := by decide +kernel
theorem dX4_readStep_112 : decode cX4_readStep 112 = .ok (.isub, 1) := by decide +kernel
theorem dX4_readStep_113 : decode cX4_readStep 113 = .ok (.invokevirtual 86, 3) := by decide +kernel
theorem dX4_readStep_116 : decode cX4_readStep 116 = .ok (.istore 4, 2) := by decide +kernel
theorem dX4_readStep_118 : decode cX4_readStep 118 = .ok (.goto 69, 3) := by decide +kernel
theorem dX4_readStep_121 : decode cX4_readStep 121 = .ok (.aload_n 2, 1) := by decide +kernel
theorem dX4_readStep_122 : decode cX4_readStep 122 = .ok (.iconst 1, 1) := by decide +kernel
theorem dX4_readStep_123 : decode cX4_readStep 123 = .ok (.bipush 99, 2) := by decide +kernel
theorem dX4_readStep_125 : decode cX4_readStep 125 = .ok (.invokevirtual 86, 3) := by decide +kernel
theorem dX4_readStep_128 : decode cX4_readStep 128 = .ok (.istore 4, 2) := by decide +kernel
theorem dX4_readStep_130 : decode cX4_readStep 130 = .ok (.goto 57, 3) := by decide +kernel
theorem dX4_readStep_133 : decode cX4_readStep 133 = .ok (.goto 54, 3) := by decide +kernel
theorem dX4_readStep_136 : decode cX4_readStep 136 = .ok (.aload_n 2, 1) := by decide +kernel
theorem dX4_readStep_137 : decode cX4_readStep 137 = .ok (.iconst 0, 1) := by decide +kernel
theorem dX4_readStep_138 : decode cX4_readStep 138 = .ok (.aload_n 3, 1) := by decide +kernel
theorem dX4_readStep_139 : decode cX4_readStep 139 = .ok (.invokevirtual 100, 3) := by decide +kernel
theorem dX4_readStep_142 : decode cX4_readStep 142 = .ok (.iconst 1, 1) := by decide +kernel
theorem dX4_readStep_143 : decode cX4_readStep 143 = .ok (.isub, 1) := by decide +kernel
theorem dX4_readStep_144 : decode cX4_readStep 144 = .ok (.invokevirtual 86, 3) := by decide +kernel
theorem dX4_readStep_147 : decode cX4_readStep 147 = .ok (.istore 4, 2) := by decide +kernel
theorem dX4_readStep_149 : decode cX4_readStep 149 = .ok (.aload_n 2, 1) := by decide +kernel
theorem dX4_readStep_150 : decode cX4_readStep 150 = .ok (.iconst 0, 1) := by decide +kernel
theorem dX4_readStep_151 : decode cX4_readStep 151 = .ok (.bipush 9, 2) := by decide +kernel
theorem dX4_readStep_153 : decode cX4_readStep 153 = .ok (.invokevirtual 86, 3) := by decide +kernel
theorem dX4_readStep_156 : decode cX4_readStep 156 = .ok (.istore 5, 2) := by decide +kernel
theorem dX4_readStep_158 : decode cX4_readStep 158 = .ok (.goto 29, 3) := by decide +kernel
theorem dX4_readStep_161 : decode cX4_readStep 161 = .ok (.aload_n 2, 1) := by decide +kernel
theorem dX4_readStep_162 : decode cX4_readStep 162 = .ok (.iconst 0, 1) := by decide +kernel
theorem dX4_readStep_163 : decode cX4_readStep 163 = .ok (.bipush 20, 2) := by decide +kernel
theorem dX4_readStep_165 : decode cX4_readStep 165 = .ok (.invokevirtual 86, 3) := by decide +kernel
theorem dX4_readStep_168 : decode cX4_readStep 168 = .ok (.istore 4, 2) := by decide +kernel
theorem dX4_readStep_170 : decode cX4_readStep 170 = .ok (.aload_n 0, 1) := by decide +kernel
theorem dX4_readStep_171 : decode cX4_readStep 171 = .ok (.aload_n 2, 1) := by decide +kernel
theorem dX4_readStep_172 : decode cX4_readStep 172 = .ok (.invokevirtual 103, 3) := by decide +kernel
theorem dX4_readStep_175 : decode cX4_readStep 175 = .ok (.goto 12, 3) := by decide +kernel
theorem dX4_readStep_178 : decode cX4_readStep 178 = .ok (.aload_n 2, 1) := by decide +kernel
theorem dX4_readStep_179 : decode cX4_readStep 179 = .ok (.aload_n 2, 1) := by decide +kernel
theorem dX4_readStep_180 : decode cX4_readStep 180 = .ok (.getfield 107, 3) := by decide +kernel
theorem dX4_readStep_183 : decode cX4_readStep 183 = .ok (.iconst 1, 1) := by decide +kernel
theorem dX4_readStep_184 : decode cX4_readStep 184 = .ok (.invokevirtual 110, 3) := by decide +kernel
theorem dX4_readStep_187 : decode cX4_readStep 187 = .ok (.aload_n 2, 1) := by decide +kernel
theorem dX4_readStep_188 : decode cX4_readStep 188 = .ok (.invokevirtual 70, 3) := by decide +kernel
theorem dX4_readStep_191 : decode cX4_readStep 191 = .ok (.ifCond .eq 16, 3) := by decide +kernel
theorem dX4_readStep_194 : decode cX4_readStep 194 = .ok (.aload_n 0, 1) := by decide +kernel
theorem dX4_readStep_195 : decode cX4_readStep 195 = .ok (.iload_n 1, 1) := by decide +kernel
theorem dX4_readStep_196 : decode cX4_readStep 196 = .ok (.iload 4, 2) := by decide +kernel
theorem dX4_readStep_198 : decode cX4_readStep 198 = .ok (.iload 5, 2) := by decide +kernel
theorem dX4_readStep_200 : decode cX4_readStep 200 = .ok (.aload_n 2, 1) := by decide +kernel
theorem dX4_readStep_201 : decode cX4_readStep 201 = .ok (.getfield 78, 3) := by decide +kernel
theorem dX4_readStep_204 : decode cX4_readStep 204 = .ok (.invokevirtual 113, 3) := by decide +kernel
theorem dX4_readStep_207 : decode cX4_readStep 207 = .ok (.return_, 1) := by decide +kernel
theorem dX4_closeTimes_0 : decode cX4_closeTimes 0 = .ok (.aload_n 0, 1) := by decide +kernel
theorem dX4_closeTimes_1 : decode cX4_closeTimes 1 = .ok (.iload_n 1, 1) := by decide +kernel
theorem dX4_closeTimes_2 : decode cX4_closeTimes 2 = .ok (.invokevirtual 37, 3) := by decide +kernel
theorem dX4_closeTimes_5 : decode cX4_closeTimes 5 = .ok (.ifCond .eq 13, 3) := by decide +kernel
theorem dX4_closeTimes_8 : decode cX4_closeTimes 8 = .ok (.aload_n 0, 1) := by decide +kernel
theorem dX4_closeTimes_9 : decode cX4_closeTimes 9 = .ok (.getfield 24, 3) := by decide +kernel
theorem dX4_closeTimes_12 : decode cX4_closeTimes 12 = .ok (.iload_n 1, 1) := by decide +kernel
theorem dX4_closeTimes_13 : decode cX4_closeTimes 13 = .ok (.aload_n 0, 1) := by decide +kernel
theorem dX4_closeTimes_14 : decode cX4_closeTimes 14 = .ok (.getfield 33, 3) := by decide +kernel
theorem dX4_closeTimes_17 : decode cX4_closeTimes 17 = .ok (.iastore, 1) := by decide +kernel
theorem dX4_closeTimes_18 : decode cX4_closeTimes 18 = .ok (.return_, 1) := by decide +kernel
theorem dX4_goesOn_0 : decode cX4_goesOn 0 = .ok (.iconst 0, 1) := by decide +kernel
theorem dX4_goesOn_1 : decode cX4_goesOn 1 = .ok (.istore_n 2, 1) := by decide +kernel
theorem dX4_goesOn_2 : decode cX4_goesOn 2 = .ok (.iload_n 2, 1) := by decide +kernel
theorem dX4_goesOn_3 : decode cX4_goesOn 3 = .ok (.iconst 3, 1) := by decide +kernel
theorem dX4_goesOn_4 : decode cX4_goesOn 4 = .ok (.if_icmp .gt 101, 3) := by decide +kernel
theorem dX4_goesOn_7 : decode cX4_goesOn 7 = .ok (.aload_n 1, 1) := by decide +kernel
theorem dX4_goesOn_8 : decode cX4_goesOn 8 = .ok (.invokevirtual 117, 3) := by decide +kernel
theorem dX4_goesOn_11 : decode cX4_goesOn 11 = .ok (.istore_n 3, 1) := by decide +kernel
theorem dX4_goesOn_12 : decode cX4_goesOn 12 = .ok (.iload_n 3, 1) := by decide +kernel
theorem dX4_goesOn_13 : decode cX4_goesOn 13 = .ok (.bipush 59, 2) := by decide +kernel
theorem dX4_goesOn_15 : decode cX4_goesOn 15 = .ok (.if_icmp .ne 15, 3) := by decide +kernel
theorem dX4_goesOn_18 : decode cX4_goesOn 18 = .ok (.aload_n 1, 1) := by decide +kernel
theorem dX4_goesOn_19 : decode cX4_goesOn 19 = .ok (.dup, 1) := by decide +kernel
theorem dX4_goesOn_20 : decode cX4_goesOn 20 = .ok (.getfield 120, 3) := by decide +kernel
theorem dX4_goesOn_23 : decode cX4_goesOn 23 = .ok (.iconst 1, 1) := by decide +kernel
theorem dX4_goesOn_24 : decode cX4_goesOn 24 = .ok (.iadd, 1) := by decide +kernel
theorem dX4_goesOn_25 : decode cX4_goesOn 25 = .ok (.putfield 120, 3) := by decide +kernel
theorem dX4_goesOn_28 : decode cX4_goesOn 28 = .ok (.iconst 1, 1) := by decide +kernel
theorem dX4_goesOn_29 : decode cX4_goesOn 29 = .ok (.ireturn, 1) := by decide +kernel
theorem dX4_goesOn_30 : decode cX4_goesOn 30 = .ok (.iload_n 3, 1) := by decide +kernel
theorem dX4_goesOn_31 : decode cX4_goesOn 31 = .ok (.bipush 41, 2) := by decide +kernel
theorem dX4_goesOn_33 : decode cX4_goesOn 33 = .ok (.if_icmp .ne 10, 3) := by decide +kernel
theorem dX4_goesOn_36 : decode cX4_goesOn 36 = .ok (.aload_n 0, 1) := by decide +kernel
theorem dX4_goesOn_37 : decode cX4_goesOn 37 = .ok (.getfield 44, 3) := by decide +kernel
theorem dX4_goesOn_40 : decode cX4_goesOn 40 = .ok (.ifCond .gt 26, 3) := by decide +kernel
theorem dX4_goesOn_43 : decode cX4_goesOn 43 = .ok (.iload_n 3, 1) := by decide +kernel
theorem dX4_goesOn_44 : decode cX4_goesOn 44 = .ok (.iconst (-1), 1) := by decide +kernel
theorem dX4_goesOn_45 : decode cX4_goesOn 45 = .ok (.if_icmp .ne 10, 3) := by decide +kernel
theorem dX4_goesOn_48 : decode cX4_goesOn 48 = .ok (.aload_n 0, 1) := by decide +kernel
theorem dX4_goesOn_49 : decode cX4_goesOn 49 = .ok (.getfield 44, 3) := by decide +kernel
theorem dX4_goesOn_52 : decode cX4_goesOn 52 = .ok (.ifCond .le 12, 3) := by decide +kernel
theorem dX4_goesOn_55 : decode cX4_goesOn 55 = .ok (.aload_n 1, 1) := by decide +kernel
theorem dX4_goesOn_56 : decode cX4_goesOn 56 = .ok (.aload_n 1, 1) := by decide +kernel
theorem dX4_goesOn_57 : decode cX4_goesOn 57 = .ok (.getfield 120, 3) := by decide +kernel
theorem dX4_goesOn_60 : decode cX4_goesOn 60 = .ok (.iconst 1, 1) := by decide +kernel
theorem dX4_goesOn_61 : decode cX4_goesOn 61 = .ok (.invokevirtual 110, 3) := by decide +kernel
theorem dX4_goesOn_64 : decode cX4_goesOn 64 = .ok (.iconst 0, 1) := by decide +kernel
theorem dX4_goesOn_65 : decode cX4_goesOn 65 = .ok (.ireturn, 1) := by decide +kernel
theorem dX4_goesOn_66 : decode cX4_goesOn 66 = .ok (.aload_n 1, 1) := by decide +kernel
theorem dX4_goesOn_67 : decode cX4_goesOn 67 = .ok (.dup, 1) := by decide +kernel
theorem dX4_goesOn_68 : decode cX4_goesOn 68 = .ok (.getfield 120, 3) := by decide +kernel
theorem dX4_goesOn_71 : decode cX4_goesOn 71 = .ok (.iconst 1, 1) := by decide +kernel
theorem dX4_goesOn_72 : decode cX4_goesOn 72 = .ok (.iadd, 1) := by decide +kernel
theorem dX4_goesOn_73 : decode cX4_goesOn 73 = .ok (.putfield 120, 3) := by decide +kernel
theorem dX4_goesOn_76 : decode cX4_goesOn 76 = .ok (.aload_n 0, 1) := by decide +kernel
theorem dX4_goesOn_77 : decode cX4_goesOn 77 = .ok (.dup, 1) := by decide +kernel
theorem dX4_goesOn_78 : decode cX4_goesOn 78 = .ok (.getfield 44, 3) := by decide +kernel
theorem dX4_goesOn_81 : decode cX4_goesOn 81 = .ok (.iconst 1, 1) := by decide +kernel
theorem dX4_goesOn_82 : decode cX4_goesOn 82 = .ok (.isub, 1) := by decide +kernel
theorem dX4_goesOn_83 : decode cX4_goesOn 83 = .ok (.putfield 44, 3) := by decide +kernel
theorem dX4_goesOn_86 : decode cX4_goesOn 86 = .ok (.aload_n 0, 1) := by decide +kernel
theorem dX4_goesOn_87 : decode cX4_goesOn 87 = .ok (.aload_n 0, 1) := by decide +kernel
theorem dX4_goesOn_88 : decode cX4_goesOn 88 = .ok (.getfield 27, 3) := by decide +kernel
theorem dX4_goesOn_91 : decode cX4_goesOn 91 = .ok (.aload_n 0, 1) := by decide +kernel
theorem dX4_goesOn_92 : decode cX4_goesOn 92 = .ok (.getfield 44, 3) := by decide +kernel
theorem dX4_goesOn_95 : decode cX4_goesOn 95 = .ok (.iaload, 1) := by decide +kernel
theorem dX4_goesOn_96 : decode cX4_goesOn 96 = .ok (.invokevirtual 125, 3) := by decide +kernel
theorem dX4_goesOn_99 : decode cX4_goesOn 99 = .ok (.iinc 2 1, 3) := by decide +kernel
theorem dX4_goesOn_102 : decode cX4_goesOn 102 = .ok (.goto (-100), 3) := by decide +kernel
theorem dX4_goesOn_105 : decode cX4_goesOn 105 = .ok (.iconst 0, 1) := by decide +kernel
theorem dX4_goesOn_106 : decode cX4_goesOn 106 = .ok (.ireturn, 1) := by decide +kernel
theorem dX4_readFrom_0 : decode cX4_readFrom 0 = .ok (.aload_n 0, 1) := by decide +kernel
theorem dX4_readFrom_1 : decode cX4_readFrom 1 = .ok (.iconst 0, 1) := by decide +kernel
theorem dX4_readFrom_2 : decode cX4_readFrom 2 = .ok (.putfield 33, 3) := by decide +kernel
theorem dX4_readFrom_5 : decode cX4_readFrom 5 = .ok (.aload_n 0, 1) := by decide +kernel
theorem dX4_readFrom_6 : decode cX4_readFrom 6 = .ok (.iconst 0, 1) := by decide +kernel
theorem dX4_readFrom_7 : decode cX4_readFrom 7 = .ok (.putfield 44, 3) := by decide +kernel
theorem dX4_readFrom_10 : decode cX4_readFrom 10 = .ok (.aload_n 1, 1) := by decide +kernel
theorem dX4_readFrom_11 : decode cX4_readFrom 11 = .ok (.invokevirtual 57, 3) := by decide +kernel
theorem dX4_readFrom_14 : decode cX4_readFrom 14 = .ok (.iconst 1, 1) := by decide +kernel
theorem dX4_readFrom_15 : decode cX4_readFrom 15 = .ok (.istore_n 3, 1) := by decide +kernel
theorem dX4_readFrom_16 : decode cX4_readFrom 16 = .ok (.iconst 0, 1) := by decide +kernel
theorem dX4_readFrom_17 : decode cX4_readFrom 17 = .ok (.istore 4, 2) := by decide +kernel
theorem dX4_readFrom_19 : decode cX4_readFrom 19 = .ok (.iload 4, 2) := by decide +kernel
theorem dX4_readFrom_21 : decode cX4_readFrom 21 = .ok (.bipush 80, 2) := by decide +kernel
theorem dX4_readFrom_23 : decode cX4_readFrom 23 = .ok (.if_icmp .ge 55, 3) := by decide +kernel
theorem dX4_readFrom_26 : decode cX4_readFrom 26 = .ok (.iload_n 3, 1) := by decide +kernel
theorem dX4_readFrom_27 : decode cX4_readFrom 27 = .ok (.ifCond .eq 51, 3) := by decide +kernel
theorem dX4_readFrom_30 : decode cX4_readFrom 30 = .ok (.aload_n 1, 1) := by decide +kernel
theorem dX4_readFrom_31 : decode cX4_readFrom 31 = .ok (.invokevirtual 62, 3) := by decide +kernel
theorem dX4_readFrom_34 : decode cX4_readFrom 34 = .ok (.istore 5, 2) := by decide +kernel
theorem dX4_readFrom_36 : decode cX4_readFrom 36 = .ok (.aload_n 0, 1) := by decide +kernel
theorem dX4_readFrom_37 : decode cX4_readFrom 37 = .ok (.iload 5, 2) := by decide +kernel
theorem dX4_readFrom_39 : decode cX4_readFrom 39 = .ok (.aload_n 1, 1) := by decide +kernel
theorem dX4_readFrom_40 : decode cX4_readFrom 40 = .ok (.aload_n 2, 1) := by decide +kernel
theorem dX4_readFrom_41 : decode cX4_readFrom 41 = .ok (.invokevirtual 66, 3) := by decide +kernel
theorem dX4_readFrom_44 : decode cX4_readFrom 44 = .ok (.aload_n 1, 1) := by decide +kernel
theorem dX4_readFrom_45 : decode cX4_readFrom 45 = .ok (.invokevirtual 70, 3) := by decide +kernel
theorem dX4_readFrom_48 : decode cX4_readFrom 48 = .ok (.ifCond .eq 22, 3) := by decide +kernel
theorem dX4_readFrom_51 : decode cX4_readFrom 51 = .ok (.iload 5, 2) := by decide +kernel
theorem dX4_readFrom_53 : decode cX4_readFrom 53 = .ok (.bipush 12, 2) := by decide +kernel
theorem dX4_readFrom_55 : decode cX4_readFrom 55 = .ok (.if_icmp .eq 11, 3) := by decide +kernel
theorem dX4_readFrom_58 : decode cX4_readFrom 58 = .ok (.aload_n 0, 1) := by decide +kernel
theorem dX4_readFrom_59 : decode cX4_readFrom 59 = .ok (.aload_n 1, 1) := by decide +kernel
theorem dX4_readFrom_60 : decode cX4_readFrom 60 = .ok (.invokevirtual 74, 3) := by decide +kernel
theorem dX4_readFrom_63 : decode cX4_readFrom 63 = .ok (.ifCond .eq 7, 3) := by decide +kernel
theorem dX4_readFrom_66 : decode cX4_readFrom 66 = .ok (.iconst 1, 1) := by decide +kernel
theorem dX4_readFrom_67 : decode cX4_readFrom 67 = .ok (.goto 4, 3) := by decide +kernel
theorem dX4_readFrom_70 : decode cX4_readFrom 70 = .ok (.iconst 0, 1) := by decide +kernel
theorem dX4_readFrom_71 : decode cX4_readFrom 71 = .ok (.istore_n 3, 1) := by decide +kernel
theorem dX4_readFrom_72 : decode cX4_readFrom 72 = .ok (.iinc 4 1, 3) := by decide +kernel
theorem dX4_readFrom_75 : decode cX4_readFrom 75 = .ok (.goto (-56), 3) := by decide +kernel
theorem dX4_readFrom_78 : decode cX4_readFrom 78 = .ok (.return_, 1) := by decide +kernel
theorem dX5_addNumber_0 : decode cX5_addNumber 0 = .ok (.bipush 24, 2) := by decide +kernel
theorem dX5_addNumber_2 : decode cX5_addNumber 2 = .ok (.istore_n 2, 1) := by decide +kernel
theorem dX5_addNumber_3 : decode cX5_addNumber 3 = .ok (.iload_n 2, 1) := by decide +kernel
theorem dX5_addNumber_4 : decode cX5_addNumber 4 = .ok (.ifCond .lt 45, 3) := by decide +kernel
theorem dX5_addNumber_7 : decode cX5_addNumber 7 = .ok (.aload_n 0, 1) := by decide +kernel
theorem dX5_addNumber_8 : decode cX5_addNumber 8 = .ok (.getfield 15, 3) := by decide +kernel
theorem dX5_addNumber_11 : decode cX5_addNumber 11 = .ok (.sipush 400, 3) := by decide +kernel
theorem dX5_addNumber_14 : decode cX5_addNumber 14 = .ok (.if_icmp .ge 29, 3) := by decide +kernel
theorem dX5_addNumber_17 : decode cX5_addNumber 17 = .ok (.aload_n 0, 1) := by decide +kernel
theorem dX5_addNumber_18 : decode cX5_addNumber 18 = .ok (.getfield 9, 3) := by decide +kernel
theorem dX5_addNumber_21 : decode cX5_addNumber 21 = .ok (.aload_n 0, 1) := by decide +kernel
theorem dX5_addNumber_22 : decode cX5_addNumber 22 = .ok (.getfield 15, 3) := by decide +kernel
theorem dX5_addNumber_25 : decode cX5_addNumber 25 = .ok (.iload_n 1, 1) := by decide +kernel
theorem dX5_addNumber_26 : decode cX5_addNumber 26 = .ok (.iload_n 2, 1) := by decide +kernel
theorem dX5_addNumber_27 : decode cX5_addNumber 27 = .ok (.ishr, 1) := by decide +kernel
theorem dX5_addNumber_28 : decode cX5_addNumber 28 = .ok (.sipush 255, 3) := by decide +kernel
theorem dX5_addNumber_31 : decode cX5_addNumber 31 = .ok (.iand, 1) := by decide +kernel
theorem dX5_addNumber_32 : decode cX5_addNumber 32 = .ok (.iastore, 1) := by decide +kernel
theorem dX5_addNumber_33 : decode cX5_addNumber 33 = .ok (.aload_n 0, 1) := by decide +kernel
theorem dX5_addNumber_34 : decode cX5_addNumber 34 = .ok (.dup, 1) := by decide +kernel
theorem dX5_addNumber_35 : decode cX5_addNumber 35 = .ok (.getfield 15, 3) := by decide +kernel
theorem dX5_addNumber_38 : decode cX5_addNumber 38 = .ok (.iconst 1, 1) := by decide +kernel
theorem dX5_addNumber_39 : decode cX5_addNumber 39 = .ok (.iadd, 1) := by decide +kernel
theorem dX5_addNumber_40 : decode cX5_addNumber 40 = .ok (.putfield 15, 3) := by decide +kernel
theorem dX5_addNumber_43 : decode cX5_addNumber 43 = .ok (.iinc 2 (-8), 3) := by decide +kernel
theorem dX5_addNumber_46 : decode cX5_addNumber 46 = .ok (.goto (-43), 3) := by decide +kernel
theorem dX5_addNumber_49 : decode cX5_addNumber 49 = .ok (.return_, 1) := by decide +kernel
theorem dX6_isShelf_0 : decode cX6_isShelf 0 = .ok (.iload_n 0, 1) := by decide +kernel
theorem dX6_isShelf_1 : decode cX6_isShelf 1 = .ok (.ifCond .lt 12, 3) := by decide +kernel
theorem dX6_isShelf_4 : decode cX6_isShelf 4 = .ok (.iload_n 0, 1) := by decide +kernel
theorem dX6_isShelf_5 : decode cX6_isShelf 5 = .ok (.iconst 2, 1) := by decide +kernel
theorem dX6_isShelf_6 : decode cX6_isShelf 6 = .ok (.if_icmp .ge 7, 3) := by decide +kernel
theorem dX6_isShelf_9 : decode cX6_isShelf 9 = .ok (.iconst 1, 1) := by decide +kernel
theorem dX6_isShelf_10 : decode cX6_isShelf 10 = .ok (.goto 4, 3) := by decide +kernel
theorem dX6_isShelf_13 : decode cX6_isShelf 13 = .ok (.iconst 0, 1) := by decide +kernel
theorem dX6_isShelf_14 : decode cX6_isShelf 14 = .ok (.ireturn, 1) := by decide +kernel
theorem dX7_in_0 : decode cX7_in 0 = .ok (.lload_n 0, 1) := by decide +kernel
theorem dX7_in_1 : decode cX7_in 1 = .ok (.lload_n 2, 1) := by decide +kernel
theorem dX7_in_2 : decode cX7_in 2 = .ok (.lcmp, 1) := by decide +kernel
theorem dX7_in_3 : decode cX7_in 3 = .ok (.ifCond .lt 14, 3) := by decide +kernel
theorem dX7_in_6 : decode cX7_in 6 = .ok (.lload_n 0, 1) := by decide +kernel
theorem dX7_in_7 : decode cX7_in 7 = .ok (.lload 4, 2) := by decide +kernel
theorem dX7_in_9 : decode cX7_in 9 = .ok (.lcmp, 1) := by decide +kernel
theorem dX7_in_10 : decode cX7_in 10 = .ok (.ifCond .gt 7, 3) := by decide +kernel
theorem dX7_in_13 : decode cX7_in 13 = .ok (.iconst 1, 1) := by decide +kernel
theorem dX7_in_14 : decode cX7_in 14 = .ok (.goto 4, 3) := by decide +kernel
theorem dX7_in_17 : decode cX7_in 17 = .ok (.iconst 0, 1) := by decide +kernel
theorem dX7_in_18 : decode cX7_in 18 = .ok (.ireturn, 1) := by decide +kernel
theorem dX7_isIn_0 : decode cX7_isIn 0 = .ok (.lload_n 0, 1) := by decide +kernel
theorem dX7_isIn_1 : decode cX7_isIn 1 = .ok (.iload_n 2, 1) := by decide +kernel
theorem dX7_isIn_2 : decode cX7_isIn 2 = .ok (.lushr, 1) := by decide +kernel
theorem dX7_isIn_3 : decode cX7_isIn 3 = .ok (.lconst 1, 1) := by decide +kernel
theorem dX7_isIn_4 : decode cX7_isIn 4 = .ok (.land, 1) := by decide +kernel
theorem dX7_isIn_5 : decode cX7_isIn 5 = .ok (.lconst 1, 1) := by decide +kernel
theorem dX7_isIn_6 : decode cX7_isIn 6 = .ok (.lcmp, 1) := by decide +kernel
theorem dX7_isIn_7 : decode cX7_isIn 7 = .ok (.ifCond .ne 7, 3) := by decide +kernel
theorem dX7_isIn_10 : decode cX7_isIn 10 = .ok (.iconst 1, 1) := by decide +kernel
theorem dX7_isIn_11 : decode cX7_isIn 11 = .ok (.goto 4, 3) := by decide +kernel
theorem dX7_isIn_14 : decode cX7_isIn 14 = .ok (.iconst 0, 1) := by decide +kernel
theorem dX7_isIn_15 : decode cX7_isIn 15 = .ok (.ireturn, 1) := by decide +kernel
theorem dX7_isSign_0 : decode cX7_isSign 0 = .ok (.iload_n 0, 1) := by decide +kernel
theorem dX7_isSign_1 : decode cX7_isSign 1 = .ok (.i2l, 1) := by decide +kernel
theorem dX7_isSign_2 : decode cX7_isSign 2 = .ok (.ldc2_w 35, 3) := by decide +kernel
theorem dX7_isSign_5 : decode cX7_isSign 5 = .ok (.ldc2_w 37, 3) := by decide +kernel
theorem dX7_isSign_8 : decode cX7_isSign 8 = .ok (.invokestatic 39, 3) := by decide +kernel
theorem dX7_isSign_11 : decode cX7_isSign 11 = .ok (.ifCond .eq 13, 3) := by decide +kernel
theorem dX7_isSign_14 : decode cX7_isSign 14 = .ok (.iload_n 0, 1) := by decide +kernel
theorem dX7_isSign_15 : decode cX7_isSign 15 = .ok (.bipush 39, 2) := by decide +kernel
theorem dX7_isSign_17 : decode cX7_isSign 17 = .ok (.if_icmp .eq 7, 3) := by decide +kernel
theorem dX7_isSign_20 : decode cX7_isSign 20 = .ok (.iconst 1, 1) := by decide +kernel
theorem dX7_isSign_21 : decode cX7_isSign 21 = .ok (.goto 4, 3) := by decide +kernel
theorem dX7_isSign_24 : decode cX7_isSign 24 = .ok (.iconst 0, 1) := by decide +kernel
theorem dX7_isSign_25 : decode cX7_isSign 25 = .ok (.ireturn, 1) := by decide +kernel
theorem dX7_rows_0 : decode cX7_rows 0 = .ok (.aload_n 0, 1) := by decide +kernel
theorem dX7_rows_1 : decode cX7_rows 1 = .ok (.getfield 7, 3) := by decide +kernel
theorem dX7_rows_4 : decode cX7_rows 4 = .ok (.iconst 0, 1) := by decide +kernel
theorem dX7_rows_5 : decode cX7_rows 5 = .ok (.laload, 1) := by decide +kernel
theorem dX7_rows_6 : decode cX7_rows 6 = .ok (.l2i, 1) := by decide +kernel
theorem dX7_rows_7 : decode cX7_rows 7 = .ok (.ireturn, 1) := by decide +kernel
theorem dX7_wide_0 : decode cX7_wide 0 = .ok (.aload_n 0, 1) := by decide +kernel
theorem dX7_wide_1 : decode cX7_wide 1 = .ok (.getfield 7, 3) := by decide +kernel
theorem dX7_wide_4 : decode cX7_wide 4 = .ok (.iconst 1, 1) := by decide +kernel
theorem dX7_wide_5 : decode cX7_wide 5 = .ok (.laload, 1) := by decide +kernel
theorem dX7_wide_6 : decode cX7_wide 6 = .ok (.l2i, 1) := by decide +kernel
theorem dX7_wide_7 : decode cX7_wide 7 = .ok (.ireturn, 1) := by decide +kernel
theorem dX7_cells_0 : decode cX7_cells 0 = .ok (.aload_n 0, 1) := by decide +kernel
theorem dX7_cells_1 : decode cX7_cells 1 = .ok (.invokevirtual 43, 3) := by decide +kernel
theorem dX7_cells_4 : decode cX7_cells 4 = .ok (.aload_n 0, 1) := by decide +kernel
theorem dX7_cells_5 : decode cX7_cells 5 = .ok (.invokevirtual 47, 3) := by decide +kernel
theorem dX7_cells_8 : decode cX7_cells 8 = .ok (.imul, 1) := by decide +kernel
theorem dX7_cells_9 : decode cX7_cells 9 = .ok (.ireturn, 1) := by decide +kernel
theorem dX7_drums_0 : decode cX7_drums 0 = .ok (.aload_n 0, 1) := by decide +kernel
theorem dX7_drums_1 : decode cX7_drums 1 = .ok (.getfield 7, 3) := by decide +kernel
theorem dX7_drums_4 : decode cX7_drums 4 = .ok (.iconst 3, 1) := by decide +kernel
theorem dX7_drums_5 : decode cX7_drums 5 = .ok (.laload, 1) := by decide +kernel
theorem dX7_drums_6 : decode cX7_drums 6 = .ok (.l2i, 1) := by decide +kernel
theorem dX7_drums_7 : decode cX7_drums 7 = .ok (.ireturn, 1) := by decide +kernel
theorem dX7_isBoard_0 : decode cX7_isBoard 0 = .ok (.aload_n 0, 1) := by decide +kernel
theorem dX7_isBoard_1 : decode cX7_isBoard 1 = .ok (.invokevirtual 50, 3) := by decide +kernel
theorem dX7_isBoard_4 : decode cX7_isBoard 4 = .ok (.ifCond .le 7, 3) := by decide +kernel
theorem dX7_isBoard_7 : decode cX7_isBoard 7 = .ok (.iconst 1, 1) := by decide +kernel
theorem dX7_isBoard_8 : decode cX7_isBoard 8 = .ok (.goto 4, 3) := by decide +kernel
theorem dX7_isBoard_11 : decode cX7_isBoard 11 = .ok (.iconst 0, 1) := by decide +kernel
theorem dX7_isBoard_12 : decode cX7_isBoard 12 = .ok (.ireturn, 1) := by decide +kernel
theorem dX7_isCell_0 : decode cX7_isCell 0 = .ok (.iload_n 1, 1) := by decide +kernel
theorem dX7_isCell_1 : decode cX7_isCell 1 = .ok (.i2l, 1) := by decide +kernel
theorem dX7_isCell_2 : decode cX7_isCell 2 = .ok (.lconst 0, 1) := by decide +kernel
theorem dX7_isCell_3 : decode cX7_isCell 3 = .ok (.aload_n 0, 1) := by decide +kernel
theorem dX7_isCell_4 : decode cX7_isCell 4 = .ok (.invokevirtual 53, 3) := by decide +kernel
theorem dX7_isCell_7 : decode cX7_isCell 7 = .ok (.iconst 1, 1) := by decide +kernel
theorem dX7_isCell_8 : decode cX7_isCell 8 = .ok (.isub, 1) := by decide +kernel
theorem dX7_isCell_9 : decode cX7_isCell 9 = .ok (.i2l, 1) := by decide +kernel
theorem dX7_isCell_10 : decode cX7_isCell 10 = .ok (.invokestatic 39, 3) := by decide +kernel
theorem dX7_isCell_13 : decode cX7_isCell 13 = .ok (.ireturn, 1) := by decide +kernel
theorem dX7_isRow_0 : decode cX7_isRow 0 = .ok (.iload_n 1, 1) := by decide +kernel
theorem dX7_isRow_1 : decode cX7_isRow 1 = .ok (.i2l, 1) := by decide +kernel
theorem dX7_isRow_2 : decode cX7_isRow 2 = .ok (.lconst 0, 1) := by decide +kernel
theorem dX7_isRow_3 : decode cX7_isRow 3 = .ok (.aload_n 0, 1) := by decide +kernel
theorem dX7_isRow_4 : decode cX7_isRow 4 = .ok (.invokevirtual 43, 3) := by decide +kernel
theorem dX7_isRow_7 : decode cX7_isRow 7 = .ok (.iconst 1, 1) := by decide +kernel
theorem dX7_isRow_8 : decode cX7_isRow 8 = .ok (.isub, 1) := by decide +kernel
theorem dX7_isRow_9 : decode cX7_isRow 9 = .ok (.i2l, 1) := by decide +kernel
theorem dX7_isRow_10 : decode cX7_isRow 10 = .ok (.invokestatic 39, 3) := by decide +kernel
theorem dX7_isRow_13 : decode cX7_isRow 13 = .ok (.ireturn, 1) := by decide +kernel
theorem dX7_isDrum_0 : decode cX7_isDrum 0 = .ok (.iload_n 1, 1) := by decide +kernel
theorem dX7_isDrum_1 : decode cX7_isDrum 1 = .ok (.i2l, 1) := by decide +kernel
theorem dX7_isDrum_2 : decode cX7_isDrum 2 = .ok (.lconst 0, 1) := by decide +kernel
theorem dX7_isDrum_3 : decode cX7_isDrum 3 = .ok (.aload_n 0, 1) := by decide +kernel
theorem dX7_isDrum_4 : decode cX7_isDrum 4 = .ok (.invokevirtual 50, 3) := by decide +kernel
theorem dX7_isDrum_7 : decode cX7_isDrum 7 = .ok (.iconst 1, 1) := by decide +kernel
theorem dX7_isDrum_8 : decode cX7_isDrum 8 = .ok (.isub, 1) := by decide +kernel
theorem dX7_isDrum_9 : decode cX7_isDrum 9 = .ok (.i2l, 1) := by decide +kernel
theorem dX7_isDrum_10 : decode cX7_isDrum 10 = .ok (.invokestatic 39, 3) := by decide +kernel
theorem dX7_isDrum_13 : decode cX7_isDrum 13 = .ok (.ireturn, 1) := by decide +kernel
theorem dX7_of_0 : decode cX7_of 0 = .ok (.aload_n 0, 1) := by decide +kernel
theorem dX7_of_1 : decode cX7_of 1 = .ok (.getfield 7, 3) := by decide +kernel
theorem dX7_of_4 : decode cX7_of 4 = .ok (.sipush 176, 3) := by decide +kernel
theorem dX7_of_7 : decode cX7_of 7 = .ok (.bipush 8, 2) := by decide +kernel
theorem dX7_of_9 : decode cX7_of 9 = .ok (.iload_n 1, 1) := by decide +kernel
theorem dX7_of_10 : decode cX7_of 10 = .ok (.imul, 1) := by decide +kernel
theorem dX7_of_11 : decode cX7_of 11 = .ok (.iadd, 1) := by decide +kernel
theorem dX7_of_12 : decode cX7_of 12 = .ok (.iload_n 2, 1) := by decide +kernel
theorem dX7_of_13 : decode cX7_of 13 = .ok (.iadd, 1) := by decide +kernel
theorem dX7_of_14 : decode cX7_of 14 = .ok (.laload, 1) := by decide +kernel
theorem dX7_of_15 : decode cX7_of 15 = .ok (.l2i, 1) := by decide +kernel
theorem dX7_of_16 : decode cX7_of 16 = .ok (.ireturn, 1) := by decide +kernel
theorem dX7_sets_0 : decode cX7_sets 0 = .ok (.aload_n 0, 1) := by decide +kernel
theorem dX7_sets_1 : decode cX7_sets 1 = .ok (.getfield 7, 3) := by decide +kernel
theorem dX7_sets_4 : decode cX7_sets 4 = .ok (.sipush 176, 3) := by decide +kernel
theorem dX7_sets_7 : decode cX7_sets 7 = .ok (.bipush 8, 2) := by decide +kernel
theorem dX7_sets_9 : decode cX7_sets 9 = .ok (.iload_n 1, 1) := by decide +kernel
theorem dX7_sets_10 : decode cX7_sets 10 = .ok (.imul, 1) := by decide +kernel
theorem dX7_sets_11 : decode cX7_sets 11 = .ok (.iadd, 1) := by decide +kernel
theorem dX7_sets_12 : decode cX7_sets 12 = .ok (.iload_n 2, 1) := by decide +kernel
theorem dX7_sets_13 : decode cX7_sets 13 = .ok (.iadd, 1) := by decide +kernel
theorem dX7_sets_14 : decode cX7_sets 14 = .ok (.lload_n 3, 1) := by decide +kernel
theorem dX7_sets_15 : decode cX7_sets 15 = .ok (.lastore, 1) := by decide +kernel
theorem dX7_sets_16 : decode cX7_sets 16 = .ok (.return_, 1) := by decide +kernel
theorem dX7_wornOf_0 : decode cX7_wornOf 0 = .ok (.aload_n 0, 1) := by decide +kernel
theorem dX7_wornOf_1 : decode cX7_wornOf 1 = .ok (.getfield 7, 3) := by decide +kernel
theorem dX7_wornOf_4 : decode cX7_wornOf 4 = .ok (.sipush 176, 3) := by decide +kernel
theorem dX7_wornOf_7 : decode cX7_wornOf 7 = .ok (.bipush 8, 2) := by decide +kernel
theorem dX7_wornOf_9 : decode cX7_wornOf 9 = .ok (.iload_n 1, 1) := by decide +kernel
theorem dX7_wornOf_10 : decode cX7_wornOf 10 = .ok (.imul, 1) := by decide +kernel
theorem dX7_wornOf_11 : decode cX7_wornOf 11 = .ok (.iadd, 1) := by decide +kernel
theorem dX7_wornOf_12 : decode cX7_wornOf 12 = .ok (.bipush 7, 2) := by decide +kernel
theorem dX7_wornOf_14 : decode cX7_wornOf 14 = .ok (.iadd, 1) := by decide +kernel
theorem dX7_wornOf_15 : decode cX7_wornOf 15 = .ok (.laload, 1) := by decide +kernel
theorem dX7_wornOf_16 : decode cX7_wornOf 16 = .ok (.lreturn, 1) := by decide +kernel
theorem dX7_currentOf_0 : decode cX7_currentOf 0 = .ok (.aload_n 0, 1) := by decide +kernel
theorem dX7_currentOf_1 : decode cX7_currentOf 1 = .ok (.getfield 7, 3) := by decide +kernel
theorem dX7_currentOf_4 : decode cX7_currentOf 4 = .ok (.bipush 8, 2) := by decide +kernel
theorem dX7_currentOf_6 : decode cX7_currentOf 6 = .ok (.bipush 42, 2) := by decide +kernel
theorem dX7_currentOf_8 : decode cX7_currentOf 8 = .ok (.iload_n 1, 1) := by decide +kernel
theorem dX7_currentOf_9 : decode cX7_currentOf 9 = .ok (.imul, 1) := by decide +kernel
theorem dX7_currentOf_10 : decode cX7_currentOf 10 = .ok (.iadd, 1) := by decide +kernel
theorem dX7_currentOf_11 : decode cX7_currentOf 11 = .ok (.laload, 1) := by decide +kernel
theorem dX7_currentOf_12 : decode cX7_currentOf 12 = .ok (.l2i, 1) := by decide +kernel
theorem dX7_currentOf_13 : decode cX7_currentOf 13 = .ok (.ireturn, 1) := by decide +kernel
theorem dX7_flapsOf_0 : decode cX7_flapsOf 0 = .ok (.aload_n 0, 1) := by decide +kernel
theorem dX7_flapsOf_1 : decode cX7_flapsOf 1 = .ok (.getfield 7, 3) := by decide +kernel
theorem dX7_flapsOf_4 : decode cX7_flapsOf 4 = .ok (.bipush 8, 2) := by decide +kernel
theorem dX7_flapsOf_6 : decode cX7_flapsOf 6 = .ok (.bipush 42, 2) := by decide +kernel
theorem dX7_flapsOf_8 : decode cX7_flapsOf 8 = .ok (.iload_n 1, 1) := by decide +kernel
theorem dX7_flapsOf_9 : decode cX7_flapsOf 9 = .ok (.imul, 1) := by decide +kernel
theorem dX7_flapsOf_10 : decode cX7_flapsOf 10 = .ok (.iadd, 1) := by decide +kernel
theorem dX7_flapsOf_11 : decode cX7_flapsOf 11 = .ok (.iconst 1, 1) := by decide +kernel
theorem dX7_flapsOf_12 : decode cX7_flapsOf 12 = .ok (.iadd, 1) := by decide +kernel
theorem dX7_flapsOf_13 : decode cX7_flapsOf 13 = .ok (.laload, 1) := by decide +kernel
theorem dX7_flapsOf_14 : decode cX7_flapsOf 14 = .ok (.l2i, 1) := by decide +kernel
theorem dX7_flapsOf_15 : decode cX7_flapsOf 15 = .ok (.ireturn, 1) := by decide +kernel
theorem dX7_signOf_0 : decode cX7_signOf 0 = .ok (.aload_n 0, 1) := by decide +kernel
theorem dX7_signOf_1 : decode cX7_signOf 1 = .ok (.getfield 7, 3) := by decide +kernel
theorem dX7_signOf_4 : decode cX7_signOf 4 = .ok (.bipush 8, 2) := by decide +kernel
theorem dX7_signOf_6 : decode cX7_signOf 6 = .ok (.bipush 42, 2) := by decide +kernel
theorem dX7_signOf_8 : decode cX7_signOf 8 = .ok (.iload_n 1, 1) := by decide +kernel
theorem dX7_signOf_9 : decode cX7_signOf 9 = .ok (.imul, 1) := by decide +kernel
theorem dX7_signOf_10 : decode cX7_signOf 10 = .ok (.iadd, 1) := by decide +kernel
theorem dX7_signOf_11 : decode cX7_signOf 11 = .ok (.iconst 2, 1) := by decide +kernel
theorem dX7_signOf_12 : decode cX7_signOf 12 = .ok (.iadd, 1) := by decide +kernel
theorem dX7_signOf_13 : decode cX7_signOf 13 = .ok (.iload_n 2, 1) := by decide +kernel
theorem dX7_signOf_14 : decode cX7_signOf 14 = .ok (.iadd, 1) := by decide +kernel
theorem dX7_signOf_15 : decode cX7_signOf 15 = .ok (.laload, 1) := by decide +kernel
theorem dX7_signOf_16 : decode cX7_signOf 16 = .ok (.l2i, 1) := by decide +kernel
theorem dX7_signOf_17 : decode cX7_signOf 17 = .ok (.ireturn, 1) := by decide +kernel
theorem dX7_flaps_0 : decode cX7_flaps 0 = .ok (.aload_n 0, 1) := by decide +kernel
theorem dX7_flaps_1 : decode cX7_flaps 1 = .ok (.aload_n 0, 1) := by decide +kernel
theorem dX7_flaps_2 : decode cX7_flaps 2 = .ok (.iload_n 1, 1) := by decide +kernel
theorem dX7_flaps_3 : decode cX7_flaps 3 = .ok (.iconst 0, 1) := by decide +kernel
theorem dX7_flaps_4 : decode cX7_flaps 4 = .ok (.invokevirtual 56, 3) := by decide +kernel
theorem dX7_flaps_7 : decode cX7_flaps 7 = .ok (.invokevirtual 60, 3) := by decide +kernel
theorem dX7_flaps_10 : decode cX7_flaps 10 = .ok (.ireturn, 1) := by decide +kernel
theorem dX7_current_0 : decode cX7_current 0 = .ok (.aload_n 0, 1) := by decide +kernel
theorem dX7_current_1 : decode cX7_current 1 = .ok (.aload_n 0, 1) := by decide +kernel
theorem dX7_current_2 : decode cX7_current 2 = .ok (.iload_n 1, 1) := by decide +kernel
theorem dX7_current_3 : decode cX7_current 3 = .ok (.iconst 0, 1) := by decide +kernel
theorem dX7_current_4 : decode cX7_current 4 = .ok (.invokevirtual 56, 3) := by decide +kernel
theorem dX7_current_7 : decode cX7_current 7 = .ok (.invokevirtual 64, 3) := by decide +kernel
theorem dX7_current_10 : decode cX7_current 10 = .ok (.ireturn, 1) := by decide +kernel
theorem dX7_on_0 : decode cX7_on 0 = .ok (.iload_n 1, 1) := by decide +kernel
theorem dX7_on_1 : decode cX7_on 1 = .ok (.iload_n 0, 1) := by decide +kernel
theorem dX7_on_2 : decode cX7_on 2 = .ok (.isub, 1) := by decide +kernel
theorem dX7_on_3 : decode cX7_on 3 = .ok (.iload_n 2, 1) := by decide +kernel
theorem dX7_on_4 : decode cX7_on 4 = .ok (.iadd, 1) := by decide +kernel
theorem dX7_on_5 : decode cX7_on 5 = .ok (.iload_n 2, 1) := by decide +kernel
theorem dX7_on_6 : decode cX7_on 6 = .ok (.irem, 1) := by decide +kernel
theorem dX7_on_7 : decode cX7_on 7 = .ok (.ireturn, 1) := by decide +kernel
theorem dX7_leftOf_0 : decode cX7_leftOf 0 = .ok (.aload_n 0, 1) := by decide +kernel
theorem dX7_leftOf_1 : decode cX7_leftOf 1 = .ok (.iload_n 1, 1) := by decide +kernel
theorem dX7_leftOf_2 : decode cX7_leftOf 2 = .ok (.iconst 2, 1) := by decide +kernel
theorem dX7_leftOf_3 : decode cX7_leftOf 3 = .ok (.invokevirtual 56, 3) := by decide +kernel
theorem dX7_leftOf_6 : decode cX7_leftOf 6 = .ok (.aload_n 0, 1) := by decide +kernel
theorem dX7_leftOf_7 : decode cX7_leftOf 7 = .ok (.iload_n 1, 1) := by decide +kernel
theorem dX7_leftOf_8 : decode cX7_leftOf 8 = .ok (.iconst 3, 1) := by decide +kernel
theorem dX7_leftOf_9 : decode cX7_leftOf 9 = .ok (.invokevirtual 56, 3) := by decide +kernel
theorem dX7_leftOf_12 : decode cX7_leftOf 12 = .ok (.aload_n 0, 1) := by decide +kernel
theorem dX7_leftOf_13 : decode cX7_leftOf 13 = .ok (.iload_n 1, 1) := by decide +kernel
theorem dX7_leftOf_14 : decode cX7_leftOf 14 = .ok (.invokevirtual 67, 3) := by decide +kernel
theorem dX7_leftOf_17 : decode cX7_leftOf 17 = .ok (.invokestatic 70, 3) := by decide +kernel
theorem dX7_leftOf_20 : decode cX7_leftOf 20 = .ok (.ireturn, 1) := by decide +kernel
theorem dX7_bits_0 : decode cX7_bits 0 = .ok (.iconst 0, 1) := by decide +kernel
theorem dX7_bits_1 : decode cX7_bits 1 = .ok (.istore_n 2, 1) := by decide +kernel
theorem dX7_bits_2 : decode cX7_bits 2 = .ok (.iconst 0, 1) := by decide +kernel
theorem dX7_bits_3 : decode cX7_bits 3 = .ok (.istore_n 3, 1) := by decide +kernel
theorem dX7_bits_4 : decode cX7_bits 4 = .ok (.iload_n 3, 1) := by decide +kernel
theorem dX7_bits_5 : decode cX7_bits 5 = .ok (.bipush 64, 2) := by decide +kernel
theorem dX7_bits_7 : decode cX7_bits 7 = .ok (.if_icmp .ge 25, 3) := by decide +kernel
theorem dX7_bits_10 : decode cX7_bits 10 = .ok (.iload_n 2, 1) := by decide +kernel
theorem dX7_bits_11 : decode cX7_bits 11 = .ok (.lload_n 0, 1) := by decide +kernel
theorem dX7_bits_12 : decode cX7_bits 12 = .ok (.iload_n 3, 1) := by decide +kernel
theorem dX7_bits_13 : decode cX7_bits 13 = .ok (.invokestatic 74, 3) := by decide +kernel
theorem dX7_bits_16 : decode cX7_bits 16 = .ok (.ifCond .eq 7, 3) := by decide +kernel
theorem dX7_bits_19 : decode cX7_bits 19 = .ok (.iconst 1, 1) := by decide +kernel
theorem dX7_bits_20 : decode cX7_bits 20 = .ok (.goto 4, 3) := by decide +kernel
theorem dX7_bits_23 : decode cX7_bits 23 = .ok (.iconst 0, 1) := by decide +kernel
theorem dX7_bits_24 : decode cX7_bits 24 = .ok (.iadd, 1) := by decide +kernel
theorem dX7_bits_25 : decode cX7_bits 25 = .ok (.istore_n 2, 1) := by decide +kernel
theorem dX7_bits_26 : decode cX7_bits 26 = .ok (.iinc 3 1, 3) := by decide +kernel
theorem dX7_bits_29 : decode cX7_bits 29 = .ok (.goto (-25), 3) := by decide +kernel
theorem dX7_bits_32 : decode cX7_bits 32 = .ok (.iload_n 2, 1) := by decide +kernel
theorem dX7_bits_33 : decode cX7_bits 33 = .ok (.ireturn, 1) := by decide +kernel
theorem dX7_steps_0 : decode cX7_steps 0 = .ok (.aload_n 0, 1) := by decide +kernel
theorem dX7_steps_1 : decode cX7_steps 1 = .ok (.iload_n 1, 1) := by decide +kernel
theorem dX7_steps_2 : decode cX7_steps 2 = .ok (.iconst 2, 1) := by decide +kernel
theorem dX7_steps_3 : decode cX7_steps 3 = .ok (.invokevirtual 56, 3) := by decide +kernel
theorem dX7_steps_6 : decode cX7_steps 6 = .ok (.iconst 1, 1) := by decide +kernel
theorem dX7_steps_7 : decode cX7_steps 7 = .ok (.iadd, 1) := by decide +kernel
theorem dX7_steps_8 : decode cX7_steps 8 = .ok (.aload_n 0, 1) := by decide +kernel
theorem dX7_steps_9 : decode cX7_steps 9 = .ok (.iload_n 1, 1) := by decide +kernel
theorem dX7_steps_10 : decode cX7_steps 10 = .ok (.invokevirtual 67, 3) := by decide +kernel
theorem dX7_steps_13 : decode cX7_steps 13 = .ok (.irem, 1) := by decide +kernel
theorem dX7_steps_14 : decode cX7_steps 14 = .ok (.istore_n 2, 1) := by decide +kernel
theorem dX7_steps_15 : decode cX7_steps 15 = .ok (.aload_n 0, 1) := by decide +kernel
theorem dX7_steps_16 : decode cX7_steps 16 = .ok (.iload_n 1, 1) := by decide +kernel
theorem dX7_steps_17 : decode cX7_steps 17 = .ok (.iconst 2, 1) := by decide +kernel
theorem dX7_steps_18 : decode cX7_steps 18 = .ok (.iload_n 2, 1) := by decide +kernel
theorem dX7_steps_19 : decode cX7_steps 19 = .ok (.i2l, 1) := by decide +kernel
theorem dX7_steps_20 : decode cX7_steps 20 = .ok (.invokevirtual 78, 3) := by decide +kernel
theorem dX7_steps_23 : decode cX7_steps 23 = .ok (.aload_n 0, 1) := by decide +kernel
theorem dX7_steps_24 : decode cX7_steps 24 = .ok (.iload_n 1, 1) := by decide +kernel
theorem dX7_steps_25 : decode cX7_steps 25 = .ok (.iconst 5, 1) := by decide +kernel
theorem dX7_steps_26 : decode cX7_steps 26 = .ok (.aload_n 0, 1) := by decide +kernel
theorem dX7_steps_27 : decode cX7_steps 27 = .ok (.iload_n 1, 1) := by decide +kernel
theorem dX7_steps_28 : decode cX7_steps 28 = .ok (.iconst 5, 1) := by decide +kernel
theorem dX7_steps_29 : decode cX7_steps 29 = .ok (.invokevirtual 56, 3) := by decide +kernel
theorem dX7_steps_32 : decode cX7_steps 32 = .ok (.iconst 1, 1) := by decide +kernel
theorem dX7_steps_33 : decode cX7_steps 33 = .ok (.iadd, 1) := by decide +kernel
theorem dX7_steps_34 : decode cX7_steps 34 = .ok (.i2l, 1) := by decide +kernel
theorem dX7_steps_35 : decode cX7_steps 35 = .ok (.invokevirtual 78, 3) := by decide +kernel
theorem dX7_steps_38 : decode cX7_steps 38 = .ok (.aload_n 0, 1) := by decide +kernel
theorem dX7_steps_39 : decode cX7_steps 39 = .ok (.getfield 7, 3) := by decide +kernel
theorem dX7_steps_42 : decode cX7_steps 42 = .ok (.bipush 6, 2) := by decide +kernel
theorem dX7_steps_44 : decode cX7_steps 44 = .ok (.dup2, 1) := by decide +kernel
theorem dX7_steps_45 : decode cX7_steps 45 = .ok (.laload, 1) := by decide +kernel
theorem dX7_steps_46 : decode cX7_steps 46 = .ok (.lconst 1, 1) := by decide +kernel
theorem dX7_steps_47 : decode cX7_steps 47 = .ok (.ladd, 1) := by decide +kernel
theorem dX7_steps_48 : decode cX7_steps 48 = .ok (.lastore, 1) := by decide +kernel
theorem dX7_steps_49 : decode cX7_steps 49 = .ok (.aload_n 0, 1) := by decide +kernel
theorem dX7_steps_50 : decode cX7_steps 50 = .ok (.iload_n 1, 1) := by decide +kernel
theorem dX7_steps_51 : decode cX7_steps 51 = .ok (.iconst 4, 1) := by decide +kernel
theorem dX7_steps_52 : decode cX7_steps 52 = .ok (.invokevirtual 56, 3) := by decide +kernel
theorem dX7_steps_55 : decode cX7_steps 55 = .ok (.ifCond .le 19, 3) := by decide +kernel
theorem dX7_steps_58 : decode cX7_steps 58 = .ok (.aload_n 0, 1) := by decide +kernel
theorem dX7_steps_59 : decode cX7_steps 59 = .ok (.iload_n 1, 1) := by decide +kernel
theorem dX7_steps_60 : decode cX7_steps 60 = .ok (.iconst 4, 1) := by decide +kernel
theorem dX7_steps_61 : decode cX7_steps 61 = .ok (.aload_n 0, 1) := by decide +kernel
theorem dX7_steps_62 : decode cX7_steps 62 = .ok (.iload_n 1, 1) := by decide +kernel
theorem dX7_steps_63 : decode cX7_steps 63 = .ok (.iconst 4, 1) := by decide +kernel
theorem dX7_steps_64 : decode cX7_steps 64 = .ok (.invokevirtual 56, 3) := by decide +kernel
theorem dX7_steps_67 : decode cX7_steps 67 = .ok (.iconst 1, 1) := by decide +kernel
theorem dX7_steps_68 : decode cX7_steps 68 = .ok (.isub, 1) := by decide +kernel
theorem dX7_steps_69 : decode cX7_steps 69 = .ok (.i2l, 1) := by decide +kernel
theorem dX7_steps_70 : decode cX7_steps 70 = .ok (.invokevirtual 78, 3) := by decide +kernel
theorem dX7_steps_73 : decode cX7_steps 73 = .ok (.return_, 1) := by decide +kernel
theorem dX7_steps_74 : decode cX7_steps 74 = .ok (.aload_n 0, 1) := by decide +kernel
theorem dX7_steps_75 : decode cX7_steps 75 = .ok (.iload_n 1, 1) := by decide +kernel
theorem dX7_steps_76 : decode cX7_steps 76 = .ok (.iconst 1, 1) := by decide +kernel
theorem dX7_steps_77 : decode cX7_steps 77 = .ok (.aload_n 0, 1) := by decide +kernel
theorem dX7_steps_78 : decode cX7_steps 78 = .ok (.iload_n 1, 1) := by decide +kernel
theorem dX7_steps_79 : decode cX7_steps 79 = .ok (.iconst 1, 1) := by decide +kernel
theorem dX7_steps_80 : decode cX7_steps 80 = .ok (.invokevirtual 56, 3) := by decide +kernel
theorem dX7_steps_83 : decode cX7_steps 83 = .ok (.iconst 1, 1) := by decide +kernel
theorem dX7_steps_84 : decode cX7_steps 84 = .ok (.iadd, 1) := by decide +kernel
theorem dX7_steps_85 : decode cX7_steps 85 = .ok (.aload_n 0, 1) := by decide +kernel
theorem dX7_steps_86 : decode cX7_steps 86 = .ok (.iload_n 1, 1) := by decide +kernel
theorem dX7_steps_87 : decode cX7_steps 87 = .ok (.invokevirtual 67, 3) := by decide +kernel
theorem dX7_steps_90 : decode cX7_steps 90 = .ok (.irem, 1) := by decide +kernel
theorem dX7_steps_91 : decode cX7_steps 91 = .ok (.i2l, 1) := by decide +kernel
theorem dX7_steps_92 : decode cX7_steps 92 = .ok (.invokevirtual 78, 3) := by decide +kernel
theorem dX7_steps_95 : decode cX7_steps 95 = .ok (.aload_n 0, 1) := by decide +kernel
theorem dX7_steps_96 : decode cX7_steps 96 = .ok (.iload_n 1, 1) := by decide +kernel
theorem dX7_steps_97 : decode cX7_steps 97 = .ok (.iconst 1, 1) := by decide +kernel
theorem dX7_steps_98 : decode cX7_steps 98 = .ok (.invokevirtual 56, 3) := by decide +kernel
theorem dX7_steps_101 : decode cX7_steps 101 = .ok (.ifCond .eq 4, 3) := by decide +kernel
theorem dX7_steps_104 : decode cX7_steps 104 = .ok (.return_, 1) := by decide +kernel
theorem dX7_steps_105 : decode cX7_steps 105 = .ok (.aload_n 0, 1) := by decide +kernel
theorem dX7_steps_106 : decode cX7_steps 106 = .ok (.iload_n 1, 1) := by decide +kernel
theorem dX7_steps_107 : decode cX7_steps 107 = .ok (.bipush 6, 2) := by decide +kernel
theorem dX7_steps_109 : decode cX7_steps 109 = .ok (.aload_n 0, 1) := by decide +kernel
theorem dX7_steps_110 : decode cX7_steps 110 = .ok (.iload_n 1, 1) := by decide +kernel
theorem dX7_steps_111 : decode cX7_steps 111 = .ok (.bipush 6, 2) := by decide +kernel
theorem dX7_steps_113 : decode cX7_steps 113 = .ok (.invokevirtual 56, 3) := by decide +kernel
theorem dX7_steps_116 : decode cX7_steps 116 = .ok (.iload_n 2, 1) := by decide +kernel
theorem dX7_steps_117 : decode cX7_steps 117 = .ok (.iadd, 1) := by decide +kernel
theorem dX7_steps_118 : decode cX7_steps 118 = .ok (.i2l, 1) := by decide +kernel
theorem dX7_steps_119 : decode cX7_steps 119 = .ok (.invokevirtual 78, 3) := by decide +kernel
theorem dX7_steps_122 : decode cX7_steps 122 = .ok (.aload_n 0, 1) := by decide +kernel
theorem dX7_steps_123 : decode cX7_steps 123 = .ok (.getfield 7, 3) := by decide +kernel
theorem dX7_steps_126 : decode cX7_steps 126 = .ok (.bipush 7, 2) := by decide +kernel
theorem dX7_steps_128 : decode cX7_steps 128 = .ok (.dup2, 1) := by decide +kernel
theorem dX7_steps_129 : decode cX7_steps 129 = .ok (.laload, 1) := by decide +kernel
