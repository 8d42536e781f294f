theorem dX4_goOn_81 : decode cX4_goOn 81 = .ok (.putfield 41, 3) := by decide +kernel
theorem dX4_goOn_84 : decode cX4_goOn 84 = .ok (.return_, 1) := by decide +kernel
theorem dX4_goOn_85 : decode cX4_goOn 85 = .ok (.aload_n 0, 1) := by decide +kernel
theorem dX4_goOn_86 : decode cX4_goOn 86 = .ok (.aload_n 0, 1) := by decide +kernel
theorem dX4_goOn_87 : decode cX4_goOn 87 = .ok (.aload_n 0, 1) := by decide +kernel
theorem dX4_goOn_88 : decode cX4_goOn 88 = .ok (.getfield 41, 3) := by decide +kernel
theorem dX4_goOn_91 : decode cX4_goOn 91 = .ok (.invokevirtual 54, 3) := by decide +kernel
theorem dX4_goOn_94 : decode cX4_goOn 94 = .ok (.putfield 41, 3) := by decide +kernel
theorem dX4_goOn_97 : decode cX4_goOn 97 = .ok (.iconst 0, 1) := by decide +kernel
theorem dX4_goOn_98 : decode cX4_goOn 98 = .ok (.istore_n 1, 1) := by decide +kernel
theorem dX4_goOn_99 : decode cX4_goOn 99 = .ok (.iload_n 1, 1) := by decide +kernel
theorem dX4_goOn_100 : decode cX4_goOn 100 = .ok (.iconst 3, 1) := by decide +kernel
theorem dX4_goOn_101 : decode cX4_goOn 101 = .ok (.if_icmp .ge 97, 3) := by decide +kernel
theorem dX4_goOn_104 : decode cX4_goOn 104 = .ok (.aload_n 0, 1) := by decide +kernel
theorem dX4_goOn_105 : decode cX4_goOn 105 = .ok (.getfield 44, 3) := by decide +kernel
theorem dX4_goOn_108 : decode cX4_goOn 108 = .ok (.ifCond .le 90, 3) := by decide +kernel
theorem dX4_goOn_111 : decode cX4_goOn 111 = .ok (.aload_n 0, 1) := by decide +kernel
theorem dX4_goOn_112 : decode cX4_goOn 112 = .ok (.getfield 41, 3) := by decide +kernel
theorem dX4_goOn_115 : decode cX4_goOn 115 = .ok (.aload_n 0, 1) := by decide +kernel
theorem dX4_goOn_116 : decode cX4_goOn 116 = .ok (.aload_n 0, 1) := by decide +kernel
theorem dX4_goOn_117 : decode cX4_goOn 117 = .ok (.getfield 27, 3) := by decide +kernel
theorem dX4_goOn_120 : decode cX4_goOn 120 = .ok (.aload_n 0, 1) := by decide +kernel
theorem dX4_goOn_121 : decode cX4_goOn 121 = .ok (.getfield 44, 3) := by decide +kernel
theorem dX4_goOn_124 : decode cX4_goOn 124 = .ok (.iconst 1, 1) := by decide +kernel
theorem dX4_goOn_125 : decode cX4_goOn 125 = .ok (.isub, 1) := by decide +kernel
theorem dX4_goOn_126 : decode cX4_goOn 126 = .ok (.iaload, 1) := by decide +kernel
theorem dX4_goOn_127 : decode cX4_goOn 127 = .ok (.invokevirtual 54, 3) := by decide +kernel
theorem dX4_goOn_130 : decode cX4_goOn 130 = .ok (.if_icmp .ne 68, 3) := by decide +kernel
theorem dX4_goOn_133 : decode cX4_goOn 133 = .ok (.aload_n 0, 1) := by decide +kernel
theorem dX4_goOn_134 : decode cX4_goOn 134 = .ok (.getfield 30, 3) := by decide +kernel
theorem dX4_goOn_137 : decode cX4_goOn 137 = .ok (.aload_n 0, 1) := by decide +kernel
theorem dX4_goOn_138 : decode cX4_goOn 138 = .ok (.getfield 44, 3) := by decide +kernel
theorem dX4_goOn_141 : decode cX4_goOn 141 = .ok (.iconst 1, 1) := by decide +kernel
theorem dX4_goOn_142 : decode cX4_goOn 142 = .ok (.isub, 1) := by decide +kernel
theorem dX4_goOn_143 : decode cX4_goOn 143 = .ok (.iaload, 1) := by decide +kernel
theorem dX4_goOn_144 : decode cX4_goOn 144 = .ok (.ifCond .le 38, 3) := by decide +kernel
theorem dX4_goOn_147 : decode cX4_goOn 147 = .ok (.aload_n 0, 1) := by decide +kernel
theorem dX4_goOn_148 : decode cX4_goOn 148 = .ok (.getfield 30, 3) := by decide +kernel
theorem dX4_goOn_151 : decode cX4_goOn 151 = .ok (.aload_n 0, 1) := by decide +kernel
theorem dX4_goOn_152 : decode cX4_goOn 152 = .ok (.getfield 44, 3) := by decide +kernel
theorem dX4_goOn_155 : decode cX4_goOn 155 = .ok (.iconst 1, 1) := by decide +kernel
theorem dX4_goOn_156 : decode cX4_goOn 156 = .ok (.isub, 1) := by decide +kernel
theorem dX4_goOn_157 : decode cX4_goOn 157 = .ok (.dup2, 1) := by decide +kernel
theorem dX4_goOn_158 : decode cX4_goOn 158 = .ok (.iaload, 1) := by decide +kernel
theorem dX4_goOn_159 : decode cX4_goOn 159 = .ok (.iconst 1, 1) := by decide +kernel
theorem dX4_goOn_160 : decode cX4_goOn 160 = .ok (.isub, 1) := by decide +kernel
theorem dX4_goOn_161 : decode cX4_goOn 161 = .ok (.iastore, 1) := by decide +kernel
theorem dX4_goOn_162 : decode cX4_goOn 162 = .ok (.aload_n 0, 1) := by decide +kernel
theorem dX4_goOn_163 : decode cX4_goOn 163 = .ok (.aload_n 0, 1) := by decide +kernel
theorem dX4_goOn_164 : decode cX4_goOn 164 = .ok (.getfield 27, 3) := by decide +kernel
theorem dX4_goOn_167 : decode cX4_goOn 167 = .ok (.aload_n 0, 1) := by decide +kernel
theorem dX4_goOn_168 : decode cX4_goOn 168 = .ok (.getfield 44, 3) := by decide +kernel
theorem dX4_goOn_171 : decode cX4_goOn 171 = .ok (.iconst 1, 1) := by decide +kernel
theorem dX4_goOn_172 : decode cX4_goOn 172 = .ok (.isub, 1) := by decide +kernel
theorem dX4_goOn_173 : decode cX4_goOn 173 = .ok (.iaload, 1) := by decide +kernel
theorem dX4_goOn_174 : decode cX4_goOn 174 = .ok (.iconst 1, 1) := by decide +kernel
theorem dX4_goOn_175 : decode cX4_goOn 175 = .ok (.iadd, 1) := by decide +kernel
theorem dX4_goOn_176 : decode cX4_goOn 176 = .ok (.putfield 41, 3) := by decide +kernel
theorem dX4_goOn_179 : decode cX4_goOn 179 = .ok (.goto 13, 3) := by decide +kernel
theorem dX4_goOn_182 : decode cX4_goOn 182 = .ok (.aload_n 0, 1) := by decide +kernel
theorem dX4_goOn_183 : decode cX4_goOn 183 = .ok (.dup, 1) := by decide +kernel
theorem dX4_goOn_184 : decode cX4_goOn 184 = .ok (.getfield 44, 3) := by decide +kernel
theorem dX4_goOn_187 : decode cX4_goOn 187 = .ok (.iconst 1, 1) := by decide +kernel
theorem dX4_goOn_188 : decode cX4_goOn 188 = .ok (.isub, 1) := by decide +kernel
theorem dX4_goOn_189 : decode cX4_goOn 189 = .ok (.putfield 44, 3) := by decide +kernel
theorem dX4_goOn_192 : decode cX4_goOn 192 = .ok (.iinc 1 1, 3) := by decide +kernel
theorem dX4_goOn_195 : decode cX4_goOn 195 = .ok (.goto (-96), 3) := by decide +kernel
theorem dX4_goOn_198 : decode cX4_goOn 198 = .ok (.return_, 1) := by decide +kernel
theorem dX4_openTimes_0 : decode cX4_openTimes 0 = .ok (.aload_n 1, 1) := by decide +kernel
theorem dX4_openTimes_1 : decode cX4_openTimes 1 = .ok (.invokevirtual 117, 3) := by decide +kernel
theorem dX4_openTimes_4 : decode cX4_openTimes 4 = .ok (.bipush 40, 2) := by decide +kernel
theorem dX4_openTimes_6 : decode cX4_openTimes 6 = .ok (.if_icmp .ne 20, 3) := by decide +kernel
theorem dX4_openTimes_9 : decode cX4_openTimes 9 = .ok (.aload_n 0, 1) := by decide +kernel
theorem dX4_openTimes_10 : decode cX4_openTimes 10 = .ok (.getfield 44, 3) := by decide +kernel
theorem dX4_openTimes_13 : decode cX4_openTimes 13 = .ok (.iconst 3, 1) := by decide +kernel
theorem dX4_openTimes_14 : decode cX4_openTimes 14 = .ok (.if_icmp .lt 12, 3) := by decide +kernel
theorem dX4_openTimes_17 : decode cX4_openTimes 17 = .ok (.aload_n 1, 1) := by decide +kernel
theorem dX4_openTimes_18 : decode cX4_openTimes 18 = .ok (.aload_n 1, 1) := by decide +kernel
theorem dX4_openTimes_19 : decode cX4_openTimes 19 = .ok (.getfield 120, 3) := by decide +kernel
theorem dX4_openTimes_22 : decode cX4_openTimes 22 = .ok (.iconst 3, 1) := by decide +kernel
theorem dX4_openTimes_23 : decode cX4_openTimes 23 = .ok (.invokevirtual 110, 3) := by decide +kernel
theorem dX4_openTimes_26 : decode cX4_openTimes 26 = .ok (.aload_n 1, 1) := by decide +kernel
theorem dX4_openTimes_27 : decode cX4_openTimes 27 = .ok (.bipush 40, 2) := by decide +kernel
theorem dX4_openTimes_29 : decode cX4_openTimes 29 = .ok (.invokevirtual 121, 3) := by decide +kernel
theorem dX4_openTimes_32 : decode cX4_openTimes 32 = .ok (.aload_n 1, 1) := by decide +kernel
theorem dX4_openTimes_33 : decode cX4_openTimes 33 = .ok (.invokevirtual 70, 3) := by decide +kernel
theorem dX4_openTimes_36 : decode cX4_openTimes 36 = .ok (.ifCond .eq 26, 3) := by decide +kernel
theorem dX4_openTimes_39 : decode cX4_openTimes 39 = .ok (.aload_n 0, 1) := by decide +kernel
theorem dX4_openTimes_40 : decode cX4_openTimes 40 = .ok (.getfield 27, 3) := by decide +kernel
theorem dX4_openTimes_43 : decode cX4_openTimes 43 = .ok (.aload_n 0, 1) := by decide +kernel
theorem dX4_openTimes_44 : decode cX4_openTimes 44 = .ok (.getfield 44, 3) := by decide +kernel
theorem dX4_openTimes_47 : decode cX4_openTimes 47 = .ok (.aload_n 0, 1) := by decide +kernel
theorem dX4_openTimes_48 : decode cX4_openTimes 48 = .ok (.getfield 33, 3) := by decide +kernel
theorem dX4_openTimes_51 : decode cX4_openTimes 51 = .ok (.iastore, 1) := by decide +kernel
theorem dX4_openTimes_52 : decode cX4_openTimes 52 = .ok (.aload_n 0, 1) := by decide +kernel
theorem dX4_openTimes_53 : decode cX4_openTimes 53 = .ok (.dup, 1) := by decide +kernel
theorem dX4_openTimes_54 : decode cX4_openTimes 54 = .ok (.getfield 44, 3) := by decide +kernel
theorem dX4_openTimes_57 : decode cX4_openTimes 57 = .ok (.iconst 1, 1) := by decide +kernel
theorem dX4_openTimes_58 : decode cX4_openTimes 58 = .ok (.iadd, 1) := by decide +kernel
theorem dX4_openTimes_59 : decode cX4_openTimes 59 = .ok (.putfield 44, 3) := by decide +kernel
theorem dX4_openTimes_62 : decode cX4_openTimes 62 = .ok (.return_, 1) := by decide +kernel
theorem dX4_addStep_0 : decode cX4_addStep 0 = .ok (.aload_n 0, 1) := by decide +kernel
theorem dX4_addStep_1 : decode cX4_addStep 1 = .ok (.getfield 33, 3) := by decide +kernel
theorem dX4_addStep_4 : decode cX4_addStep 4 = .ok (.bipush 80, 2) := by decide +kernel
theorem dX4_addStep_6 : decode cX4_addStep 6 = .ok (.if_icmp .ge 69, 3) := by decide +kernel
theorem dX4_addStep_9 : decode cX4_addStep 9 = .ok (.aload_n 0, 1) := by decide +kernel
theorem dX4_addStep_10 : decode cX4_addStep 10 = .ok (.getfield 11, 3) := by decide +kernel
theorem dX4_addStep_13 : decode cX4_addStep 13 = .ok (.aload_n 0, 1) := by decide +kernel
theorem dX4_addStep_14 : decode cX4_addStep 14 = .ok (.getfield 33, 3) := by decide +kernel
theorem dX4_addStep_17 : decode cX4_addStep 17 = .ok (.iload_n 1, 1) := by decide +kernel
theorem dX4_addStep_18 : decode cX4_addStep 18 = .ok (.iastore, 1) := by decide +kernel
theorem dX4_addStep_19 : decode cX4_addStep 19 = .ok (.aload_n 0, 1) := by decide +kernel
theorem dX4_addStep_20 : decode cX4_addStep 20 = .ok (.getfield 15, 3) := by decide +kernel
theorem dX4_addStep_23 : decode cX4_addStep 23 = .ok (.aload_n 0, 1) := by decide +kernel
theorem dX4_addStep_24 : decode cX4_addStep 24 = .ok (.getfield 33, 3) := by decide +kernel
theorem dX4_addStep_27 : decode cX4_addStep 27 = .ok (.iload_n 2, 1) := by decide +kernel
theorem dX4_addStep_28 : decode cX4_addStep 28 = .ok (.iastore, 1) := by decide +kernel
theorem dX4_addStep_29 : decode cX4_addStep 29 = .ok (.aload_n 0, 1) := by decide +kernel
theorem dX4_addStep_30 : decode cX4_addStep 30 = .ok (.getfield 18, 3) := by decide +kernel
theorem dX4_addStep_33 : decode cX4_addStep 33 = .ok (.aload_n 0, 1) := by decide +kernel
theorem dX4_addStep_34 : decode cX4_addStep 34 = .ok (.getfield 33, 3) := by decide +kernel
theorem dX4_addStep_37 : decode cX4_addStep 37 = .ok (.iload_n 3, 1) := by decide +kernel
theorem dX4_addStep_38 : decode cX4_addStep 38 = .ok (.iastore, 1) := by decide +kernel
theorem dX4_addStep_39 : decode cX4_addStep 39 = .ok (.aload_n 0, 1) := by decide +kernel
theorem dX4_addStep_40 : decode cX4_addStep 40 = .ok (.getfield 21, 3) := by decide +kernel
theorem dX4_addStep_43 : decode cX4_addStep 43 = .ok (.aload_n 0, 1) := by decide +kernel
theorem dX4_addStep_44 : decode cX4_addStep 44 = .ok (.getfield 33, 3) := by decide +kernel
theorem dX4_addStep_47 : decode cX4_addStep 47 = .ok (.iload 4, 2) := by decide +kernel
theorem dX4_addStep_49 : decode cX4_addStep 49 = .ok (.iastore, 1) := by decide +kernel
theorem dX4_addStep_50 : decode cX4_addStep 50 = .ok (.aload_n 0, 1) := by decide +kernel
theorem dX4_addStep_51 : decode cX4_addStep 51 = .ok (.getfield 24, 3) := by decide +kernel
theorem dX4_addStep_54 : decode cX4_addStep 54 = .ok (.aload_n 0, 1) := by decide +kernel
theorem dX4_addStep_55 : decode cX4_addStep 55 = .ok (.getfield 33, 3) := by decide +kernel
theorem dX4_addStep_58 : decode cX4_addStep 58 = .ok (.aload_n 0, 1) := by decide +kernel
theorem dX4_addStep_59 : decode cX4_addStep 59 = .ok (.getfield 33, 3) := by decide +kernel
theorem dX4_addStep_62 : decode cX4_addStep 62 = .ok (.iconst 1, 1) := by decide +kernel
theorem dX4_addStep_63 : decode cX4_addStep 63 = .ok (.iadd, 1) := by decide +kernel
theorem dX4_addStep_64 : decode cX4_addStep 64 = .ok (.iastore, 1) := by decide +kernel
theorem dX4_addStep_65 : decode cX4_addStep 65 = .ok (.aload_n 0, 1) := by decide +kernel
theorem dX4_addStep_66 : decode cX4_addStep 66 = .ok (.dup, 1) := by decide +kernel
theorem dX4_addStep_67 : decode cX4_addStep 67 = .ok (.getfield 33, 3) := by decide +kernel
theorem dX4_addStep_70 : decode cX4_addStep 70 = .ok (.iconst 1, 1) := by decide +kernel
theorem dX4_addStep_71 : decode cX4_addStep 71 = .ok (.iadd, 1) := by decide +kernel
theorem dX4_addStep_72 : decode cX4_addStep 72 = .ok (.putfield 33, 3) := by decide +kernel
theorem dX4_addStep_75 : decode cX4_addStep 75 = .ok (.return_, 1) := by decide +kernel
theorem dX4_readStep_0 : decode cX4_readStep 0 = .ok (.iconst 0, 1) := by decide +kernel
theorem dX4_readStep_1 : decode cX4_readStep 1 = .ok (.istore 4, 2) := by decide +kernel
theorem dX4_readStep_3 : decode cX4_readStep 3 = .ok (.iconst 0, 1) := by decide +kernel
theorem dX4_readStep_4 : decode cX4_readStep 4 = .ok (.istore 5, 2) := by decide +kernel
theorem dX4_readStep_6 : decode cX4_readStep 6 = .ok (.aload_n 2, 1) := by decide +kernel
theorem dX4_readStep_7 : decode cX4_readStep 7 = .ok (.iconst 0, 1) := by decide +kernel
theorem dX4_readStep_8 : decode cX4_readStep 8 = .ok (.putfield 78, 3) := by decide +kernel
theorem dX4_readStep_11 : decode cX4_readStep 11 = .ok (.iload_n 1, 1) := by decide +kernel
theorem dX4_readStep_12 : decode cX4_readStep 12 = .ok (.tableswitch 166 6 12 #[44, 124, 75, 93, 109, 121, 149], 44) := by decide +kernel
theorem dX4_readStep_56 : decode cX4_readStep 56 = .ok (.aload_n 2, 1) := by decide +kernel
theorem dX4_readStep_57 : decode cX4_readStep 57 = .ok (.iconst 0, 1) := by decide +kernel
theorem dX4_readStep_58 : decode cX4_readStep 58 = .ok (.aload_n 3, 1) := by decide +kernel
theorem dX4_readStep_59 : decode cX4_readStep 59 = .ok (.getfield 81, 3) := by decide +kernel
theorem dX4_readStep_62 : decode cX4_readStep 62 = .ok (.iconst 1, 1) := by decide +kernel
theorem dX4_readStep_63 : decode cX4_readStep 63 = .ok (.isub, 1) := by decide +kernel
theorem dX4_readStep_64 : decode cX4_readStep 64 = .ok (.invokevirtual 86, 3) := by decide +kernel
theorem dX4_readStep_67 : decode cX4_readStep 67 = .ok (.istore 4, 2) := by decide +kernel
theorem dX4_readStep_69 : decode cX4_readStep 69 = .ok (.aload_n 2, 1) := by decide +kernel
theorem dX4_readStep_70 : decode cX4_readStep 70 = .ok (.iconst 0, 1) := by decide +kernel
theorem dX4_readStep_71 : decode cX4_readStep 71 = .ok (.aload_n 3, 1) := by decide +kernel
theorem dX4_readStep_72 : decode cX4_readStep 72 = .ok (.getfield 90, 3) := by decide +kernel
theorem dX4_readStep_75 : decode cX4_readStep 75 = .ok (.invokevirtual 93, 3) := by decide +kernel
theorem dX4_readStep_78 : decode cX4_readStep 78 = .ok (.aload_n 2, 1) := by decide +kernel
theorem dX4_readStep_79 : decode cX4_readStep 79 = .ok (.getfield 97, 3) := by decide +kernel
theorem dX4_readStep_82 : decode cX4_readStep 82 = .ok (.istore 5, 2) := by decide +kernel
theorem dX4_readStep_84 : decode cX4_readStep 84 = .ok (.goto 103, 3) := by decide +kernel
theorem dX4_readStep_87 : decode cX4_readStep 87 = .ok (.aload_n 2, 1) := by decide +kernel
theorem dX4_readStep_88 : decode cX4_readStep 88 = .ok (.iconst 0, 1) := by decide +kernel
theorem dX4_readStep_89 : decode cX4_readStep 89 = .ok (.aload_n 3, 1) := by decide +kernel
theorem dX4_readStep_90 : decode cX4_readStep 90 = .ok (.getfield 90, 3) := by decide +kernel
theorem dX4_readStep_93 : decode cX4_readStep 93 = .ok (.invokevirtual 93, 3) := by decide +kernel
theorem dX4_readStep_96 : decode cX4_readStep 96 = .ok (.aload_n 2, 1) := by decide +kernel
theorem dX4_readStep_97 : decode cX4_readStep 97 = .ok (.getfield 97, 3) := by decide +kernel
theorem dX4_readStep_100 : decode cX4_readStep 100 = .ok (.istore 5, 2) := by decide +kernel
theorem dX4_readStep_102 : decode cX4_readStep 102 = .ok (.goto 85, 3) := by decide +kernel
theorem dX4_readStep_105 : decode cX4_readStep 105 = .ok (.aload_n 2, 1) := by decide +kernel
theorem dX4_readStep_106 : decode cX4_readStep 106 = .ok (.iconst 0, 1) := by decide +kernel
theorem dX4_readStep_107 : decode cX4_readStep 107 = .ok (.aload_n 3, 1) := by decide +kernel
theorem dX4_readStep_108 : decode cX4_readStep 108 = .ok (.getfield 81, 3) := by decide +kernel
theorem dX4_readStep_111 : decode cX4_readStep 111 = .ok (.iconst 1, 1) := by decide +kernel
theorem dX4_readStep_112 : decode cX4_readStep 112 = .ok (.isub, 1) := by decide +kernel
theorem dX4_readStep_113 : decode cX4_readStep 113 = .ok (.invokevirtual 86, 3) := by decide +kernel
theorem dX4_readStep_116 : decode cX4_readStep 116 = .ok (.istore 4, 2) := by decide +kernel
theorem dX4_readStep_118 : decode cX4_readStep 118 = .ok (.goto 69, 3) := by decide +kernel
theorem dX4_readStep_121 : decode cX4_readStep 121 = .ok (.aload_n 2, 1) := by decide +kernel
theorem dX4_readStep_122 : decode cX4_readStep 122 = .ok (.iconst 1, 1) := by decide +kernel
theorem dX4_readStep_123 : decode cX4_readStep 123 = .ok (.bipush 99, 2) := by decide +kernel
theorem dX4_readStep_125 : decode cX4_readStep 125 = .ok (.invokevirtual 86, 3) := by decide +kernel
theorem dX4_readStep_128 : decode cX4_readStep 128 = .ok (.istore 4, 2) := by decide +kernel
theorem dX4_readStep_130 : decode cX4_readStep 130 = .ok (.goto 57, 3) := by decide +kernel
theorem dX4_readStep_133 : decode cX4_readStep 133 = .ok (.goto 54, 3) := by decide +kernel
theorem dX4_readStep_136 : decode cX4_readStep 136 = .ok (.aload_n 2, 1) := by decide +kernel
theorem dX4_readStep_137 : decode cX4_readStep 137 = .ok (.iconst 0, 1) := by decide +kernel
theorem dX4_readStep_138 : decode cX4_readStep 138 = .ok (.aload_n 3, 1) := by decide +kernel
theorem dX4_readStep_139 : decode cX4_readStep 139 = .ok (.invokevirtual 100, 3) := by decide +kernel
theorem dX4_readStep_142 : decode cX4_readStep 142 = .ok (.iconst 1, 1) := by decide +kernel
theorem dX4_readStep_143 : decode cX4_readStep 143 = .ok (.isub, 1) := by decide +kernel
theorem dX4_readStep_144 : decode cX4_readStep 144 = .ok (.invokevirtual 86, 3) := by decide +kernel
theorem dX4_readStep_147 : decode cX4_readStep 147 = .ok (.istore 4, 2) := by decide +kernel
theorem dX4_readStep_149 : decode cX4_readStep 149 = .ok (.aload_n 2, 1) := by decide +kernel
theorem dX4_readStep_150 : decode cX4_readStep 150 = .ok (.iconst 0, 1) := by decide +kernel
theorem dX4_readStep_151 : decode cX4_readStep 151 = .ok (.bipush 9, 2) := by decide +kernel
theorem dX4_readStep_153 : decode cX4_readStep 153 = .ok (.invokevirtual 86, 3) := by decide +kernel
theorem dX4_readStep_156 : decode cX4_readStep 156 = .ok (.istore 5, 2) := by decide +kernel
theorem dX4_readStep_158 : decode cX4_readStep 158 = .ok (.goto 29, 3) := by decide +kernel
theorem dX4_readStep_161 : decode cX4_readStep 161 = .ok (.aload_n 2, 1) := by decide +kernel
theorem dX4_readStep_162 : decode cX4_readStep 162 = .ok (.iconst 0, 1) := by decide +kernel
theorem dX4_readStep_163 : decode cX4_readStep 163 = .ok (.bipush 20, 2) := by decide +kernel
theorem dX4_readStep_165 : decode cX4_readStep 165 = .ok (.invokevirtual 86, 3) := by decide +kernel
theorem dX4_readStep_168 : decode cX4_readStep 168 = .ok (.istore 4, 2) := by decide +kernel
theorem dX4_readStep_170 : decode cX4_readStep 170 = .ok (.aload_n 0, 1) := by decide +kernel
theorem dX4_readStep_171 : decode cX4_readStep 171 = .ok (.aload_n 2, 1) := by decide +kernel
theorem dX4_readStep_172 : decode cX4_readStep 172 = .ok (.invokevirtual 103, 3) := by decide +kernel
theorem dX4_readStep_175 : decode cX4_readStep 175 = .ok (.goto 12, 3) := by decide +kernel
theorem dX4_readStep_178 : decode cX4_readStep 178 = .ok (.aload_n 2, 1) := by decide +kernel
theorem dX4_readStep_179 : decode cX4_readStep 179 = .ok (.aload_n 2, 1) := by decide +kernel
theorem dX4_readStep_180 : decode cX4_readStep 180 = .ok (.getfield 107, 3) := by decide +kernel
theorem dX4_readStep_183 : decode cX4_readStep 183 = .ok (.iconst 1, 1) := by decide +kernel
theorem dX4_readStep_184 : decode cX4_readStep 184 = .ok (.invokevirtual 110, 3) := by decide +kernel
theorem dX4_readStep_187 : decode cX4_readStep 187 = .ok (.aload_n 2, 1) := by decide +kernel
theorem dX4_readStep_188 : decode cX4_readStep 188 = .ok (.invokevirtual 70, 3) := by decide +kernel
theorem dX4_readStep_191 : decode cX4_readStep 191 = .ok (.ifCond .eq 16, 3) := by decide +kernel
theorem dX4_readStep_194 : decode cX4_readStep 194 = .ok (.aload_n 0, 1) := by decide +kernel
theorem dX4_readStep_195 : decode cX4_readStep 195 = .ok (.iload_n 1, 1) := by decide +kernel
theorem dX4_readStep_196 : decode cX4_readStep 196 = .ok (.iload 4, 2) := by decide +kernel
theorem dX4_readStep_198 : decode cX4_readStep 198 = .ok (.iload 5, 2) := by decide +kernel
theorem dX4_readStep_200 : decode cX4_readStep 200 = .ok (.aload_n 2, 1) := by decide +kernel
theorem dX4_readStep_201 : decode cX4_readStep 201 = .ok (.getfield 78, 3) := by decide +kernel
theorem dX4_readStep_204 : decode cX4_readStep 204 = .ok (.invokevirtual 113, 3) := by decide +kernel
theorem dX4_readStep_207 : decode cX4_readStep 207 = .ok (.return_, 1) := by decide +kernel
theorem dX4_closeTimes_0 : decode cX4_closeTimes 0 = .ok (.aload_n 0, 1) := by decide +kernel
theorem dX4_closeTimes_1 : decode cX4_closeTimes 1 = .ok (.iload_n 1, 1) := by decide +kernel
theorem dX4_closeTimes_2 : decode cX4_closeTimes 2 = .ok (.invokevirtual 37, 3) := by decide +kernel
theorem dX4_closeTimes_5 : decode cX4_closeTimes 5 = .ok (.ifCond .eq 13, 3) := by decide +kernel
theorem dX4_closeTimes_8 : decode cX4_closeTimes 8 = .ok (.aload_n 0, 1) := by decide +kernel
theorem dX4_closeTimes_9 : decode cX4_closeTimes 9 = .ok (.getfield 24, 3) := by decide +kernel
theorem dX4_closeTimes_12 : decode cX4_closeTimes 12 = .ok (.iload_n 1, 1) := by decide +kernel
theorem dX4_closeTimes_13 : decode cX4_closeTimes 13 = .ok (.aload_n 0, 1) := by decide +kernel
theorem dX4_closeTimes_14 : decode cX4_closeTimes 14 = .ok (.getfield 33, 3) := by decide +kernel
theorem dX4_closeTimes_17 : decode cX4_closeTimes 17 = .ok (.iastore, 1) := by decide +kernel
theorem dX4_closeTimes_18 : decode cX4_closeTimes 18 = .ok (.return_, 1) := by decide +kernel
theorem dX4_goesOn_0 : decode cX4_goesOn 0 = .ok (.iconst 0, 1) := by decide +kernel
theorem dX4_goesOn_1 : decode cX4_goesOn 1 = .ok (.istore_n 2, 1) := by decide +kernel
theorem dX4_goesOn_2 : decode cX4_goesOn 2 = .ok (.iload_n 2, 1) := by decide +kernel
theorem dX4_goesOn_3 : decode cX4_goesOn 3 = .ok (.iconst 3, 1) := by decide +kernel
theorem dX4_goesOn_4 : decode cX4_goesOn 4 = .ok (.if_icmp .gt 101, 3) := by decide +kernel
theorem dX4_goesOn_7 : decode cX4_goesOn 7 = .ok (.aload_n 1, 1) := by decide +kernel
theorem dX4_goesOn_8 : decode cX4_goesOn 8 = .ok (.invokevirtual 117, 3) := by decide +kernel
theorem dX4_goesOn_11 : decode cX4_goesOn 11 = .ok (.istore_n 3, 1) := by decide +kernel
theorem dX4_goesOn_12 : decode cX4_goesOn 12 = .ok (.iload_n 3, 1) := by decide +kernel
theorem dX4_goesOn_13 : decode cX4_goesOn 13 = .ok (.bipush 59, 2) := by decide +kernel
theorem dX4_goesOn_15 : decode cX4_goesOn 15 = .ok (.if_icmp .ne 15, 3) := by decide +kernel
theorem dX4_goesOn_18 : decode cX4_goesOn 18 = .ok (.aload_n 1, 1) := by decide +kernel
theorem dX4_goesOn_19 : decode cX4_goesOn 19 = .ok (.dup, 1) := by decide +kernel
theorem dX4_goesOn_20 : decode cX4_goesOn 20 = .ok (.getfield 120, 3) := by decide +kernel
theorem dX4_goesOn_23 : decode cX4_goesOn 23 = .ok (.iconst 1, 1) := by decide +kernel
theorem dX4_goesOn_24 : decode cX4_goesOn 24 = .ok (.iadd, 1) := by decide +kernel
theorem dX4_goesOn_25 : decode cX4_goesOn 25 = .ok (.putfield 120, 3) := by decide +kernel
theorem dX4_goesOn_28 : decode cX4_goesOn 28 = .ok (.iconst 1, 1) := by decide +kernel
theorem dX4_goesOn_29 : decode cX4_goesOn 29 = .ok (.ireturn, 1) := by decide +kernel
theorem dX4_goesOn_30 : decode cX4_goesOn 30 = .ok (.iload_n 3, 1) := by decide +kernel
theorem dX4_goesOn_31 : decode cX4_goesOn 31 = .ok (.bipush 41, 2) := by decide +kernel
theorem dX4_goesOn_33 : decode cX4_goesOn 33 = .ok (.if_icmp .ne 10, 3) := by decide +kernel
theorem dX4_goesOn_36 : decode cX4_goesOn 36 = .ok (.aload_n 0, 1) := by decide +kernel
theorem dX4_goesOn_37 : decode cX4_goesOn 37 = .ok (.getfield 44, 3) := by decide +kernel
theorem dX4_goesOn_40 : decode cX4_goesOn 40 = .ok (.ifCond .gt 26, 3) := by decide +kernel
theorem dX4_goesOn_43 : decode cX4_goesOn 43 = .ok (.iload_n 3, 1) := by decide +kernel
theorem dX4_goesOn_44 : decode cX4_goesOn 44 = .ok (.iconst (-1), 1) := by decide +kernel
theorem dX4_goesOn_45 : decode cX4_goesOn 45 = .ok (.if_icmp .ne 10, 3) := by decide +kernel
theorem dX4_goesOn_48 : decode cX4_goesOn 48 = .ok (.aload_n 0, 1) := by decide +kernel
theorem dX4_goesOn_49 : decode cX4_goesOn 49 = .ok (.getfield 44, 3) := by decide +kernel
theorem dX4_goesOn_52 : decode cX4_goesOn 52 = .ok (.ifCond .le 12, 3) := by decide +kernel
theorem dX4_goesOn_55 : decode cX4_goesOn 55 = .ok (.aload_n 1, 1) := by decide +kernel
theorem dX4_goesOn_56 : decode cX4_goesOn 56 = .ok (.aload_n 1, 1) := by decide +kernel
theorem dX4_goesOn_57 : decode cX4_goesOn 57 = .ok (.getfield 120, 3) := by decide +kernel
theorem dX4_goesOn_60 : decode cX4_goesOn 60 = .ok (.iconst 1, 1) := by decide +kernel
theorem dX4_goesOn_61 : decode cX4_goesOn 61 = .ok (.invokevirtual 110, 3) := by decide +kernel
theorem dX4_goesOn_64 : decode cX4_goesOn 64 = .ok (.iconst 0, 1) := by decide +kernel
theorem dX4_goesOn_65 : decode cX4_goesOn 65 = .ok (.ireturn, 1) := by decide +kernel
theorem dX4_goesOn_66 : decode cX4_goesOn 66 = .ok (.aload_n 1, 1) := by decide +kernel
theorem dX4_goesOn_67 : decode cX4_goesOn 67 = .ok (.dup, 1) := by decide +kernel
theorem dX4_goesOn_68 : decode cX4_goesOn 68 = .ok (.getfield 120, 3) := by decide +kernel
theorem dX4_goesOn_71 : decode cX4_goesOn 71 = .ok (.iconst 1, 1) := by decide +kernel
theorem dX4_goesOn_72 : decode cX4_goesOn 72 = .ok (.iadd, 1) := by decide +kernel
theorem dX4_goesOn_73 : decode cX4_goesOn 73 = .ok (.putfield 120, 3) := by decide +kernel
theorem dX4_goesOn_76 : decode cX4_goesOn 76 = .ok (.aload_n 0, 1) := by decide +kernel
theorem dX4_goesOn_77 : decode cX4_goesOn 77 = .ok (.dup, 1) := by decide +kernel
theorem dX4_goesOn_78 : decode cX4_goesOn 78 = .ok (.getfield 44, 3) := by decide +kernel
theorem dX4_goesOn_81 : decode cX4_goesOn 81 = .ok (.iconst 1, 1) := by decide +kernel
theorem dX4_goesOn_82 : decode cX4_goesOn 82 = .ok (.isub, 1) := by decide +kernel
theorem dX4_goesOn_83 : decode cX4_goesOn 83 = .ok (.putfield 44, 3) := by decide +kernel
theorem dX4_goesOn_86 : decode cX4_goesOn 86 = .ok (.aload_n 0, 1) := by decide +kernel
theorem dX4_goesOn_87 : decode cX4_goesOn 87 = .ok (.aload_n 0, 1) := by decide +kernel
theorem dX4_goesOn_88 : decode cX4_goesOn 88 = .ok (.getfield 27, 3) := by decide +kernel
theorem dX4_goesOn_91 : decode cX4_goesOn 91 = .ok (.aload_n 0, 1) := by decide +kernel
theorem dX4_goesOn_92 : decode cX4_goesOn 92 = .ok (.getfield 44, 3) := by decide +kernel
theorem dX4_goesOn_95 : decode cX4_goesOn 95 = .ok (.iaload, 1) := by decide +kernel
theorem dX4_goesOn_96 : decode cX4_goesOn 96 = .ok (.invokevirtual 125, 3) := by decide +kernel
theorem dX4_goesOn_99 : decode cX4_goesOn 99 = .ok (.iinc 2 1, 3) := by decide +kernel
theorem dX4_goesOn_102 : decode cX4_goesOn 102 = .ok (.goto (-100), 3) := by decide +kernel
theorem dX4_goesOn_105 : decode cX4_goesOn 105 = .ok (.iconst 0, 1) := by decide +kernel
theorem dX4_goesOn_106 : decode cX4_goesOn 106 = .ok (.ireturn, 1) := by decide +kernel
theorem dX4_readFrom_0 : decode cX4_readFrom 0 = .ok (.aload_n 0, 1) := by decide +kernel
theorem dX4_readFrom_1 : decode cX4_readFrom 1 = .ok (.iconst 0, 1) := by decide +kernel
theorem dX4_readFrom_2 : decode cX4_readFrom 2 = .ok (.putfield 33, 3) := by decide +kernel
theorem dX4_readFrom_5 : decode cX4_readFrom 5 = .ok (.aload_n 0, 1) := by decide +kernel
theorem dX4_readFrom_6 : decode cX4_readFrom 6 = .ok (.iconst 0, 1) := by decide +kernel
theorem dX4_readFrom_7 : decode cX4_readFrom 7 = .ok (.putfield 44, 3) := by decide +kernel
theorem dX4_readFrom_10 : decode cX4_readFrom 10 = .ok (.aload_n 1, 1) := by decide +kernel
theorem dX4_readFrom_11 : decode cX4_readFrom 11 = .ok (.invokevirtual 57, 3) := by decide +kernel
theorem dX4_readFrom_14 : decode cX4_readFrom 14 = .ok (.iconst 1, 1) := by decide +kernel
theorem dX4_readFrom_15 : decode cX4_readFrom 15 = .ok (.istore_n 3, 1) := by decide +kernel
theorem dX4_readFrom_16 : decode cX4_readFrom 16 = .ok (.iconst 0, 1) := by decide +kernel
theorem dX4_readFrom_17 : decode cX4_readFrom 17 = .ok (.istore 4, 2) := by decide +kernel
theorem dX4_readFrom_19 : decode cX4_readFrom 19 = .ok (.iload 4, 2) := by decide +kernel
theorem dX4_readFrom_21 : decode cX4_readFrom 21 = .ok (.bipush 80, 2) := by decide +kernel
theorem dX4_readFrom_23 : decode cX4_readFrom 23 = .ok (.if_icmp .ge 55, 3) := by decide +kernel
theorem dX4_readFrom_26 : decode cX4_readFrom 26 = .ok (.iload_n 3, 1) := by decide +kernel
theorem dX4_readFrom_27 : decode cX4_readFrom 27 = .ok (.ifCond .eq 51, 3) := by decide +kernel
theorem dX4_readFrom_30 : decode cX4_readFrom 30 = .ok (.aload_n 1, 1) := by decide +kernel
theorem dX4_readFrom_31 : decode cX4_readFrom 31 = .ok (.invokevirtual 62, 3) := by decide +kernel
theorem dX4_readFrom_34 : decode cX4_readFrom 34 = .ok (.istore 5, 2) := by decide +kernel
theorem dX4_readFrom_36 : decode cX4_readFrom 36 = .ok (.aload_n 0, 1) := by decide +kernel
theorem dX4_readFrom_37 : decode cX4_readFrom 37 = .ok (.iload 5, 2) := by decide +kernel
theorem dX4_readFrom_39 : decode cX4_readFrom 39 = .ok (.aload_n 1, 1) := by decide +kernel
theorem dX4_readFrom_40 : decode cX4_readFrom 40 = .ok (.aload_n 2, 1) := by decide +kernel
theorem dX4_readFrom_41 : decode cX4_readFrom 41 = .ok (.invokevirtual 66, 3) := by decide +kernel
theorem dX4_readFrom_44 : decode cX4_readFrom 44 = .ok (.aload_n 1, 1) := by decide +kernel
theorem dX4_readFrom_45 : decode cX4_readFrom 45 = .ok (.invokevirtual 70, 3) := by decide +kernel
theorem dX4_readFrom_48 : decode cX4_readFrom 48 = .ok (.ifCond .eq 22, 3) := by decide +kernel
theorem dX4_readFrom_51 : decode cX4_readFrom 51 = .ok (.iload 5, 2) := by decide +kernel
theorem dX4_readFrom_53 : decode cX4_readFrom 53 = .ok (.bipush 12, 2) := by decide +kernel
theorem dX4_readFrom_55 : decode cX4_readFrom 55 = .ok (.if_icmp .eq 11, 3) := by decide +kernel
theorem dX4_readFrom_58 : decode cX4_readFrom 58 = .ok (.aload_n 0, 1) := by decide +kernel
theorem dX4_readFrom_59 : decode cX4_readFrom 59 = .ok (.aload_n 1, 1) := by decide +kernel
theorem dX4_readFrom_60 : decode cX4_readFrom 60 = .ok (.invokevirtual 74, 3) := by decide +kernel
theorem dX4_readFrom_63 : decode cX4_readFrom 63 = .ok (.ifCond .eq 7, 3) := by decide +kernel
theorem dX4_readFrom_66 : decode cX4_readFrom 66 = .ok (.iconst 1, 1) := by decide +kernel
theorem dX4_readFrom_67 : decode cX4_readFrom 67 = .ok (.goto 4, 3) := by decide +kernel
theorem dX4_readFrom_70 : decode cX4_readFrom 70 = .ok (.iconst 0, 1) := by decide +kernel
theorem dX4_readFrom_71 : decode cX4_readFrom 71 = .ok (.istore_n 3, 1) := by decide +kernel
theorem dX4_readFrom_72 : decode cX4_readFrom 72 = .ok (.iinc 4 1, 3) := by decide +kernel
theorem dX4_readFrom_75 : decode cX4_readFrom 75 = .ok (.goto (-56), 3) := by decide +kernel
theorem dX4_readFrom_78 : decode cX4_readFrom 78 = .ok (.return_, 1) := by decide +kernel
theorem dX5_addNumber_0 : decode cX5_addNumber 0 = .ok (.bipush 24, 2) := by decide +kernel
theorem dX5_addNumber_2 : decode cX5_addNumber 2 = .ok (.istore_n 2, 1) := by decide +kernel
theorem dX5_addNumber_3 : decode cX5_addNumber 3 = .ok (.iload_n 2, 1) := by decide +kernel
theorem dX5_addNumber_4 : decode cX5_addNumber 4 = .ok (.ifCond .lt 45, 3) := by decide +kernel
theorem dX5_addNumber_7 : decode cX5_addNumber 7 = .ok (.aload_n 0, 1) := by decide +kernel
theorem dX5_addNumber_8 : decode cX5_addNumber 8 = .ok (.getfield 15, 3) := by decide +kernel
theorem dX5_addNumber_11 : decode cX5_addNumber 11 = .ok (.sipush 400, 3) := by decide +kernel
theorem dX5_addNumber_14 : decode cX5_addNumber 14 = .ok (.if_icmp .ge 29, 3) := by decide +kernel
theorem dX5_addNumber_17 : decode cX5_addNumber 17 = .ok (.aload_n 0, 1) := by decide +kernel
theorem dX5_addNumber_18 : decode cX5_addNumber 18 = .ok (.getfield 9, 3) := by decide +kernel
theorem dX5_addNumber_21 : decode cX5_addNumber 21 = .ok (.aload_n 0, 1) := by decide +kernel
theorem dX5_addNumber_22 : decode cX5_addNumber 22 = .ok (.getfield 15, 3) := by decide +kernel
theorem dX5_addNumber_25 : decode cX5_addNumber 25 = .ok (.iload_n 1, 1) := by decide +kernel
theorem dX5_addNumber_26 : decode cX5_addNumber 26 = .ok (.iload_n 2, 1) := by decide +kernel
theorem dX5_addNumber_27 : decode cX5_addNumber 27 = .ok (.ishr, 1) := by decide +kernel
theorem dX5_addNumber_28 : decode cX5_addNumber 28 = .ok (.sipush 255, 3) := by decide +kernel
theorem dX5_addNumber_31 : decode cX5_addNumber 31 = .ok (.iand, 1) := by decide +kernel
theorem dX5_addNumber_32 : decode cX5_addNumber 32 = .ok (.iastore, 1) := by decide +kernel
theorem dX5_addNumber_33 : decode cX5_addNumber 33 = .ok (.aload_n 0, 1) := by decide +kernel
theorem dX5_addNumber_34 : decode cX5_addNumber 34 = .ok (.dup, 1) := by decide +kernel
theorem dX5_addNumber_35 : decode cX5_addNumber 35 = .ok (.getfield 15, 3) := by decide +kernel
theorem dX5_addNumber_38 : decode cX5_addNumber 38 = .ok (.iconst 1, 1) := by decide +kernel
theorem dX5_addNumber_39 : decode cX5_addNumber 39 = .ok (.iadd, 1) := by decide +kernel
theorem dX5_addNumber_40 : decode cX5_addNumber 40 = .ok (.putfield 15, 3) := by decide +kernel
theorem dX5_addNumber_43 : decode cX5_addNumber 43 = .ok (.iinc 2 (-8), 3) := by decide +kernel
theorem dX5_addNumber_46 : decode cX5_addNumber 46 = .ok (.goto (-43), 3) := by decide +kernel
theorem dX5_addNumber_49 : decode cX5_addNumber 49 = .ok (.return_, 1) := by decide +kernel
theorem dX6_feed_0 : decode cX6_feed 0 = .ok (.aload_n 0, 1) := by decide +kernel
theorem dX6_feed_1 : decode cX6_feed 1 = .ok (.getfield 10, 3) := by decide +kernel
theorem dX6_feed_4 : decode cX6_feed 4 = .ok (.getfield 51, 3) := by decide +kernel
theorem dX6_feed_7 : decode cX6_feed 7 = .ok (.bipush 20, 2) := by decide +kernel
theorem dX6_feed_9 : decode cX6_feed 9 = .ok (.iadd, 1) := by decide +kernel
theorem dX6_feed_10 : decode cX6_feed 10 = .ok (.sipush 400, 3) := by decide +kernel
theorem dX6_feed_13 : decode cX6_feed 13 = .ok (.if_icmp .le 5, 3) := by decide +kernel
theorem dX6_feed_16 : decode cX6_feed 16 = .ok (.iconst (-1), 1) := by decide +kernel
theorem dX6_feed_17 : decode cX6_feed 17 = .ok (.ireturn, 1) := by decide +kernel
theorem dX6_feed_18 : decode cX6_feed 18 = .ok (.aload_n 0, 1) := by decide +kernel
theorem dX6_feed_19 : decode cX6_feed 19 = .ok (.getfield 10, 3) := by decide +kernel
theorem dX6_feed_22 : decode cX6_feed 22 = .ok (.iload_n 1, 1) := by decide +kernel
theorem dX6_feed_23 : decode cX6_feed 23 = .ok (.invokevirtual 55, 3) := by decide +kernel
theorem dX6_feed_26 : decode cX6_feed 26 = .ok (.aload_n 0, 1) := by decide +kernel
theorem dX6_feed_27 : decode cX6_feed 27 = .ok (.getfield 10, 3) := by decide +kernel
theorem dX6_feed_30 : decode cX6_feed 30 = .ok (.iload_n 2, 1) := by decide +kernel
theorem dX6_feed_31 : decode cX6_feed 31 = .ok (.invokevirtual 55, 3) := by decide +kernel
theorem dX6_feed_34 : decode cX6_feed 34 = .ok (.aload_n 0, 1) := by decide +kernel
theorem dX6_feed_35 : decode cX6_feed 35 = .ok (.getfield 10, 3) := by decide +kernel
theorem dX6_feed_38 : decode cX6_feed 38 = .ok (.iload_n 3, 1) := by decide +kernel
theorem dX6_feed_39 : decode cX6_feed 39 = .ok (.invokevirtual 55, 3) := by decide +kernel
theorem dX6_feed_42 : decode cX6_feed 42 = .ok (.aload_n 0, 1) := by decide +kernel
theorem dX6_feed_43 : decode cX6_feed 43 = .ok (.getfield 10, 3) := by decide +kernel
theorem dX6_feed_46 : decode cX6_feed 46 = .ok (.iload 4, 2) := by decide +kernel
theorem dX6_feed_48 : decode cX6_feed 48 = .ok (.invokevirtual 55, 3) := by decide +kernel
theorem dX6_feed_51 : decode cX6_feed 51 = .ok (.aload_n 0, 1) := by decide +kernel
theorem dX6_feed_52 : decode cX6_feed 52 = .ok (.getfield 10, 3) := by decide +kernel
theorem dX6_feed_55 : decode cX6_feed 55 = .ok (.iload 5, 2) := by decide +kernel
theorem dX6_feed_57 : decode cX6_feed 57 = .ok (.invokevirtual 55, 3) := by decide +kernel
theorem dX6_feed_60 : decode cX6_feed 60 = .ok (.aload_n 0, 1) := by decide +kernel
theorem dX6_feed_61 : decode cX6_feed 61 = .ok (.getfield 10, 3) := by decide +kernel
theorem dX6_feed_64 : decode cX6_feed 64 = .ok (.getfield 51, 3) := by decide +kernel
theorem dX6_feed_67 : decode cX6_feed 67 = .ok (.ireturn, 1) := by decide +kernel
theorem dX6_end_0 : decode cX6_end 0 = .ok (.iload_n 1, 1) := by decide +kernel
theorem dX6_end_1 : decode cX6_end 1 = .ok (.ifCond .lt 14, 3) := by decide +kernel
theorem dX6_end_4 : decode cX6_end 4 = .ok (.iload_n 1, 1) := by decide +kernel
theorem dX6_end_5 : decode cX6_end 5 = .ok (.aload_n 0, 1) := by decide +kernel
theorem dX6_end_6 : decode cX6_end 6 = .ok (.getfield 10, 3) := by decide +kernel
theorem dX6_end_9 : decode cX6_end 9 = .ok (.getfield 51, 3) := by decide +kernel
theorem dX6_end_12 : decode cX6_end 12 = .ok (.if_icmp .le 5, 3) := by decide +kernel
theorem dX6_end_15 : decode cX6_end 15 = .ok (.iconst (-1), 1) := by decide +kernel
theorem dX6_end_16 : decode cX6_end 16 = .ok (.ireturn, 1) := by decide +kernel
theorem dX6_end_17 : decode cX6_end 17 = .ok (.aload_n 0, 1) := by decide +kernel
theorem dX6_end_18 : decode cX6_end 18 = .ok (.getfield 10, 3) := by decide +kernel
theorem dX6_end_21 : decode cX6_end 21 = .ok (.iload_n 1, 1) := by decide +kernel
theorem dX6_end_22 : decode cX6_end 22 = .ok (.putfield 51, 3) := by decide +kernel
theorem dX6_end_25 : decode cX6_end 25 = .ok (.iload_n 1, 1) := by decide +kernel
theorem dX6_end_26 : decode cX6_end 26 = .ok (.ireturn, 1) := by decide +kernel
theorem dX6_tell_0 : decode cX6_tell 0 = .ok (.aload_n 0, 1) := by decide +kernel
theorem dX6_tell_1 : decode cX6_tell 1 = .ok (.getfield 23, 3) := by decide +kernel
theorem dX6_tell_4 : decode cX6_tell 4 = .ok (.aload_n 0, 1) := by decide +kernel
theorem dX6_tell_5 : decode cX6_tell 5 = .ok (.getfield 10, 3) := by decide +kernel
theorem dX6_tell_8 : decode cX6_tell 8 = .ok (.invokestatic 59, 3) := by decide +kernel
theorem dX6_tell_11 : decode cX6_tell 11 = .ok (.aload_n 0, 1) := by decide +kernel
theorem dX6_tell_12 : decode cX6_tell 12 = .ok (.getfield 10, 3) := by decide +kernel
theorem dX6_tell_15 : decode cX6_tell 15 = .ok (.iconst 0, 1) := by decide +kernel
theorem dX6_tell_16 : decode cX6_tell 16 = .ok (.putfield 51, 3) := by decide +kernel
theorem dX6_tell_19 : decode cX6_tell 19 = .ok (.aload_n 0, 1) := by decide +kernel
theorem dX6_tell_20 : decode cX6_tell 20 = .ok (.getfield 10, 3) := by decide +kernel
theorem dX6_tell_23 : decode cX6_tell 23 = .ok (.invokevirtual 65, 3) := by decide +kernel
theorem dX6_tell_26 : decode cX6_tell 26 = .ok (.ifCond .ne 14, 3) := by decide +kernel
theorem dX6_tell_40 : decode cX6_tell 40 = .ok (.aload_n 0, 1) := by decide +kernel
theorem dX6_tell_41 : decode cX6_tell 41 = .ok (.getfield 19, 3) := by decide +kernel
theorem dX6_tell_44 : decode cX6_tell 44 = .ok (.aload_n 0, 1) := by decide +kernel
theorem dX6_tell_45 : decode cX6_tell 45 = .ok (.getfield 23, 3) := by decide +kernel
theorem dX6_tell_48 : decode cX6_tell 48 = .ok (.invokevirtual 72, 3) := by decide +kernel
theorem dX6_tell_51 : decode cX6_tell 51 = .ok (.aload_n 0, 1) := by decide +kernel
theorem dX6_tell_52 : decode cX6_tell 52 = .ok (.getfield 19, 3) := by decide +kernel
theorem dX6_tell_55 : decode cX6_tell 55 = .ok (.invokevirtual 76, 3) := by decide +kernel
theorem dX6_tell_58 : decode cX6_tell 58 = .ok (.aload_n 0, 1) := by decide +kernel
theorem dX6_tell_59 : decode cX6_tell 59 = .ok (.getfield 43, 3) := by decide +kernel
theorem dX6_tell_62 : decode cX6_tell 62 = .ok (.iconst 0, 1) := by decide +kernel
theorem dX6_isRowText_0 : decode cX6_isRowText 0 = .ok (.iload_n 2, 1) := by decide +kernel
theorem dX6_isRowText_1 : decode cX6_isRowText 1 = .ok (.aload_n 0, 1) := by decide +kernel
theorem dX6_isRowText_2 : decode cX6_isRowText 2 = .ok (.getfield 19, 3) := by decide +kernel
theorem dX6_isRowText_5 : decode cX6_isRowText 5 = .ok (.getfield 261, 3) := by decide +kernel
theorem dX6_isRowText_8 : decode cX6_isRowText 8 = .ok (.if_icmp .le 5, 3) := by decide +kernel
theorem dX6_isRowText_11 : decode cX6_isRowText 11 = .ok (.iconst 0, 1) := by decide +kernel
theorem dX6_isRowText_12 : decode cX6_isRowText 12 = .ok (.ireturn, 1) := by decide +kernel
theorem dX6_isRowText_13 : decode cX6_isRowText 13 = .ok (.iconst 0, 1) := by decide +kernel
theorem dX6_isRowText_14 : decode cX6_isRowText 14 = .ok (.istore_n 3, 1) := by decide +kernel
theorem dX6_isRowText_15 : decode cX6_isRowText 15 = .ok (.iload_n 3, 1) := by decide +kernel
theorem dX6_isRowText_16 : decode cX6_isRowText 16 = .ok (.iload_n 2, 1) := by decide +kernel
theorem dX6_isRowText_17 : decode cX6_isRowText 17 = .ok (.if_icmp .ge 27, 3) := by decide +kernel
theorem dX6_isRowText_20 : decode cX6_isRowText 20 = .ok (.aload_n 0, 1) := by decide +kernel
theorem dX6_isRowText_21 : decode cX6_isRowText 21 = .ok (.getfield 10, 3) := by decide +kernel
theorem dX6_isRowText_24 : decode cX6_isRowText 24 = .ok (.iload_n 1, 1) := by decide +kernel
theorem dX6_isRowText_25 : decode cX6_isRowText 25 = .ok (.iload_n 3, 1) := by decide +kernel
theorem dX6_isRowText_26 : decode cX6_isRowText 26 = .ok (.iadd, 1) := by decide +kernel
theorem dX6_isRowText_27 : decode cX6_isRowText 27 = .ok (.invokevirtual 326, 3) := by decide +kernel
theorem dX6_isRowText_30 : decode cX6_isRowText 30 = .ok (.invokestatic 335, 3) := by decide +kernel
theorem dX6_isRowText_33 : decode cX6_isRowText 33 = .ok (.ifCond .ne 5, 3) := by decide +kernel
theorem dX6_isRowText_36 : decode cX6_isRowText 36 = .ok (.iconst 0, 1) := by decide +kernel
theorem dX6_isRowText_37 : decode cX6_isRowText 37 = .ok (.ireturn, 1) := by decide +kernel
theorem dX6_isRowText_38 : decode cX6_isRowText 38 = .ok (.iinc 3 1, 3) := by decide +kernel
theorem dX6_isRowText_41 : decode cX6_isRowText 41 = .ok (.goto (-26), 3) := by decide +kernel
theorem dX6_isRowText_44 : decode cX6_isRowText 44 = .ok (.iconst 1, 1) := by decide +kernel
theorem dX6_isRowText_45 : decode cX6_isRowText 45 = .ok (.ireturn, 1) := by decide +kernel
theorem dX6_whyNotRow_0 : decode cX6_whyNotRow 0 = .ok (.aload_n 0, 1) := by decide +kernel
theorem dX6_whyNotRow_1 : decode cX6_whyNotRow 1 = .ok (.getfield 19, 3) := by decide +kernel
theorem dX6_whyNotRow_4 : decode cX6_whyNotRow 4 = .ok (.iload_n 1, 1) := by decide +kernel
theorem dX6_whyNotRow_5 : decode cX6_whyNotRow 5 = .ok (.invokevirtual 258, 3) := by decide +kernel
theorem dX6_whyNotRow_8 : decode cX6_whyNotRow 8 = .ok (.ifCond .ne 5, 3) := by decide +kernel
theorem dX6_whyNotRow_11 : decode cX6_whyNotRow 11 = .ok (.iconst (-1), 1) := by decide +kernel
theorem dX6_whyNotRow_12 : decode cX6_whyNotRow 12 = .ok (.ireturn, 1) := by decide +kernel
theorem dX6_whyNotRow_13 : decode cX6_whyNotRow 13 = .ok (.aload_n 0, 1) := by decide +kernel
theorem dX6_whyNotRow_14 : decode cX6_whyNotRow 14 = .ok (.iconst 0, 1) := by decide +kernel
theorem dX6_whyNotRow_15 : decode cX6_whyNotRow 15 = .ok (.aload_n 0, 1) := by decide +kernel
theorem dX6_whyNotRow_16 : decode cX6_whyNotRow 16 = .ok (.getfield 10, 3) := by decide +kernel
theorem dX6_whyNotRow_19 : decode cX6_whyNotRow 19 = .ok (.getfield 51, 3) := by decide +kernel
theorem dX6_whyNotRow_22 : decode cX6_whyNotRow 22 = .ok (.invokevirtual 329, 3) := by decide +kernel
theorem dX6_whyNotRow_25 : decode cX6_whyNotRow 25 = .ok (.ifCond .eq 7, 3) := by decide +kernel
theorem dX6_whyNotRow_28 : decode cX6_whyNotRow 28 = .ok (.iconst 0, 1) := by decide +kernel
theorem dX6_whyNotRow_29 : decode cX6_whyNotRow 29 = .ok (.goto 5, 3) := by decide +kernel
theorem dX6_whyNotRow_32 : decode cX6_whyNotRow 32 = .ok (.bipush (-2), 2) := by decide +kernel
theorem dX6_whyNotRow_34 : decode cX6_whyNotRow 34 = .ok (.ireturn, 1) := by decide +kernel
theorem dX6_row_0 : decode cX6_row 0 = .ok (.aload_n 0, 1) := by decide +kernel
theorem dX6_row_1 : decode cX6_row 1 = .ok (.iload_n 1, 1) := by decide +kernel
theorem dX6_row_2 : decode cX6_row 2 = .ok (.invokevirtual 83, 3) := by decide +kernel
theorem dX6_row_5 : decode cX6_row 5 = .ok (.istore_n 2, 1) := by decide +kernel
theorem dX6_row_6 : decode cX6_row 6 = .ok (.iload_n 2, 1) := by decide +kernel
theorem dX6_row_7 : decode cX6_row 7 = .ok (.ifCond .ne 35, 3) := by decide +kernel
theorem dX6_row_10 : decode cX6_row 10 = .ok (.aload_n 0, 1) := by decide +kernel
theorem dX6_row_11 : decode cX6_row 11 = .ok (.getfield 43, 3) := by decide +kernel
theorem dX6_row_14 : decode cX6_row 14 = .ok (.aload_n 0, 1) := by decide +kernel
theorem dX6_row_15 : decode cX6_row 15 = .ok (.getfield 19, 3) := by decide +kernel
theorem dX6_row_42 : decode cX6_row 42 = .ok (.aload_n 0, 1) := by decide +kernel
theorem dX6_row_43 : decode cX6_row 43 = .ok (.getfield 10, 3) := by decide +kernel
theorem dX6_row_46 : decode cX6_row 46 = .ok (.iconst 0, 1) := by decide +kernel
theorem dX6_row_47 : decode cX6_row 47 = .ok (.putfield 51, 3) := by decide +kernel
theorem dX6_row_50 : decode cX6_row 50 = .ok (.iload_n 2, 1) := by decide +kernel
theorem dX6_row_51 : decode cX6_row 51 = .ok (.ireturn, 1) := by decide +kernel
theorem dX6_scroll_0 : decode cX6_scroll 0 = .ok (.aload_n 0, 1) := by decide +kernel
theorem dX6_scroll_1 : decode cX6_scroll 1 = .ok (.aload_n 0, 1) := by decide +kernel
theorem dX6_scroll_2 : decode cX6_scroll 2 = .ok (.getfield 19, 3) := by decide +kernel
theorem dX6_scroll_5 : decode cX6_scroll 5 = .ok (.getfield 94, 3) := by decide +kernel
theorem dX6_scroll_8 : decode cX6_scroll 8 = .ok (.iconst 1, 1) := by decide +kernel
theorem dX6_scroll_9 : decode cX6_scroll 9 = .ok (.isub, 1) := by decide +kernel
theorem dX6_scroll_10 : decode cX6_scroll 10 = .ok (.invokevirtual 83, 3) := by decide +kernel
theorem dX6_scroll_13 : decode cX6_scroll 13 = .ok (.istore_n 1, 1) := by decide +kernel
theorem dX6_scroll_14 : decode cX6_scroll 14 = .ok (.iload_n 1, 1) := by decide +kernel
theorem dX6_scroll_15 : decode cX6_scroll 15 = .ok (.ifCond .ne 34, 3) := by decide +kernel
theorem dX6_scroll_18 : decode cX6_scroll 18 = .ok (.aload_n 0, 1) := by decide +kernel
theorem dX6_scroll_19 : decode cX6_scroll 19 = .ok (.getfield 43, 3) := by decide +kernel
theorem dX6_scroll_22 : decode cX6_scroll 22 = .ok (.aload_n 0, 1) := by decide +kernel
theorem dX6_scroll_23 : decode cX6_scroll 23 = .ok (.getfield 19, 3) := by decide +kernel
theorem dX6_scroll_49 : decode cX6_scroll 49 = .ok (.aload_n 0, 1) := by decide +kernel
theorem dX6_scroll_50 : decode cX6_scroll 50 = .ok (.getfield 10, 3) := by decide +kernel
theorem dX6_scroll_53 : decode cX6_scroll 53 = .ok (.iconst 0, 1) := by decide +kernel
theorem dX6_scroll_54 : decode cX6_scroll 54 = .ok (.putfield 51, 3) := by decide +kernel
theorem dX6_scroll_57 : decode cX6_scroll 57 = .ok (.iload_n 1, 1) := by decide +kernel
theorem dX6_scroll_58 : decode cX6_scroll 58 = .ok (.ireturn, 1) := by decide +kernel
theorem dX6_tick_0 : decode cX6_tick 0 = .ok (.aload_n 0, 1) := by decide +kernel
theorem dX6_tick_1 : decode cX6_tick 1 = .ok (.getfield 19, 3) := by decide +kernel
theorem dX6_tick_4 : decode cX6_tick 4 = .ok (.invokevirtual 101, 3) := by decide +kernel
theorem dX6_tick_7 : decode cX6_tick 7 = .ok (.ifCond .eq 14, 3) := by decide +kernel
theorem dX6_tick_10 : decode cX6_tick 10 = .ok (.iload_n 1, 1) := by decide +kernel
theorem dX6_tick_11 : decode cX6_tick 11 = .ok (.iconst 1, 1) := by decide +kernel
theorem dX6_tick_12 : decode cX6_tick 12 = .ok (.if_icmp .lt 9, 3) := by decide +kernel
theorem dX6_tick_15 : decode cX6_tick 15 = .ok (.iload_n 1, 1) := by decide +kernel
theorem dX6_tick_16 : decode cX6_tick 16 = .ok (.bipush 99, 2) := by decide +kernel
theorem dX6_tick_18 : decode cX6_tick 18 = .ok (.if_icmp .le 5, 3) := by decide +kernel
theorem dX6_tick_21 : decode cX6_tick 21 = .ok (.iconst (-1), 1) := by decide +kernel
theorem dX6_tick_22 : decode cX6_tick 22 = .ok (.ireturn, 1) := by decide +kernel
theorem dX6_tick_23 : decode cX6_tick 23 = .ok (.aload_n 0, 1) := by decide +kernel
theorem dX6_tick_24 : decode cX6_tick 24 = .ok (.getfield 43, 3) := by decide +kernel
theorem dX6_tick_27 : decode cX6_tick 27 = .ok (.aload_n 0, 1) := by decide +kernel
theorem dX6_tick_28 : decode cX6_tick 28 = .ok (.getfield 19, 3) := by decide +kernel
theorem dX6_settle_0 : decode cX6_settle 0 = .ok (.aload_n 0, 1) := by decide +kernel
theorem dX6_settle_1 : decode cX6_settle 1 = .ok (.getfield 19, 3) := by decide +kernel
theorem dX6_settle_4 : decode cX6_settle 4 = .ok (.invokevirtual 101, 3) := by decide +kernel
theorem dX6_settle_7 : decode cX6_settle 7 = .ok (.ifCond .ne 5, 3) := by decide +kernel
theorem dX6_settle_12 : decode cX6_settle 12 = .ok (.aload_n 0, 1) := by decide +kernel
theorem dX6_settle_13 : decode cX6_settle 13 = .ok (.getfield 29, 3) := by decide +kernel
theorem dX6_settle_16 : decode cX6_settle 16 = .ok (.aload_n 0, 1) := by decide +kernel
theorem dX6_settle_17 : decode cX6_settle 17 = .ok (.getfield 19, 3) := by decide +kernel
theorem dX6_settle_20 : decode cX6_settle 20 = .ok (.invokevirtual 111, 3) := by decide +kernel
theorem dX6_settle_23 : decode cX6_settle 23 = .ok (.aload_n 0, 1) := by decide +kernel
theorem dX6_settle_24 : decode cX6_settle 24 = .ok (.getfield 29, 3) := by decide +kernel
theorem dX6_settle_27 : decode cX6_settle 27 = .ok (.getfield 114, 3) := by decide +kernel
theorem dX6_settle_30 : decode cX6_settle 30 = .ok (.ifCond .ne 6, 3) := by decide +kernel
theorem dX6_settle_36 : decode cX6_settle 36 = .ok (.aload_n 0, 1) := by decide +kernel
theorem dX6_settle_37 : decode cX6_settle 37 = .ok (.getfield 43, 3) := by decide +kernel
theorem dX6_settle_40 : decode cX6_settle 40 = .ok (.aload_n 0, 1) := by decide +kernel
theorem dX6_settle_41 : decode cX6_settle 41 = .ok (.getfield 19, 3) := by decide +kernel
theorem dX6_lose_0 : decode cX6_lose 0 = .ok (.aload_n 0, 1) := by decide +kernel
theorem dX6_lose_1 : decode cX6_lose 1 = .ok (.getfield 19, 3) := by decide +kernel
theorem dX6_lose_4 : decode cX6_lose 4 = .ok (.iload_n 1, 1) := by decide +kernel
theorem dX6_lose_5 : decode cX6_lose 5 = .ok (.invokevirtual 118, 3) := by decide +kernel
theorem dX6_lose_8 : decode cX6_lose 8 = .ok (.ifCond .eq 13, 3) := by decide +kernel
theorem dX6_lose_11 : decode cX6_lose 11 = .ok (.iload_n 2, 1) := by decide +kernel
theorem dX6_lose_12 : decode cX6_lose 12 = .ok (.ifCond .lt 9, 3) := by decide +kernel
theorem dX6_lose_15 : decode cX6_lose 15 = .ok (.iload_n 2, 1) := by decide +kernel
theorem dX6_lose_16 : decode cX6_lose 16 = .ok (.bipush 9, 2) := by decide +kernel
theorem dX6_lose_18 : decode cX6_lose 18 = .ok (.if_icmp .le 5, 3) := by decide +kernel
theorem dX6_lose_21 : decode cX6_lose 21 = .ok (.iconst (-1), 1) := by decide +kernel
theorem dX6_lose_22 : decode cX6_lose 22 = .ok (.ireturn, 1) := by decide +kernel
theorem dX6_lose_23 : decode cX6_lose 23 = .ok (.aload_n 0, 1) := by decide +kernel
theorem dX6_lose_24 : decode cX6_lose 24 = .ok (.getfield 19, 3) := by decide +kernel
theorem dX6_lose_27 : decode cX6_lose 27 = .ok (.getfield 122, 3) := by decide +kernel
theorem dX6_lose_30 : decode cX6_lose 30 = .ok (.iload_n 1, 1) := by decide +kernel
theorem dX6_lose_31 : decode cX6_lose 31 = .ok (.iaload, 1) := by decide +kernel
theorem dX6_lose_32 : decode cX6_lose 32 = .ok (.istore_n 3, 1) := by decide +kernel
theorem dX6_lose_33 : decode cX6_lose 33 = .ok (.iload_n 3, 1) := by decide +kernel
theorem dX6_lose_34 : decode cX6_lose 34 = .ok (.iload_n 2, 1) := by decide +kernel
theorem dX6_lose_35 : decode cX6_lose 35 = .ok (.if_icmp .ne 6, 3) := by decide +kernel
theorem dX6_lose_41 : decode cX6_lose 41 = .ok (.aload_n 0, 1) := by decide +kernel
theorem dX6_lose_42 : decode cX6_lose 42 = .ok (.getfield 43, 3) := by decide +kernel
theorem dX6_lose_45 : decode cX6_lose 45 = .ok (.aload_n 0, 1) := by decide +kernel
theorem dX6_lose_46 : decode cX6_lose 46 = .ok (.getfield 19, 3) := by decide +kernel
theorem dX6_wear_0 : decode cX6_wear 0 = .ok (.aload_n 0, 1) := by decide +kernel
theorem dX6_wear_1 : decode cX6_wear 1 = .ok (.getfield 19, 3) := by decide +kernel
theorem dX6_wear_4 : decode cX6_wear 4 = .ok (.iload_n 1, 1) := by decide +kernel
theorem dX6_wear_5 : decode cX6_wear 5 = .ok (.iload_n 2, 1) := by decide +kernel
theorem dX6_wear_6 : decode cX6_wear 6 = .ok (.invokevirtual 130, 3) := by decide +kernel
theorem dX6_wear_9 : decode cX6_wear 9 = .ok (.ifCond .eq 7, 3) := by decide +kernel
theorem dX6_wear_12 : decode cX6_wear 12 = .ok (.iload_n 2, 1) := by decide +kernel
theorem dX6_wear_13 : decode cX6_wear 13 = .ok (.ifCond .ne 5, 3) := by decide +kernel
theorem dX6_wear_16 : decode cX6_wear 16 = .ok (.iconst (-1), 1) := by decide +kernel
theorem dX6_wear_17 : decode cX6_wear 17 = .ok (.ireturn, 1) := by decide +kernel
theorem dX6_wear_18 : decode cX6_wear 18 = .ok (.aload_n 0, 1) := by decide +kernel
theorem dX6_wear_19 : decode cX6_wear 19 = .ok (.getfield 19, 3) := by decide +kernel
theorem dX6_wear_22 : decode cX6_wear 22 = .ok (.iload_n 1, 1) := by decide +kernel
theorem dX6_wear_23 : decode cX6_wear 23 = .ok (.iload_n 2, 1) := by decide +kernel
theorem dX6_wear_24 : decode cX6_wear 24 = .ok (.invokevirtual 134, 3) := by decide +kernel
theorem dX6_wear_27 : decode cX6_wear 27 = .ok (.ifCond .eq 6, 3) := by decide +kernel
theorem dX6_wear_33 : decode cX6_wear 33 = .ok (.aload_n 0, 1) := by decide +kernel
theorem dX6_wear_34 : decode cX6_wear 34 = .ok (.getfield 43, 3) := by decide +kernel
theorem dX6_wear_37 : decode cX6_wear 37 = .ok (.aload_n 0, 1) := by decide +kernel
theorem dX6_wear_38 : decode cX6_wear 38 = .ok (.getfield 19, 3) := by decide +kernel
theorem dX6_mend_0 : decode cX6_mend 0 = .ok (.aload_n 0, 1) := by decide +kernel
theorem dX6_mend_1 : decode cX6_mend 1 = .ok (.getfield 19, 3) := by decide +kernel
theorem dX6_mend_4 : decode cX6_mend 4 = .ok (.iload_n 1, 1) := by decide +kernel
theorem dX6_mend_5 : decode cX6_mend 5 = .ok (.iload_n 2, 1) := by decide +kernel
theorem dX6_mend_6 : decode cX6_mend 6 = .ok (.invokevirtual 130, 3) := by decide +kernel
theorem dX6_mend_9 : decode cX6_mend 9 = .ok (.ifCond .ne 5, 3) := by decide +kernel
theorem dX6_mend_14 : decode cX6_mend 14 = .ok (.aload_n 0, 1) := by decide +kernel
theorem dX6_mend_15 : decode cX6_mend 15 = .ok (.getfield 19, 3) := by decide +kernel
theorem dX6_mend_18 : decode cX6_mend 18 = .ok (.iload_n 1, 1) := by decide +kernel
theorem dX6_mend_19 : decode cX6_mend 19 = .ok (.iload_n 2, 1) := by decide +kernel
theorem dX6_mend_20 : decode cX6_mend 20 = .ok (.invokevirtual 134, 3) := by decide +kernel
theorem dX6_mend_23 : decode cX6_mend 23 = .ok (.ifCond .ne 6, 3) := by decide +kernel
theorem dX6_mend_29 : decode cX6_mend 29 = .ok (.aload_n 0, 1) := by decide +kernel
theorem dX6_mend_30 : decode cX6_mend 30 = .ok (.getfield 43, 3) := by decide +kernel
theorem dX6_mend_33 : decode cX6_mend 33 = .ok (.aload_n 0, 1) := by decide +kernel
theorem dX6_mend_34 : decode cX6_mend 34 = .ok (.getfield 19, 3) := by decide +kernel
theorem dX6_limit_0 : decode cX6_limit 0 = .ok (.aload_n 0, 1) := by decide +kernel
theorem dX6_limit_1 : decode cX6_limit 1 = .ok (.getfield 19, 3) := by decide +kernel
theorem dX6_limit_4 : decode cX6_limit 4 = .ok (.invokevirtual 101, 3) := by decide +kernel
theorem dX6_limit_7 : decode cX6_limit 7 = .ok (.ifCond .eq 14, 3) := by decide +kernel
theorem dX6_limit_10 : decode cX6_limit 10 = .ok (.iload_n 1, 1) := by decide +kernel
theorem dX6_limit_11 : decode cX6_limit 11 = .ok (.iconst 1, 1) := by decide +kernel
theorem dX6_limit_12 : decode cX6_limit 12 = .ok (.if_icmp .lt 9, 3) := by decide +kernel
theorem dX6_limit_15 : decode cX6_limit 15 = .ok (.iload_n 1, 1) := by decide +kernel
theorem dX6_limit_16 : decode cX6_limit 16 = .ok (.bipush 99, 2) := by decide +kernel
theorem dX6_limit_18 : decode cX6_limit 18 = .ok (.if_icmp .le 5, 3) := by decide +kernel
theorem dX6_limit_21 : decode cX6_limit 21 = .ok (.iconst (-1), 1) := by decide +kernel
theorem dX6_limit_22 : decode cX6_limit 22 = .ok (.ireturn, 1) := by decide +kernel
theorem dX6_limit_23 : decode cX6_limit 23 = .ok (.aload_n 0, 1) := by decide +kernel
theorem dX6_limit_24 : decode cX6_limit 24 = .ok (.getfield 19, 3) := by decide +kernel
theorem dX6_limit_27 : decode cX6_limit 27 = .ok (.getfield 146, 3) := by decide +kernel
theorem dX6_limit_30 : decode cX6_limit 30 = .ok (.istore_n 2, 1) := by decide +kernel
theorem dX6_limit_31 : decode cX6_limit 31 = .ok (.iload_n 2, 1) := by decide +kernel
theorem dX6_limit_32 : decode cX6_limit 32 = .ok (.iload_n 1, 1) := by decide +kernel
theorem dX6_limit_33 : decode cX6_limit 33 = .ok (.if_icmp .ne 6, 3) := by decide +kernel
theorem dX6_limit_39 : decode cX6_limit 39 = .ok (.aload_n 0, 1) := by decide +kernel
theorem dX6_limit_40 : decode cX6_limit 40 = .ok (.getfield 43, 3) := by decide +kernel
theorem dX6_limit_43 : decode cX6_limit 43 = .ok (.aload_n 0, 1) := by decide +kernel
theorem dX6_limit_44 : decode cX6_limit 44 = .ok (.getfield 19, 3) := by decide +kernel
theorem dX6_exchange_0 : decode cX6_exchange 0 = .ok (.aload_n 0, 1) := by decide +kernel
theorem dX6_exchange_1 : decode cX6_exchange 1 = .ok (.getfield 19, 3) := by decide +kernel
theorem dX6_exchange_4 : decode cX6_exchange 4 = .ok (.iload_n 1, 1) := by decide +kernel
theorem dX6_exchange_5 : decode cX6_exchange 5 = .ok (.iload_n 2, 1) := by decide +kernel
theorem dX6_exchange_6 : decode cX6_exchange 6 = .ok (.invokevirtual 149, 3) := by decide +kernel
theorem dX6_exchange_9 : decode cX6_exchange 9 = .ok (.ifCond .eq 20, 3) := by decide +kernel
theorem dX6_exchange_12 : decode cX6_exchange 12 = .ok (.aload_n 0, 1) := by decide +kernel
theorem dX6_exchange_13 : decode cX6_exchange 13 = .ok (.getfield 19, 3) := by decide +kernel
theorem dX6_exchange_16 : decode cX6_exchange 16 = .ok (.iload_n 1, 1) := by decide +kernel
theorem dX6_exchange_17 : decode cX6_exchange 17 = .ok (.iload_n 3, 1) := by decide +kernel
theorem dX6_exchange_18 : decode cX6_exchange 18 = .ok (.invokevirtual 149, 3) := by decide +kernel
theorem dX6_exchange_21 : decode cX6_exchange 21 = .ok (.ifCond .eq 8, 3) := by decide +kernel
theorem dX6_exchange_24 : decode cX6_exchange 24 = .ok (.iload_n 2, 1) := by decide +kernel
theorem dX6_exchange_25 : decode cX6_exchange 25 = .ok (.iload_n 3, 1) := by decide +kernel
theorem dX6_exchange_26 : decode cX6_exchange 26 = .ok (.if_icmp .ne 5, 3) := by decide +kernel
theorem dX6_exchange_29 : decode cX6_exchange 29 = .ok (.iconst (-1), 1) := by decide +kernel
theorem dX6_exchange_30 : decode cX6_exchange 30 = .ok (.ireturn, 1) := by decide +kernel
theorem dX6_exchange_31 : decode cX6_exchange 31 = .ok (.aload_n 0, 1) := by decide +kernel
theorem dX6_exchange_32 : decode cX6_exchange 32 = .ok (.getfield 43, 3) := by decide +kernel
theorem dX6_exchange_35 : decode cX6_exchange 35 = .ok (.aload_n 0, 1) := by decide +kernel
theorem dX6_exchange_36 : decode cX6_exchange 36 = .ok (.getfield 19, 3) := by decide +kernel
theorem dX6_whyNotProgram_0 : decode cX6_whyNotProgram 0 = .ok (.aload_n 0, 1) := by decide +kernel
theorem dX6_whyNotProgram_1 : decode cX6_whyNotProgram 1 = .ok (.getfield 19, 3) := by decide +kernel
theorem dX6_whyNotProgram_4 : decode cX6_whyNotProgram 4 = .ok (.invokevirtual 101, 3) := by decide +kernel
theorem dX6_whyNotProgram_7 : decode cX6_whyNotProgram 7 = .ok (.ifCond .ne 5, 3) := by decide +kernel
theorem dX6_whyNotProgram_10 : decode cX6_whyNotProgram 10 = .ok (.iconst (-1), 1) := by decide +kernel
theorem dX6_whyNotProgram_11 : decode cX6_whyNotProgram 11 = .ok (.ireturn, 1) := by decide +kernel
theorem dX6_whyNotProgram_12 : decode cX6_whyNotProgram 12 = .ok (.aload_n 0, 1) := by decide +kernel
theorem dX6_whyNotProgram_13 : decode cX6_whyNotProgram 13 = .ok (.getfield 36, 3) := by decide +kernel
theorem dX6_whyNotProgram_16 : decode cX6_whyNotProgram 16 = .ok (.aload_n 0, 1) := by decide +kernel
theorem dX6_whyNotProgram_17 : decode cX6_whyNotProgram 17 = .ok (.getfield 10, 3) := by decide +kernel
theorem dX6_whyNotProgram_20 : decode cX6_whyNotProgram 20 = .ok (.aload_n 0, 1) := by decide +kernel
theorem dX6_whyNotProgram_21 : decode cX6_whyNotProgram 21 = .ok (.getfield 19, 3) := by decide +kernel
theorem dX6_whyNotProgram_24 : decode cX6_whyNotProgram 24 = .ok (.invokevirtual 163, 3) := by decide +kernel
theorem dX6_whyNotProgram_27 : decode cX6_whyNotProgram 27 = .ok (.aload_n 0, 1) := by decide +kernel
theorem dX6_whyNotProgram_28 : decode cX6_whyNotProgram 28 = .ok (.getfield 10, 3) := by decide +kernel
theorem dX6_whyNotProgram_31 : decode cX6_whyNotProgram 31 = .ok (.invokevirtual 65, 3) := by decide +kernel
theorem dX6_whyNotProgram_34 : decode cX6_whyNotProgram 34 = .ok (.ifCond .eq 7, 3) := by decide +kernel
theorem dX6_whyNotProgram_37 : decode cX6_whyNotProgram 37 = .ok (.iconst 0, 1) := by decide +kernel
theorem dX6_whyNotProgram_38 : decode cX6_whyNotProgram 38 = .ok (.goto 13, 3) := by decide +kernel
theorem dX6_whyNotProgram_41 : decode cX6_whyNotProgram 41 = .ok (.bipush (-2), 2) := by decide +kernel
theorem dX6_whyNotProgram_43 : decode cX6_whyNotProgram 43 = .ok (.aload_n 0, 1) := by decide +kernel
theorem dX6_whyNotProgram_44 : decode cX6_whyNotProgram 44 = .ok (.getfield 10, 3) := by decide +kernel
theorem dX6_whyNotProgram_47 : decode cX6_whyNotProgram 47 = .ok (.getfield 69, 3) := by decide +kernel
theorem dX6_whyNotProgram_50 : decode cX6_whyNotProgram 50 = .ok (.isub, 1) := by decide +kernel
theorem dX6_whyNotProgram_51 : decode cX6_whyNotProgram 51 = .ok (.ireturn, 1) := by decide +kernel
theorem dX6_doStep_0 : decode cX6_doStep 0 = .ok (.aload_n 0, 1) := by decide +kernel
theorem dX6_doStep_1 : decode cX6_doStep 1 = .ok (.getfield 36, 3) := by decide +kernel
theorem dX6_doStep_4 : decode cX6_doStep 4 = .ok (.iload_n 1, 1) := by decide +kernel
theorem dX6_doStep_5 : decode cX6_doStep 5 = .ok (.invokevirtual 182, 3) := by decide +kernel
theorem dX6_doStep_8 : decode cX6_doStep 8 = .ok (.istore_n 2, 1) := by decide +kernel
theorem dX6_doStep_9 : decode cX6_doStep 9 = .ok (.aload_n 0, 1) := by decide +kernel
theorem dX6_doStep_10 : decode cX6_doStep 10 = .ok (.getfield 36, 3) := by decide +kernel
theorem dX6_doStep_13 : decode cX6_doStep 13 = .ok (.iload_n 1, 1) := by decide +kernel
theorem dX6_doStep_14 : decode cX6_doStep 14 = .ok (.invokevirtual 185, 3) := by decide +kernel
