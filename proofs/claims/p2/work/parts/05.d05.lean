theorem dX7_steps_130 : decode cX7_steps 130 = .ok (.iload_n 2, 1) := by decide +kernel
theorem dX7_steps_131 : decode cX7_steps 131 = .ok (.i2l, 1) := by decide +kernel
theorem dX7_steps_132 : decode cX7_steps 132 = .ok (.ladd, 1) := by decide +kernel
theorem dX7_steps_133 : decode cX7_steps 133 = .ok (.lastore, 1) := by decide +kernel
theorem dX7_steps_134 : decode cX7_steps 134 = .ok (.aload_n 0, 1) := by decide +kernel
theorem dX7_steps_135 : decode cX7_steps 135 = .ok (.iload_n 1, 1) := by decide +kernel
theorem dX7_steps_136 : decode cX7_steps 136 = .ok (.iconst 2, 1) := by decide +kernel
theorem dX7_steps_137 : decode cX7_steps 137 = .ok (.lconst 0, 1) := by decide +kernel
theorem dX7_steps_138 : decode cX7_steps 138 = .ok (.invokevirtual 78, 3) := by decide +kernel
theorem dX7_steps_141 : decode cX7_steps 141 = .ok (.return_, 1) := by decide +kernel
theorem dX7_findsTurning_0 : decode cX7_findsTurning 0 = .ok (.aload_n 0, 1) := by decide +kernel
theorem dX7_findsTurning_1 : decode cX7_findsTurning 1 = .ok (.lconst 0, 1) := by decide +kernel
theorem dX7_findsTurning_2 : decode cX7_findsTurning 2 = .ok (.putfield 82, 3) := by decide +kernel
theorem dX7_findsTurning_5 : decode cX7_findsTurning 5 = .ok (.aload_n 0, 1) := by decide +kernel
theorem dX7_findsTurning_6 : decode cX7_findsTurning 6 = .ok (.iconst 0, 1) := by decide +kernel
theorem dX7_findsTurning_7 : decode cX7_findsTurning 7 = .ok (.putfield 86, 3) := by decide +kernel
theorem dX7_findsTurning_10 : decode cX7_findsTurning 10 = .ok (.aload_n 0, 1) := by decide +kernel
theorem dX7_findsTurning_11 : decode cX7_findsTurning 11 = .ok (.iconst 0, 1) := by decide +kernel
theorem dX7_findsTurning_12 : decode cX7_findsTurning 12 = .ok (.putfield 90, 3) := by decide +kernel
theorem dX7_findsTurning_15 : decode cX7_findsTurning 15 = .ok (.lconst 0, 1) := by decide +kernel
theorem dX7_findsTurning_16 : decode cX7_findsTurning 16 = .ok (.lstore_n 1, 1) := by decide +kernel
theorem dX7_findsTurning_17 : decode cX7_findsTurning 17 = .ok (.iconst 0, 1) := by decide +kernel
theorem dX7_findsTurning_18 : decode cX7_findsTurning 18 = .ok (.istore_n 3, 1) := by decide +kernel
theorem dX7_findsTurning_19 : decode cX7_findsTurning 19 = .ok (.iload_n 3, 1) := by decide +kernel
theorem dX7_findsTurning_20 : decode cX7_findsTurning 20 = .ok (.aload_n 0, 1) := by decide +kernel
theorem dX7_findsTurning_21 : decode cX7_findsTurning 21 = .ok (.invokevirtual 53, 3) := by decide +kernel
theorem dX7_findsTurning_24 : decode cX7_findsTurning 24 = .ok (.if_icmp .ge 150, 3) := by decide +kernel
theorem dX7_findsTurning_27 : decode cX7_findsTurning 27 = .ok (.iconst (-1), 1) := by decide +kernel
theorem dX7_findsTurning_28 : decode cX7_findsTurning 28 = .ok (.istore 4, 2) := by decide +kernel
theorem dX7_findsTurning_30 : decode cX7_findsTurning 30 = .ok (.iconst 0, 1) := by decide +kernel
theorem dX7_findsTurning_31 : decode cX7_findsTurning 31 = .ok (.istore 5, 2) := by decide +kernel
theorem dX7_findsTurning_33 : decode cX7_findsTurning 33 = .ok (.iload 5, 2) := by decide +kernel
theorem dX7_findsTurning_35 : decode cX7_findsTurning 35 = .ok (.aload_n 0, 1) := by decide +kernel
theorem dX7_findsTurning_36 : decode cX7_findsTurning 36 = .ok (.invokevirtual 53, 3) := by decide +kernel
theorem dX7_findsTurning_39 : decode cX7_findsTurning 39 = .ok (.if_icmp .ge 52, 3) := by decide +kernel
theorem dX7_findsTurning_42 : decode cX7_findsTurning 42 = .ok (.lload_n 1, 1) := by decide +kernel
theorem dX7_findsTurning_43 : decode cX7_findsTurning 43 = .ok (.iload 5, 2) := by decide +kernel
theorem dX7_findsTurning_45 : decode cX7_findsTurning 45 = .ok (.invokestatic 74, 3) := by decide +kernel
theorem dX7_findsTurning_48 : decode cX7_findsTurning 48 = .ok (.ifCond .ne 37, 3) := by decide +kernel
theorem dX7_findsTurning_51 : decode cX7_findsTurning 51 = .ok (.aload_n 0, 1) := by decide +kernel
theorem dX7_findsTurning_52 : decode cX7_findsTurning 52 = .ok (.iload 5, 2) := by decide +kernel
theorem dX7_findsTurning_54 : decode cX7_findsTurning 54 = .ok (.invokevirtual 93, 3) := by decide +kernel
theorem dX7_findsTurning_57 : decode cX7_findsTurning 57 = .ok (.ifCond .le 28, 3) := by decide +kernel
theorem dX7_findsTurning_60 : decode cX7_findsTurning 60 = .ok (.iload 4, 2) := by decide +kernel
theorem dX7_findsTurning_62 : decode cX7_findsTurning 62 = .ok (.iconst (-1), 1) := by decide +kernel
theorem dX7_findsTurning_63 : decode cX7_findsTurning 63 = .ok (.if_icmp .eq 18, 3) := by decide +kernel
theorem dX7_findsTurning_66 : decode cX7_findsTurning 66 = .ok (.aload_n 0, 1) := by decide +kernel
theorem dX7_findsTurning_67 : decode cX7_findsTurning 67 = .ok (.iload 5, 2) := by decide +kernel
theorem dX7_findsTurning_69 : decode cX7_findsTurning 69 = .ok (.invokevirtual 93, 3) := by decide +kernel
theorem dX7_findsTurning_72 : decode cX7_findsTurning 72 = .ok (.aload_n 0, 1) := by decide +kernel
theorem dX7_findsTurning_73 : decode cX7_findsTurning 73 = .ok (.iload 4, 2) := by decide +kernel
theorem dX7_findsTurning_75 : decode cX7_findsTurning 75 = .ok (.invokevirtual 93, 3) := by decide +kernel
theorem dX7_findsTurning_78 : decode cX7_findsTurning 78 = .ok (.if_icmp .le 7, 3) := by decide +kernel
theorem dX7_findsTurning_81 : decode cX7_findsTurning 81 = .ok (.iload 5, 2) := by decide +kernel
theorem dX7_findsTurning_83 : decode cX7_findsTurning 83 = .ok (.istore 4, 2) := by decide +kernel
theorem dX7_findsTurning_85 : decode cX7_findsTurning 85 = .ok (.iinc 5 1, 3) := by decide +kernel
theorem dX7_findsTurning_88 : decode cX7_findsTurning 88 = .ok (.goto (-55), 3) := by decide +kernel
theorem dX7_findsTurning_91 : decode cX7_findsTurning 91 = .ok (.iload 4, 2) := by decide +kernel
theorem dX7_findsTurning_93 : decode cX7_findsTurning 93 = .ok (.iconst (-1), 1) := by decide +kernel
theorem dX7_findsTurning_94 : decode cX7_findsTurning 94 = .ok (.if_icmp .ne 4, 3) := by decide +kernel
theorem dX7_findsTurning_97 : decode cX7_findsTurning 97 = .ok (.return_, 1) := by decide +kernel
theorem dX7_findsTurning_98 : decode cX7_findsTurning 98 = .ok (.lload_n 1, 1) := by decide +kernel
theorem dX7_findsTurning_99 : decode cX7_findsTurning 99 = .ok (.lconst 1, 1) := by decide +kernel
theorem dX7_findsTurning_100 : decode cX7_findsTurning 100 = .ok (.iload 4, 2) := by decide +kernel
theorem dX7_findsTurning_102 : decode cX7_findsTurning 102 = .ok (.lshl, 1) := by decide +kernel
theorem dX7_findsTurning_103 : decode cX7_findsTurning 103 = .ok (.lor, 1) := by decide +kernel
theorem dX7_findsTurning_104 : decode cX7_findsTurning 104 = .ok (.lstore_n 1, 1) := by decide +kernel
theorem dX7_findsTurning_105 : decode cX7_findsTurning 105 = .ok (.aload_n 0, 1) := by decide +kernel
theorem dX7_findsTurning_106 : decode cX7_findsTurning 106 = .ok (.getfield 90, 3) := by decide +kernel
theorem dX7_findsTurning_109 : decode cX7_findsTurning 109 = .ok (.aload_n 0, 1) := by decide +kernel
theorem dX7_findsTurning_110 : decode cX7_findsTurning 110 = .ok (.iload 4, 2) := by decide +kernel
theorem dX7_findsTurning_112 : decode cX7_findsTurning 112 = .ok (.invokevirtual 96, 3) := by decide +kernel
theorem dX7_findsTurning_115 : decode cX7_findsTurning 115 = .ok (.iadd, 1) := by decide +kernel
theorem dX7_findsTurning_116 : decode cX7_findsTurning 116 = .ok (.i2l, 1) := by decide +kernel
theorem dX7_findsTurning_117 : decode cX7_findsTurning 117 = .ok (.aload_n 0, 1) := by decide +kernel
theorem dX7_findsTurning_118 : decode cX7_findsTurning 118 = .ok (.getfield 7, 3) := by decide +kernel
theorem dX7_findsTurning_121 : decode cX7_findsTurning 121 = .ok (.iconst 2, 1) := by decide +kernel
theorem dX7_findsTurning_122 : decode cX7_findsTurning 122 = .ok (.laload, 1) := by decide +kernel
theorem dX7_findsTurning_123 : decode cX7_findsTurning 123 = .ok (.lcmp, 1) := by decide +kernel
theorem dX7_findsTurning_124 : decode cX7_findsTurning 124 = .ok (.ifCond .le 6, 3) := by decide +kernel
theorem dX7_findsTurning_127 : decode cX7_findsTurning 127 = .ok (.goto 41, 3) := by decide +kernel
theorem dX7_findsTurning_130 : decode cX7_findsTurning 130 = .ok (.aload_n 0, 1) := by decide +kernel
theorem dX7_findsTurning_131 : decode cX7_findsTurning 131 = .ok (.dup, 1) := by decide +kernel
theorem dX7_findsTurning_132 : decode cX7_findsTurning 132 = .ok (.getfield 82, 3) := by decide +kernel
theorem dX7_findsTurning_135 : decode cX7_findsTurning 135 = .ok (.lconst 1, 1) := by decide +kernel
theorem dX7_findsTurning_136 : decode cX7_findsTurning 136 = .ok (.iload 4, 2) := by decide +kernel
theorem dX7_findsTurning_138 : decode cX7_findsTurning 138 = .ok (.lshl, 1) := by decide +kernel
theorem dX7_findsTurning_139 : decode cX7_findsTurning 139 = .ok (.lor, 1) := by decide +kernel
theorem dX7_findsTurning_140 : decode cX7_findsTurning 140 = .ok (.putfield 82, 3) := by decide +kernel
theorem dX7_findsTurning_143 : decode cX7_findsTurning 143 = .ok (.aload_n 0, 1) := by decide +kernel
theorem dX7_findsTurning_144 : decode cX7_findsTurning 144 = .ok (.dup, 1) := by decide +kernel
theorem dX7_findsTurning_145 : decode cX7_findsTurning 145 = .ok (.getfield 86, 3) := by decide +kernel
theorem dX7_findsTurning_148 : decode cX7_findsTurning 148 = .ok (.iconst 1, 1) := by decide +kernel
theorem dX7_findsTurning_149 : decode cX7_findsTurning 149 = .ok (.iadd, 1) := by decide +kernel
theorem dX7_findsTurning_150 : decode cX7_findsTurning 150 = .ok (.putfield 86, 3) := by decide +kernel
theorem dX7_findsTurning_153 : decode cX7_findsTurning 153 = .ok (.aload_n 0, 1) := by decide +kernel
theorem dX7_findsTurning_154 : decode cX7_findsTurning 154 = .ok (.dup, 1) := by decide +kernel
theorem dX7_findsTurning_155 : decode cX7_findsTurning 155 = .ok (.getfield 90, 3) := by decide +kernel
theorem dX7_findsTurning_158 : decode cX7_findsTurning 158 = .ok (.aload_n 0, 1) := by decide +kernel
theorem dX7_findsTurning_159 : decode cX7_findsTurning 159 = .ok (.iload 4, 2) := by decide +kernel
theorem dX7_findsTurning_161 : decode cX7_findsTurning 161 = .ok (.invokevirtual 96, 3) := by decide +kernel
theorem dX7_findsTurning_164 : decode cX7_findsTurning 164 = .ok (.iadd, 1) := by decide +kernel
theorem dX7_findsTurning_165 : decode cX7_findsTurning 165 = .ok (.putfield 90, 3) := by decide +kernel
theorem dX7_findsTurning_168 : decode cX7_findsTurning 168 = .ok (.iinc 3 1, 3) := by decide +kernel
theorem dX7_findsTurning_171 : decode cX7_findsTurning 171 = .ok (.goto (-152), 3) := by decide +kernel
theorem dX7_findsTurning_174 : decode cX7_findsTurning 174 = .ok (.return_, 1) := by decide +kernel
theorem dX7_ticks_0 : decode cX7_ticks 0 = .ok (.aload_n 0, 1) := by decide +kernel
theorem dX7_ticks_1 : decode cX7_ticks 1 = .ok (.invokevirtual 99, 3) := by decide +kernel
theorem dX7_ticks_4 : decode cX7_ticks 4 = .ok (.iconst 0, 1) := by decide +kernel
theorem dX7_ticks_5 : decode cX7_ticks 5 = .ok (.istore_n 1, 1) := by decide +kernel
theorem dX7_ticks_6 : decode cX7_ticks 6 = .ok (.iload_n 1, 1) := by decide +kernel
theorem dX7_ticks_7 : decode cX7_ticks 7 = .ok (.aload_n 0, 1) := by decide +kernel
theorem dX7_ticks_8 : decode cX7_ticks 8 = .ok (.invokevirtual 53, 3) := by decide +kernel
theorem dX7_ticks_11 : decode cX7_ticks 11 = .ok (.if_icmp .ge 25, 3) := by decide +kernel
theorem dX7_ticks_14 : decode cX7_ticks 14 = .ok (.aload_n 0, 1) := by decide +kernel
theorem dX7_ticks_15 : decode cX7_ticks 15 = .ok (.getfield 82, 3) := by decide +kernel
theorem dX7_ticks_18 : decode cX7_ticks 18 = .ok (.iload_n 1, 1) := by decide +kernel
theorem dX7_ticks_19 : decode cX7_ticks 19 = .ok (.invokestatic 74, 3) := by decide +kernel
theorem dX7_ticks_22 : decode cX7_ticks 22 = .ok (.ifCond .eq 8, 3) := by decide +kernel
theorem dX7_ticks_25 : decode cX7_ticks 25 = .ok (.aload_n 0, 1) := by decide +kernel
theorem dX7_ticks_26 : decode cX7_ticks 26 = .ok (.iload_n 1, 1) := by decide +kernel
theorem dX7_ticks_27 : decode cX7_ticks 27 = .ok (.invokevirtual 102, 3) := by decide +kernel
theorem dX7_ticks_30 : decode cX7_ticks 30 = .ok (.iinc 1 1, 3) := by decide +kernel
theorem dX7_ticks_33 : decode cX7_ticks 33 = .ok (.goto (-27), 3) := by decide +kernel
theorem dX7_ticks_36 : decode cX7_ticks 36 = .ok (.aload_n 0, 1) := by decide +kernel
theorem dX7_ticks_37 : decode cX7_ticks 37 = .ok (.getfield 86, 3) := by decide +kernel
theorem dX7_ticks_40 : decode cX7_ticks 40 = .ok (.ifCond .ne 5, 3) := by decide +kernel
theorem dX7_ticks_43 : decode cX7_ticks 43 = .ok (.iconst 0, 1) := by decide +kernel
theorem dX7_ticks_44 : decode cX7_ticks 44 = .ok (.ireturn, 1) := by decide +kernel
theorem dX7_ticks_45 : decode cX7_ticks 45 = .ok (.aload_n 0, 1) := by decide +kernel
theorem dX7_ticks_46 : decode cX7_ticks 46 = .ok (.getfield 7, 3) := by decide +kernel
theorem dX7_ticks_49 : decode cX7_ticks 49 = .ok (.iconst 4, 1) := by decide +kernel
theorem dX7_ticks_50 : decode cX7_ticks 50 = .ok (.aload_n 0, 1) := by decide +kernel
theorem dX7_ticks_51 : decode cX7_ticks 51 = .ok (.getfield 7, 3) := by decide +kernel
theorem dX7_ticks_54 : decode cX7_ticks 54 = .ok (.iconst 4, 1) := by decide +kernel
theorem dX7_ticks_55 : decode cX7_ticks 55 = .ok (.laload, 1) := by decide +kernel
theorem dX7_ticks_56 : decode cX7_ticks 56 = .ok (.aload_n 0, 1) := by decide +kernel
theorem dX7_ticks_57 : decode cX7_ticks 57 = .ok (.getfield 86, 3) := by decide +kernel
theorem dX7_ticks_60 : decode cX7_ticks 60 = .ok (.aload_n 0, 1) := by decide +kernel
theorem dX7_ticks_61 : decode cX7_ticks 61 = .ok (.getfield 86, 3) := by decide +kernel
theorem dX7_ticks_64 : decode cX7_ticks 64 = .ok (.imul, 1) := by decide +kernel
theorem dX7_ticks_65 : decode cX7_ticks 65 = .ok (.i2l, 1) := by decide +kernel
theorem dX7_ticks_66 : decode cX7_ticks 66 = .ok (.ladd, 1) := by decide +kernel
theorem dX7_ticks_67 : decode cX7_ticks 67 = .ok (.l2i, 1) := by decide +kernel
theorem dX7_ticks_68 : decode cX7_ticks 68 = .ok (.i2l, 1) := by decide +kernel
theorem dX7_ticks_69 : decode cX7_ticks 69 = .ok (.lastore, 1) := by decide +kernel
theorem dX7_ticks_70 : decode cX7_ticks 70 = .ok (.aload_n 0, 1) := by decide +kernel
theorem dX7_ticks_71 : decode cX7_ticks 71 = .ok (.getfield 7, 3) := by decide +kernel
theorem dX7_ticks_74 : decode cX7_ticks 74 = .ok (.iconst 5, 1) := by decide +kernel
theorem dX7_ticks_75 : decode cX7_ticks 75 = .ok (.dup2, 1) := by decide +kernel
theorem dX7_ticks_76 : decode cX7_ticks 76 = .ok (.laload, 1) := by decide +kernel
theorem dX7_ticks_77 : decode cX7_ticks 77 = .ok (.lconst 1, 1) := by decide +kernel
theorem dX7_ticks_78 : decode cX7_ticks 78 = .ok (.ladd, 1) := by decide +kernel
theorem dX7_ticks_79 : decode cX7_ticks 79 = .ok (.lastore, 1) := by decide +kernel
theorem dX7_ticks_80 : decode cX7_ticks 80 = .ok (.aload_n 0, 1) := by decide +kernel
theorem dX7_ticks_81 : decode cX7_ticks 81 = .ok (.getfield 86, 3) := by decide +kernel
theorem dX7_ticks_84 : decode cX7_ticks 84 = .ok (.ireturn, 1) := by decide +kernel
theorem dX7_flapFor_0 : decode cX7_flapFor 0 = .ok (.iconst (-1), 1) := by decide +kernel
theorem dX7_flapFor_1 : decode cX7_flapFor 1 = .ok (.istore_n 3, 1) := by decide +kernel
theorem dX7_flapFor_2 : decode cX7_flapFor 2 = .ok (.iconst 0, 1) := by decide +kernel
theorem dX7_flapFor_3 : decode cX7_flapFor 3 = .ok (.istore 4, 2) := by decide +kernel
theorem dX7_flapFor_5 : decode cX7_flapFor 5 = .ok (.iload 4, 2) := by decide +kernel
theorem dX7_flapFor_7 : decode cX7_flapFor 7 = .ok (.aload_n 0, 1) := by decide +kernel
theorem dX7_flapFor_8 : decode cX7_flapFor 8 = .ok (.iload_n 1, 1) := by decide +kernel
theorem dX7_flapFor_9 : decode cX7_flapFor 9 = .ok (.invokevirtual 67, 3) := by decide +kernel
theorem dX7_flapFor_12 : decode cX7_flapFor 12 = .ok (.if_icmp .ge 83, 3) := by decide +kernel
theorem dX7_flapFor_15 : decode cX7_flapFor 15 = .ok (.aload_n 0, 1) := by decide +kernel
theorem dX7_flapFor_16 : decode cX7_flapFor 16 = .ok (.aload_n 0, 1) := by decide +kernel
theorem dX7_flapFor_17 : decode cX7_flapFor 17 = .ok (.iload_n 1, 1) := by decide +kernel
theorem dX7_flapFor_18 : decode cX7_flapFor 18 = .ok (.iconst 0, 1) := by decide +kernel
theorem dX7_flapFor_19 : decode cX7_flapFor 19 = .ok (.invokevirtual 56, 3) := by decide +kernel
theorem dX7_flapFor_22 : decode cX7_flapFor 22 = .ok (.iload 4, 2) := by decide +kernel
theorem dX7_flapFor_24 : decode cX7_flapFor 24 = .ok (.invokevirtual 106, 3) := by decide +kernel
theorem dX7_flapFor_27 : decode cX7_flapFor 27 = .ok (.iload_n 2, 1) := by decide +kernel
theorem dX7_flapFor_28 : decode cX7_flapFor 28 = .ok (.if_icmp .ne 61, 3) := by decide +kernel
theorem dX7_flapFor_31 : decode cX7_flapFor 31 = .ok (.aload_n 0, 1) := by decide +kernel
theorem dX7_flapFor_32 : decode cX7_flapFor 32 = .ok (.iload_n 1, 1) := by decide +kernel
theorem dX7_flapFor_33 : decode cX7_flapFor 33 = .ok (.invokevirtual 109, 3) := by decide +kernel
theorem dX7_flapFor_36 : decode cX7_flapFor 36 = .ok (.iload 4, 2) := by decide +kernel
theorem dX7_flapFor_38 : decode cX7_flapFor 38 = .ok (.invokestatic 74, 3) := by decide +kernel
theorem dX7_flapFor_41 : decode cX7_flapFor 41 = .ok (.ifCond .eq 6, 3) := by decide +kernel
theorem dX7_flapFor_44 : decode cX7_flapFor 44 = .ok (.goto 45, 3) := by decide +kernel
theorem dX7_flapFor_47 : decode cX7_flapFor 47 = .ok (.iload_n 3, 1) := by decide +kernel
theorem dX7_flapFor_48 : decode cX7_flapFor 48 = .ok (.iconst (-1), 1) := by decide +kernel
theorem dX7_flapFor_49 : decode cX7_flapFor 49 = .ok (.if_icmp .eq 37, 3) := by decide +kernel
theorem dX7_flapFor_52 : decode cX7_flapFor 52 = .ok (.aload_n 0, 1) := by decide +kernel
theorem dX7_flapFor_53 : decode cX7_flapFor 53 = .ok (.iload_n 1, 1) := by decide +kernel
theorem dX7_flapFor_54 : decode cX7_flapFor 54 = .ok (.iconst 2, 1) := by decide +kernel
theorem dX7_flapFor_55 : decode cX7_flapFor 55 = .ok (.invokevirtual 56, 3) := by decide +kernel
theorem dX7_flapFor_58 : decode cX7_flapFor 58 = .ok (.iload 4, 2) := by decide +kernel
theorem dX7_flapFor_60 : decode cX7_flapFor 60 = .ok (.aload_n 0, 1) := by decide +kernel
theorem dX7_flapFor_61 : decode cX7_flapFor 61 = .ok (.iload_n 1, 1) := by decide +kernel
theorem dX7_flapFor_62 : decode cX7_flapFor 62 = .ok (.invokevirtual 67, 3) := by decide +kernel
theorem dX7_flapFor_65 : decode cX7_flapFor 65 = .ok (.invokestatic 70, 3) := by decide +kernel
theorem dX7_flapFor_68 : decode cX7_flapFor 68 = .ok (.aload_n 0, 1) := by decide +kernel
theorem dX7_flapFor_69 : decode cX7_flapFor 69 = .ok (.iload_n 1, 1) := by decide +kernel
theorem dX7_flapFor_70 : decode cX7_flapFor 70 = .ok (.iconst 2, 1) := by decide +kernel
theorem dX7_flapFor_71 : decode cX7_flapFor 71 = .ok (.invokevirtual 56, 3) := by decide +kernel
theorem dX7_flapFor_74 : decode cX7_flapFor 74 = .ok (.iload_n 3, 1) := by decide +kernel
theorem dX7_flapFor_75 : decode cX7_flapFor 75 = .ok (.aload_n 0, 1) := by decide +kernel
theorem dX7_flapFor_76 : decode cX7_flapFor 76 = .ok (.iload_n 1, 1) := by decide +kernel
theorem dX7_flapFor_77 : decode cX7_flapFor 77 = .ok (.invokevirtual 67, 3) := by decide +kernel
theorem dX7_flapFor_80 : decode cX7_flapFor 80 = .ok (.invokestatic 70, 3) := by decide +kernel
theorem dX7_flapFor_83 : decode cX7_flapFor 83 = .ok (.if_icmp .ge 6, 3) := by decide +kernel
theorem dX7_flapFor_86 : decode cX7_flapFor 86 = .ok (.iload 4, 2) := by decide +kernel
theorem dX7_flapFor_88 : decode cX7_flapFor 88 = .ok (.istore_n 3, 1) := by decide +kernel
theorem dX7_flapFor_89 : decode cX7_flapFor 89 = .ok (.iinc 4 1, 3) := by decide +kernel
theorem dX7_flapFor_92 : decode cX7_flapFor 92 = .ok (.goto (-87), 3) := by decide +kernel
theorem dX7_flapFor_95 : decode cX7_flapFor 95 = .ok (.iload_n 3, 1) := by decide +kernel
theorem dX7_flapFor_96 : decode cX7_flapFor 96 = .ok (.ireturn, 1) := by decide +kernel
theorem dX7_wantsFlap_0 : decode cX7_wantsFlap 0 = .ok (.aload_n 0, 1) := by decide +kernel
theorem dX7_wantsFlap_1 : decode cX7_wantsFlap 1 = .ok (.iload_n 1, 1) := by decide +kernel
theorem dX7_wantsFlap_2 : decode cX7_wantsFlap 2 = .ok (.iconst 3, 1) := by decide +kernel
theorem dX7_wantsFlap_3 : decode cX7_wantsFlap 3 = .ok (.iload_n 2, 1) := by decide +kernel
theorem dX7_wantsFlap_4 : decode cX7_wantsFlap 4 = .ok (.i2l, 1) := by decide +kernel
theorem dX7_wantsFlap_5 : decode cX7_wantsFlap 5 = .ok (.invokevirtual 78, 3) := by decide +kernel
theorem dX7_wantsFlap_8 : decode cX7_wantsFlap 8 = .ok (.iload_n 3, 1) := by decide +kernel
theorem dX7_wantsFlap_9 : decode cX7_wantsFlap 9 = .ok (.ifCond .eq 47, 3) := by decide +kernel
theorem dX7_wantsFlap_12 : decode cX7_wantsFlap 12 = .ok (.iload_n 2, 1) := by decide +kernel
theorem dX7_wantsFlap_13 : decode cX7_wantsFlap 13 = .ok (.aload_n 0, 1) := by decide +kernel
theorem dX7_wantsFlap_14 : decode cX7_wantsFlap 14 = .ok (.iload_n 1, 1) := by decide +kernel
theorem dX7_wantsFlap_15 : decode cX7_wantsFlap 15 = .ok (.iconst 2, 1) := by decide +kernel
theorem dX7_wantsFlap_16 : decode cX7_wantsFlap 16 = .ok (.invokevirtual 56, 3) := by decide +kernel
theorem dX7_wantsFlap_19 : decode cX7_wantsFlap 19 = .ok (.if_icmp .eq 37, 3) := by decide +kernel
theorem dX7_wantsFlap_22 : decode cX7_wantsFlap 22 = .ok (.aload_n 0, 1) := by decide +kernel
theorem dX7_wantsFlap_23 : decode cX7_wantsFlap 23 = .ok (.getfield 7, 3) := by decide +kernel
theorem dX7_wantsFlap_26 : decode cX7_wantsFlap 26 = .ok (.sipush 496, 3) := by decide +kernel
theorem dX7_wantsFlap_29 : decode cX7_wantsFlap 29 = .ok (.bipush 40, 2) := by decide +kernel
theorem dX7_wantsFlap_31 : decode cX7_wantsFlap 31 = .ok (.bipush 40, 2) := by decide +kernel
theorem dX7_wantsFlap_33 : decode cX7_wantsFlap 33 = .ok (.aload_n 0, 1) := by decide +kernel
theorem dX7_wantsFlap_34 : decode cX7_wantsFlap 34 = .ok (.iload_n 1, 1) := by decide +kernel
theorem dX7_wantsFlap_35 : decode cX7_wantsFlap 35 = .ok (.iconst 0, 1) := by decide +kernel
theorem dX7_wantsFlap_36 : decode cX7_wantsFlap 36 = .ok (.invokevirtual 56, 3) := by decide +kernel
theorem dX7_wantsFlap_39 : decode cX7_wantsFlap 39 = .ok (.imul, 1) := by decide +kernel
theorem dX7_wantsFlap_40 : decode cX7_wantsFlap 40 = .ok (.aload_n 0, 1) := by decide +kernel
theorem dX7_wantsFlap_41 : decode cX7_wantsFlap 41 = .ok (.iload_n 1, 1) := by decide +kernel
theorem dX7_wantsFlap_42 : decode cX7_wantsFlap 42 = .ok (.iconst 2, 1) := by decide +kernel
theorem dX7_wantsFlap_43 : decode cX7_wantsFlap 43 = .ok (.invokevirtual 56, 3) := by decide +kernel
theorem dX7_wantsFlap_46 : decode cX7_wantsFlap 46 = .ok (.iadd, 1) := by decide +kernel
theorem dX7_wantsFlap_47 : decode cX7_wantsFlap 47 = .ok (.imul, 1) := by decide +kernel
theorem dX7_wantsFlap_48 : decode cX7_wantsFlap 48 = .ok (.iadd, 1) := by decide +kernel
theorem dX7_wantsFlap_49 : decode cX7_wantsFlap 49 = .ok (.iload_n 2, 1) := by decide +kernel
theorem dX7_wantsFlap_50 : decode cX7_wantsFlap 50 = .ok (.iadd, 1) := by decide +kernel
theorem dX7_wantsFlap_51 : decode cX7_wantsFlap 51 = .ok (.dup2, 1) := by decide +kernel
theorem dX7_wantsFlap_52 : decode cX7_wantsFlap 52 = .ok (.laload, 1) := by decide +kernel
theorem dX7_wantsFlap_53 : decode cX7_wantsFlap 53 = .ok (.lconst 1, 1) := by decide +kernel
theorem dX7_wantsFlap_54 : decode cX7_wantsFlap 54 = .ok (.ladd, 1) := by decide +kernel
theorem dX7_wantsFlap_55 : decode cX7_wantsFlap 55 = .ok (.lastore, 1) := by decide +kernel
theorem dX7_wantsFlap_56 : decode cX7_wantsFlap 56 = .ok (.return_, 1) := by decide +kernel
theorem dX7_wantsSigns_0 : decode cX7_wantsSigns 0 = .ok (.iconst 0, 1) := by decide +kernel
theorem dX7_wantsSigns_1 : decode cX7_wantsSigns 1 = .ok (.istore 5, 2) := by decide +kernel
theorem dX7_wantsSigns_3 : decode cX7_wantsSigns 3 = .ok (.iconst 0, 1) := by decide +kernel
theorem dX7_wantsSigns_4 : decode cX7_wantsSigns 4 = .ok (.istore 6, 2) := by decide +kernel
theorem dX7_wantsSigns_6 : decode cX7_wantsSigns 6 = .ok (.iload 6, 2) := by decide +kernel
theorem dX7_wantsSigns_8 : decode cX7_wantsSigns 8 = .ok (.aload_n 0, 1) := by decide +kernel
theorem dX7_wantsSigns_9 : decode cX7_wantsSigns 9 = .ok (.invokevirtual 47, 3) := by decide +kernel
theorem dX7_wantsSigns_12 : decode cX7_wantsSigns 12 = .ok (.if_icmp .ge 69, 3) := by decide +kernel
theorem dX7_wantsSigns_15 : decode cX7_wantsSigns 15 = .ok (.aload_n 0, 1) := by decide +kernel
theorem dX7_wantsSigns_16 : decode cX7_wantsSigns 16 = .ok (.invokevirtual 47, 3) := by decide +kernel
theorem dX7_wantsSigns_19 : decode cX7_wantsSigns 19 = .ok (.iload_n 1, 1) := by decide +kernel
theorem dX7_wantsSigns_20 : decode cX7_wantsSigns 20 = .ok (.imul, 1) := by decide +kernel
theorem dX7_wantsSigns_21 : decode cX7_wantsSigns 21 = .ok (.iload 6, 2) := by decide +kernel
theorem dX7_wantsSigns_23 : decode cX7_wantsSigns 23 = .ok (.iadd, 1) := by decide +kernel
theorem dX7_wantsSigns_24 : decode cX7_wantsSigns 24 = .ok (.istore 7, 2) := by decide +kernel
theorem dX7_wantsSigns_26 : decode cX7_wantsSigns 26 = .ok (.iload 6, 2) := by decide +kernel
theorem dX7_wantsSigns_28 : decode cX7_wantsSigns 28 = .ok (.iload_n 3, 1) := by decide +kernel
theorem dX7_wantsSigns_29 : decode cX7_wantsSigns 29 = .ok (.if_icmp .ge 21, 3) := by decide +kernel
theorem dX7_wantsSigns_32 : decode cX7_wantsSigns 32 = .ok (.aload_n 0, 1) := by decide +kernel
theorem dX7_wantsSigns_33 : decode cX7_wantsSigns 33 = .ok (.iload 7, 2) := by decide +kernel
theorem dX7_wantsSigns_35 : decode cX7_wantsSigns 35 = .ok (.aload_n 0, 1) := by decide +kernel
theorem dX7_wantsSigns_36 : decode cX7_wantsSigns 36 = .ok (.getfield 31, 3) := by decide +kernel
theorem dX7_wantsSigns_39 : decode cX7_wantsSigns 39 = .ok (.iload_n 2, 1) := by decide +kernel
theorem dX7_wantsSigns_40 : decode cX7_wantsSigns 40 = .ok (.iload 6, 2) := by decide +kernel
theorem dX7_wantsSigns_42 : decode cX7_wantsSigns 42 = .ok (.iadd, 1) := by decide +kernel
theorem dX7_wantsSigns_43 : decode cX7_wantsSigns 43 = .ok (.baload, 1) := by decide +kernel
theorem dX7_wantsSigns_44 : decode cX7_wantsSigns 44 = .ok (.invokevirtual 113, 3) := by decide +kernel
theorem dX7_wantsSigns_47 : decode cX7_wantsSigns 47 = .ok (.goto 4, 3) := by decide +kernel
theorem dX7_wantsSigns_50 : decode cX7_wantsSigns 50 = .ok (.iconst 0, 1) := by decide +kernel
theorem dX7_wantsSigns_51 : decode cX7_wantsSigns 51 = .ok (.istore 8, 2) := by decide +kernel
theorem dX7_wantsSigns_53 : decode cX7_wantsSigns 53 = .ok (.iload 8, 2) := by decide +kernel
theorem dX7_wantsSigns_55 : decode cX7_wantsSigns 55 = .ok (.iconst (-1), 1) := by decide +kernel
theorem dX7_wantsSigns_56 : decode cX7_wantsSigns 56 = .ok (.if_icmp .ne 9, 3) := by decide +kernel
theorem dX7_wantsSigns_59 : decode cX7_wantsSigns 59 = .ok (.iinc 5 1, 3) := by decide +kernel
theorem dX7_wantsSigns_62 : decode cX7_wantsSigns 62 = .ok (.goto 13, 3) := by decide +kernel
theorem dX7_wantsSigns_65 : decode cX7_wantsSigns 65 = .ok (.aload_n 0, 1) := by decide +kernel
theorem dX7_wantsSigns_66 : decode cX7_wantsSigns 66 = .ok (.iload 7, 2) := by decide +kernel
theorem dX7_wantsSigns_68 : decode cX7_wantsSigns 68 = .ok (.iload 8, 2) := by decide +kernel
theorem dX7_wantsSigns_70 : decode cX7_wantsSigns 70 = .ok (.iload 4, 2) := by decide +kernel
theorem dX7_wantsSigns_72 : decode cX7_wantsSigns 72 = .ok (.invokevirtual 116, 3) := by decide +kernel
theorem dX7_wantsSigns_75 : decode cX7_wantsSigns 75 = .ok (.iinc 6 1, 3) := by decide +kernel
theorem dX7_wantsSigns_78 : decode cX7_wantsSigns 78 = .ok (.goto (-72), 3) := by decide +kernel
theorem dX7_wantsSigns_81 : decode cX7_wantsSigns 81 = .ok (.iload 5, 2) := by decide +kernel
theorem dX7_wantsSigns_83 : decode cX7_wantsSigns 83 = .ok (.ireturn, 1) := by decide +kernel
theorem dX7_scrolls_0 : decode cX7_scrolls 0 = .ok (.iconst 0, 1) := by decide +kernel
theorem dX7_scrolls_1 : decode cX7_scrolls 1 = .ok (.istore_n 3, 1) := by decide +kernel
theorem dX7_scrolls_2 : decode cX7_scrolls 2 = .ok (.iconst 0, 1) := by decide +kernel
theorem dX7_scrolls_3 : decode cX7_scrolls 3 = .ok (.istore 4, 2) := by decide +kernel
theorem dX7_scrolls_5 : decode cX7_scrolls 5 = .ok (.iload 4, 2) := by decide +kernel
theorem dX7_scrolls_7 : decode cX7_scrolls 7 = .ok (.aload_n 0, 1) := by decide +kernel
theorem dX7_scrolls_8 : decode cX7_scrolls 8 = .ok (.invokevirtual 53, 3) := by decide +kernel
theorem dX7_scrolls_11 : decode cX7_scrolls 11 = .ok (.if_icmp .ge 34, 3) := by decide +kernel
theorem dX7_scrolls_14 : decode cX7_scrolls 14 = .ok (.aload_n 0, 1) := by decide +kernel
theorem dX7_scrolls_15 : decode cX7_scrolls 15 = .ok (.getfield 27, 3) := by decide +kernel
theorem dX7_scrolls_18 : decode cX7_scrolls 18 = .ok (.iload 4, 2) := by decide +kernel
theorem dX7_scrolls_20 : decode cX7_scrolls 20 = .ok (.aload_n 0, 1) := by decide +kernel
theorem dX7_scrolls_21 : decode cX7_scrolls 21 = .ok (.aload_n 0, 1) := by decide +kernel
theorem dX7_scrolls_22 : decode cX7_scrolls 22 = .ok (.iload 4, 2) := by decide +kernel
theorem dX7_scrolls_24 : decode cX7_scrolls 24 = .ok (.iconst 0, 1) := by decide +kernel
theorem dX7_scrolls_25 : decode cX7_scrolls 25 = .ok (.invokevirtual 56, 3) := by decide +kernel
theorem dX7_scrolls_28 : decode cX7_scrolls 28 = .ok (.aload_n 0, 1) := by decide +kernel
theorem dX7_scrolls_29 : decode cX7_scrolls 29 = .ok (.iload 4, 2) := by decide +kernel
theorem dX7_scrolls_31 : decode cX7_scrolls 31 = .ok (.iconst 3, 1) := by decide +kernel
theorem dX7_scrolls_32 : decode cX7_scrolls 32 = .ok (.invokevirtual 56, 3) := by decide +kernel
theorem dX7_scrolls_35 : decode cX7_scrolls 35 = .ok (.invokevirtual 106, 3) := by decide +kernel
theorem dX7_scrolls_38 : decode cX7_scrolls 38 = .ok (.iastore, 1) := by decide +kernel
theorem dX7_scrolls_39 : decode cX7_scrolls 39 = .ok (.iinc 4 1, 3) := by decide +kernel
theorem dX7_scrolls_42 : decode cX7_scrolls 42 = .ok (.goto (-37), 3) := by decide +kernel
theorem dX7_scrolls_45 : decode cX7_scrolls 45 = .ok (.iconst 0, 1) := by decide +kernel
theorem dX7_scrolls_46 : decode cX7_scrolls 46 = .ok (.istore 4, 2) := by decide +kernel
theorem dX7_scrolls_48 : decode cX7_scrolls 48 = .ok (.iload 4, 2) := by decide +kernel
theorem dX7_scrolls_50 : decode cX7_scrolls 50 = .ok (.aload_n 0, 1) := by decide +kernel
theorem dX7_scrolls_51 : decode cX7_scrolls 51 = .ok (.invokevirtual 47, 3) := by decide +kernel
theorem dX7_scrolls_54 : decode cX7_scrolls 54 = .ok (.iadd, 1) := by decide +kernel
theorem dX7_scrolls_55 : decode cX7_scrolls 55 = .ok (.aload_n 0, 1) := by decide +kernel
theorem dX7_scrolls_56 : decode cX7_scrolls 56 = .ok (.invokevirtual 53, 3) := by decide +kernel
theorem dX7_scrolls_59 : decode cX7_scrolls 59 = .ok (.if_icmp .ge 50, 3) := by decide +kernel
theorem dX7_scrolls_62 : decode cX7_scrolls 62 = .ok (.aload_n 0, 1) := by decide +kernel
theorem dX7_scrolls_63 : decode cX7_scrolls 63 = .ok (.iload 4, 2) := by decide +kernel
theorem dX7_scrolls_65 : decode cX7_scrolls 65 = .ok (.aload_n 0, 1) := by decide +kernel
theorem dX7_scrolls_66 : decode cX7_scrolls 66 = .ok (.getfield 27, 3) := by decide +kernel
theorem dX7_scrolls_69 : decode cX7_scrolls 69 = .ok (.iload 4, 2) := by decide +kernel
theorem dX7_scrolls_71 : decode cX7_scrolls 71 = .ok (.aload_n 0, 1) := by decide +kernel
theorem dX7_scrolls_72 : decode cX7_scrolls 72 = .ok (.invokevirtual 47, 3) := by decide +kernel
theorem dX7_scrolls_75 : decode cX7_scrolls 75 = .ok (.iadd, 1) := by decide +kernel
theorem dX7_scrolls_76 : decode cX7_scrolls 76 = .ok (.iaload, 1) := by decide +kernel
theorem dX7_scrolls_77 : decode cX7_scrolls 77 = .ok (.invokevirtual 113, 3) := by decide +kernel
theorem dX7_scrolls_80 : decode cX7_scrolls 80 = .ok (.istore 5, 2) := by decide +kernel
theorem dX7_scrolls_82 : decode cX7_scrolls 82 = .ok (.iload 5, 2) := by decide +kernel
theorem dX7_scrolls_84 : decode cX7_scrolls 84 = .ok (.iconst (-1), 1) := by decide +kernel
theorem dX7_scrolls_85 : decode cX7_scrolls 85 = .ok (.if_icmp .ne 9, 3) := by decide +kernel
theorem dX7_scrolls_88 : decode cX7_scrolls 88 = .ok (.iinc 3 1, 3) := by decide +kernel
theorem dX7_scrolls_91 : decode cX7_scrolls 91 = .ok (.goto 12, 3) := by decide +kernel
theorem dX7_scrolls_94 : decode cX7_scrolls 94 = .ok (.aload_n 0, 1) := by decide +kernel
theorem dX7_scrolls_95 : decode cX7_scrolls 95 = .ok (.iload 4, 2) := by decide +kernel
theorem dX7_scrolls_97 : decode cX7_scrolls 97 = .ok (.iload 5, 2) := by decide +kernel
theorem dX7_scrolls_99 : decode cX7_scrolls 99 = .ok (.iconst 1, 1) := by decide +kernel
theorem dX7_scrolls_100 : decode cX7_scrolls 100 = .ok (.invokevirtual 116, 3) := by decide +kernel
theorem dX7_scrolls_103 : decode cX7_scrolls 103 = .ok (.iinc 4 1, 3) := by decide +kernel
theorem dX7_scrolls_106 : decode cX7_scrolls 106 = .ok (.goto (-58), 3) := by decide +kernel
theorem dX7_scrolls_109 : decode cX7_scrolls 109 = .ok (.iload_n 3, 1) := by decide +kernel
theorem dX7_scrolls_110 : decode cX7_scrolls 110 = .ok (.aload_n 0, 1) := by decide +kernel
theorem dX7_scrolls_111 : decode cX7_scrolls 111 = .ok (.aload_n 0, 1) := by decide +kernel
theorem dX7_scrolls_112 : decode cX7_scrolls 112 = .ok (.invokevirtual 43, 3) := by decide +kernel
theorem dX7_scrolls_115 : decode cX7_scrolls 115 = .ok (.iconst 1, 1) := by decide +kernel
theorem dX7_scrolls_116 : decode cX7_scrolls 116 = .ok (.isub, 1) := by decide +kernel
theorem dX7_scrolls_117 : decode cX7_scrolls 117 = .ok (.iload_n 1, 1) := by decide +kernel
theorem dX7_scrolls_118 : decode cX7_scrolls 118 = .ok (.iload_n 2, 1) := by decide +kernel
theorem dX7_scrolls_119 : decode cX7_scrolls 119 = .ok (.iconst 1, 1) := by decide +kernel
theorem dX7_scrolls_120 : decode cX7_scrolls 120 = .ok (.invokevirtual 120, 3) := by decide +kernel
theorem dX7_scrolls_123 : decode cX7_scrolls 123 = .ok (.iadd, 1) := by decide +kernel
theorem dX7_scrolls_124 : decode cX7_scrolls 124 = .ok (.ireturn, 1) := by decide +kernel
theorem dX7_keepsAct_0 : decode cX7_keepsAct 0 = .ok (.aload_n 0, 1) := by decide +kernel
theorem dX7_keepsAct_1 : decode cX7_keepsAct 1 = .ok (.getfield 124, 3) := by decide +kernel
theorem dX7_keepsAct_4 : decode cX7_keepsAct 4 = .ok (.bipush 10, 2) := by decide +kernel
theorem dX7_keepsAct_6 : decode cX7_keepsAct 6 = .ok (.if_icmp .ne 45, 3) := by decide +kernel
theorem dX7_keepsAct_9 : decode cX7_keepsAct 9 = .ok (.sipush 6896, 3) := by decide +kernel
theorem dX7_keepsAct_12 : decode cX7_keepsAct 12 = .ok (.istore_n 1, 1) := by decide +kernel
theorem dX7_keepsAct_13 : decode cX7_keepsAct 13 = .ok (.iload_n 1, 1) := by decide +kernel
theorem dX7_keepsAct_14 : decode cX7_keepsAct 14 = .ok (.ldc 13, 2) := by decide +kernel
theorem dX7_keepsAct_16 : decode cX7_keepsAct 16 = .ok (.if_icmp .ge 25, 3) := by decide +kernel
theorem dX7_keepsAct_19 : decode cX7_keepsAct 19 = .ok (.aload_n 0, 1) := by decide +kernel
theorem dX7_keepsAct_20 : decode cX7_keepsAct 20 = .ok (.getfield 14, 3) := by decide +kernel
theorem dX7_keepsAct_23 : decode cX7_keepsAct 23 = .ok (.iload_n 1, 1) := by decide +kernel
theorem dX7_keepsAct_24 : decode cX7_keepsAct 24 = .ok (.sipush 6896, 3) := by decide +kernel
theorem dX7_keepsAct_27 : decode cX7_keepsAct 27 = .ok (.isub, 1) := by decide +kernel
theorem dX7_keepsAct_28 : decode cX7_keepsAct 28 = .ok (.aload_n 0, 1) := by decide +kernel
theorem dX7_keepsAct_29 : decode cX7_keepsAct 29 = .ok (.getfield 14, 3) := by decide +kernel
theorem dX7_keepsAct_32 : decode cX7_keepsAct 32 = .ok (.iload_n 1, 1) := by decide +kernel
theorem dX7_keepsAct_33 : decode cX7_keepsAct 33 = .ok (.laload, 1) := by decide +kernel
theorem dX7_keepsAct_34 : decode cX7_keepsAct 34 = .ok (.lastore, 1) := by decide +kernel
theorem dX7_keepsAct_35 : decode cX7_keepsAct 35 = .ok (.iinc 1 1, 3) := by decide +kernel
theorem dX7_keepsAct_38 : decode cX7_keepsAct 38 = .ok (.goto (-25), 3) := by decide +kernel
theorem dX7_keepsAct_41 : decode cX7_keepsAct 41 = .ok (.aload_n 0, 1) := by decide +kernel
theorem dX7_keepsAct_42 : decode cX7_keepsAct 42 = .ok (.dup, 1) := by decide +kernel
theorem dX7_keepsAct_43 : decode cX7_keepsAct 43 = .ok (.getfield 124, 3) := by decide +kernel
theorem dX7_keepsAct_46 : decode cX7_keepsAct 46 = .ok (.iconst 1, 1) := by decide +kernel
theorem dX7_keepsAct_47 : decode cX7_keepsAct 47 = .ok (.isub, 1) := by decide +kernel
theorem dX7_keepsAct_48 : decode cX7_keepsAct 48 = .ok (.putfield 124, 3) := by decide +kernel
theorem dX7_keepsAct_51 : decode cX7_keepsAct 51 = .ok (.iconst 0, 1) := by decide +kernel
theorem dX7_keepsAct_52 : decode cX7_keepsAct 52 = .ok (.istore_n 1, 1) := by decide +kernel
theorem dX7_keepsAct_53 : decode cX7_keepsAct 53 = .ok (.iload_n 1, 1) := by decide +kernel
theorem dX7_keepsAct_54 : decode cX7_keepsAct 54 = .ok (.sipush 6896, 3) := by decide +kernel
theorem dX7_keepsAct_57 : decode cX7_keepsAct 57 = .ok (.if_icmp .ge 30, 3) := by decide +kernel
theorem dX7_keepsAct_60 : decode cX7_keepsAct 60 = .ok (.aload_n 0, 1) := by decide +kernel
theorem dX7_keepsAct_61 : decode cX7_keepsAct 61 = .ok (.getfield 14, 3) := by decide +kernel
theorem dX7_keepsAct_64 : decode cX7_keepsAct 64 = .ok (.sipush 6896, 3) := by decide +kernel
theorem dX7_keepsAct_67 : decode cX7_keepsAct 67 = .ok (.aload_n 0, 1) := by decide +kernel
theorem dX7_keepsAct_68 : decode cX7_keepsAct 68 = .ok (.getfield 124, 3) := by decide +kernel
theorem dX7_keepsAct_71 : decode cX7_keepsAct 71 = .ok (.imul, 1) := by decide +kernel
theorem dX7_keepsAct_72 : decode cX7_keepsAct 72 = .ok (.iload_n 1, 1) := by decide +kernel
theorem dX7_keepsAct_73 : decode cX7_keepsAct 73 = .ok (.iadd, 1) := by decide +kernel
theorem dX7_keepsAct_74 : decode cX7_keepsAct 74 = .ok (.aload_n 0, 1) := by decide +kernel
theorem dX7_keepsAct_75 : decode cX7_keepsAct 75 = .ok (.getfield 7, 3) := by decide +kernel
theorem dX7_keepsAct_78 : decode cX7_keepsAct 78 = .ok (.iload_n 1, 1) := by decide +kernel
theorem dX7_keepsAct_79 : decode cX7_keepsAct 79 = .ok (.laload, 1) := by decide +kernel
theorem dX7_keepsAct_80 : decode cX7_keepsAct 80 = .ok (.lastore, 1) := by decide +kernel
theorem dX7_keepsAct_81 : decode cX7_keepsAct 81 = .ok (.iinc 1 1, 3) := by decide +kernel
theorem dX7_keepsAct_84 : decode cX7_keepsAct 84 = .ok (.goto (-31), 3) := by decide +kernel
theorem dX7_keepsAct_87 : decode cX7_keepsAct 87 = .ok (.aload_n 0, 1) := by decide +kernel
theorem dX7_keepsAct_88 : decode cX7_keepsAct 88 = .ok (.dup, 1) := by decide +kernel
theorem dX7_keepsAct_89 : decode cX7_keepsAct 89 = .ok (.getfield 124, 3) := by decide +kernel
theorem dX7_keepsAct_92 : decode cX7_keepsAct 92 = .ok (.iconst 1, 1) := by decide +kernel
theorem dX7_keepsAct_93 : decode cX7_keepsAct 93 = .ok (.iadd, 1) := by decide +kernel
theorem dX7_keepsAct_94 : decode cX7_keepsAct 94 = .ok (.putfield 124, 3) := by decide +kernel
theorem dX7_keepsAct_97 : decode cX7_keepsAct 97 = .ok (.return_, 1) := by decide +kernel
theorem dX7_areSigns_0 : decode cX7_areSigns 0 = .ok (.iconst 0, 1) := by decide +kernel
theorem dX7_areSigns_1 : decode cX7_areSigns 1 = .ok (.istore_n 3, 1) := by decide +kernel
theorem dX7_areSigns_2 : decode cX7_areSigns 2 = .ok (.iload_n 3, 1) := by decide +kernel
theorem dX7_areSigns_3 : decode cX7_areSigns 3 = .ok (.iload_n 2, 1) := by decide +kernel
theorem dX7_areSigns_4 : decode cX7_areSigns 4 = .ok (.if_icmp .ge 25, 3) := by decide +kernel
theorem dX7_areSigns_7 : decode cX7_areSigns 7 = .ok (.aload_n 0, 1) := by decide +kernel
theorem dX7_areSigns_8 : decode cX7_areSigns 8 = .ok (.getfield 31, 3) := by decide +kernel
theorem dX7_areSigns_11 : decode cX7_areSigns 11 = .ok (.iload_n 1, 1) := by decide +kernel
theorem dX7_areSigns_12 : decode cX7_areSigns 12 = .ok (.iload_n 3, 1) := by decide +kernel
theorem dX7_areSigns_13 : decode cX7_areSigns 13 = .ok (.iadd, 1) := by decide +kernel
theorem dX7_areSigns_14 : decode cX7_areSigns 14 = .ok (.baload, 1) := by decide +kernel
theorem dX7_areSigns_15 : decode cX7_areSigns 15 = .ok (.invokestatic 127, 3) := by decide +kernel
theorem dX7_areSigns_18 : decode cX7_areSigns 18 = .ok (.ifCond .ne 5, 3) := by decide +kernel
theorem dX7_areSigns_21 : decode cX7_areSigns 21 = .ok (.iconst 0, 1) := by decide +kernel
theorem dX7_areSigns_22 : decode cX7_areSigns 22 = .ok (.ireturn, 1) := by decide +kernel
theorem dX7_areSigns_23 : decode cX7_areSigns 23 = .ok (.iinc 3 1, 3) := by decide +kernel
theorem dX7_areSigns_26 : decode cX7_areSigns 26 = .ok (.goto (-24), 3) := by decide +kernel
theorem dX7_areSigns_29 : decode cX7_areSigns 29 = .ok (.iconst 1, 1) := by decide +kernel
theorem dX7_areSigns_30 : decode cX7_areSigns 30 = .ok (.ireturn, 1) := by decide +kernel
theorem dX7_isRowText_0 : decode cX7_isRowText 0 = .ok (.iload_n 1, 1) := by decide +kernel
theorem dX7_isRowText_1 : decode cX7_isRowText 1 = .ok (.aload_n 0, 1) := by decide +kernel
theorem dX7_isRowText_2 : decode cX7_isRowText 2 = .ok (.invokevirtual 47, 3) := by decide +kernel
theorem dX7_isRowText_5 : decode cX7_isRowText 5 = .ok (.if_icmp .gt 16, 3) := by decide +kernel
theorem dX7_isRowText_8 : decode cX7_isRowText 8 = .ok (.aload_n 0, 1) := by decide +kernel
theorem dX7_isRowText_9 : decode cX7_isRowText 9 = .ok (.iconst 0, 1) := by decide +kernel
theorem dX7_isRowText_10 : decode cX7_isRowText 10 = .ok (.iload_n 1, 1) := by decide +kernel
theorem dX7_isRowText_11 : decode cX7_isRowText 11 = .ok (.invokevirtual 131, 3) := by decide +kernel
theorem dX7_isRowText_14 : decode cX7_isRowText 14 = .ok (.ifCond .eq 7, 3) := by decide +kernel
theorem dX7_isRowText_17 : decode cX7_isRowText 17 = .ok (.iconst 1, 1) := by decide +kernel
theorem dX7_isRowText_18 : decode cX7_isRowText 18 = .ok (.goto 4, 3) := by decide +kernel
theorem dX7_isRowText_21 : decode cX7_isRowText 21 = .ok (.iconst 0, 1) := by decide +kernel
theorem dX7_isRowText_22 : decode cX7_isRowText 22 = .ok (.ireturn, 1) := by decide +kernel
theorem dX7_row_0 : decode cX7_row 0 = .ok (.aload_n 0, 1) := by decide +kernel
theorem dX7_row_1 : decode cX7_row 1 = .ok (.getfield 135, 3) := by decide +kernel
theorem dX7_row_4 : decode cX7_row 4 = .ok (.istore_n 2, 1) := by decide +kernel
theorem dX7_row_5 : decode cX7_row 5 = .ok (.aload_n 0, 1) := by decide +kernel
theorem dX7_row_6 : decode cX7_row 6 = .ok (.iconst 0, 1) := by decide +kernel
theorem dX7_row_7 : decode cX7_row 7 = .ok (.putfield 135, 3) := by decide +kernel
theorem dX7_row_10 : decode cX7_row 10 = .ok (.aload_n 0, 1) := by decide +kernel
theorem dX7_row_11 : decode cX7_row 11 = .ok (.iload_n 1, 1) := by decide +kernel
theorem dX7_row_12 : decode cX7_row 12 = .ok (.invokevirtual 138, 3) := by decide +kernel
theorem dX7_row_15 : decode cX7_row 15 = .ok (.ifCond .ne 5, 3) := by decide +kernel
theorem dX7_row_18 : decode cX7_row 18 = .ok (.iconst (-1), 1) := by decide +kernel
theorem dX7_row_19 : decode cX7_row 19 = .ok (.ireturn, 1) := by decide +kernel
theorem dX7_row_20 : decode cX7_row 20 = .ok (.aload_n 0, 1) := by decide +kernel
theorem dX7_row_21 : decode cX7_row 21 = .ok (.iload_n 2, 1) := by decide +kernel
theorem dX7_row_22 : decode cX7_row 22 = .ok (.invokevirtual 141, 3) := by decide +kernel
theorem dX7_row_25 : decode cX7_row 25 = .ok (.ifCond .ne 6, 3) := by decide +kernel
theorem dX7_row_28 : decode cX7_row 28 = .ok (.bipush (-2), 2) := by decide +kernel
theorem dX7_row_30 : decode cX7_row 30 = .ok (.ireturn, 1) := by decide +kernel
theorem dX7_row_31 : decode cX7_row 31 = .ok (.aload_n 0, 1) := by decide +kernel
theorem dX7_row_32 : decode cX7_row 32 = .ok (.invokevirtual 144, 3) := by decide +kernel
theorem dX7_row_35 : decode cX7_row 35 = .ok (.aload_n 0, 1) := by decide +kernel
theorem dX7_row_36 : decode cX7_row 36 = .ok (.iload_n 1, 1) := by decide +kernel
theorem dX7_row_37 : decode cX7_row 37 = .ok (.iconst 0, 1) := by decide +kernel
theorem dX7_row_38 : decode cX7_row 38 = .ok (.iload_n 2, 1) := by decide +kernel
theorem dX7_row_39 : decode cX7_row 39 = .ok (.iconst 1, 1) := by decide +kernel
theorem dX7_row_40 : decode cX7_row 40 = .ok (.invokevirtual 120, 3) := by decide +kernel
theorem dX7_row_43 : decode cX7_row 43 = .ok (.ireturn, 1) := by decide +kernel
theorem dX7_scroll_0 : decode cX7_scroll 0 = .ok (.aload_n 0, 1) := by decide +kernel
theorem dX7_scroll_1 : decode cX7_scroll 1 = .ok (.getfield 135, 3) := by decide +kernel
theorem dX7_scroll_4 : decode cX7_scroll 4 = .ok (.istore_n 1, 1) := by decide +kernel
theorem dX7_scroll_5 : decode cX7_scroll 5 = .ok (.aload_n 0, 1) := by decide +kernel
theorem dX7_scroll_6 : decode cX7_scroll 6 = .ok (.iconst 0, 1) := by decide +kernel
theorem dX7_scroll_7 : decode cX7_scroll 7 = .ok (.putfield 135, 3) := by decide +kernel
theorem dX7_scroll_10 : decode cX7_scroll 10 = .ok (.aload_n 0, 1) := by decide +kernel
theorem dX7_scroll_11 : decode cX7_scroll 11 = .ok (.invokevirtual 147, 3) := by decide +kernel
theorem dX7_scroll_14 : decode cX7_scroll 14 = .ok (.ifCond .ne 5, 3) := by decide +kernel
theorem dX7_scroll_17 : decode cX7_scroll 17 = .ok (.iconst (-1), 1) := by decide +kernel
theorem dX7_scroll_18 : decode cX7_scroll 18 = .ok (.ireturn, 1) := by decide +kernel
theorem dX7_scroll_19 : decode cX7_scroll 19 = .ok (.aload_n 0, 1) := by decide +kernel
theorem dX7_scroll_20 : decode cX7_scroll 20 = .ok (.iload_n 1, 1) := by decide +kernel
theorem dX7_scroll_21 : decode cX7_scroll 21 = .ok (.invokevirtual 141, 3) := by decide +kernel
theorem dX7_scroll_24 : decode cX7_scroll 24 = .ok (.ifCond .ne 6, 3) := by decide +kernel
theorem dX7_scroll_27 : decode cX7_scroll 27 = .ok (.bipush (-2), 2) := by decide +kernel
theorem dX7_scroll_29 : decode cX7_scroll 29 = .ok (.ireturn, 1) := by decide +kernel
theorem dX7_scroll_30 : decode cX7_scroll 30 = .ok (.aload_n 0, 1) := by decide +kernel
theorem dX7_scroll_31 : decode cX7_scroll 31 = .ok (.invokevirtual 144, 3) := by decide +kernel
theorem dX7_scroll_34 : decode cX7_scroll 34 = .ok (.aload_n 0, 1) := by decide +kernel
theorem dX7_scroll_35 : decode cX7_scroll 35 = .ok (.iconst 0, 1) := by decide +kernel
theorem dX7_scroll_36 : decode cX7_scroll 36 = .ok (.iload_n 1, 1) := by decide +kernel
theorem dX7_scroll_37 : decode cX7_scroll 37 = .ok (.invokevirtual 151, 3) := by decide +kernel
theorem dX7_scroll_40 : decode cX7_scroll 40 = .ok (.ireturn, 1) := by decide +kernel
theorem dX7_tick_0 : decode cX7_tick 0 = .ok (.aload_n 0, 1) := by decide +kernel
theorem dX7_tick_1 : decode cX7_tick 1 = .ok (.invokevirtual 147, 3) := by decide +kernel
theorem dX7_tick_4 : decode cX7_tick 4 = .ok (.ifCond .eq 15, 3) := by decide +kernel
theorem dX7_tick_7 : decode cX7_tick 7 = .ok (.iload_n 1, 1) := by decide +kernel
theorem dX7_tick_8 : decode cX7_tick 8 = .ok (.i2l, 1) := by decide +kernel
theorem dX7_tick_9 : decode cX7_tick 9 = .ok (.lconst 1, 1) := by decide +kernel
theorem dX7_tick_10 : decode cX7_tick 10 = .ok (.ldc2_w 154, 3) := by decide +kernel
theorem dX7_tick_13 : decode cX7_tick 13 = .ok (.invokestatic 39, 3) := by decide +kernel
theorem dX7_tick_16 : decode cX7_tick 16 = .ok (.ifCond .ne 5, 3) := by decide +kernel
theorem dX7_tick_19 : decode cX7_tick 19 = .ok (.iconst (-1), 1) := by decide +kernel
theorem dX7_tick_20 : decode cX7_tick 20 = .ok (.ireturn, 1) := by decide +kernel
theorem dX7_tick_21 : decode cX7_tick 21 = .ok (.aload_n 0, 1) := by decide +kernel
theorem dX7_tick_22 : decode cX7_tick 22 = .ok (.invokevirtual 144, 3) := by decide +kernel
theorem dX7_tick_25 : decode cX7_tick 25 = .ok (.iconst 0, 1) := by decide +kernel
theorem dX7_tick_26 : decode cX7_tick 26 = .ok (.istore_n 2, 1) := by decide +kernel
theorem dX7_tick_27 : decode cX7_tick 27 = .ok (.iconst 0, 1) := by decide +kernel
theorem dX7_tick_28 : decode cX7_tick 28 = .ok (.istore_n 3, 1) := by decide +kernel
theorem dX7_tick_29 : decode cX7_tick 29 = .ok (.iload_n 3, 1) := by decide +kernel
theorem dX7_tick_30 : decode cX7_tick 30 = .ok (.iload_n 1, 1) := by decide +kernel
theorem dX7_tick_31 : decode cX7_tick 31 = .ok (.if_icmp .ge 16, 3) := by decide +kernel
theorem dX7_tick_34 : decode cX7_tick 34 = .ok (.iload_n 2, 1) := by decide +kernel
theorem dX7_tick_35 : decode cX7_tick 35 = .ok (.aload_n 0, 1) := by decide +kernel
theorem dX7_tick_36 : decode cX7_tick 36 = .ok (.invokevirtual 156, 3) := by decide +kernel
theorem dX7_tick_39 : decode cX7_tick 39 = .ok (.iadd, 1) := by decide +kernel
theorem dX7_tick_40 : decode cX7_tick 40 = .ok (.istore_n 2, 1) := by decide +kernel
theorem dX7_tick_41 : decode cX7_tick 41 = .ok (.iinc 3 1, 3) := by decide +kernel
theorem dX7_tick_44 : decode cX7_tick 44 = .ok (.goto (-15), 3) := by decide +kernel
theorem dX7_tick_47 : decode cX7_tick 47 = .ok (.iload_n 2, 1) := by decide +kernel
theorem dX7_tick_48 : decode cX7_tick 48 = .ok (.ireturn, 1) := by decide +kernel
theorem dX7_settles_0 : decode cX7_settles 0 = .ok (.iconst 0, 1) := by decide +kernel
theorem dX7_settles_1 : decode cX7_settles 1 = .ok (.istore_n 1, 1) := by decide +kernel
theorem dX7_settles_2 : decode cX7_settles 2 = .ok (.aload_n 0, 1) := by decide +kernel
theorem dX7_settles_3 : decode cX7_settles 3 = .ok (.invokevirtual 156, 3) := by decide +kernel
theorem dX7_settles_6 : decode cX7_settles 6 = .ok (.ifCond .le 9, 3) := by decide +kernel
theorem dX7_settles_9 : decode cX7_settles 9 = .ok (.iinc 1 1, 3) := by decide +kernel
theorem dX7_settles_12 : decode cX7_settles 12 = .ok (.goto (-10), 3) := by decide +kernel
theorem dX7_settles_15 : decode cX7_settles 15 = .ok (.iload_n 1, 1) := by decide +kernel
theorem dX7_settles_16 : decode cX7_settles 16 = .ok (.ireturn, 1) := by decide +kernel
theorem dX7_settle_0 : decode cX7_settle 0 = .ok (.aload_n 0, 1) := by decide +kernel
theorem dX7_settle_1 : decode cX7_settle 1 = .ok (.invokevirtual 147, 3) := by decide +kernel
theorem dX7_settle_4 : decode cX7_settle 4 = .ok (.ifCond .ne 5, 3) := by decide +kernel
theorem dX7_settle_7 : decode cX7_settle 7 = .ok (.iconst (-1), 1) := by decide +kernel
theorem dX7_settle_8 : decode cX7_settle 8 = .ok (.ireturn, 1) := by decide +kernel
theorem dX7_settle_9 : decode cX7_settle 9 = .ok (.aload_n 0, 1) := by decide +kernel
theorem dX7_settle_10 : decode cX7_settle 10 = .ok (.invokevirtual 99, 3) := by decide +kernel
theorem dX7_settle_13 : decode cX7_settle 13 = .ok (.aload_n 0, 1) := by decide +kernel
theorem dX7_settle_14 : decode cX7_settle 14 = .ok (.getfield 86, 3) := by decide +kernel
theorem dX7_settle_17 : decode cX7_settle 17 = .ok (.ifCond .ne 6, 3) := by decide +kernel
theorem dX7_settle_20 : decode cX7_settle 20 = .ok (.bipush (-2), 2) := by decide +kernel
theorem dX7_settle_22 : decode cX7_settle 22 = .ok (.ireturn, 1) := by decide +kernel
theorem dX7_settle_23 : decode cX7_settle 23 = .ok (.aload_n 0, 1) := by decide +kernel
theorem dX7_settle_24 : decode cX7_settle 24 = .ok (.invokevirtual 144, 3) := by decide +kernel
theorem dX7_settle_27 : decode cX7_settle 27 = .ok (.aload_n 0, 1) := by decide +kernel
theorem dX7_settle_28 : decode cX7_settle 28 = .ok (.invokevirtual 159, 3) := by decide +kernel
theorem dX7_settle_31 : decode cX7_settle 31 = .ok (.ireturn, 1) := by decide +kernel
theorem dX7_lose_0 : decode cX7_lose 0 = .ok (.aload_n 0, 1) := by decide +kernel
theorem dX7_lose_1 : decode cX7_lose 1 = .ok (.iload_n 1, 1) := by decide +kernel
theorem dX7_lose_2 : decode cX7_lose 2 = .ok (.invokevirtual 162, 3) := by decide +kernel
theorem dX7_lose_5 : decode cX7_lose 5 = .ok (.ifCond .eq 15, 3) := by decide +kernel
theorem dX7_lose_8 : decode cX7_lose 8 = .ok (.iload_n 2, 1) := by decide +kernel
theorem dX7_lose_9 : decode cX7_lose 9 = .ok (.i2l, 1) := by decide +kernel
theorem dX7_lose_10 : decode cX7_lose 10 = .ok (.lconst 0, 1) := by decide +kernel
theorem dX7_lose_11 : decode cX7_lose 11 = .ok (.ldc2_w 165, 3) := by decide +kernel
theorem dX7_lose_14 : decode cX7_lose 14 = .ok (.invokestatic 39, 3) := by decide +kernel
theorem dX7_lose_17 : decode cX7_lose 17 = .ok (.ifCond .ne 5, 3) := by decide +kernel
theorem dX7_lose_20 : decode cX7_lose 20 = .ok (.iconst (-1), 1) := by decide +kernel
theorem dX7_lose_21 : decode cX7_lose 21 = .ok (.ireturn, 1) := by decide +kernel
theorem dX7_lose_22 : decode cX7_lose 22 = .ok (.aload_n 0, 1) := by decide +kernel
theorem dX7_lose_23 : decode cX7_lose 23 = .ok (.iload_n 1, 1) := by decide +kernel
theorem dX7_lose_24 : decode cX7_lose 24 = .ok (.iconst 4, 1) := by decide +kernel
theorem dX7_lose_25 : decode cX7_lose 25 = .ok (.invokevirtual 56, 3) := by decide +kernel
theorem dX7_lose_28 : decode cX7_lose 28 = .ok (.istore_n 3, 1) := by decide +kernel
theorem dX7_lose_29 : decode cX7_lose 29 = .ok (.iload_n 3, 1) := by decide +kernel
theorem dX7_lose_30 : decode cX7_lose 30 = .ok (.iload_n 2, 1) := by decide +kernel
theorem dX7_lose_31 : decode cX7_lose 31 = .ok (.if_icmp .ne 6, 3) := by decide +kernel
theorem dX7_lose_34 : decode cX7_lose 34 = .ok (.bipush (-2), 2) := by decide +kernel
theorem dX7_lose_36 : decode cX7_lose 36 = .ok (.ireturn, 1) := by decide +kernel
theorem dX7_lose_37 : decode cX7_lose 37 = .ok (.aload_n 0, 1) := by decide +kernel
theorem dX7_lose_38 : decode cX7_lose 38 = .ok (.invokevirtual 144, 3) := by decide +kernel
theorem dX7_lose_41 : decode cX7_lose 41 = .ok (.aload_n 0, 1) := by decide +kernel
theorem dX7_lose_42 : decode cX7_lose 42 = .ok (.iload_n 1, 1) := by decide +kernel
theorem dX7_lose_43 : decode cX7_lose 43 = .ok (.iconst 4, 1) := by decide +kernel
theorem dX7_lose_44 : decode cX7_lose 44 = .ok (.iload_n 2, 1) := by decide +kernel
theorem dX7_lose_45 : decode cX7_lose 45 = .ok (.i2l, 1) := by decide +kernel
theorem dX7_lose_46 : decode cX7_lose 46 = .ok (.invokevirtual 78, 3) := by decide +kernel
theorem dX7_lose_49 : decode cX7_lose 49 = .ok (.iload_n 3, 1) := by decide +kernel
theorem dX7_lose_50 : decode cX7_lose 50 = .ok (.ireturn, 1) := by decide +kernel
theorem dX7_isFlap_0 : decode cX7_isFlap 0 = .ok (.aload_n 0, 1) := by decide +kernel
theorem dX7_isFlap_1 : decode cX7_isFlap 1 = .ok (.iload_n 1, 1) := by decide +kernel
theorem dX7_isFlap_2 : decode cX7_isFlap 2 = .ok (.invokevirtual 162, 3) := by decide +kernel
theorem dX7_isFlap_5 : decode cX7_isFlap 5 = .ok (.ifCond .eq 24, 3) := by decide +kernel
theorem dX7_isFlap_8 : decode cX7_isFlap 8 = .ok (.iload_n 2, 1) := by decide +kernel
theorem dX7_isFlap_9 : decode cX7_isFlap 9 = .ok (.i2l, 1) := by decide +kernel
theorem dX7_isFlap_10 : decode cX7_isFlap 10 = .ok (.lconst 1, 1) := by decide +kernel
theorem dX7_isFlap_11 : decode cX7_isFlap 11 = .ok (.aload_n 0, 1) := by decide +kernel
theorem dX7_isFlap_12 : decode cX7_isFlap 12 = .ok (.iload_n 1, 1) := by decide +kernel
theorem dX7_isFlap_13 : decode cX7_isFlap 13 = .ok (.invokevirtual 67, 3) := by decide +kernel
theorem dX7_isFlap_16 : decode cX7_isFlap 16 = .ok (.iconst 1, 1) := by decide +kernel
theorem dX7_isFlap_17 : decode cX7_isFlap 17 = .ok (.isub, 1) := by decide +kernel
theorem dX7_isFlap_18 : decode cX7_isFlap 18 = .ok (.i2l, 1) := by decide +kernel
theorem dX7_isFlap_19 : decode cX7_isFlap 19 = .ok (.invokestatic 39, 3) := by decide +kernel
theorem dX7_isFlap_22 : decode cX7_isFlap 22 = .ok (.ifCond .eq 7, 3) := by decide +kernel
theorem dX7_isFlap_25 : decode cX7_isFlap 25 = .ok (.iconst 1, 1) := by decide +kernel
theorem dX7_isFlap_26 : decode cX7_isFlap 26 = .ok (.goto 4, 3) := by decide +kernel
theorem dX7_isFlap_29 : decode cX7_isFlap 29 = .ok (.iconst 0, 1) := by decide +kernel
theorem dX7_isFlap_30 : decode cX7_isFlap 30 = .ok (.ireturn, 1) := by decide +kernel
theorem dX7_wears_0 : decode cX7_wears 0 = .ok (.aload_n 0, 1) := by decide +kernel
theorem dX7_wears_1 : decode cX7_wears 1 = .ok (.iload_n 1, 1) := by decide +kernel
theorem dX7_wears_2 : decode cX7_wears 2 = .ok (.bipush 7, 2) := by decide +kernel
theorem dX7_wears_4 : decode cX7_wears 4 = .ok (.aload_n 0, 1) := by decide +kernel
theorem dX7_wears_5 : decode cX7_wears 5 = .ok (.iload_n 1, 1) := by decide +kernel
theorem dX7_wears_6 : decode cX7_wears 6 = .ok (.invokevirtual 109, 3) := by decide +kernel
theorem dX7_wears_9 : decode cX7_wears 9 = .ok (.lconst 1, 1) := by decide +kernel
theorem dX7_wears_10 : decode cX7_wears 10 = .ok (.iload_n 2, 1) := by decide +kernel
theorem dX7_wears_11 : decode cX7_wears 11 = .ok (.lshl, 1) := by decide +kernel
theorem dX7_wears_12 : decode cX7_wears 12 = .ok (.lor, 1) := by decide +kernel
theorem dX7_wears_13 : decode cX7_wears 13 = .ok (.invokevirtual 78, 3) := by decide +kernel
theorem dX7_wears_16 : decode cX7_wears 16 = .ok (.aload_n 0, 1) := by decide +kernel
theorem dX7_wears_17 : decode cX7_wears 17 = .ok (.iload_n 1, 1) := by decide +kernel
theorem dX7_wears_18 : decode cX7_wears 18 = .ok (.iconst 3, 1) := by decide +kernel
theorem dX7_wears_19 : decode cX7_wears 19 = .ok (.invokevirtual 56, 3) := by decide +kernel
theorem dX7_wears_22 : decode cX7_wears 22 = .ok (.iload_n 2, 1) := by decide +kernel
theorem dX7_wears_23 : decode cX7_wears 23 = .ok (.if_icmp .ne 10, 3) := by decide +kernel
theorem dX7_wears_26 : decode cX7_wears 26 = .ok (.aload_n 0, 1) := by decide +kernel
theorem dX7_wears_27 : decode cX7_wears 27 = .ok (.iload_n 1, 1) := by decide +kernel
theorem dX7_wears_28 : decode cX7_wears 28 = .ok (.iconst 3, 1) := by decide +kernel
theorem dX7_wears_29 : decode cX7_wears 29 = .ok (.lconst 0, 1) := by decide +kernel
theorem dX7_wears_30 : decode cX7_wears 30 = .ok (.invokevirtual 78, 3) := by decide +kernel
theorem dX7_wears_33 : decode cX7_wears 33 = .ok (.return_, 1) := by decide +kernel
theorem dX7_wear_0 : decode cX7_wear 0 = .ok (.aload_n 0, 1) := by decide +kernel
theorem dX7_wear_1 : decode cX7_wear 1 = .ok (.iload_n 1, 1) := by decide +kernel
theorem dX7_wear_2 : decode cX7_wear 2 = .ok (.iload_n 2, 1) := by decide +kernel
theorem dX7_wear_3 : decode cX7_wear 3 = .ok (.invokevirtual 167, 3) := by decide +kernel
theorem dX7_wear_6 : decode cX7_wear 6 = .ok (.ifCond .ne 5, 3) := by decide +kernel
theorem dX7_wear_9 : decode cX7_wear 9 = .ok (.iconst (-1), 1) := by decide +kernel
theorem dX7_wear_10 : decode cX7_wear 10 = .ok (.ireturn, 1) := by decide +kernel
theorem dX7_wear_11 : decode cX7_wear 11 = .ok (.aload_n 0, 1) := by decide +kernel
theorem dX7_wear_12 : decode cX7_wear 12 = .ok (.iload_n 1, 1) := by decide +kernel
theorem dX7_wear_13 : decode cX7_wear 13 = .ok (.invokevirtual 109, 3) := by decide +kernel
theorem dX7_wear_16 : decode cX7_wear 16 = .ok (.iload_n 2, 1) := by decide +kernel
theorem dX7_wear_17 : decode cX7_wear 17 = .ok (.invokestatic 74, 3) := by decide +kernel
theorem dX7_wear_20 : decode cX7_wear 20 = .ok (.ifCond .eq 6, 3) := by decide +kernel
theorem dX7_wear_23 : decode cX7_wear 23 = .ok (.bipush (-2), 2) := by decide +kernel
theorem dX7_wear_25 : decode cX7_wear 25 = .ok (.ireturn, 1) := by decide +kernel
theorem dX7_wear_26 : decode cX7_wear 26 = .ok (.aload_n 0, 1) := by decide +kernel
theorem dX7_wear_27 : decode cX7_wear 27 = .ok (.invokevirtual 144, 3) := by decide +kernel
theorem dX7_wear_30 : decode cX7_wear 30 = .ok (.aload_n 0, 1) := by decide +kernel
theorem dX7_wear_31 : decode cX7_wear 31 = .ok (.iload_n 1, 1) := by decide +kernel
theorem dX7_wear_32 : decode cX7_wear 32 = .ok (.iload_n 2, 1) := by decide +kernel
theorem dX7_wear_33 : decode cX7_wear 33 = .ok (.invokevirtual 170, 3) := by decide +kernel
theorem dX7_wear_36 : decode cX7_wear 36 = .ok (.aload_n 0, 1) := by decide +kernel
theorem dX7_wear_37 : decode cX7_wear 37 = .ok (.iload_n 1, 1) := by decide +kernel
theorem dX7_wear_38 : decode cX7_wear 38 = .ok (.invokevirtual 109, 3) := by decide +kernel
theorem dX7_wear_41 : decode cX7_wear 41 = .ok (.invokestatic 174, 3) := by decide +kernel
theorem dX7_wear_44 : decode cX7_wear 44 = .ok (.ireturn, 1) := by decide +kernel
theorem dX7_mend_0 : decode cX7_mend 0 = .ok (.aload_n 0, 1) := by decide +kernel
theorem dX7_mend_1 : decode cX7_mend 1 = .ok (.iload_n 1, 1) := by decide +kernel
theorem dX7_mend_2 : decode cX7_mend 2 = .ok (.iload_n 2, 1) := by decide +kernel
theorem dX7_mend_3 : decode cX7_mend 3 = .ok (.invokevirtual 167, 3) := by decide +kernel
theorem dX7_mend_6 : decode cX7_mend 6 = .ok (.ifCond .ne 5, 3) := by decide +kernel
theorem dX7_mend_9 : decode cX7_mend 9 = .ok (.iconst (-1), 1) := by decide +kernel
theorem dX7_mend_10 : decode cX7_mend 10 = .ok (.ireturn, 1) := by decide +kernel
theorem dX7_mend_11 : decode cX7_mend 11 = .ok (.aload_n 0, 1) := by decide +kernel
theorem dX7_mend_12 : decode cX7_mend 12 = .ok (.iload_n 1, 1) := by decide +kernel
theorem dX7_mend_13 : decode cX7_mend 13 = .ok (.invokevirtual 109, 3) := by decide +kernel
theorem dX7_mend_16 : decode cX7_mend 16 = .ok (.iload_n 2, 1) := by decide +kernel
theorem dX7_mend_17 : decode cX7_mend 17 = .ok (.invokestatic 74, 3) := by decide +kernel
theorem dX7_mend_20 : decode cX7_mend 20 = .ok (.ifCond .ne 6, 3) := by decide +kernel
theorem dX7_mend_23 : decode cX7_mend 23 = .ok (.bipush (-2), 2) := by decide +kernel
theorem dX7_mend_25 : decode cX7_mend 25 = .ok (.ireturn, 1) := by decide +kernel
theorem dX7_mend_26 : decode cX7_mend 26 = .ok (.aload_n 0, 1) := by decide +kernel
theorem dX7_mend_27 : decode cX7_mend 27 = .ok (.invokevirtual 144, 3) := by decide +kernel
theorem dX7_mend_30 : decode cX7_mend 30 = .ok (.aload_n 0, 1) := by decide +kernel
theorem dX7_mend_31 : decode cX7_mend 31 = .ok (.iload_n 1, 1) := by decide +kernel
theorem dX7_mend_32 : decode cX7_mend 32 = .ok (.bipush 7, 2) := by decide +kernel
theorem dX7_mend_34 : decode cX7_mend 34 = .ok (.aload_n 0, 1) := by decide +kernel
theorem dX7_mend_35 : decode cX7_mend 35 = .ok (.iload_n 1, 1) := by decide +kernel
theorem dX7_mend_36 : decode cX7_mend 36 = .ok (.invokevirtual 109, 3) := by decide +kernel
theorem dX7_mend_39 : decode cX7_mend 39 = .ok (.lconst 1, 1) := by decide +kernel
theorem dX7_mend_40 : decode cX7_mend 40 = .ok (.iload_n 2, 1) := by decide +kernel
theorem dX7_mend_41 : decode cX7_mend 41 = .ok (.lshl, 1) := by decide +kernel
theorem dX7_mend_42 : decode cX7_mend 42 = .ok (.ldc2_w 178, 3) := by decide +kernel
theorem dX7_mend_45 : decode cX7_mend 45 = .ok (.lxor, 1) := by decide +kernel
theorem dX7_mend_46 : decode cX7_mend 46 = .ok (.land, 1) := by decide +kernel
theorem dX7_mend_47 : decode cX7_mend 47 = .ok (.invokevirtual 78, 3) := by decide +kernel
theorem dX7_mend_50 : decode cX7_mend 50 = .ok (.aload_n 0, 1) := by decide +kernel
theorem dX7_mend_51 : decode cX7_mend 51 = .ok (.iload_n 1, 1) := by decide +kernel
theorem dX7_mend_52 : decode cX7_mend 52 = .ok (.invokevirtual 109, 3) := by decide +kernel
theorem dX7_mend_55 : decode cX7_mend 55 = .ok (.invokestatic 174, 3) := by decide +kernel
theorem dX7_mend_58 : decode cX7_mend 58 = .ok (.ireturn, 1) := by decide +kernel
theorem dX7_limit_0 : decode cX7_limit 0 = .ok (.aload_n 0, 1) := by decide +kernel
theorem dX7_limit_1 : decode cX7_limit 1 = .ok (.invokevirtual 147, 3) := by decide +kernel
theorem dX7_limit_4 : decode cX7_limit 4 = .ok (.ifCond .eq 15, 3) := by decide +kernel
theorem dX7_limit_7 : decode cX7_limit 7 = .ok (.iload_n 1, 1) := by decide +kernel
theorem dX7_limit_8 : decode cX7_limit 8 = .ok (.i2l, 1) := by decide +kernel
theorem dX7_limit_9 : decode cX7_limit 9 = .ok (.lconst 1, 1) := by decide +kernel
theorem dX7_limit_10 : decode cX7_limit 10 = .ok (.ldc2_w 154, 3) := by decide +kernel
theorem dX7_limit_13 : decode cX7_limit 13 = .ok (.invokestatic 39, 3) := by decide +kernel
theorem dX7_limit_16 : decode cX7_limit 16 = .ok (.ifCond .ne 5, 3) := by decide +kernel
theorem dX7_limit_19 : decode cX7_limit 19 = .ok (.iconst (-1), 1) := by decide +kernel
theorem dX7_limit_20 : decode cX7_limit 20 = .ok (.ireturn, 1) := by decide +kernel
theorem dX7_limit_21 : decode cX7_limit 21 = .ok (.aload_n 0, 1) := by decide +kernel
