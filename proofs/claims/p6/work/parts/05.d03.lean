theorem dX6_isSign_15 : decode cX6_isSign 15 = .ok (.if_icmp .eq 7, 3) := by decide +kernel
theorem dX6_isSign_18 : decode cX6_isSign 18 = .ok (.iconst 1, 1) := by decide +kernel
theorem dX6_isSign_19 : decode cX6_isSign 19 = .ok (.goto 4, 3) := by decide +kernel
theorem dX6_isSign_22 : decode cX6_isSign 22 = .ok (.iconst 0, 1) := by decide +kernel
theorem dX6_isSign_23 : decode cX6_isSign 23 = .ok (.ireturn, 1) := by decide +kernel
theorem dX5_takeQuoted_0 : decode cX5_takeQuoted 0 = .ok (.aload_n 0, 1) := by decide +kernel
theorem dX5_takeQuoted_1 : decode cX5_takeQuoted 1 = .ok (.bipush 39, 2) := by decide +kernel
theorem dX5_takeQuoted_3 : decode cX5_takeQuoted 3 = .ok (.invokevirtual 95, 3) := by decide +kernel
theorem dX5_takeQuoted_6 : decode cX5_takeQuoted 6 = .ok (.aload_n 0, 1) := by decide +kernel
theorem dX5_takeQuoted_7 : decode cX5_takeQuoted 7 = .ok (.aload_n 0, 1) := by decide +kernel
theorem dX5_takeQuoted_8 : decode cX5_takeQuoted 8 = .ok (.getfield 19, 3) := by decide +kernel
theorem dX5_takeQuoted_11 : decode cX5_takeQuoted 11 = .ok (.putfield 25, 3) := by decide +kernel
theorem dX5_takeQuoted_14 : decode cX5_takeQuoted 14 = .ok (.aload_n 0, 1) := by decide +kernel
theorem dX5_takeQuoted_15 : decode cX5_takeQuoted 15 = .ok (.getfield 19, 3) := by decide +kernel
theorem dX5_takeQuoted_18 : decode cX5_takeQuoted 18 = .ok (.aload_n 0, 1) := by decide +kernel
theorem dX5_takeQuoted_19 : decode cX5_takeQuoted 19 = .ok (.getfield 15, 3) := by decide +kernel
theorem dX5_takeQuoted_22 : decode cX5_takeQuoted 22 = .ok (.if_icmp .ge 84, 3) := by decide +kernel
theorem dX5_takeQuoted_25 : decode cX5_takeQuoted 25 = .ok (.aload_n 0, 1) := by decide +kernel
theorem dX5_takeQuoted_26 : decode cX5_takeQuoted 26 = .ok (.invokevirtual 99, 3) := by decide +kernel
theorem dX5_takeQuoted_29 : decode cX5_takeQuoted 29 = .ok (.ifCond .eq 77, 3) := by decide +kernel
theorem dX5_takeQuoted_32 : decode cX5_takeQuoted 32 = .ok (.aload_n 0, 1) := by decide +kernel
theorem dX5_takeQuoted_33 : decode cX5_takeQuoted 33 = .ok (.aload_n 0, 1) := by decide +kernel
theorem dX5_takeQuoted_34 : decode cX5_takeQuoted 34 = .ok (.getfield 19, 3) := by decide +kernel
theorem dX5_takeQuoted_37 : decode cX5_takeQuoted 37 = .ok (.invokevirtual 42, 3) := by decide +kernel
theorem dX5_takeQuoted_40 : decode cX5_takeQuoted 40 = .ok (.bipush 39, 2) := by decide +kernel
theorem dX5_takeQuoted_42 : decode cX5_takeQuoted 42 = .ok (.if_icmp .eq 64, 3) := by decide +kernel
theorem dX5_takeQuoted_45 : decode cX5_takeQuoted 45 = .ok (.aload_n 0, 1) := by decide +kernel
theorem dX5_takeQuoted_46 : decode cX5_takeQuoted 46 = .ok (.aload_n 0, 1) := by decide +kernel
theorem dX5_takeQuoted_47 : decode cX5_takeQuoted 47 = .ok (.getfield 19, 3) := by decide +kernel
theorem dX5_takeQuoted_50 : decode cX5_takeQuoted 50 = .ok (.invokevirtual 42, 3) := by decide +kernel
theorem dX5_takeQuoted_53 : decode cX5_takeQuoted 53 = .ok (.invokestatic 103, 3) := by decide +kernel
theorem dX5_takeQuoted_56 : decode cX5_takeQuoted 56 = .ok (.ifCond .ne 15, 3) := by decide +kernel
theorem dX5_takeQuoted_59 : decode cX5_takeQuoted 59 = .ok (.aload_n 0, 1) := by decide +kernel
theorem dX5_takeQuoted_60 : decode cX5_takeQuoted 60 = .ok (.aload_n 0, 1) := by decide +kernel
theorem dX5_takeQuoted_61 : decode cX5_takeQuoted 61 = .ok (.getfield 19, 3) := by decide +kernel
theorem dX5_takeQuoted_64 : decode cX5_takeQuoted 64 = .ok (.iconst 1, 1) := by decide +kernel
theorem dX5_takeQuoted_65 : decode cX5_takeQuoted 65 = .ok (.invokevirtual 38, 3) := by decide +kernel
theorem dX5_takeQuoted_68 : decode cX5_takeQuoted 68 = .ok (.goto 25, 3) := by decide +kernel
theorem dX5_takeQuoted_71 : decode cX5_takeQuoted 71 = .ok (.aload_n 0, 1) := by decide +kernel
theorem dX5_takeQuoted_72 : decode cX5_takeQuoted 72 = .ok (.getfield 19, 3) := by decide +kernel
theorem dX5_takeQuoted_75 : decode cX5_takeQuoted 75 = .ok (.aload_n 0, 1) := by decide +kernel
theorem dX5_takeQuoted_76 : decode cX5_takeQuoted 76 = .ok (.getfield 25, 3) := by decide +kernel
theorem dX5_takeQuoted_79 : decode cX5_takeQuoted 79 = .ok (.isub, 1) := by decide +kernel
theorem dX5_takeQuoted_80 : decode cX5_takeQuoted 80 = .ok (.iload_n 2, 1) := by decide +kernel
theorem dX5_takeQuoted_81 : decode cX5_takeQuoted 81 = .ok (.if_icmp .lt 12, 3) := by decide +kernel
theorem dX5_takeQuoted_84 : decode cX5_takeQuoted 84 = .ok (.aload_n 0, 1) := by decide +kernel
theorem dX5_takeQuoted_85 : decode cX5_takeQuoted 85 = .ok (.aload_n 0, 1) := by decide +kernel
theorem dX5_takeQuoted_86 : decode cX5_takeQuoted 86 = .ok (.getfield 19, 3) := by decide +kernel
theorem dX5_takeQuoted_89 : decode cX5_takeQuoted 89 = .ok (.iconst 2, 1) := by decide +kernel
theorem dX5_takeQuoted_90 : decode cX5_takeQuoted 90 = .ok (.invokevirtual 38, 3) := by decide +kernel
theorem dX5_takeQuoted_93 : decode cX5_takeQuoted 93 = .ok (.aload_n 0, 1) := by decide +kernel
theorem dX5_takeQuoted_94 : decode cX5_takeQuoted 94 = .ok (.dup, 1) := by decide +kernel
theorem dX5_takeQuoted_95 : decode cX5_takeQuoted 95 = .ok (.getfield 19, 3) := by decide +kernel
theorem dX5_takeQuoted_98 : decode cX5_takeQuoted 98 = .ok (.iconst 1, 1) := by decide +kernel
theorem dX5_takeQuoted_99 : decode cX5_takeQuoted 99 = .ok (.iadd, 1) := by decide +kernel
theorem dX5_takeQuoted_100 : decode cX5_takeQuoted 100 = .ok (.putfield 19, 3) := by decide +kernel
theorem dX5_takeQuoted_103 : decode cX5_takeQuoted 103 = .ok (.goto (-89), 3) := by decide +kernel
theorem dX5_takeQuoted_106 : decode cX5_takeQuoted 106 = .ok (.aload_n 0, 1) := by decide +kernel
theorem dX5_takeQuoted_107 : decode cX5_takeQuoted 107 = .ok (.aload_n 0, 1) := by decide +kernel
theorem dX5_takeQuoted_108 : decode cX5_takeQuoted 108 = .ok (.getfield 19, 3) := by decide +kernel
theorem dX5_takeQuoted_111 : decode cX5_takeQuoted 111 = .ok (.aload_n 0, 1) := by decide +kernel
theorem dX5_takeQuoted_112 : decode cX5_takeQuoted 112 = .ok (.getfield 25, 3) := by decide +kernel
theorem dX5_takeQuoted_115 : decode cX5_takeQuoted 115 = .ok (.isub, 1) := by decide +kernel
theorem dX5_takeQuoted_116 : decode cX5_takeQuoted 116 = .ok (.putfield 28, 3) := by decide +kernel
theorem dX5_takeQuoted_119 : decode cX5_takeQuoted 119 = .ok (.aload_n 0, 1) := by decide +kernel
theorem dX5_takeQuoted_120 : decode cX5_takeQuoted 120 = .ok (.getfield 19, 3) := by decide +kernel
theorem dX5_takeQuoted_123 : decode cX5_takeQuoted 123 = .ok (.aload_n 0, 1) := by decide +kernel
theorem dX5_takeQuoted_124 : decode cX5_takeQuoted 124 = .ok (.getfield 15, 3) := by decide +kernel
theorem dX5_takeQuoted_127 : decode cX5_takeQuoted 127 = .ok (.if_icmp .lt 15, 3) := by decide +kernel
theorem dX5_takeQuoted_130 : decode cX5_takeQuoted 130 = .ok (.aload_n 0, 1) := by decide +kernel
theorem dX5_takeQuoted_131 : decode cX5_takeQuoted 131 = .ok (.aload_n 0, 1) := by decide +kernel
theorem dX5_takeQuoted_132 : decode cX5_takeQuoted 132 = .ok (.getfield 15, 3) := by decide +kernel
theorem dX5_takeQuoted_135 : decode cX5_takeQuoted 135 = .ok (.iconst 1, 1) := by decide +kernel
theorem dX5_takeQuoted_136 : decode cX5_takeQuoted 136 = .ok (.invokevirtual 38, 3) := by decide +kernel
theorem dX5_takeQuoted_139 : decode cX5_takeQuoted 139 = .ok (.goto 20, 3) := by decide +kernel
theorem dX5_takeQuoted_142 : decode cX5_takeQuoted 142 = .ok (.aload_n 0, 1) := by decide +kernel
theorem dX5_takeQuoted_143 : decode cX5_takeQuoted 143 = .ok (.getfield 28, 3) := by decide +kernel
theorem dX5_takeQuoted_146 : decode cX5_takeQuoted 146 = .ok (.iload_n 1, 1) := by decide +kernel
theorem dX5_takeQuoted_147 : decode cX5_takeQuoted 147 = .ok (.if_icmp .ge 12, 3) := by decide +kernel
theorem dX5_takeQuoted_150 : decode cX5_takeQuoted 150 = .ok (.aload_n 0, 1) := by decide +kernel
theorem dX5_takeQuoted_151 : decode cX5_takeQuoted 151 = .ok (.aload_n 0, 1) := by decide +kernel
theorem dX5_takeQuoted_152 : decode cX5_takeQuoted 152 = .ok (.getfield 19, 3) := by decide +kernel
theorem dX5_takeQuoted_155 : decode cX5_takeQuoted 155 = .ok (.iconst 2, 1) := by decide +kernel
theorem dX5_takeQuoted_156 : decode cX5_takeQuoted 156 = .ok (.invokevirtual 38, 3) := by decide +kernel
theorem dX5_takeQuoted_159 : decode cX5_takeQuoted 159 = .ok (.aload_n 0, 1) := by decide +kernel
theorem dX5_takeQuoted_160 : decode cX5_takeQuoted 160 = .ok (.dup, 1) := by decide +kernel
theorem dX5_takeQuoted_161 : decode cX5_takeQuoted 161 = .ok (.getfield 19, 3) := by decide +kernel
theorem dX5_takeQuoted_164 : decode cX5_takeQuoted 164 = .ok (.iconst 1, 1) := by decide +kernel
theorem dX5_takeQuoted_165 : decode cX5_takeQuoted 165 = .ok (.iadd, 1) := by decide +kernel
theorem dX5_takeQuoted_166 : decode cX5_takeQuoted 166 = .ok (.putfield 19, 3) := by decide +kernel
theorem dX5_takeQuoted_169 : decode cX5_takeQuoted 169 = .ok (.return_, 1) := by decide +kernel
theorem dX1_readDrum_0 : decode cX1_readDrum 0 = .ok (.aload_n 1, 1) := by decide +kernel
theorem dX1_readDrum_1 : decode cX1_readDrum 1 = .ok (.iconst 1, 1) := by decide +kernel
theorem dX1_readDrum_2 : decode cX1_readDrum 2 = .ok (.bipush 9, 2) := by decide +kernel
theorem dX1_readDrum_4 : decode cX1_readDrum 4 = .ok (.invokevirtual 54, 3) := by decide +kernel
theorem dX1_readDrum_7 : decode cX1_readDrum 7 = .ok (.istore_n 2, 1) := by decide +kernel
theorem dX1_readDrum_8 : decode cX1_readDrum 8 = .ok (.aload_n 1, 1) := by decide +kernel
theorem dX1_readDrum_9 : decode cX1_readDrum 9 = .ok (.iconst 2, 1) := by decide +kernel
theorem dX1_readDrum_10 : decode cX1_readDrum 10 = .ok (.bipush 40, 2) := by decide +kernel
theorem dX1_readDrum_12 : decode cX1_readDrum 12 = .ok (.invokevirtual 93, 3) := by decide +kernel
theorem dX1_readDrum_15 : decode cX1_readDrum 15 = .ok (.aload_n 1, 1) := by decide +kernel
theorem dX1_readDrum_16 : decode cX1_readDrum 16 = .ok (.invokevirtual 25, 3) := by decide +kernel
theorem dX1_readDrum_19 : decode cX1_readDrum 19 = .ok (.ifCond .eq 17, 3) := by decide +kernel
theorem dX1_readDrum_22 : decode cX1_readDrum 22 = .ok (.aload_n 0, 1) := by decide +kernel
theorem dX1_readDrum_23 : decode cX1_readDrum 23 = .ok (.iload_n 2, 1) := by decide +kernel
theorem dX1_readDrum_24 : decode cX1_readDrum 24 = .ok (.aload_n 1, 1) := by decide +kernel
theorem dX1_readDrum_25 : decode cX1_readDrum 25 = .ok (.aload_n 1, 1) := by decide +kernel
theorem dX1_readDrum_26 : decode cX1_readDrum 26 = .ok (.getfield 96, 3) := by decide +kernel
theorem dX1_readDrum_29 : decode cX1_readDrum 29 = .ok (.aload_n 1, 1) := by decide +kernel
theorem dX1_readDrum_30 : decode cX1_readDrum 30 = .ok (.getfield 99, 3) := by decide +kernel
theorem dX1_readDrum_33 : decode cX1_readDrum 33 = .ok (.invokevirtual 102, 3) := by decide +kernel
theorem dX1_readDrum_36 : decode cX1_readDrum 36 = .ok (.return_, 1) := by decide +kernel
theorem dX1_readCells_0 : decode cX1_readCells 0 = .ok (.aload_n 0, 1) := by decide +kernel
theorem dX1_readCells_1 : decode cX1_readCells 1 = .ok (.invokevirtual 106, 3) := by decide +kernel
theorem dX1_readCells_4 : decode cX1_readCells 4 = .ok (.iconst 1, 1) := by decide +kernel
theorem dX1_readCells_5 : decode cX1_readCells 5 = .ok (.isub, 1) := by decide +kernel
theorem dX1_readCells_6 : decode cX1_readCells 6 = .ok (.istore_n 2, 1) := by decide +kernel
theorem dX1_readCells_7 : decode cX1_readCells 7 = .ok (.aload_n 1, 1) := by decide +kernel
theorem dX1_readCells_8 : decode cX1_readCells 8 = .ok (.iconst 0, 1) := by decide +kernel
theorem dX1_readCells_9 : decode cX1_readCells 9 = .ok (.iload_n 2, 1) := by decide +kernel
theorem dX1_readCells_10 : decode cX1_readCells 10 = .ok (.invokevirtual 54, 3) := by decide +kernel
theorem dX1_readCells_13 : decode cX1_readCells 13 = .ok (.istore_n 3, 1) := by decide +kernel
theorem dX1_readCells_14 : decode cX1_readCells 14 = .ok (.aload_n 1, 1) := by decide +kernel
theorem dX1_readCells_15 : decode cX1_readCells 15 = .ok (.iload_n 3, 1) := by decide +kernel
theorem dX1_readCells_16 : decode cX1_readCells 16 = .ok (.iload_n 2, 1) := by decide +kernel
theorem dX1_readCells_17 : decode cX1_readCells 17 = .ok (.invokevirtual 54, 3) := by decide +kernel
theorem dX1_readCells_20 : decode cX1_readCells 20 = .ok (.istore 4, 2) := by decide +kernel
theorem dX1_readCells_22 : decode cX1_readCells 22 = .ok (.aload_n 1, 1) := by decide +kernel
theorem dX1_readCells_23 : decode cX1_readCells 23 = .ok (.iconst 0, 1) := by decide +kernel
theorem dX1_readCells_24 : decode cX1_readCells 24 = .ok (.aload_n 0, 1) := by decide +kernel
theorem dX1_readCells_25 : decode cX1_readCells 25 = .ok (.getfield 40, 3) := by decide +kernel
theorem dX1_readCells_28 : decode cX1_readCells 28 = .ok (.iconst 1, 1) := by decide +kernel
theorem dX1_readCells_29 : decode cX1_readCells 29 = .ok (.isub, 1) := by decide +kernel
theorem dX1_readCells_30 : decode cX1_readCells 30 = .ok (.invokevirtual 54, 3) := by decide +kernel
theorem dX1_readCells_33 : decode cX1_readCells 33 = .ok (.istore 5, 2) := by decide +kernel
theorem dX1_readCells_35 : decode cX1_readCells 35 = .ok (.iload_n 3, 1) := by decide +kernel
theorem dX1_readCells_36 : decode cX1_readCells 36 = .ok (.istore 6, 2) := by decide +kernel
theorem dX1_readCells_38 : decode cX1_readCells 38 = .ok (.iload 6, 2) := by decide +kernel
theorem dX1_readCells_40 : decode cX1_readCells 40 = .ok (.iload 4, 2) := by decide +kernel
theorem dX1_readCells_42 : decode cX1_readCells 42 = .ok (.if_icmp .gt 24, 3) := by decide +kernel
theorem dX1_readCells_45 : decode cX1_readCells 45 = .ok (.aload_n 1, 1) := by decide +kernel
theorem dX1_readCells_46 : decode cX1_readCells 46 = .ok (.invokevirtual 25, 3) := by decide +kernel
theorem dX1_readCells_49 : decode cX1_readCells 49 = .ok (.ifCond .eq 17, 3) := by decide +kernel
theorem dX1_readCells_52 : decode cX1_readCells 52 = .ok (.aload_n 0, 1) := by decide +kernel
theorem dX1_readCells_53 : decode cX1_readCells 53 = .ok (.iload 6, 2) := by decide +kernel
theorem dX1_readCells_55 : decode cX1_readCells 55 = .ok (.iload 5, 2) := by decide +kernel
theorem dX1_readCells_57 : decode cX1_readCells 57 = .ok (.invokevirtual 109, 3) := by decide +kernel
theorem dX1_readCells_60 : decode cX1_readCells 60 = .ok (.iinc 6 1, 3) := by decide +kernel
theorem dX1_readCells_63 : decode cX1_readCells 63 = .ok (.goto (-25), 3) := by decide +kernel
theorem dX1_readCells_66 : decode cX1_readCells 66 = .ok (.return_, 1) := by decide +kernel
theorem dX1_readWorn_0 : decode cX1_readWorn 0 = .ok (.aload_n 1, 1) := by decide +kernel
theorem dX1_readWorn_1 : decode cX1_readWorn 1 = .ok (.iconst 0, 1) := by decide +kernel
theorem dX1_readWorn_2 : decode cX1_readWorn 2 = .ok (.aload_n 0, 1) := by decide +kernel
theorem dX1_readWorn_3 : decode cX1_readWorn 3 = .ok (.invokevirtual 106, 3) := by decide +kernel
theorem dX1_readWorn_6 : decode cX1_readWorn 6 = .ok (.iconst 1, 1) := by decide +kernel
theorem dX1_readWorn_7 : decode cX1_readWorn 7 = .ok (.isub, 1) := by decide +kernel
theorem dX1_readWorn_8 : decode cX1_readWorn 8 = .ok (.invokevirtual 54, 3) := by decide +kernel
theorem dX1_readWorn_11 : decode cX1_readWorn 11 = .ok (.istore_n 2, 1) := by decide +kernel
theorem dX1_readWorn_12 : decode cX1_readWorn 12 = .ok (.aload_n 1, 1) := by decide +kernel
theorem dX1_readWorn_13 : decode cX1_readWorn 13 = .ok (.iconst 1, 1) := by decide +kernel
theorem dX1_readWorn_14 : decode cX1_readWorn 14 = .ok (.aload_n 0, 1) := by decide +kernel
theorem dX1_readWorn_15 : decode cX1_readWorn 15 = .ok (.iload_n 2, 1) := by decide +kernel
theorem dX1_readWorn_16 : decode cX1_readWorn 16 = .ok (.invokevirtual 112, 3) := by decide +kernel
theorem dX1_readWorn_19 : decode cX1_readWorn 19 = .ok (.iconst 1, 1) := by decide +kernel
theorem dX1_readWorn_20 : decode cX1_readWorn 20 = .ok (.isub, 1) := by decide +kernel
theorem dX1_readWorn_21 : decode cX1_readWorn 21 = .ok (.invokevirtual 54, 3) := by decide +kernel
theorem dX1_readWorn_24 : decode cX1_readWorn 24 = .ok (.istore_n 3, 1) := by decide +kernel
theorem dX1_readWorn_25 : decode cX1_readWorn 25 = .ok (.aload_n 1, 1) := by decide +kernel
theorem dX1_readWorn_26 : decode cX1_readWorn 26 = .ok (.invokevirtual 25, 3) := by decide +kernel
theorem dX1_readWorn_29 : decode cX1_readWorn 29 = .ok (.ifCond .eq 21, 3) := by decide +kernel
theorem dX1_readWorn_32 : decode cX1_readWorn 32 = .ok (.aload_n 0, 1) := by decide +kernel
theorem dX1_readWorn_33 : decode cX1_readWorn 33 = .ok (.iload_n 2, 1) := by decide +kernel
theorem dX1_readWorn_34 : decode cX1_readWorn 34 = .ok (.iload_n 3, 1) := by decide +kernel
theorem dX1_readWorn_35 : decode cX1_readWorn 35 = .ok (.invokevirtual 116, 3) := by decide +kernel
theorem dX1_readWorn_38 : decode cX1_readWorn 38 = .ok (.ifCond .eq 12, 3) := by decide +kernel
theorem dX1_readWorn_41 : decode cX1_readWorn 41 = .ok (.aload_n 1, 1) := by decide +kernel
theorem dX1_readWorn_42 : decode cX1_readWorn 42 = .ok (.aload_n 1, 1) := by decide +kernel
theorem dX1_readWorn_43 : decode cX1_readWorn 43 = .ok (.getfield 75, 3) := by decide +kernel
theorem dX1_readWorn_46 : decode cX1_readWorn 46 = .ok (.iconst 2, 1) := by decide +kernel
theorem dX1_readWorn_47 : decode cX1_readWorn 47 = .ok (.invokevirtual 47, 3) := by decide +kernel
theorem dX1_readWorn_50 : decode cX1_readWorn 50 = .ok (.aload_n 1, 1) := by decide +kernel
theorem dX1_readWorn_51 : decode cX1_readWorn 51 = .ok (.invokevirtual 25, 3) := by decide +kernel
theorem dX1_readWorn_54 : decode cX1_readWorn 54 = .ok (.ifCond .eq 9, 3) := by decide +kernel
theorem dX1_readWorn_57 : decode cX1_readWorn 57 = .ok (.aload_n 0, 1) := by decide +kernel
theorem dX1_readWorn_58 : decode cX1_readWorn 58 = .ok (.iload_n 2, 1) := by decide +kernel
theorem dX1_readWorn_59 : decode cX1_readWorn 59 = .ok (.iload_n 3, 1) := by decide +kernel
theorem dX1_readWorn_60 : decode cX1_readWorn 60 = .ok (.invokevirtual 120, 3) := by decide +kernel
theorem dX1_readWorn_63 : decode cX1_readWorn 63 = .ok (.return_, 1) := by decide +kernel
theorem dX1_readRow_0 : decode cX1_readRow 0 = .ok (.aload_n 1, 1) := by decide +kernel
theorem dX1_readRow_1 : decode cX1_readRow 1 = .ok (.iconst 0, 1) := by decide +kernel
theorem dX1_readRow_2 : decode cX1_readRow 2 = .ok (.aload_n 0, 1) := by decide +kernel
theorem dX1_readRow_3 : decode cX1_readRow 3 = .ok (.getfield 63, 3) := by decide +kernel
theorem dX1_readRow_6 : decode cX1_readRow 6 = .ok (.iconst 1, 1) := by decide +kernel
theorem dX1_readRow_7 : decode cX1_readRow 7 = .ok (.isub, 1) := by decide +kernel
theorem dX1_readRow_8 : decode cX1_readRow 8 = .ok (.invokevirtual 54, 3) := by decide +kernel
theorem dX1_readRow_11 : decode cX1_readRow 11 = .ok (.istore_n 2, 1) := by decide +kernel
theorem dX1_readRow_12 : decode cX1_readRow 12 = .ok (.aload_n 1, 1) := by decide +kernel
theorem dX1_readRow_13 : decode cX1_readRow 13 = .ok (.iconst 0, 1) := by decide +kernel
theorem dX1_readRow_14 : decode cX1_readRow 14 = .ok (.aload_n 0, 1) := by decide +kernel
theorem dX1_readRow_15 : decode cX1_readRow 15 = .ok (.getfield 66, 3) := by decide +kernel
theorem dX1_readRow_18 : decode cX1_readRow 18 = .ok (.invokevirtual 93, 3) := by decide +kernel
theorem dX1_readRow_21 : decode cX1_readRow 21 = .ok (.aload_n 1, 1) := by decide +kernel
theorem dX1_readRow_22 : decode cX1_readRow 22 = .ok (.invokevirtual 25, 3) := by decide +kernel
theorem dX1_readRow_25 : decode cX1_readRow 25 = .ok (.ifCond .eq 17, 3) := by decide +kernel
theorem dX1_readRow_28 : decode cX1_readRow 28 = .ok (.aload_n 0, 1) := by decide +kernel
theorem dX1_readRow_29 : decode cX1_readRow 29 = .ok (.iload_n 2, 1) := by decide +kernel
theorem dX1_readRow_30 : decode cX1_readRow 30 = .ok (.aload_n 1, 1) := by decide +kernel
theorem dX1_readRow_31 : decode cX1_readRow 31 = .ok (.aload_n 1, 1) := by decide +kernel
theorem dX1_readRow_32 : decode cX1_readRow 32 = .ok (.getfield 96, 3) := by decide +kernel
theorem dX1_readRow_35 : decode cX1_readRow 35 = .ok (.aload_n 1, 1) := by decide +kernel
theorem dX1_readRow_36 : decode cX1_readRow 36 = .ok (.getfield 99, 3) := by decide +kernel
theorem dX1_readRow_39 : decode cX1_readRow 39 = .ok (.invokevirtual 123, 3) := by decide +kernel
theorem dX1_readRow_42 : decode cX1_readRow 42 = .ok (.return_, 1) := by decide +kernel
theorem dX1_readLose_0 : decode cX1_readLose 0 = .ok (.aload_n 1, 1) := by decide +kernel
theorem dX1_readLose_1 : decode cX1_readLose 1 = .ok (.iconst 0, 1) := by decide +kernel
theorem dX1_readLose_2 : decode cX1_readLose 2 = .ok (.aload_n 0, 1) := by decide +kernel
theorem dX1_readLose_3 : decode cX1_readLose 3 = .ok (.invokevirtual 106, 3) := by decide +kernel
theorem dX1_readLose_6 : decode cX1_readLose 6 = .ok (.iconst 1, 1) := by decide +kernel
theorem dX1_readLose_7 : decode cX1_readLose 7 = .ok (.isub, 1) := by decide +kernel
theorem dX1_readLose_8 : decode cX1_readLose 8 = .ok (.invokevirtual 54, 3) := by decide +kernel
theorem dX1_readLose_11 : decode cX1_readLose 11 = .ok (.istore_n 2, 1) := by decide +kernel
theorem dX1_readLose_12 : decode cX1_readLose 12 = .ok (.aload_n 1, 1) := by decide +kernel
theorem dX1_readLose_13 : decode cX1_readLose 13 = .ok (.iconst 0, 1) := by decide +kernel
theorem dX1_readLose_14 : decode cX1_readLose 14 = .ok (.bipush 9, 2) := by decide +kernel
theorem dX1_readLose_16 : decode cX1_readLose 16 = .ok (.invokevirtual 54, 3) := by decide +kernel
theorem dX1_readLose_19 : decode cX1_readLose 19 = .ok (.istore_n 3, 1) := by decide +kernel
theorem dX1_readLose_20 : decode cX1_readLose 20 = .ok (.aload_n 1, 1) := by decide +kernel
theorem dX1_readLose_21 : decode cX1_readLose 21 = .ok (.invokevirtual 25, 3) := by decide +kernel
theorem dX1_readLose_24 : decode cX1_readLose 24 = .ok (.ifCond .eq 9, 3) := by decide +kernel
theorem dX1_readLose_27 : decode cX1_readLose 27 = .ok (.aload_n 0, 1) := by decide +kernel
theorem dX1_readLose_28 : decode cX1_readLose 28 = .ok (.iload_n 2, 1) := by decide +kernel
theorem dX1_readLose_29 : decode cX1_readLose 29 = .ok (.iload_n 3, 1) := by decide +kernel
theorem dX1_readLose_30 : decode cX1_readLose 30 = .ok (.invokevirtual 126, 3) := by decide +kernel
theorem dX1_readLose_33 : decode cX1_readLose 33 = .ok (.return_, 1) := by decide +kernel
theorem dX1_readPart_0 : decode cX1_readPart 0 = .ok (.aload_n 1, 1) := by decide +kernel
theorem dX1_readPart_1 : decode cX1_readPart 1 = .ok (.invokevirtual 72, 3) := by decide +kernel
theorem dX1_readPart_4 : decode cX1_readPart 4 = .ok (.istore_n 2, 1) := by decide +kernel
theorem dX1_readPart_5 : decode cX1_readPart 5 = .ok (.aload_n 1, 1) := by decide +kernel
theorem dX1_readPart_6 : decode cX1_readPart 6 = .ok (.getfield 75, 3) := by decide +kernel
theorem dX1_readPart_9 : decode cX1_readPart 9 = .ok (.istore_n 3, 1) := by decide +kernel
theorem dX1_readPart_10 : decode cX1_readPart 10 = .ok (.iload_n 2, 1) := by decide +kernel
theorem dX1_readPart_11 : decode cX1_readPart 11 = .ok (.iconst 3, 1) := by decide +kernel
theorem dX1_readPart_12 : decode cX1_readPart 12 = .ok (.if_icmp .lt 9, 3) := by decide +kernel
theorem dX1_readPart_15 : decode cX1_readPart 15 = .ok (.iload_n 2, 1) := by decide +kernel
theorem dX1_readPart_16 : decode cX1_readPart 16 = .ok (.bipush 7, 2) := by decide +kernel
theorem dX1_readPart_18 : decode cX1_readPart 18 = .ok (.if_icmp .le 12, 3) := by decide +kernel
theorem dX1_readPart_21 : decode cX1_readPart 21 = .ok (.aload_n 1, 1) := by decide +kernel
theorem dX1_readPart_22 : decode cX1_readPart 22 = .ok (.iload_n 3, 1) := by decide +kernel
theorem dX1_readPart_23 : decode cX1_readPart 23 = .ok (.iconst 1, 1) := by decide +kernel
theorem dX1_readPart_24 : decode cX1_readPart 24 = .ok (.invokevirtual 47, 3) := by decide +kernel
theorem dX1_readPart_27 : decode cX1_readPart 27 = .ok (.goto 32, 3) := by decide +kernel
theorem dX1_readPart_30 : decode cX1_readPart 30 = .ok (.iload_n 2, 1) := by decide +kernel
theorem dX1_readPart_31 : decode cX1_readPart 31 = .ok (.iconst 3, 1) := by decide +kernel
theorem dX1_readPart_32 : decode cX1_readPart 32 = .ok (.if_icmp .ne 14, 3) := by decide +kernel
theorem dX1_readPart_35 : decode cX1_readPart 35 = .ok (.aload_n 0, 1) := by decide +kernel
theorem dX1_readPart_36 : decode cX1_readPart 36 = .ok (.getfield 40, 3) := by decide +kernel
theorem dX1_readPart_39 : decode cX1_readPart 39 = .ok (.iconst 4, 1) := by decide +kernel
theorem dX1_readPart_40 : decode cX1_readPart 40 = .ok (.if_icmp .ne 19, 3) := by decide +kernel
theorem dX1_readPart_43 : decode cX1_readPart 43 = .ok (.goto 10, 3) := by decide +kernel
theorem dX1_readPart_46 : decode cX1_readPart 46 = .ok (.aload_n 0, 1) := by decide +kernel
theorem dX1_readPart_47 : decode cX1_readPart 47 = .ok (.getfield 40, 3) := by decide +kernel
theorem dX1_readPart_50 : decode cX1_readPart 50 = .ok (.ifCond .ne 9, 3) := by decide +kernel
theorem dX1_readPart_53 : decode cX1_readPart 53 = .ok (.aload_n 1, 1) := by decide +kernel
theorem dX1_readPart_54 : decode cX1_readPart 54 = .ok (.iload_n 3, 1) := by decide +kernel
theorem dX1_readPart_55 : decode cX1_readPart 55 = .ok (.iconst 3, 1) := by decide +kernel
theorem dX1_readPart_56 : decode cX1_readPart 56 = .ok (.invokevirtual 47, 3) := by decide +kernel
theorem dX1_readPart_59 : decode cX1_readPart 59 = .ok (.aload_n 1, 1) := by decide +kernel
theorem dX1_readPart_60 : decode cX1_readPart 60 = .ok (.invokevirtual 25, 3) := by decide +kernel
theorem dX1_readPart_63 : decode cX1_readPart 63 = .ok (.ifCond .ne 4, 3) := by decide +kernel
theorem dX1_readPart_66 : decode cX1_readPart 66 = .ok (.return_, 1) := by decide +kernel
theorem dX1_readPart_67 : decode cX1_readPart 67 = .ok (.iload_n 2, 1) := by decide +kernel
theorem dX1_readPart_68 : decode cX1_readPart 68 = .ok (.tableswitch 64 3 6 #[32, 40, 48, 56], 32) := by decide +kernel
theorem dX1_readPart_100 : decode cX1_readPart 100 = .ok (.aload_n 0, 1) := by decide +kernel
theorem dX1_readPart_101 : decode cX1_readPart 101 = .ok (.aload_n 1, 1) := by decide +kernel
theorem dX1_readPart_102 : decode cX1_readPart 102 = .ok (.invokestatic 78, 3) := by decide +kernel
theorem dX1_readPart_105 : decode cX1_readPart 105 = .ok (.goto 32, 3) := by decide +kernel
theorem dX1_readPart_108 : decode cX1_readPart 108 = .ok (.aload_n 0, 1) := by decide +kernel
theorem dX1_readPart_109 : decode cX1_readPart 109 = .ok (.aload_n 1, 1) := by decide +kernel
theorem dX1_readPart_110 : decode cX1_readPart 110 = .ok (.invokestatic 81, 3) := by decide +kernel
theorem dX1_readPart_113 : decode cX1_readPart 113 = .ok (.goto 24, 3) := by decide +kernel
theorem dX1_readPart_116 : decode cX1_readPart 116 = .ok (.aload_n 0, 1) := by decide +kernel
theorem dX1_readPart_117 : decode cX1_readPart 117 = .ok (.aload_n 1, 1) := by decide +kernel
theorem dX1_readPart_118 : decode cX1_readPart 118 = .ok (.invokestatic 84, 3) := by decide +kernel
theorem dX1_readPart_121 : decode cX1_readPart 121 = .ok (.goto 16, 3) := by decide +kernel
theorem dX1_readPart_124 : decode cX1_readPart 124 = .ok (.aload_n 0, 1) := by decide +kernel
theorem dX1_readPart_125 : decode cX1_readPart 125 = .ok (.aload_n 1, 1) := by decide +kernel
theorem dX1_readPart_126 : decode cX1_readPart 126 = .ok (.invokestatic 87, 3) := by decide +kernel
theorem dX1_readPart_129 : decode cX1_readPart 129 = .ok (.goto 8, 3) := by decide +kernel
theorem dX1_readPart_132 : decode cX1_readPart 132 = .ok (.aload_n 0, 1) := by decide +kernel
theorem dX1_readPart_133 : decode cX1_readPart 133 = .ok (.aload_n 1, 1) := by decide +kernel
theorem dX1_readPart_134 : decode cX1_readPart 134 = .ok (.invokestatic 90, 3) := by decide +kernel
theorem dX1_readPart_137 : decode cX1_readPart 137 = .ok (.return_, 1) := by decide +kernel
theorem dX1_readInto_0 : decode cX1_readInto 0 = .ok (.aload_n 0, 1) := by decide +kernel
theorem dX1_readInto_1 : decode cX1_readInto 1 = .ok (.invokevirtual 9, 3) := by decide +kernel
theorem dX1_readInto_4 : decode cX1_readInto 4 = .ok (.aload_n 1, 1) := by decide +kernel
theorem dX1_readInto_5 : decode cX1_readInto 5 = .ok (.invokevirtual 14, 3) := by decide +kernel
theorem dX1_readInto_8 : decode cX1_readInto 8 = .ok (.aload_n 0, 1) := by decide +kernel
theorem dX1_readInto_9 : decode cX1_readInto 9 = .ok (.aload_n 1, 1) := by decide +kernel
theorem dX1_readInto_10 : decode cX1_readInto 10 = .ok (.invokestatic 19, 3) := by decide +kernel
theorem dX1_readInto_13 : decode cX1_readInto 13 = .ok (.iconst 0, 1) := by decide +kernel
theorem dX1_readInto_14 : decode cX1_readInto 14 = .ok (.istore_n 2, 1) := by decide +kernel
theorem dX1_readInto_15 : decode cX1_readInto 15 = .ok (.iload_n 2, 1) := by decide +kernel
theorem dX1_readInto_16 : decode cX1_readInto 16 = .ok (.sipush 400, 3) := by decide +kernel
theorem dX1_readInto_19 : decode cX1_readInto 19 = .ok (.if_icmp .ge 35, 3) := by decide +kernel
theorem dX1_readInto_22 : decode cX1_readInto 22 = .ok (.aload_n 1, 1) := by decide +kernel
theorem dX1_readInto_23 : decode cX1_readInto 23 = .ok (.invokevirtual 25, 3) := by decide +kernel
theorem dX1_readInto_26 : decode cX1_readInto 26 = .ok (.ifCond .eq 28, 3) := by decide +kernel
theorem dX1_readInto_29 : decode cX1_readInto 29 = .ok (.aload_n 1, 1) := by decide +kernel
theorem dX1_readInto_30 : decode cX1_readInto 30 = .ok (.invokevirtual 29, 3) := by decide +kernel
theorem dX1_readInto_33 : decode cX1_readInto 33 = .ok (.iconst (-1), 1) := by decide +kernel
theorem dX1_readInto_34 : decode cX1_readInto 34 = .ok (.if_icmp .eq 20, 3) := by decide +kernel
theorem dX1_readInto_37 : decode cX1_readInto 37 = .ok (.aload_n 1, 1) := by decide +kernel
theorem dX1_readInto_38 : decode cX1_readInto 38 = .ok (.bipush 59, 2) := by decide +kernel
theorem dX1_readInto_40 : decode cX1_readInto 40 = .ok (.invokevirtual 33, 3) := by decide +kernel
theorem dX1_readInto_43 : decode cX1_readInto 43 = .ok (.aload_n 0, 1) := by decide +kernel
theorem dX1_readInto_44 : decode cX1_readInto 44 = .ok (.aload_n 1, 1) := by decide +kernel
theorem dX1_readInto_45 : decode cX1_readInto 45 = .ok (.invokestatic 37, 3) := by decide +kernel
theorem dX1_readInto_48 : decode cX1_readInto 48 = .ok (.iinc 2 1, 3) := by decide +kernel
theorem dX1_readInto_51 : decode cX1_readInto 51 = .ok (.goto (-36), 3) := by decide +kernel
theorem dX1_readInto_54 : decode cX1_readInto 54 = .ok (.aload_n 0, 1) := by decide +kernel
theorem dX1_readInto_55 : decode cX1_readInto 55 = .ok (.getfield 40, 3) := by decide +kernel
theorem dX1_readInto_58 : decode cX1_readInto 58 = .ok (.ifCond .ne 12, 3) := by decide +kernel
theorem dX1_readInto_61 : decode cX1_readInto 61 = .ok (.aload_n 1, 1) := by decide +kernel
theorem dX1_readInto_62 : decode cX1_readInto 62 = .ok (.aload_n 1, 1) := by decide +kernel
theorem dX1_readInto_63 : decode cX1_readInto 63 = .ok (.getfield 44, 3) := by decide +kernel
theorem dX1_readInto_66 : decode cX1_readInto 66 = .ok (.iconst 4, 1) := by decide +kernel
theorem dX1_readInto_67 : decode cX1_readInto 67 = .ok (.invokevirtual 47, 3) := by decide +kernel
theorem dX1_readInto_70 : decode cX1_readInto 70 = .ok (.return_, 1) := by decide +kernel
theorem dX2_startCounting_0 : decode cX2_startCounting 0 = .ok (.aload_n 0, 1) := by decide +kernel
theorem dX2_startCounting_1 : decode cX2_startCounting 1 = .ok (.iconst 0, 1) := by decide +kernel
theorem dX2_startCounting_2 : decode cX2_startCounting 2 = .ok (.putfield 51, 3) := by decide +kernel
theorem dX2_startCounting_5 : decode cX2_startCounting 5 = .ok (.aload_n 0, 1) := by decide +kernel
theorem dX2_startCounting_6 : decode cX2_startCounting 6 = .ok (.iconst 0, 1) := by decide +kernel
theorem dX2_startCounting_7 : decode cX2_startCounting 7 = .ok (.putfield 52, 3) := by decide +kernel
theorem dX2_startCounting_10 : decode cX2_startCounting 10 = .ok (.aload_n 0, 1) := by decide +kernel
theorem dX2_startCounting_11 : decode cX2_startCounting 11 = .ok (.iconst 0, 1) := by decide +kernel
theorem dX2_startCounting_12 : decode cX2_startCounting 12 = .ok (.putfield 55, 3) := by decide +kernel
theorem dX2_startCounting_15 : decode cX2_startCounting 15 = .ok (.aload_n 0, 1) := by decide +kernel
theorem dX2_startCounting_16 : decode cX2_startCounting 16 = .ok (.iconst 0, 1) := by decide +kernel
theorem dX2_startCounting_17 : decode cX2_startCounting 17 = .ok (.putfield 56, 3) := by decide +kernel
theorem dX2_startCounting_20 : decode cX2_startCounting 20 = .ok (.aload_n 0, 1) := by decide +kernel
theorem dX2_startCounting_21 : decode cX2_startCounting 21 = .ok (.iconst 0, 1) := by decide +kernel
theorem dX2_startCounting_22 : decode cX2_startCounting 22 = .ok (.putfield 59, 3) := by decide +kernel
theorem dX2_startCounting_25 : decode cX2_startCounting 25 = .ok (.aload_n 0, 1) := by decide +kernel
theorem dX2_startCounting_26 : decode cX2_startCounting 26 = .ok (.iconst 0, 1) := by decide +kernel
theorem dX2_startCounting_27 : decode cX2_startCounting 27 = .ok (.putfield 62, 3) := by decide +kernel
theorem dX2_startCounting_30 : decode cX2_startCounting 30 = .ok (.aload_n 0, 1) := by decide +kernel
theorem dX2_startCounting_31 : decode cX2_startCounting 31 = .ok (.iconst 0, 1) := by decide +kernel
theorem dX2_startCounting_32 : decode cX2_startCounting 32 = .ok (.putfield 32, 3) := by decide +kernel
theorem dX2_startCounting_35 : decode cX2_startCounting 35 = .ok (.return_, 1) := by decide +kernel
theorem dX2_sortByLeft_0 : decode cX2_sortByLeft 0 = .ok (.aload_n 0, 1) := by decide +kernel
theorem dX2_sortByLeft_1 : decode cX2_sortByLeft 1 = .ok (.getfield 9, 3) := by decide +kernel
theorem dX2_sortByLeft_4 : decode cX2_sortByLeft 4 = .ok (.iconst (-1), 1) := by decide +kernel
theorem dX2_sortByLeft_5 : decode cX2_sortByLeft 5 = .ok (.invokestatic 84, 3) := by decide +kernel
theorem dX2_sortByLeft_8 : decode cX2_sortByLeft 8 = .ok (.iconst 0, 1) := by decide +kernel
theorem dX2_sortByLeft_9 : decode cX2_sortByLeft 9 = .ok (.istore_n 2, 1) := by decide +kernel
theorem dX2_sortByLeft_10 : decode cX2_sortByLeft 10 = .ok (.aload_n 1, 1) := by decide +kernel
theorem dX2_sortByLeft_11 : decode cX2_sortByLeft 11 = .ok (.invokevirtual 90, 3) := by decide +kernel
theorem dX2_sortByLeft_14 : decode cX2_sortByLeft 14 = .ok (.iconst 1, 1) := by decide +kernel
theorem dX2_sortByLeft_15 : decode cX2_sortByLeft 15 = .ok (.isub, 1) := by decide +kernel
theorem dX2_sortByLeft_16 : decode cX2_sortByLeft 16 = .ok (.istore_n 3, 1) := by decide +kernel
theorem dX2_sortByLeft_17 : decode cX2_sortByLeft 17 = .ok (.iload_n 3, 1) := by decide +kernel
theorem dX2_sortByLeft_18 : decode cX2_sortByLeft 18 = .ok (.ifCond .lt 56, 3) := by decide +kernel
theorem dX2_sortByLeft_21 : decode cX2_sortByLeft 21 = .ok (.aload_n 1, 1) := by decide +kernel
theorem dX2_sortByLeft_22 : decode cX2_sortByLeft 22 = .ok (.iload_n 3, 1) := by decide +kernel
theorem dX2_sortByLeft_23 : decode cX2_sortByLeft 23 = .ok (.invokevirtual 94, 3) := by decide +kernel
theorem dX2_sortByLeft_26 : decode cX2_sortByLeft 26 = .ok (.istore 4, 2) := by decide +kernel
theorem dX2_sortByLeft_28 : decode cX2_sortByLeft 28 = .ok (.iload 4, 2) := by decide +kernel
theorem dX2_sortByLeft_30 : decode cX2_sortByLeft 30 = .ok (.ifCond .le 38, 3) := by decide +kernel
theorem dX2_sortByLeft_33 : decode cX2_sortByLeft 33 = .ok (.iload 4, 2) := by decide +kernel
theorem dX2_sortByLeft_35 : decode cX2_sortByLeft 35 = .ok (.bipush 40, 2) := by decide +kernel
theorem dX2_sortByLeft_37 : decode cX2_sortByLeft 37 = .ok (.if_icmp .ge 31, 3) := by decide +kernel
theorem dX2_sortByLeft_40 : decode cX2_sortByLeft 40 = .ok (.aload_n 0, 1) := by decide +kernel
theorem dX2_sortByLeft_41 : decode cX2_sortByLeft 41 = .ok (.getfield 15, 3) := by decide +kernel
theorem dX2_sortByLeft_44 : decode cX2_sortByLeft 44 = .ok (.iload_n 3, 1) := by decide +kernel
theorem dX2_sortByLeft_45 : decode cX2_sortByLeft 45 = .ok (.aload_n 0, 1) := by decide +kernel
theorem dX2_sortByLeft_46 : decode cX2_sortByLeft 46 = .ok (.getfield 9, 3) := by decide +kernel
theorem dX2_sortByLeft_49 : decode cX2_sortByLeft 49 = .ok (.iload 4, 2) := by decide +kernel
theorem dX2_sortByLeft_51 : decode cX2_sortByLeft 51 = .ok (.iaload, 1) := by decide +kernel
theorem dX2_sortByLeft_52 : decode cX2_sortByLeft 52 = .ok (.iastore, 1) := by decide +kernel
theorem dX2_sortByLeft_53 : decode cX2_sortByLeft 53 = .ok (.aload_n 0, 1) := by decide +kernel
theorem dX2_sortByLeft_54 : decode cX2_sortByLeft 54 = .ok (.getfield 9, 3) := by decide +kernel
theorem dX2_sortByLeft_57 : decode cX2_sortByLeft 57 = .ok (.iload 4, 2) := by decide +kernel
theorem dX2_sortByLeft_59 : decode cX2_sortByLeft 59 = .ok (.iload_n 3, 1) := by decide +kernel
theorem dX2_sortByLeft_60 : decode cX2_sortByLeft 60 = .ok (.iastore, 1) := by decide +kernel
theorem dX2_sortByLeft_61 : decode cX2_sortByLeft 61 = .ok (.iload_n 2, 1) := by decide +kernel
theorem dX2_sortByLeft_62 : decode cX2_sortByLeft 62 = .ok (.iload 4, 2) := by decide +kernel
theorem dX2_sortByLeft_64 : decode cX2_sortByLeft 64 = .ok (.invokestatic 68, 3) := by decide +kernel
theorem dX2_sortByLeft_67 : decode cX2_sortByLeft 67 = .ok (.istore_n 2, 1) := by decide +kernel
theorem dX2_sortByLeft_68 : decode cX2_sortByLeft 68 = .ok (.iinc 3 (-1), 3) := by decide +kernel
theorem dX2_sortByLeft_71 : decode cX2_sortByLeft 71 = .ok (.goto (-54), 3) := by decide +kernel
theorem dX2_sortByLeft_74 : decode cX2_sortByLeft 74 = .ok (.iload_n 2, 1) := by decide +kernel
theorem dX2_sortByLeft_75 : decode cX2_sortByLeft 75 = .ok (.ireturn, 1) := by decide +kernel
theorem dX2_choose_0 : decode cX2_choose 0 = .ok (.aload_n 0, 1) := by decide +kernel
theorem dX2_choose_1 : decode cX2_choose 1 = .ok (.iconst 0, 1) := by decide +kernel
theorem dX2_choose_2 : decode cX2_choose 2 = .ok (.putfield 28, 3) := by decide +kernel
theorem dX2_choose_5 : decode cX2_choose 5 = .ok (.aload_n 0, 1) := by decide +kernel
theorem dX2_choose_6 : decode cX2_choose 6 = .ok (.iconst 0, 1) := by decide +kernel
theorem dX2_choose_7 : decode cX2_choose 7 = .ok (.putfield 65, 3) := by decide +kernel
theorem dX2_choose_10 : decode cX2_choose 10 = .ok (.aload_n 0, 1) := by decide +kernel
theorem dX2_choose_11 : decode cX2_choose 11 = .ok (.aload_n 1, 1) := by decide +kernel
theorem dX2_choose_12 : decode cX2_choose 12 = .ok (.invokevirtual 74, 3) := by decide +kernel
theorem dX2_choose_15 : decode cX2_choose 15 = .ok (.istore_n 2, 1) := by decide +kernel
theorem dX2_choose_16 : decode cX2_choose 16 = .ok (.iload_n 2, 1) := by decide +kernel
theorem dX2_choose_17 : decode cX2_choose 17 = .ok (.istore_n 3, 1) := by decide +kernel
theorem dX2_choose_18 : decode cX2_choose 18 = .ok (.iload_n 3, 1) := by decide +kernel
theorem dX2_choose_19 : decode cX2_choose 19 = .ok (.ifCond .le 117, 3) := by decide +kernel
theorem dX2_choose_22 : decode cX2_choose 22 = .ok (.aload_n 0, 1) := by decide +kernel
theorem dX2_choose_23 : decode cX2_choose 23 = .ok (.getfield 65, 3) := by decide +kernel
theorem dX2_choose_26 : decode cX2_choose 26 = .ok (.aload_n 1, 1) := by decide +kernel
theorem dX2_choose_27 : decode cX2_choose 27 = .ok (.getfield 78, 3) := by decide +kernel
theorem dX2_choose_30 : decode cX2_choose 30 = .ok (.if_icmp .ge 106, 3) := by decide +kernel
theorem dX2_choose_33 : decode cX2_choose 33 = .ok (.aload_n 0, 1) := by decide +kernel
theorem dX2_choose_34 : decode cX2_choose 34 = .ok (.getfield 9, 3) := by decide +kernel
theorem dX2_choose_37 : decode cX2_choose 37 = .ok (.iload_n 3, 1) := by decide +kernel
theorem dX2_choose_38 : decode cX2_choose 38 = .ok (.iaload, 1) := by decide +kernel
theorem dX2_choose_39 : decode cX2_choose 39 = .ok (.istore 4, 2) := by decide +kernel
theorem dX2_choose_41 : decode cX2_choose 41 = .ok (.iconst 0, 1) := by decide +kernel
theorem dX2_choose_42 : decode cX2_choose 42 = .ok (.istore 5, 2) := by decide +kernel
theorem dX2_choose_44 : decode cX2_choose 44 = .ok (.iload 5, 2) := by decide +kernel
theorem dX2_choose_46 : decode cX2_choose 46 = .ok (.bipush 40, 2) := by decide +kernel
theorem dX2_choose_48 : decode cX2_choose 48 = .ok (.if_icmp .ge 82, 3) := by decide +kernel
theorem dX2_choose_51 : decode cX2_choose 51 = .ok (.iload 4, 2) := by decide +kernel
theorem dX2_choose_53 : decode cX2_choose 53 = .ok (.iconst (-1), 1) := by decide +kernel
theorem dX2_choose_54 : decode cX2_choose 54 = .ok (.if_icmp .eq 76, 3) := by decide +kernel
theorem dX2_choose_57 : decode cX2_choose 57 = .ok (.aload_n 0, 1) := by decide +kernel
theorem dX2_choose_58 : decode cX2_choose 58 = .ok (.getfield 65, 3) := by decide +kernel
theorem dX2_choose_61 : decode cX2_choose 61 = .ok (.aload_n 1, 1) := by decide +kernel
theorem dX2_choose_62 : decode cX2_choose 62 = .ok (.iload 4, 2) := by decide +kernel
theorem dX2_choose_64 : decode cX2_choose 64 = .ok (.invokevirtual 81, 3) := by decide +kernel
theorem dX2_choose_67 : decode cX2_choose 67 = .ok (.iadd, 1) := by decide +kernel
theorem dX2_choose_68 : decode cX2_choose 68 = .ok (.istore 6, 2) := by decide +kernel
theorem dX2_choose_70 : decode cX2_choose 70 = .ok (.iload 6, 2) := by decide +kernel
theorem dX2_choose_72 : decode cX2_choose 72 = .ok (.aload_n 1, 1) := by decide +kernel
theorem dX2_choose_73 : decode cX2_choose 73 = .ok (.getfield 78, 3) := by decide +kernel
theorem dX2_choose_76 : decode cX2_choose 76 = .ok (.if_icmp .gt 39, 3) := by decide +kernel
theorem dX2_choose_79 : decode cX2_choose 79 = .ok (.aload_n 0, 1) := by decide +kernel
theorem dX2_choose_80 : decode cX2_choose 80 = .ok (.getfield 28, 3) := by decide +kernel
theorem dX2_choose_83 : decode cX2_choose 83 = .ok (.bipush 40, 2) := by decide +kernel
theorem dX2_choose_85 : decode cX2_choose 85 = .ok (.if_icmp .ge 30, 3) := by decide +kernel
theorem dX2_choose_88 : decode cX2_choose 88 = .ok (.aload_n 0, 1) := by decide +kernel
theorem dX2_choose_89 : decode cX2_choose 89 = .ok (.iload 6, 2) := by decide +kernel
theorem dX2_choose_91 : decode cX2_choose 91 = .ok (.putfield 65, 3) := by decide +kernel
theorem dX2_choose_94 : decode cX2_choose 94 = .ok (.aload_n 0, 1) := by decide +kernel
theorem dX2_choose_95 : decode cX2_choose 95 = .ok (.getfield 18, 3) := by decide +kernel
theorem dX2_choose_98 : decode cX2_choose 98 = .ok (.aload_n 0, 1) := by decide +kernel
theorem dX2_choose_99 : decode cX2_choose 99 = .ok (.getfield 28, 3) := by decide +kernel
theorem dX2_choose_102 : decode cX2_choose 102 = .ok (.iload 4, 2) := by decide +kernel
theorem dX2_choose_104 : decode cX2_choose 104 = .ok (.iastore, 1) := by decide +kernel
theorem dX2_choose_105 : decode cX2_choose 105 = .ok (.aload_n 0, 1) := by decide +kernel
theorem dX2_choose_106 : decode cX2_choose 106 = .ok (.dup, 1) := by decide +kernel
theorem dX2_choose_107 : decode cX2_choose 107 = .ok (.getfield 28, 3) := by decide +kernel
theorem dX2_choose_110 : decode cX2_choose 110 = .ok (.iconst 1, 1) := by decide +kernel
theorem dX2_choose_111 : decode cX2_choose 111 = .ok (.iadd, 1) := by decide +kernel
theorem dX2_choose_112 : decode cX2_choose 112 = .ok (.putfield 28, 3) := by decide +kernel
theorem dX2_choose_115 : decode cX2_choose 115 = .ok (.aload_n 0, 1) := by decide +kernel
theorem dX2_choose_116 : decode cX2_choose 116 = .ok (.getfield 15, 3) := by decide +kernel
theorem dX2_choose_119 : decode cX2_choose 119 = .ok (.iload 4, 2) := by decide +kernel
theorem dX2_choose_121 : decode cX2_choose 121 = .ok (.iaload, 1) := by decide +kernel
theorem dX2_choose_122 : decode cX2_choose 122 = .ok (.istore 4, 2) := by decide +kernel
theorem dX2_choose_124 : decode cX2_choose 124 = .ok (.iinc 5 1, 3) := by decide +kernel
theorem dX2_choose_127 : decode cX2_choose 127 = .ok (.goto (-83), 3) := by decide +kernel
theorem dX2_choose_130 : decode cX2_choose 130 = .ok (.iinc 3 (-1), 3) := by decide +kernel
theorem dX2_choose_133 : decode cX2_choose 133 = .ok (.goto (-115), 3) := by decide +kernel
theorem dX2_choose_136 : decode cX2_choose 136 = .ok (.return_, 1) := by decide +kernel
theorem dX2_countTick_0 : decode cX2_countTick 0 = .ok (.iload_n 1, 1) := by decide +kernel
theorem dX2_countTick_1 : decode cX2_countTick 1 = .ok (.aload_n 0, 1) := by decide +kernel
theorem dX2_countTick_2 : decode cX2_countTick 2 = .ok (.getfield 62, 3) := by decide +kernel
theorem dX2_countTick_5 : decode cX2_countTick 5 = .ok (.if_icmp .le 16, 3) := by decide +kernel
theorem dX2_countTick_8 : decode cX2_countTick 8 = .ok (.aload_n 0, 1) := by decide +kernel
theorem dX2_countTick_9 : decode cX2_countTick 9 = .ok (.iload_n 1, 1) := by decide +kernel
theorem dX2_countTick_10 : decode cX2_countTick 10 = .ok (.putfield 62, 3) := by decide +kernel
theorem dX2_countTick_13 : decode cX2_countTick 13 = .ok (.aload_n 0, 1) := by decide +kernel
theorem dX2_countTick_14 : decode cX2_countTick 14 = .ok (.aload_n 0, 1) := by decide +kernel
theorem dX2_countTick_15 : decode cX2_countTick 15 = .ok (.getfield 51, 3) := by decide +kernel
theorem dX2_countTick_18 : decode cX2_countTick 18 = .ok (.putfield 59, 3) := by decide +kernel
theorem dX2_countTick_21 : decode cX2_countTick 21 = .ok (.aload_n 0, 1) := by decide +kernel
theorem dX2_countTick_22 : decode cX2_countTick 22 = .ok (.aload_n 0, 1) := by decide +kernel
theorem dX2_countTick_23 : decode cX2_countTick 23 = .ok (.getfield 56, 3) := by decide +kernel
theorem dX2_countTick_26 : decode cX2_countTick 26 = .ok (.aload_n 0, 1) := by decide +kernel
theorem dX2_countTick_27 : decode cX2_countTick 27 = .ok (.getfield 65, 3) := by decide +kernel
theorem dX2_countTick_30 : decode cX2_countTick 30 = .ok (.invokestatic 68, 3) := by decide +kernel
theorem dX2_countTick_33 : decode cX2_countTick 33 = .ok (.putfield 56, 3) := by decide +kernel
theorem dX2_countTick_36 : decode cX2_countTick 36 = .ok (.aload_n 0, 1) := by decide +kernel
theorem dX2_countTick_37 : decode cX2_countTick 37 = .ok (.dup, 1) := by decide +kernel
theorem dX2_countTick_38 : decode cX2_countTick 38 = .ok (.getfield 55, 3) := by decide +kernel
theorem dX2_countTick_41 : decode cX2_countTick 41 = .ok (.iload_n 1, 1) := by decide +kernel
theorem dX2_countTick_42 : decode cX2_countTick 42 = .ok (.iadd, 1) := by decide +kernel
theorem dX2_countTick_43 : decode cX2_countTick 43 = .ok (.putfield 55, 3) := by decide +kernel
theorem dX2_countTick_46 : decode cX2_countTick 46 = .ok (.aload_n 0, 1) := by decide +kernel
theorem dX2_countTick_47 : decode cX2_countTick 47 = .ok (.dup, 1) := by decide +kernel
theorem dX2_countTick_48 : decode cX2_countTick 48 = .ok (.getfield 52, 3) := by decide +kernel
theorem dX2_countTick_51 : decode cX2_countTick 51 = .ok (.aload_n 0, 1) := by decide +kernel
theorem dX2_countTick_52 : decode cX2_countTick 52 = .ok (.getfield 28, 3) := by decide +kernel
theorem dX2_countTick_55 : decode cX2_countTick 55 = .ok (.iadd, 1) := by decide +kernel
theorem dX2_countTick_56 : decode cX2_countTick 56 = .ok (.putfield 52, 3) := by decide +kernel
theorem dX2_countTick_59 : decode cX2_countTick 59 = .ok (.aload_n 0, 1) := by decide +kernel
theorem dX2_countTick_60 : decode cX2_countTick 60 = .ok (.dup, 1) := by decide +kernel
theorem dX2_countTick_61 : decode cX2_countTick 61 = .ok (.getfield 51, 3) := by decide +kernel
theorem dX2_countTick_64 : decode cX2_countTick 64 = .ok (.iconst 1, 1) := by decide +kernel
theorem dX2_countTick_65 : decode cX2_countTick 65 = .ok (.iadd, 1) := by decide +kernel
theorem dX2_countTick_66 : decode cX2_countTick 66 = .ok (.putfield 51, 3) := by decide +kernel
theorem dX2_countTick_69 : decode cX2_countTick 69 = .ok (.return_, 1) := by decide +kernel
theorem dX2_turn_0 : decode cX2_turn 0 = .ok (.aload_n 0, 1) := by decide +kernel
theorem dX2_turn_1 : decode cX2_turn 1 = .ok (.invokevirtual 21, 3) := by decide +kernel
theorem dX2_turn_4 : decode cX2_turn 4 = .ok (.iconst 0, 1) := by decide +kernel
theorem dX2_turn_5 : decode cX2_turn 5 = .ok (.istore_n 3, 1) := by decide +kernel
theorem dX2_turn_6 : decode cX2_turn 6 = .ok (.iload_n 3, 1) := by decide +kernel
theorem dX2_turn_7 : decode cX2_turn 7 = .ok (.iload_n 2, 1) := by decide +kernel
theorem dX2_turn_8 : decode cX2_turn 8 = .ok (.if_icmp .ge 101, 3) := by decide +kernel
theorem dX2_turn_11 : decode cX2_turn 11 = .ok (.aload_n 0, 1) := by decide +kernel
theorem dX2_turn_12 : decode cX2_turn 12 = .ok (.aload_n 1, 1) := by decide +kernel
theorem dX2_turn_13 : decode cX2_turn 13 = .ok (.invokevirtual 24, 3) := by decide +kernel
theorem dX2_turn_16 : decode cX2_turn 16 = .ok (.aload_n 0, 1) := by decide +kernel
theorem dX2_turn_17 : decode cX2_turn 17 = .ok (.getfield 28, 3) := by decide +kernel
theorem dX2_turn_20 : decode cX2_turn 20 = .ok (.ifCond .ne 4, 3) := by decide +kernel
theorem dX2_turn_23 : decode cX2_turn 23 = .ok (.return_, 1) := by decide +kernel
theorem dX2_turn_24 : decode cX2_turn 24 = .ok (.iconst 0, 1) := by decide +kernel
theorem dX2_turn_25 : decode cX2_turn 25 = .ok (.istore 4, 2) := by decide +kernel
theorem dX2_turn_27 : decode cX2_turn 27 = .ok (.iload 4, 2) := by decide +kernel
theorem dX2_turn_29 : decode cX2_turn 29 = .ok (.aload_n 0, 1) := by decide +kernel
theorem dX2_turn_30 : decode cX2_turn 30 = .ok (.getfield 28, 3) := by decide +kernel
theorem dX2_turn_33 : decode cX2_turn 33 = .ok (.if_icmp .ge 29, 3) := by decide +kernel
theorem dX2_turn_36 : decode cX2_turn 36 = .ok (.aload_n 0, 1) := by decide +kernel
theorem dX2_turn_37 : decode cX2_turn 37 = .ok (.dup, 1) := by decide +kernel
theorem dX2_turn_38 : decode cX2_turn 38 = .ok (.getfield 32, 3) := by decide +kernel
theorem dX2_turn_41 : decode cX2_turn 41 = .ok (.aload_n 1, 1) := by decide +kernel
theorem dX2_turn_42 : decode cX2_turn 42 = .ok (.aload_n 0, 1) := by decide +kernel
theorem dX2_turn_43 : decode cX2_turn 43 = .ok (.getfield 18, 3) := by decide +kernel
theorem dX2_turn_46 : decode cX2_turn 46 = .ok (.iload 4, 2) := by decide +kernel
theorem dX2_turn_48 : decode cX2_turn 48 = .ok (.iaload, 1) := by decide +kernel
theorem dX2_turn_49 : decode cX2_turn 49 = .ok (.invokevirtual 35, 3) := by decide +kernel
theorem dX2_turn_52 : decode cX2_turn 52 = .ok (.iadd, 1) := by decide +kernel
theorem dX2_turn_53 : decode cX2_turn 53 = .ok (.putfield 32, 3) := by decide +kernel
theorem dX2_turn_56 : decode cX2_turn 56 = .ok (.iinc 4 1, 3) := by decide +kernel
theorem dX2_turn_59 : decode cX2_turn 59 = .ok (.goto (-32), 3) := by decide +kernel
theorem dX2_turn_62 : decode cX2_turn 62 = .ok (.aload_n 1, 1) := by decide +kernel
theorem dX2_turn_63 : decode cX2_turn 63 = .ok (.dup, 1) := by decide +kernel
theorem dX2_turn_64 : decode cX2_turn 64 = .ok (.getfield 41, 3) := by decide +kernel
theorem dX2_turn_67 : decode cX2_turn 67 = .ok (.aload_n 0, 1) := by decide +kernel
theorem dX2_turn_68 : decode cX2_turn 68 = .ok (.getfield 28, 3) := by decide +kernel
theorem dX2_turn_71 : decode cX2_turn 71 = .ok (.aload_n 0, 1) := by decide +kernel
theorem dX2_turn_72 : decode cX2_turn 72 = .ok (.getfield 28, 3) := by decide +kernel
theorem dX2_turn_75 : decode cX2_turn 75 = .ok (.imul, 1) := by decide +kernel
theorem dX2_turn_76 : decode cX2_turn 76 = .ok (.iadd, 1) := by decide +kernel
theorem dX2_turn_77 : decode cX2_turn 77 = .ok (.putfield 41, 3) := by decide +kernel
theorem dX2_turn_80 : decode cX2_turn 80 = .ok (.aload_n 1, 1) := by decide +kernel
theorem dX2_turn_81 : decode cX2_turn 81 = .ok (.dup, 1) := by decide +kernel
theorem dX2_turn_82 : decode cX2_turn 82 = .ok (.getfield 44, 3) := by decide +kernel
theorem dX2_turn_85 : decode cX2_turn 85 = .ok (.iconst 1, 1) := by decide +kernel
theorem dX2_turn_86 : decode cX2_turn 86 = .ok (.iadd, 1) := by decide +kernel
theorem dX2_turn_87 : decode cX2_turn 87 = .ok (.putfield 44, 3) := by decide +kernel
theorem dX2_turn_90 : decode cX2_turn 90 = .ok (.aload_n 0, 1) := by decide +kernel
theorem dX2_turn_91 : decode cX2_turn 91 = .ok (.aload_n 0, 1) := by decide +kernel
theorem dX2_turn_92 : decode cX2_turn 92 = .ok (.getfield 28, 3) := by decide +kernel
theorem dX2_turn_95 : decode cX2_turn 95 = .ok (.aload_n 0, 1) := by decide +kernel
theorem dX2_turn_96 : decode cX2_turn 96 = .ok (.getfield 28, 3) := by decide +kernel
theorem dX2_turn_99 : decode cX2_turn 99 = .ok (.imul, 1) := by decide +kernel
theorem dX2_turn_100 : decode cX2_turn 100 = .ok (.invokevirtual 47, 3) := by decide +kernel
theorem dX2_turn_103 : decode cX2_turn 103 = .ok (.iinc 3 1, 3) := by decide +kernel
theorem dX2_turn_106 : decode cX2_turn 106 = .ok (.goto (-100), 3) := by decide +kernel
theorem dX2_turn_109 : decode cX2_turn 109 = .ok (.return_, 1) := by decide +kernel
theorem dX2_chosenBits_0 : decode cX2_chosenBits 0 = .ok (.lconst 0, 1) := by decide +kernel
theorem dX2_chosenBits_1 : decode cX2_chosenBits 1 = .ok (.lstore_n 1, 1) := by decide +kernel
theorem dX2_chosenBits_2 : decode cX2_chosenBits 2 = .ok (.iconst 0, 1) := by decide +kernel
theorem dX2_chosenBits_3 : decode cX2_chosenBits 3 = .ok (.istore_n 3, 1) := by decide +kernel
theorem dX2_chosenBits_4 : decode cX2_chosenBits 4 = .ok (.iload_n 3, 1) := by decide +kernel
theorem dX2_chosenBits_5 : decode cX2_chosenBits 5 = .ok (.aload_n 0, 1) := by decide +kernel
theorem dX2_chosenBits_6 : decode cX2_chosenBits 6 = .ok (.getfield 28, 3) := by decide +kernel
theorem dX2_chosenBits_9 : decode cX2_chosenBits 9 = .ok (.if_icmp .ge 20, 3) := by decide +kernel
theorem dX2_chosenBits_12 : decode cX2_chosenBits 12 = .ok (.lload_n 1, 1) := by decide +kernel
theorem dX2_chosenBits_13 : decode cX2_chosenBits 13 = .ok (.lconst 1, 1) := by decide +kernel
theorem dX2_chosenBits_14 : decode cX2_chosenBits 14 = .ok (.aload_n 0, 1) := by decide +kernel
theorem dX2_chosenBits_15 : decode cX2_chosenBits 15 = .ok (.getfield 18, 3) := by decide +kernel
theorem dX2_chosenBits_18 : decode cX2_chosenBits 18 = .ok (.iload_n 3, 1) := by decide +kernel
theorem dX2_chosenBits_19 : decode cX2_chosenBits 19 = .ok (.iaload, 1) := by decide +kernel
theorem dX2_chosenBits_20 : decode cX2_chosenBits 20 = .ok (.lshl, 1) := by decide +kernel
theorem dX2_chosenBits_21 : decode cX2_chosenBits 21 = .ok (.lor, 1) := by decide +kernel
theorem dX2_chosenBits_22 : decode cX2_chosenBits 22 = .ok (.lstore_n 1, 1) := by decide +kernel
theorem dX2_chosenBits_23 : decode cX2_chosenBits 23 = .ok (.iinc 3 1, 3) := by decide +kernel
theorem dX2_chosenBits_26 : decode cX2_chosenBits 26 = .ok (.goto (-22), 3) := by decide +kernel
theorem dX2_chosenBits_29 : decode cX2_chosenBits 29 = .ok (.lload_n 1, 1) := by decide +kernel
theorem dX2_chosenBits_30 : decode cX2_chosenBits 30 = .ok (.lreturn, 1) := by decide +kernel
theorem dX4_hasStep_0 : decode cX4_hasStep 0 = .ok (.iload_n 1, 1) := by decide +kernel
theorem dX4_hasStep_1 : decode cX4_hasStep 1 = .ok (.ifCond .lt 15, 3) := by decide +kernel
theorem dX4_hasStep_4 : decode cX4_hasStep 4 = .ok (.iload_n 1, 1) := by decide +kernel
theorem dX4_hasStep_5 : decode cX4_hasStep 5 = .ok (.aload_n 0, 1) := by decide +kernel
theorem dX4_hasStep_6 : decode cX4_hasStep 6 = .ok (.getfield 33, 3) := by decide +kernel
theorem dX4_hasStep_9 : decode cX4_hasStep 9 = .ok (.if_icmp .ge 7, 3) := by decide +kernel
theorem dX4_hasStep_12 : decode cX4_hasStep 12 = .ok (.iconst 1, 1) := by decide +kernel
theorem dX4_hasStep_13 : decode cX4_hasStep 13 = .ok (.goto 4, 3) := by decide +kernel
theorem dX4_hasStep_16 : decode cX4_hasStep 16 = .ok (.iconst 0, 1) := by decide +kernel
theorem dX4_hasStep_17 : decode cX4_hasStep 17 = .ok (.ireturn, 1) := by decide +kernel
theorem dX4_kindOf_0 : decode cX4_kindOf 0 = .ok (.aload_n 0, 1) := by decide +kernel
theorem dX4_kindOf_1 : decode cX4_kindOf 1 = .ok (.iload_n 1, 1) := by decide +kernel
theorem dX4_kindOf_2 : decode cX4_kindOf 2 = .ok (.invokevirtual 37, 3) := by decide +kernel
theorem dX4_kindOf_5 : decode cX4_kindOf 5 = .ok (.ifCond .eq 12, 3) := by decide +kernel
theorem dX4_kindOf_8 : decode cX4_kindOf 8 = .ok (.aload_n 0, 1) := by decide +kernel
theorem dX4_kindOf_9 : decode cX4_kindOf 9 = .ok (.getfield 11, 3) := by decide +kernel
theorem dX4_kindOf_12 : decode cX4_kindOf 12 = .ok (.iload_n 1, 1) := by decide +kernel
theorem dX4_kindOf_13 : decode cX4_kindOf 13 = .ok (.iaload, 1) := by decide +kernel
theorem dX4_kindOf_14 : decode cX4_kindOf 14 = .ok (.goto 4, 3) := by decide +kernel
theorem dX4_kindOf_17 : decode cX4_kindOf 17 = .ok (.iconst 0, 1) := by decide +kernel
theorem dX4_kindOf_18 : decode cX4_kindOf 18 = .ok (.ireturn, 1) := by decide +kernel
theorem dX4_oneOf_0 : decode cX4_oneOf 0 = .ok (.aload_n 0, 1) := by decide +kernel
theorem dX4_oneOf_1 : decode cX4_oneOf 1 = .ok (.iload_n 1, 1) := by decide +kernel
theorem dX4_oneOf_2 : decode cX4_oneOf 2 = .ok (.invokevirtual 37, 3) := by decide +kernel
theorem dX4_oneOf_5 : decode cX4_oneOf 5 = .ok (.ifCond .eq 12, 3) := by decide +kernel
theorem dX4_oneOf_8 : decode cX4_oneOf 8 = .ok (.aload_n 0, 1) := by decide +kernel
theorem dX4_oneOf_9 : decode cX4_oneOf 9 = .ok (.getfield 15, 3) := by decide +kernel
theorem dX4_oneOf_12 : decode cX4_oneOf 12 = .ok (.iload_n 1, 1) := by decide +kernel
theorem dX4_oneOf_13 : decode cX4_oneOf 13 = .ok (.iaload, 1) := by decide +kernel
theorem dX4_oneOf_14 : decode cX4_oneOf 14 = .ok (.goto 4, 3) := by decide +kernel
theorem dX4_oneOf_17 : decode cX4_oneOf 17 = .ok (.iconst 0, 1) := by decide +kernel
theorem dX4_oneOf_18 : decode cX4_oneOf 18 = .ok (.ireturn, 1) := by decide +kernel
theorem dX4_twoOf_0 : decode cX4_twoOf 0 = .ok (.aload_n 0, 1) := by decide +kernel
theorem dX4_twoOf_1 : decode cX4_twoOf 1 = .ok (.iload_n 1, 1) := by decide +kernel
theorem dX4_twoOf_2 : decode cX4_twoOf 2 = .ok (.invokevirtual 37, 3) := by decide +kernel
theorem dX4_twoOf_5 : decode cX4_twoOf 5 = .ok (.ifCond .eq 12, 3) := by decide +kernel
theorem dX4_twoOf_8 : decode cX4_twoOf 8 = .ok (.aload_n 0, 1) := by decide +kernel
theorem dX4_twoOf_9 : decode cX4_twoOf 9 = .ok (.getfield 18, 3) := by decide +kernel
theorem dX4_twoOf_12 : decode cX4_twoOf 12 = .ok (.iload_n 1, 1) := by decide +kernel
theorem dX4_twoOf_13 : decode cX4_twoOf 13 = .ok (.iaload, 1) := by decide +kernel
theorem dX4_twoOf_14 : decode cX4_twoOf 14 = .ok (.goto 4, 3) := by decide +kernel
theorem dX4_twoOf_17 : decode cX4_twoOf 17 = .ok (.iconst 0, 1) := by decide +kernel
theorem dX4_twoOf_18 : decode cX4_twoOf 18 = .ok (.ireturn, 1) := by decide +kernel
theorem dX4_quotedOf_0 : decode cX4_quotedOf 0 = .ok (.aload_n 0, 1) := by decide +kernel
theorem dX4_quotedOf_1 : decode cX4_quotedOf 1 = .ok (.iload_n 1, 1) := by decide +kernel
theorem dX4_quotedOf_2 : decode cX4_quotedOf 2 = .ok (.invokevirtual 37, 3) := by decide +kernel
theorem dX4_quotedOf_5 : decode cX4_quotedOf 5 = .ok (.ifCond .eq 12, 3) := by decide +kernel
theorem dX4_quotedOf_8 : decode cX4_quotedOf 8 = .ok (.aload_n 0, 1) := by decide +kernel
theorem dX4_quotedOf_9 : decode cX4_quotedOf 9 = .ok (.getfield 21, 3) := by decide +kernel
theorem dX4_quotedOf_12 : decode cX4_quotedOf 12 = .ok (.iload_n 1, 1) := by decide +kernel
theorem dX4_quotedOf_13 : decode cX4_quotedOf 13 = .ok (.iaload, 1) := by decide +kernel
theorem dX4_quotedOf_14 : decode cX4_quotedOf 14 = .ok (.goto 4, 3) := by decide +kernel
theorem dX4_quotedOf_17 : decode cX4_quotedOf 17 = .ok (.iconst 0, 1) := by decide +kernel
theorem dX4_quotedOf_18 : decode cX4_quotedOf 18 = .ok (.ireturn, 1) := by decide +kernel
theorem dX4_endOf_0 : decode cX4_endOf 0 = .ok (.aload_n 0, 1) := by decide +kernel
theorem dX4_endOf_1 : decode cX4_endOf 1 = .ok (.iload_n 1, 1) := by decide +kernel
theorem dX4_endOf_2 : decode cX4_endOf 2 = .ok (.invokevirtual 37, 3) := by decide +kernel
theorem dX4_endOf_5 : decode cX4_endOf 5 = .ok (.ifCond .eq 12, 3) := by decide +kernel
theorem dX4_endOf_8 : decode cX4_endOf 8 = .ok (.aload_n 0, 1) := by decide +kernel
theorem dX4_endOf_9 : decode cX4_endOf 9 = .ok (.getfield 24, 3) := by decide +kernel
theorem dX4_endOf_12 : decode cX4_endOf 12 = .ok (.iload_n 1, 1) := by decide +kernel
theorem dX4_endOf_13 : decode cX4_endOf 13 = .ok (.iaload, 1) := by decide +kernel
theorem dX4_endOf_14 : decode cX4_endOf 14 = .ok (.goto 7, 3) := by decide +kernel
theorem dX4_endOf_17 : decode cX4_endOf 17 = .ok (.aload_n 0, 1) := by decide +kernel
theorem dX4_endOf_18 : decode cX4_endOf 18 = .ok (.getfield 33, 3) := by decide +kernel
theorem dX4_endOf_21 : decode cX4_endOf 21 = .ok (.ireturn, 1) := by decide +kernel
theorem dX4_startDoing_0 : decode cX4_startDoing 0 = .ok (.aload_n 0, 1) := by decide +kernel
theorem dX4_startDoing_1 : decode cX4_startDoing 1 = .ok (.iconst 0, 1) := by decide +kernel
theorem dX4_startDoing_2 : decode cX4_startDoing 2 = .ok (.putfield 41, 3) := by decide +kernel
theorem dX4_startDoing_5 : decode cX4_startDoing 5 = .ok (.aload_n 0, 1) := by decide +kernel
theorem dX4_startDoing_6 : decode cX4_startDoing 6 = .ok (.iconst 0, 1) := by decide +kernel
theorem dX4_startDoing_7 : decode cX4_startDoing 7 = .ok (.putfield 44, 3) := by decide +kernel
theorem dX4_startDoing_10 : decode cX4_startDoing 10 = .ok (.return_, 1) := by decide +kernel
theorem dX4_goOn_0 : decode cX4_goOn 0 = .ok (.aload_n 0, 1) := by decide +kernel
theorem dX4_goOn_1 : decode cX4_goOn 1 = .ok (.aload_n 0, 1) := by decide +kernel
theorem dX4_goOn_2 : decode cX4_goOn 2 = .ok (.getfield 41, 3) := by decide +kernel
theorem dX4_goOn_5 : decode cX4_goOn 5 = .ok (.invokevirtual 47, 3) := by decide +kernel
theorem dX4_goOn_8 : decode cX4_goOn 8 = .ok (.bipush 12, 2) := by decide +kernel
theorem dX4_goOn_10 : decode cX4_goOn 10 = .ok (.if_icmp .ne 75, 3) := by decide +kernel
theorem dX4_goOn_13 : decode cX4_goOn 13 = .ok (.aload_n 0, 1) := by decide +kernel
theorem dX4_goOn_14 : decode cX4_goOn 14 = .ok (.aload_n 0, 1) := by decide +kernel
theorem dX4_goOn_15 : decode cX4_goOn 15 = .ok (.getfield 41, 3) := by decide +kernel
theorem dX4_goOn_18 : decode cX4_goOn 18 = .ok (.invokevirtual 51, 3) := by decide +kernel
theorem dX4_goOn_21 : decode cX4_goOn 21 = .ok (.ifCond .le 64, 3) := by decide +kernel
theorem dX4_goOn_24 : decode cX4_goOn 24 = .ok (.aload_n 0, 1) := by decide +kernel
theorem dX4_goOn_25 : decode cX4_goOn 25 = .ok (.getfield 44, 3) := by decide +kernel
theorem dX4_goOn_28 : decode cX4_goOn 28 = .ok (.iconst 3, 1) := by decide +kernel
theorem dX4_goOn_29 : decode cX4_goOn 29 = .ok (.if_icmp .ge 56, 3) := by decide +kernel
theorem dX4_goOn_32 : decode cX4_goOn 32 = .ok (.aload_n 0, 1) := by decide +kernel
theorem dX4_goOn_33 : decode cX4_goOn 33 = .ok (.getfield 27, 3) := by decide +kernel
theorem dX4_goOn_36 : decode cX4_goOn 36 = .ok (.aload_n 0, 1) := by decide +kernel
theorem dX4_goOn_37 : decode cX4_goOn 37 = .ok (.getfield 44, 3) := by decide +kernel
theorem dX4_goOn_40 : decode cX4_goOn 40 = .ok (.aload_n 0, 1) := by decide +kernel
theorem dX4_goOn_41 : decode cX4_goOn 41 = .ok (.getfield 41, 3) := by decide +kernel
theorem dX4_goOn_44 : decode cX4_goOn 44 = .ok (.iastore, 1) := by decide +kernel
theorem dX4_goOn_45 : decode cX4_goOn 45 = .ok (.aload_n 0, 1) := by decide +kernel
theorem dX4_goOn_46 : decode cX4_goOn 46 = .ok (.getfield 30, 3) := by decide +kernel
theorem dX4_goOn_49 : decode cX4_goOn 49 = .ok (.aload_n 0, 1) := by decide +kernel
theorem dX4_goOn_50 : decode cX4_goOn 50 = .ok (.getfield 44, 3) := by decide +kernel
theorem dX4_goOn_53 : decode cX4_goOn 53 = .ok (.aload_n 0, 1) := by decide +kernel
theorem dX4_goOn_54 : decode cX4_goOn 54 = .ok (.aload_n 0, 1) := by decide +kernel
theorem dX4_goOn_55 : decode cX4_goOn 55 = .ok (.getfield 41, 3) := by decide +kernel
theorem dX4_goOn_58 : decode cX4_goOn 58 = .ok (.invokevirtual 51, 3) := by decide +kernel
theorem dX4_goOn_61 : decode cX4_goOn 61 = .ok (.iconst 1, 1) := by decide +kernel
theorem dX4_goOn_62 : decode cX4_goOn 62 = .ok (.isub, 1) := by decide +kernel
theorem dX4_goOn_63 : decode cX4_goOn 63 = .ok (.iastore, 1) := by decide +kernel
theorem dX4_goOn_64 : decode cX4_goOn 64 = .ok (.aload_n 0, 1) := by decide +kernel
theorem dX4_goOn_65 : decode cX4_goOn 65 = .ok (.dup, 1) := by decide +kernel
theorem dX4_goOn_66 : decode cX4_goOn 66 = .ok (.getfield 44, 3) := by decide +kernel
theorem dX4_goOn_69 : decode cX4_goOn 69 = .ok (.iconst 1, 1) := by decide +kernel
theorem dX4_goOn_70 : decode cX4_goOn 70 = .ok (.iadd, 1) := by decide +kernel
theorem dX4_goOn_71 : decode cX4_goOn 71 = .ok (.putfield 44, 3) := by decide +kernel
theorem dX4_goOn_74 : decode cX4_goOn 74 = .ok (.aload_n 0, 1) := by decide +kernel
theorem dX4_goOn_75 : decode cX4_goOn 75 = .ok (.dup, 1) := by decide +kernel
theorem dX4_goOn_76 : decode cX4_goOn 76 = .ok (.getfield 41, 3) := by decide +kernel
theorem dX4_goOn_79 : decode cX4_goOn 79 = .ok (.iconst 1, 1) := by decide +kernel
theorem dX4_goOn_80 : decode cX4_goOn 80 = .ok (.iadd, 1) := by decide +kernel
