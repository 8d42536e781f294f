theorem dX7_readsDrum_72 : decode cX7_readsDrum 72 = .ok (.iload_n 2, 1) := by decide +kernel
theorem dX7_readsDrum_73 : decode cX7_readsDrum 73 = .ok (.iload_n 1, 1) := by decide +kernel
theorem dX7_readsDrum_74 : decode cX7_readsDrum 74 = .ok (.i2l, 1) := by decide +kernel
theorem dX7_readsDrum_75 : decode cX7_readsDrum 75 = .ok (.lastore, 1) := by decide +kernel
theorem dX7_readsDrum_76 : decode cX7_readsDrum 76 = .ok (.aload_n 0, 1) := by decide +kernel
theorem dX7_readsDrum_77 : decode cX7_readsDrum 77 = .ok (.getfield 7, 3) := by decide +kernel
theorem dX7_readsDrum_80 : decode cX7_readsDrum 80 = .ok (.iload_n 2, 1) := by decide +kernel
theorem dX7_readsDrum_81 : decode cX7_readsDrum 81 = .ok (.iconst 1, 1) := by decide +kernel
theorem dX7_readsDrum_82 : decode cX7_readsDrum 82 = .ok (.iadd, 1) := by decide +kernel
theorem dX7_readsDrum_83 : decode cX7_readsDrum 83 = .ok (.aload_n 0, 1) := by decide +kernel
theorem dX7_readsDrum_84 : decode cX7_readsDrum 84 = .ok (.getfield 308, 3) := by decide +kernel
theorem dX7_readsDrum_87 : decode cX7_readsDrum 87 = .ok (.i2l, 1) := by decide +kernel
theorem dX7_readsDrum_88 : decode cX7_readsDrum 88 = .ok (.lastore, 1) := by decide +kernel
theorem dX7_readsDrum_89 : decode cX7_readsDrum 89 = .ok (.iconst 0, 1) := by decide +kernel
theorem dX7_readsDrum_90 : decode cX7_readsDrum 90 = .ok (.istore_n 3, 1) := by decide +kernel
theorem dX7_readsDrum_91 : decode cX7_readsDrum 91 = .ok (.iload_n 3, 1) := by decide +kernel
theorem dX7_readsDrum_92 : decode cX7_readsDrum 92 = .ok (.aload_n 0, 1) := by decide +kernel
theorem dX7_readsDrum_93 : decode cX7_readsDrum 93 = .ok (.getfield 308, 3) := by decide +kernel
theorem dX7_readsDrum_96 : decode cX7_readsDrum 96 = .ok (.if_icmp .ge 31, 3) := by decide +kernel
theorem dX7_readsDrum_99 : decode cX7_readsDrum 99 = .ok (.aload_n 0, 1) := by decide +kernel
theorem dX7_readsDrum_100 : decode cX7_readsDrum 100 = .ok (.getfield 7, 3) := by decide +kernel
theorem dX7_readsDrum_103 : decode cX7_readsDrum 103 = .ok (.iload_n 2, 1) := by decide +kernel
theorem dX7_readsDrum_104 : decode cX7_readsDrum 104 = .ok (.iconst 2, 1) := by decide +kernel
theorem dX7_readsDrum_105 : decode cX7_readsDrum 105 = .ok (.iadd, 1) := by decide +kernel
theorem dX7_readsDrum_106 : decode cX7_readsDrum 106 = .ok (.iload_n 3, 1) := by decide +kernel
theorem dX7_readsDrum_107 : decode cX7_readsDrum 107 = .ok (.iadd, 1) := by decide +kernel
theorem dX7_readsDrum_108 : decode cX7_readsDrum 108 = .ok (.aload_n 0, 1) := by decide +kernel
theorem dX7_readsDrum_109 : decode cX7_readsDrum 109 = .ok (.getfield 31, 3) := by decide +kernel
theorem dX7_readsDrum_112 : decode cX7_readsDrum 112 = .ok (.aload_n 0, 1) := by decide +kernel
theorem dX7_readsDrum_113 : decode cX7_readsDrum 113 = .ok (.getfield 305, 3) := by decide +kernel
theorem dX7_readsDrum_116 : decode cX7_readsDrum 116 = .ok (.iload_n 3, 1) := by decide +kernel
theorem dX7_readsDrum_117 : decode cX7_readsDrum 117 = .ok (.iadd, 1) := by decide +kernel
theorem dX7_readsDrum_118 : decode cX7_readsDrum 118 = .ok (.baload, 1) := by decide +kernel
theorem dX7_readsDrum_119 : decode cX7_readsDrum 119 = .ok (.i2l, 1) := by decide +kernel
theorem dX7_readsDrum_120 : decode cX7_readsDrum 120 = .ok (.lastore, 1) := by decide +kernel
theorem dX7_readsDrum_121 : decode cX7_readsDrum 121 = .ok (.iinc 3 1, 3) := by decide +kernel
theorem dX7_readsDrum_124 : decode cX7_readsDrum 124 = .ok (.goto (-33), 3) := by decide +kernel
theorem dX7_readsDrum_127 : decode cX7_readsDrum 127 = .ok (.aload_n 0, 1) := by decide +kernel
theorem dX7_readsDrum_128 : decode cX7_readsDrum 128 = .ok (.getfield 7, 3) := by decide +kernel
theorem dX7_readsDrum_131 : decode cX7_readsDrum 131 = .ok (.iconst 3, 1) := by decide +kernel
theorem dX7_readsDrum_132 : decode cX7_readsDrum 132 = .ok (.dup2, 1) := by decide +kernel
theorem dX7_readsDrum_133 : decode cX7_readsDrum 133 = .ok (.laload, 1) := by decide +kernel
theorem dX7_readsDrum_134 : decode cX7_readsDrum 134 = .ok (.lconst 1, 1) := by decide +kernel
theorem dX7_readsDrum_135 : decode cX7_readsDrum 135 = .ok (.ladd, 1) := by decide +kernel
theorem dX7_readsDrum_136 : decode cX7_readsDrum 136 = .ok (.lastore, 1) := by decide +kernel
theorem dX7_readsDrum_137 : decode cX7_readsDrum 137 = .ok (.iconst 1, 1) := by decide +kernel
theorem dX7_readsDrum_138 : decode cX7_readsDrum 138 = .ok (.ireturn, 1) := by decide +kernel
theorem dX7_readsCells_0 : decode cX7_readsCells 0 = .ok (.aload_n 0, 1) := by decide +kernel
theorem dX7_readsCells_1 : decode cX7_readsCells 1 = .ok (.dup, 1) := by decide +kernel
theorem dX7_readsCells_2 : decode cX7_readsCells 2 = .ok (.getfield 254, 3) := by decide +kernel
theorem dX7_readsCells_5 : decode cX7_readsCells 5 = .ok (.iconst 5, 1) := by decide +kernel
theorem dX7_readsCells_6 : decode cX7_readsCells 6 = .ok (.iadd, 1) := by decide +kernel
theorem dX7_readsCells_7 : decode cX7_readsCells 7 = .ok (.putfield 254, 3) := by decide +kernel
theorem dX7_readsCells_10 : decode cX7_readsCells 10 = .ok (.aload_n 0, 1) := by decide +kernel
theorem dX7_readsCells_11 : decode cX7_readsCells 11 = .ok (.iconst 0, 1) := by decide +kernel
theorem dX7_readsCells_12 : decode cX7_readsCells 12 = .ok (.aload_n 0, 1) := by decide +kernel
theorem dX7_readsCells_13 : decode cX7_readsCells 13 = .ok (.invokevirtual 53, 3) := by decide +kernel
theorem dX7_readsCells_16 : decode cX7_readsCells 16 = .ok (.iconst 1, 1) := by decide +kernel
theorem dX7_readsCells_17 : decode cX7_readsCells 17 = .ok (.isub, 1) := by decide +kernel
theorem dX7_readsCells_18 : decode cX7_readsCells 18 = .ok (.invokevirtual 311, 3) := by decide +kernel
theorem dX7_readsCells_21 : decode cX7_readsCells 21 = .ok (.ifCond .ne 5, 3) := by decide +kernel
theorem dX7_readsCells_24 : decode cX7_readsCells 24 = .ok (.iconst 0, 1) := by decide +kernel
theorem dX7_readsCells_25 : decode cX7_readsCells 25 = .ok (.ireturn, 1) := by decide +kernel
theorem dX7_readsCells_26 : decode cX7_readsCells 26 = .ok (.aload_n 0, 1) := by decide +kernel
theorem dX7_readsCells_27 : decode cX7_readsCells 27 = .ok (.getfield 299, 3) := by decide +kernel
theorem dX7_readsCells_30 : decode cX7_readsCells 30 = .ok (.istore_n 1, 1) := by decide +kernel
theorem dX7_readsCells_31 : decode cX7_readsCells 31 = .ok (.aload_n 0, 1) := by decide +kernel
theorem dX7_readsCells_32 : decode cX7_readsCells 32 = .ok (.iload_n 1, 1) := by decide +kernel
theorem dX7_readsCells_33 : decode cX7_readsCells 33 = .ok (.aload_n 0, 1) := by decide +kernel
theorem dX7_readsCells_34 : decode cX7_readsCells 34 = .ok (.invokevirtual 53, 3) := by decide +kernel
theorem dX7_readsCells_37 : decode cX7_readsCells 37 = .ok (.iconst 1, 1) := by decide +kernel
theorem dX7_readsCells_38 : decode cX7_readsCells 38 = .ok (.isub, 1) := by decide +kernel
theorem dX7_readsCells_39 : decode cX7_readsCells 39 = .ok (.invokevirtual 311, 3) := by decide +kernel
theorem dX7_readsCells_42 : decode cX7_readsCells 42 = .ok (.ifCond .ne 5, 3) := by decide +kernel
theorem dX7_readsCells_45 : decode cX7_readsCells 45 = .ok (.iconst 0, 1) := by decide +kernel
theorem dX7_readsCells_46 : decode cX7_readsCells 46 = .ok (.ireturn, 1) := by decide +kernel
theorem dX7_readsCells_47 : decode cX7_readsCells 47 = .ok (.aload_n 0, 1) := by decide +kernel
theorem dX7_readsCells_48 : decode cX7_readsCells 48 = .ok (.getfield 299, 3) := by decide +kernel
theorem dX7_readsCells_51 : decode cX7_readsCells 51 = .ok (.istore_n 2, 1) := by decide +kernel
theorem dX7_readsCells_52 : decode cX7_readsCells 52 = .ok (.aload_n 0, 1) := by decide +kernel
theorem dX7_readsCells_53 : decode cX7_readsCells 53 = .ok (.iconst 0, 1) := by decide +kernel
theorem dX7_readsCells_54 : decode cX7_readsCells 54 = .ok (.aload_n 0, 1) := by decide +kernel
theorem dX7_readsCells_55 : decode cX7_readsCells 55 = .ok (.invokevirtual 50, 3) := by decide +kernel
theorem dX7_readsCells_58 : decode cX7_readsCells 58 = .ok (.iconst 1, 1) := by decide +kernel
theorem dX7_readsCells_59 : decode cX7_readsCells 59 = .ok (.isub, 1) := by decide +kernel
theorem dX7_readsCells_60 : decode cX7_readsCells 60 = .ok (.invokevirtual 311, 3) := by decide +kernel
theorem dX7_readsCells_63 : decode cX7_readsCells 63 = .ok (.ifCond .ne 5, 3) := by decide +kernel
theorem dX7_readsCells_66 : decode cX7_readsCells 66 = .ok (.iconst 0, 1) := by decide +kernel
theorem dX7_readsCells_67 : decode cX7_readsCells 67 = .ok (.ireturn, 1) := by decide +kernel
theorem dX7_readsCells_68 : decode cX7_readsCells 68 = .ok (.iload_n 1, 1) := by decide +kernel
theorem dX7_readsCells_69 : decode cX7_readsCells 69 = .ok (.istore_n 3, 1) := by decide +kernel
theorem dX7_readsCells_70 : decode cX7_readsCells 70 = .ok (.iload_n 3, 1) := by decide +kernel
theorem dX7_readsCells_71 : decode cX7_readsCells 71 = .ok (.iload_n 2, 1) := by decide +kernel
theorem dX7_readsCells_72 : decode cX7_readsCells 72 = .ok (.if_icmp .gt 44, 3) := by decide +kernel
theorem dX7_readsCells_75 : decode cX7_readsCells 75 = .ok (.iconst 0, 1) := by decide +kernel
theorem dX7_readsCells_76 : decode cX7_readsCells 76 = .ok (.istore 4, 2) := by decide +kernel
theorem dX7_readsCells_78 : decode cX7_readsCells 78 = .ok (.iload 4, 2) := by decide +kernel
theorem dX7_readsCells_80 : decode cX7_readsCells 80 = .ok (.bipush 8, 2) := by decide +kernel
theorem dX7_readsCells_82 : decode cX7_readsCells 82 = .ok (.if_icmp .ge 17, 3) := by decide +kernel
theorem dX7_readsCells_85 : decode cX7_readsCells 85 = .ok (.aload_n 0, 1) := by decide +kernel
theorem dX7_readsCells_86 : decode cX7_readsCells 86 = .ok (.iload_n 3, 1) := by decide +kernel
theorem dX7_readsCells_87 : decode cX7_readsCells 87 = .ok (.iload 4, 2) := by decide +kernel
theorem dX7_readsCells_89 : decode cX7_readsCells 89 = .ok (.lconst 0, 1) := by decide +kernel
theorem dX7_readsCells_90 : decode cX7_readsCells 90 = .ok (.invokevirtual 78, 3) := by decide +kernel
theorem dX7_readsCells_93 : decode cX7_readsCells 93 = .ok (.iinc 4 1, 3) := by decide +kernel
theorem dX7_readsCells_96 : decode cX7_readsCells 96 = .ok (.goto (-18), 3) := by decide +kernel
theorem dX7_readsCells_99 : decode cX7_readsCells 99 = .ok (.aload_n 0, 1) := by decide +kernel
theorem dX7_readsCells_100 : decode cX7_readsCells 100 = .ok (.iload_n 3, 1) := by decide +kernel
theorem dX7_readsCells_101 : decode cX7_readsCells 101 = .ok (.iconst 0, 1) := by decide +kernel
theorem dX7_readsCells_102 : decode cX7_readsCells 102 = .ok (.aload_n 0, 1) := by decide +kernel
theorem dX7_readsCells_103 : decode cX7_readsCells 103 = .ok (.getfield 299, 3) := by decide +kernel
theorem dX7_readsCells_106 : decode cX7_readsCells 106 = .ok (.i2l, 1) := by decide +kernel
theorem dX7_readsCells_107 : decode cX7_readsCells 107 = .ok (.invokevirtual 78, 3) := by decide +kernel
theorem dX7_readsCells_110 : decode cX7_readsCells 110 = .ok (.iinc 3 1, 3) := by decide +kernel
theorem dX7_readsCells_113 : decode cX7_readsCells 113 = .ok (.goto (-43), 3) := by decide +kernel
theorem dX7_readsCells_116 : decode cX7_readsCells 116 = .ok (.iconst 1, 1) := by decide +kernel
theorem dX7_readsCells_117 : decode cX7_readsCells 117 = .ok (.ireturn, 1) := by decide +kernel
theorem dX7_readsWorn_0 : decode cX7_readsWorn 0 = .ok (.aload_n 0, 1) := by decide +kernel
theorem dX7_readsWorn_1 : decode cX7_readsWorn 1 = .ok (.dup, 1) := by decide +kernel
theorem dX7_readsWorn_2 : decode cX7_readsWorn 2 = .ok (.getfield 254, 3) := by decide +kernel
theorem dX7_readsWorn_5 : decode cX7_readsWorn 5 = .ok (.iconst 4, 1) := by decide +kernel
theorem dX7_readsWorn_6 : decode cX7_readsWorn 6 = .ok (.iadd, 1) := by decide +kernel
theorem dX7_readsWorn_7 : decode cX7_readsWorn 7 = .ok (.putfield 254, 3) := by decide +kernel
theorem dX7_readsWorn_10 : decode cX7_readsWorn 10 = .ok (.aload_n 0, 1) := by decide +kernel
theorem dX7_readsWorn_11 : decode cX7_readsWorn 11 = .ok (.iconst 0, 1) := by decide +kernel
theorem dX7_readsWorn_12 : decode cX7_readsWorn 12 = .ok (.aload_n 0, 1) := by decide +kernel
theorem dX7_readsWorn_13 : decode cX7_readsWorn 13 = .ok (.invokevirtual 53, 3) := by decide +kernel
theorem dX7_readsWorn_16 : decode cX7_readsWorn 16 = .ok (.iconst 1, 1) := by decide +kernel
theorem dX7_readsWorn_17 : decode cX7_readsWorn 17 = .ok (.isub, 1) := by decide +kernel
theorem dX7_readsWorn_18 : decode cX7_readsWorn 18 = .ok (.invokevirtual 311, 3) := by decide +kernel
theorem dX7_readsWorn_21 : decode cX7_readsWorn 21 = .ok (.ifCond .ne 5, 3) := by decide +kernel
theorem dX7_readsWorn_24 : decode cX7_readsWorn 24 = .ok (.iconst 0, 1) := by decide +kernel
theorem dX7_readsWorn_25 : decode cX7_readsWorn 25 = .ok (.ireturn, 1) := by decide +kernel
theorem dX7_readsWorn_26 : decode cX7_readsWorn 26 = .ok (.aload_n 0, 1) := by decide +kernel
theorem dX7_readsWorn_27 : decode cX7_readsWorn 27 = .ok (.getfield 299, 3) := by decide +kernel
theorem dX7_readsWorn_30 : decode cX7_readsWorn 30 = .ok (.istore_n 1, 1) := by decide +kernel
theorem dX7_readsWorn_31 : decode cX7_readsWorn 31 = .ok (.aload_n 0, 1) := by decide +kernel
theorem dX7_readsWorn_32 : decode cX7_readsWorn 32 = .ok (.iconst 1, 1) := by decide +kernel
theorem dX7_readsWorn_33 : decode cX7_readsWorn 33 = .ok (.aload_n 0, 1) := by decide +kernel
theorem dX7_readsWorn_34 : decode cX7_readsWorn 34 = .ok (.iload_n 1, 1) := by decide +kernel
theorem dX7_readsWorn_35 : decode cX7_readsWorn 35 = .ok (.invokevirtual 67, 3) := by decide +kernel
theorem dX7_readsWorn_38 : decode cX7_readsWorn 38 = .ok (.iconst 1, 1) := by decide +kernel
theorem dX7_readsWorn_39 : decode cX7_readsWorn 39 = .ok (.isub, 1) := by decide +kernel
theorem dX7_readsWorn_40 : decode cX7_readsWorn 40 = .ok (.invokevirtual 311, 3) := by decide +kernel
theorem dX7_readsWorn_43 : decode cX7_readsWorn 43 = .ok (.ifCond .ne 5, 3) := by decide +kernel
theorem dX7_readsWorn_46 : decode cX7_readsWorn 46 = .ok (.iconst 0, 1) := by decide +kernel
theorem dX7_readsWorn_47 : decode cX7_readsWorn 47 = .ok (.ireturn, 1) := by decide +kernel
theorem dX7_readsWorn_48 : decode cX7_readsWorn 48 = .ok (.aload_n 0, 1) := by decide +kernel
theorem dX7_readsWorn_49 : decode cX7_readsWorn 49 = .ok (.iload_n 1, 1) := by decide +kernel
theorem dX7_readsWorn_50 : decode cX7_readsWorn 50 = .ok (.invokevirtual 109, 3) := by decide +kernel
theorem dX7_readsWorn_53 : decode cX7_readsWorn 53 = .ok (.aload_n 0, 1) := by decide +kernel
theorem dX7_readsWorn_54 : decode cX7_readsWorn 54 = .ok (.getfield 299, 3) := by decide +kernel
theorem dX7_readsWorn_57 : decode cX7_readsWorn 57 = .ok (.invokestatic 74, 3) := by decide +kernel
theorem dX7_readsWorn_60 : decode cX7_readsWorn 60 = .ok (.ifCond .eq 13, 3) := by decide +kernel
theorem dX7_readsWorn_63 : decode cX7_readsWorn 63 = .ok (.aload_n 0, 1) := by decide +kernel
theorem dX7_readsWorn_64 : decode cX7_readsWorn 64 = .ok (.iconst 2, 1) := by decide +kernel
theorem dX7_readsWorn_65 : decode cX7_readsWorn 65 = .ok (.aload_n 0, 1) := by decide +kernel
theorem dX7_readsWorn_66 : decode cX7_readsWorn 66 = .ok (.getfield 296, 3) := by decide +kernel
theorem dX7_readsWorn_69 : decode cX7_readsWorn 69 = .ok (.invokevirtual 286, 3) := by decide +kernel
theorem dX7_readsWorn_72 : decode cX7_readsWorn 72 = .ok (.ireturn, 1) := by decide +kernel
theorem dX7_readsWorn_73 : decode cX7_readsWorn 73 = .ok (.aload_n 0, 1) := by decide +kernel
theorem dX7_readsWorn_74 : decode cX7_readsWorn 74 = .ok (.iload_n 1, 1) := by decide +kernel
theorem dX7_readsWorn_75 : decode cX7_readsWorn 75 = .ok (.aload_n 0, 1) := by decide +kernel
theorem dX7_readsWorn_76 : decode cX7_readsWorn 76 = .ok (.getfield 299, 3) := by decide +kernel
theorem dX7_readsWorn_79 : decode cX7_readsWorn 79 = .ok (.invokevirtual 170, 3) := by decide +kernel
theorem dX7_readsWorn_82 : decode cX7_readsWorn 82 = .ok (.iconst 1, 1) := by decide +kernel
theorem dX7_readsWorn_83 : decode cX7_readsWorn 83 = .ok (.ireturn, 1) := by decide +kernel
theorem dX7_readsRow_0 : decode cX7_readsRow 0 = .ok (.aload_n 0, 1) := by decide +kernel
theorem dX7_readsRow_1 : decode cX7_readsRow 1 = .ok (.dup, 1) := by decide +kernel
theorem dX7_readsRow_2 : decode cX7_readsRow 2 = .ok (.getfield 254, 3) := by decide +kernel
theorem dX7_readsRow_5 : decode cX7_readsRow 5 = .ok (.iconst 3, 1) := by decide +kernel
theorem dX7_readsRow_6 : decode cX7_readsRow 6 = .ok (.iadd, 1) := by decide +kernel
theorem dX7_readsRow_7 : decode cX7_readsRow 7 = .ok (.putfield 254, 3) := by decide +kernel
theorem dX7_readsRow_10 : decode cX7_readsRow 10 = .ok (.aload_n 0, 1) := by decide +kernel
theorem dX7_readsRow_11 : decode cX7_readsRow 11 = .ok (.iconst 0, 1) := by decide +kernel
theorem dX7_readsRow_12 : decode cX7_readsRow 12 = .ok (.aload_n 0, 1) := by decide +kernel
theorem dX7_readsRow_13 : decode cX7_readsRow 13 = .ok (.invokevirtual 43, 3) := by decide +kernel
theorem dX7_readsRow_16 : decode cX7_readsRow 16 = .ok (.iconst 1, 1) := by decide +kernel
theorem dX7_readsRow_17 : decode cX7_readsRow 17 = .ok (.isub, 1) := by decide +kernel
theorem dX7_readsRow_18 : decode cX7_readsRow 18 = .ok (.invokevirtual 311, 3) := by decide +kernel
theorem dX7_readsRow_21 : decode cX7_readsRow 21 = .ok (.ifCond .ne 5, 3) := by decide +kernel
theorem dX7_readsRow_24 : decode cX7_readsRow 24 = .ok (.iconst 0, 1) := by decide +kernel
theorem dX7_readsRow_25 : decode cX7_readsRow 25 = .ok (.ireturn, 1) := by decide +kernel
theorem dX7_readsRow_26 : decode cX7_readsRow 26 = .ok (.aload_n 0, 1) := by decide +kernel
theorem dX7_readsRow_27 : decode cX7_readsRow 27 = .ok (.getfield 299, 3) := by decide +kernel
theorem dX7_readsRow_30 : decode cX7_readsRow 30 = .ok (.istore_n 1, 1) := by decide +kernel
theorem dX7_readsRow_31 : decode cX7_readsRow 31 = .ok (.aload_n 0, 1) := by decide +kernel
theorem dX7_readsRow_32 : decode cX7_readsRow 32 = .ok (.iconst 0, 1) := by decide +kernel
theorem dX7_readsRow_33 : decode cX7_readsRow 33 = .ok (.aload_n 0, 1) := by decide +kernel
theorem dX7_readsRow_34 : decode cX7_readsRow 34 = .ok (.invokevirtual 47, 3) := by decide +kernel
theorem dX7_readsRow_37 : decode cX7_readsRow 37 = .ok (.invokevirtual 314, 3) := by decide +kernel
theorem dX7_readsRow_40 : decode cX7_readsRow 40 = .ok (.ifCond .ne 5, 3) := by decide +kernel
theorem dX7_readsRow_43 : decode cX7_readsRow 43 = .ok (.iconst 0, 1) := by decide +kernel
theorem dX7_readsRow_44 : decode cX7_readsRow 44 = .ok (.ireturn, 1) := by decide +kernel
theorem dX7_readsRow_45 : decode cX7_readsRow 45 = .ok (.aload_n 0, 1) := by decide +kernel
theorem dX7_readsRow_46 : decode cX7_readsRow 46 = .ok (.iload_n 1, 1) := by decide +kernel
theorem dX7_readsRow_47 : decode cX7_readsRow 47 = .ok (.aload_n 0, 1) := by decide +kernel
theorem dX7_readsRow_48 : decode cX7_readsRow 48 = .ok (.getfield 305, 3) := by decide +kernel
theorem dX7_readsRow_51 : decode cX7_readsRow 51 = .ok (.aload_n 0, 1) := by decide +kernel
theorem dX7_readsRow_52 : decode cX7_readsRow 52 = .ok (.getfield 308, 3) := by decide +kernel
theorem dX7_readsRow_55 : decode cX7_readsRow 55 = .ok (.iconst 0, 1) := by decide +kernel
theorem dX7_readsRow_56 : decode cX7_readsRow 56 = .ok (.invokevirtual 120, 3) := by decide +kernel
theorem dX7_readsRow_59 : decode cX7_readsRow 59 = .ok (.istore_n 2, 1) := by decide +kernel
theorem dX7_readsRow_60 : decode cX7_readsRow 60 = .ok (.iconst 0, 1) := by decide +kernel
theorem dX7_readsRow_61 : decode cX7_readsRow 61 = .ok (.istore_n 3, 1) := by decide +kernel
theorem dX7_readsRow_62 : decode cX7_readsRow 62 = .ok (.iload_n 3, 1) := by decide +kernel
theorem dX7_readsRow_63 : decode cX7_readsRow 63 = .ok (.aload_n 0, 1) := by decide +kernel
theorem dX7_readsRow_64 : decode cX7_readsRow 64 = .ok (.invokevirtual 47, 3) := by decide +kernel
theorem dX7_readsRow_67 : decode cX7_readsRow 67 = .ok (.if_icmp .ge 49, 3) := by decide +kernel
theorem dX7_readsRow_70 : decode cX7_readsRow 70 = .ok (.aload_n 0, 1) := by decide +kernel
theorem dX7_readsRow_71 : decode cX7_readsRow 71 = .ok (.invokevirtual 47, 3) := by decide +kernel
theorem dX7_readsRow_74 : decode cX7_readsRow 74 = .ok (.iload_n 1, 1) := by decide +kernel
theorem dX7_readsRow_75 : decode cX7_readsRow 75 = .ok (.imul, 1) := by decide +kernel
theorem dX7_readsRow_76 : decode cX7_readsRow 76 = .ok (.iload_n 3, 1) := by decide +kernel
theorem dX7_readsRow_77 : decode cX7_readsRow 77 = .ok (.iadd, 1) := by decide +kernel
theorem dX7_readsRow_78 : decode cX7_readsRow 78 = .ok (.istore 4, 2) := by decide +kernel
theorem dX7_readsRow_80 : decode cX7_readsRow 80 = .ok (.aload_n 0, 1) := by decide +kernel
theorem dX7_readsRow_81 : decode cX7_readsRow 81 = .ok (.iload 4, 2) := by decide +kernel
theorem dX7_readsRow_83 : decode cX7_readsRow 83 = .ok (.iconst 1, 1) := by decide +kernel
theorem dX7_readsRow_84 : decode cX7_readsRow 84 = .ok (.aload_n 0, 1) := by decide +kernel
theorem dX7_readsRow_85 : decode cX7_readsRow 85 = .ok (.iload 4, 2) := by decide +kernel
theorem dX7_readsRow_87 : decode cX7_readsRow 87 = .ok (.iconst 3, 1) := by decide +kernel
theorem dX7_readsRow_88 : decode cX7_readsRow 88 = .ok (.invokevirtual 56, 3) := by decide +kernel
theorem dX7_readsRow_91 : decode cX7_readsRow 91 = .ok (.i2l, 1) := by decide +kernel
theorem dX7_readsRow_92 : decode cX7_readsRow 92 = .ok (.invokevirtual 78, 3) := by decide +kernel
theorem dX7_readsRow_95 : decode cX7_readsRow 95 = .ok (.aload_n 0, 1) := by decide +kernel
theorem dX7_readsRow_96 : decode cX7_readsRow 96 = .ok (.iload 4, 2) := by decide +kernel
theorem dX7_readsRow_98 : decode cX7_readsRow 98 = .ok (.iconst 2, 1) := by decide +kernel
theorem dX7_readsRow_99 : decode cX7_readsRow 99 = .ok (.aload_n 0, 1) := by decide +kernel
theorem dX7_readsRow_100 : decode cX7_readsRow 100 = .ok (.iload 4, 2) := by decide +kernel
theorem dX7_readsRow_102 : decode cX7_readsRow 102 = .ok (.iconst 3, 1) := by decide +kernel
theorem dX7_readsRow_103 : decode cX7_readsRow 103 = .ok (.invokevirtual 56, 3) := by decide +kernel
theorem dX7_readsRow_106 : decode cX7_readsRow 106 = .ok (.i2l, 1) := by decide +kernel
theorem dX7_readsRow_107 : decode cX7_readsRow 107 = .ok (.invokevirtual 78, 3) := by decide +kernel
theorem dX7_readsRow_110 : decode cX7_readsRow 110 = .ok (.iinc 3 1, 3) := by decide +kernel
theorem dX7_readsRow_113 : decode cX7_readsRow 113 = .ok (.goto (-51), 3) := by decide +kernel
theorem dX7_readsRow_116 : decode cX7_readsRow 116 = .ok (.iconst 1, 1) := by decide +kernel
theorem dX7_readsRow_117 : decode cX7_readsRow 117 = .ok (.ireturn, 1) := by decide +kernel
theorem dX7_readsLose_0 : decode cX7_readsLose 0 = .ok (.aload_n 0, 1) := by decide +kernel
theorem dX7_readsLose_1 : decode cX7_readsLose 1 = .ok (.dup, 1) := by decide +kernel
theorem dX7_readsLose_2 : decode cX7_readsLose 2 = .ok (.getfield 254, 3) := by decide +kernel
theorem dX7_readsLose_5 : decode cX7_readsLose 5 = .ok (.iconst 4, 1) := by decide +kernel
theorem dX7_readsLose_6 : decode cX7_readsLose 6 = .ok (.iadd, 1) := by decide +kernel
theorem dX7_readsLose_7 : decode cX7_readsLose 7 = .ok (.putfield 254, 3) := by decide +kernel
theorem dX7_readsLose_10 : decode cX7_readsLose 10 = .ok (.aload_n 0, 1) := by decide +kernel
theorem dX7_readsLose_11 : decode cX7_readsLose 11 = .ok (.iconst 0, 1) := by decide +kernel
theorem dX7_readsLose_12 : decode cX7_readsLose 12 = .ok (.aload_n 0, 1) := by decide +kernel
theorem dX7_readsLose_13 : decode cX7_readsLose 13 = .ok (.invokevirtual 53, 3) := by decide +kernel
theorem dX7_readsLose_16 : decode cX7_readsLose 16 = .ok (.iconst 1, 1) := by decide +kernel
theorem dX7_readsLose_17 : decode cX7_readsLose 17 = .ok (.isub, 1) := by decide +kernel
theorem dX7_readsLose_18 : decode cX7_readsLose 18 = .ok (.invokevirtual 311, 3) := by decide +kernel
theorem dX7_readsLose_21 : decode cX7_readsLose 21 = .ok (.ifCond .ne 5, 3) := by decide +kernel
theorem dX7_readsLose_24 : decode cX7_readsLose 24 = .ok (.iconst 0, 1) := by decide +kernel
theorem dX7_readsLose_25 : decode cX7_readsLose 25 = .ok (.ireturn, 1) := by decide +kernel
theorem dX7_readsLose_26 : decode cX7_readsLose 26 = .ok (.aload_n 0, 1) := by decide +kernel
theorem dX7_readsLose_27 : decode cX7_readsLose 27 = .ok (.aload_n 0, 1) := by decide +kernel
theorem dX7_readsLose_28 : decode cX7_readsLose 28 = .ok (.getfield 299, 3) := by decide +kernel
theorem dX7_readsLose_31 : decode cX7_readsLose 31 = .ok (.putfield 317, 3) := by decide +kernel
theorem dX7_readsLose_34 : decode cX7_readsLose 34 = .ok (.aload_n 0, 1) := by decide +kernel
theorem dX7_readsLose_35 : decode cX7_readsLose 35 = .ok (.iconst 0, 1) := by decide +kernel
theorem dX7_readsLose_36 : decode cX7_readsLose 36 = .ok (.bipush 9, 2) := by decide +kernel
theorem dX7_readsLose_38 : decode cX7_readsLose 38 = .ok (.invokevirtual 311, 3) := by decide +kernel
theorem dX7_readsLose_41 : decode cX7_readsLose 41 = .ok (.ireturn, 1) := by decide +kernel
theorem dX7_readsPart_0 : decode cX7_readsPart 0 = .ok (.aload_n 0, 1) := by decide +kernel
theorem dX7_readsPart_1 : decode cX7_readsPart 1 = .ok (.ldc_w 320, 3) := by decide +kernel
theorem dX7_readsBoard_0 : decode cX7_readsBoard 0 = .ok (.aload_n 0, 1) := by decide +kernel
theorem dX7_readsBoard_1 : decode cX7_readsBoard 1 = .ok (.iconst 0, 1) := by decide +kernel
theorem dX7_readsBoard_2 : decode cX7_readsBoard 2 = .ok (.putfield 254, 3) := by decide +kernel
theorem dX7_readsBoard_5 : decode cX7_readsBoard 5 = .ok (.aload_n 0, 1) := by decide +kernel
theorem dX7_readsBoard_6 : decode cX7_readsBoard 6 = .ok (.ldc_w 344, 3) := by decide +kernel
theorem dX7_tell_0 : decode cX7_tell 0 = .ok (.aload_n 0, 1) := by decide +kernel
theorem dX7_tell_1 : decode cX7_tell 1 = .ok (.invokevirtual 210, 3) := by decide +kernel
theorem dX7_tell_4 : decode cX7_tell 4 = .ok (.iconst 0, 1) := by decide +kernel
theorem dX7_tell_5 : decode cX7_tell 5 = .ok (.istore_n 1, 1) := by decide +kernel
theorem dX7_tell_6 : decode cX7_tell 6 = .ok (.iload_n 1, 1) := by decide +kernel
theorem dX7_tell_7 : decode cX7_tell 7 = .ok (.sipush 6896, 3) := by decide +kernel
theorem dX7_tell_10 : decode cX7_tell 10 = .ok (.if_icmp .ge 16, 3) := by decide +kernel
theorem dX7_tell_13 : decode cX7_tell 13 = .ok (.aload_n 0, 1) := by decide +kernel
theorem dX7_tell_14 : decode cX7_tell 14 = .ok (.getfield 7, 3) := by decide +kernel
theorem dX7_tell_17 : decode cX7_tell 17 = .ok (.iload_n 1, 1) := by decide +kernel
theorem dX7_tell_18 : decode cX7_tell 18 = .ok (.lconst 0, 1) := by decide +kernel
theorem dX7_tell_19 : decode cX7_tell 19 = .ok (.lastore, 1) := by decide +kernel
theorem dX7_tell_20 : decode cX7_tell 20 = .ok (.iinc 1 1, 3) := by decide +kernel
theorem dX7_tell_23 : decode cX7_tell 23 = .ok (.goto (-17), 3) := by decide +kernel
theorem dX7_tell_26 : decode cX7_tell 26 = .ok (.aload_n 0, 1) := by decide +kernel
theorem dX7_isDone_0 : decode cX7_isDone 0 = .ok (.iload_n 1, 1) := by decide +kernel
theorem dX7_isDone_1 : decode cX7_isDone 1 = .ok (.ifCond .eq 13, 3) := by decide +kernel
theorem dX7_isDone_4 : decode cX7_isDone 4 = .ok (.aload_n 0, 1) := by decide +kernel
theorem dX7_isDone_5 : decode cX7_isDone 5 = .ok (.getfield 357, 3) := by decide +kernel
theorem dX7_isDone_8 : decode cX7_isDone 8 = .ok (.sipush 200, 3) := by decide +kernel
theorem dX7_isDone_11 : decode cX7_isDone 11 = .ok (.if_icmp .ne 5, 3) := by decide +kernel
theorem dX7_isDone_14 : decode cX7_isDone 14 = .ok (.iconst 0, 1) := by decide +kernel
theorem dX7_isDone_15 : decode cX7_isDone 15 = .ok (.ireturn, 1) := by decide +kernel
theorem dX7_isDone_16 : decode cX7_isDone 16 = .ok (.aload_n 0, 1) := by decide +kernel
theorem dX7_isDone_17 : decode cX7_isDone 17 = .ok (.dup, 1) := by decide +kernel
theorem dX7_isDone_18 : decode cX7_isDone 18 = .ok (.getfield 357, 3) := by decide +kernel
theorem dX7_isDone_21 : decode cX7_isDone 21 = .ok (.iconst 1, 1) := by decide +kernel
theorem dX7_isDone_22 : decode cX7_isDone 22 = .ok (.iadd, 1) := by decide +kernel
theorem dX7_isDone_23 : decode cX7_isDone 23 = .ok (.putfield 357, 3) := by decide +kernel
theorem dX7_isDone_26 : decode cX7_isDone 26 = .ok (.iconst 1, 1) := by decide +kernel
theorem dX7_isDone_27 : decode cX7_isDone 27 = .ok (.ireturn, 1) := by decide +kernel
theorem dX7_goesRow_0 : decode cX7_goesRow 0 = .ok (.aload_n 0, 1) := by decide +kernel
theorem dX7_goesRow_1 : decode cX7_goesRow 1 = .ok (.dup, 1) := by decide +kernel
theorem dX7_goesRow_2 : decode cX7_goesRow 2 = .ok (.getfield 254, 3) := by decide +kernel
theorem dX7_goesRow_5 : decode cX7_goesRow 5 = .ok (.iconst 3, 1) := by decide +kernel
theorem dX7_goesRow_6 : decode cX7_goesRow 6 = .ok (.iadd, 1) := by decide +kernel
theorem dX7_goesRow_7 : decode cX7_goesRow 7 = .ok (.putfield 254, 3) := by decide +kernel
theorem dX7_goesRow_10 : decode cX7_goesRow 10 = .ok (.aload_n 0, 1) := by decide +kernel
theorem dX7_goesRow_11 : decode cX7_goesRow 11 = .ok (.iconst 0, 1) := by decide +kernel
theorem dX7_goesRow_12 : decode cX7_goesRow 12 = .ok (.aload_n 0, 1) := by decide +kernel
theorem dX7_goesRow_13 : decode cX7_goesRow 13 = .ok (.invokevirtual 43, 3) := by decide +kernel
theorem dX7_goesRow_16 : decode cX7_goesRow 16 = .ok (.iconst 1, 1) := by decide +kernel
theorem dX7_goesRow_17 : decode cX7_goesRow 17 = .ok (.isub, 1) := by decide +kernel
theorem dX7_goesRow_18 : decode cX7_goesRow 18 = .ok (.invokevirtual 311, 3) := by decide +kernel
theorem dX7_goesRow_21 : decode cX7_goesRow 21 = .ok (.ifCond .ne 5, 3) := by decide +kernel
theorem dX7_goesRow_24 : decode cX7_goesRow 24 = .ok (.iconst 0, 1) := by decide +kernel
theorem dX7_goesRow_25 : decode cX7_goesRow 25 = .ok (.ireturn, 1) := by decide +kernel
theorem dX7_goesRow_26 : decode cX7_goesRow 26 = .ok (.aload_n 0, 1) := by decide +kernel
theorem dX7_goesRow_27 : decode cX7_goesRow 27 = .ok (.getfield 299, 3) := by decide +kernel
theorem dX7_goesRow_30 : decode cX7_goesRow 30 = .ok (.istore_n 2, 1) := by decide +kernel
theorem dX7_goesRow_31 : decode cX7_goesRow 31 = .ok (.aload_n 0, 1) := by decide +kernel
theorem dX7_goesRow_32 : decode cX7_goesRow 32 = .ok (.iconst 0, 1) := by decide +kernel
theorem dX7_goesRow_33 : decode cX7_goesRow 33 = .ok (.aload_n 0, 1) := by decide +kernel
theorem dX7_goesRow_34 : decode cX7_goesRow 34 = .ok (.invokevirtual 47, 3) := by decide +kernel
theorem dX7_goesRow_37 : decode cX7_goesRow 37 = .ok (.invokevirtual 314, 3) := by decide +kernel
theorem dX7_goesRow_40 : decode cX7_goesRow 40 = .ok (.ifCond .ne 5, 3) := by decide +kernel
theorem dX7_goesRow_43 : decode cX7_goesRow 43 = .ok (.iconst 0, 1) := by decide +kernel
theorem dX7_goesRow_44 : decode cX7_goesRow 44 = .ok (.ireturn, 1) := by decide +kernel
theorem dX7_goesRow_45 : decode cX7_goesRow 45 = .ok (.aload_n 0, 1) := by decide +kernel
theorem dX7_goesRow_46 : decode cX7_goesRow 46 = .ok (.iload_n 1, 1) := by decide +kernel
theorem dX7_goesRow_47 : decode cX7_goesRow 47 = .ok (.invokevirtual 360, 3) := by decide +kernel
theorem dX7_goesRow_50 : decode cX7_goesRow 50 = .ok (.ifCond .eq 18, 3) := by decide +kernel
theorem dX7_goesRow_53 : decode cX7_goesRow 53 = .ok (.aload_n 0, 1) := by decide +kernel
theorem dX7_goesRow_54 : decode cX7_goesRow 54 = .ok (.iload_n 2, 1) := by decide +kernel
theorem dX7_goesRow_55 : decode cX7_goesRow 55 = .ok (.aload_n 0, 1) := by decide +kernel
theorem dX7_goesRow_56 : decode cX7_goesRow 56 = .ok (.getfield 305, 3) := by decide +kernel
theorem dX7_goesRow_59 : decode cX7_goesRow 59 = .ok (.aload_n 0, 1) := by decide +kernel
theorem dX7_goesRow_60 : decode cX7_goesRow 60 = .ok (.getfield 308, 3) := by decide +kernel
theorem dX7_goesRow_63 : decode cX7_goesRow 63 = .ok (.iconst 1, 1) := by decide +kernel
theorem dX7_goesRow_64 : decode cX7_goesRow 64 = .ok (.invokevirtual 120, 3) := by decide +kernel
theorem dX7_goesRow_67 : decode cX7_goesRow 67 = .ok (.istore_n 3, 1) := by decide +kernel
theorem dX7_goesRow_68 : decode cX7_goesRow 68 = .ok (.iconst 1, 1) := by decide +kernel
theorem dX7_goesRow_69 : decode cX7_goesRow 69 = .ok (.ireturn, 1) := by decide +kernel
theorem dX7_goesScroll_0 : decode cX7_goesScroll 0 = .ok (.aload_n 0, 1) := by decide +kernel
theorem dX7_goesScroll_1 : decode cX7_goesScroll 1 = .ok (.dup, 1) := by decide +kernel
theorem dX7_goesScroll_2 : decode cX7_goesScroll 2 = .ok (.getfield 254, 3) := by decide +kernel
theorem dX7_goesScroll_5 : decode cX7_goesScroll 5 = .ok (.bipush 6, 2) := by decide +kernel
theorem dX7_goesScroll_7 : decode cX7_goesScroll 7 = .ok (.iadd, 1) := by decide +kernel
theorem dX7_goesScroll_8 : decode cX7_goesScroll 8 = .ok (.putfield 254, 3) := by decide +kernel
theorem dX7_goesScroll_11 : decode cX7_goesScroll 11 = .ok (.aload_n 0, 1) := by decide +kernel
theorem dX7_goesScroll_12 : decode cX7_goesScroll 12 = .ok (.iconst 0, 1) := by decide +kernel
theorem dX7_goesScroll_13 : decode cX7_goesScroll 13 = .ok (.aload_n 0, 1) := by decide +kernel
theorem dX7_goesScroll_14 : decode cX7_goesScroll 14 = .ok (.invokevirtual 47, 3) := by decide +kernel
theorem dX7_goesScroll_17 : decode cX7_goesScroll 17 = .ok (.invokevirtual 314, 3) := by decide +kernel
theorem dX7_goesScroll_20 : decode cX7_goesScroll 20 = .ok (.ifCond .ne 5, 3) := by decide +kernel
theorem dX7_goesScroll_23 : decode cX7_goesScroll 23 = .ok (.iconst 0, 1) := by decide +kernel
theorem dX7_goesScroll_24 : decode cX7_goesScroll 24 = .ok (.ireturn, 1) := by decide +kernel
theorem dX7_goesScroll_25 : decode cX7_goesScroll 25 = .ok (.aload_n 0, 1) := by decide +kernel
theorem dX7_goesScroll_26 : decode cX7_goesScroll 26 = .ok (.iload_n 1, 1) := by decide +kernel
theorem dX7_goesScroll_27 : decode cX7_goesScroll 27 = .ok (.invokevirtual 360, 3) := by decide +kernel
theorem dX7_goesScroll_30 : decode cX7_goesScroll 30 = .ok (.ifCond .eq 16, 3) := by decide +kernel
theorem dX7_goesScroll_33 : decode cX7_goesScroll 33 = .ok (.aload_n 0, 1) := by decide +kernel
theorem dX7_goesScroll_34 : decode cX7_goesScroll 34 = .ok (.aload_n 0, 1) := by decide +kernel
theorem dX7_goesScroll_35 : decode cX7_goesScroll 35 = .ok (.getfield 305, 3) := by decide +kernel
theorem dX7_goesScroll_38 : decode cX7_goesScroll 38 = .ok (.aload_n 0, 1) := by decide +kernel
theorem dX7_goesScroll_39 : decode cX7_goesScroll 39 = .ok (.getfield 308, 3) := by decide +kernel
theorem dX7_goesScroll_42 : decode cX7_goesScroll 42 = .ok (.invokevirtual 151, 3) := by decide +kernel
theorem dX7_goesScroll_45 : decode cX7_goesScroll 45 = .ok (.istore_n 2, 1) := by decide +kernel
theorem dX7_goesScroll_46 : decode cX7_goesScroll 46 = .ok (.iconst 1, 1) := by decide +kernel
theorem dX7_goesScroll_47 : decode cX7_goesScroll 47 = .ok (.ireturn, 1) := by decide +kernel
theorem dX7_goesHome_0 : decode cX7_goesHome 0 = .ok (.aload_n 0, 1) := by decide +kernel
theorem dX7_goesHome_1 : decode cX7_goesHome 1 = .ok (.dup, 1) := by decide +kernel
theorem dX7_goesHome_2 : decode cX7_goesHome 2 = .ok (.getfield 254, 3) := by decide +kernel
theorem dX7_goesHome_5 : decode cX7_goesHome 5 = .ok (.iconst 4, 1) := by decide +kernel
theorem dX7_goesHome_6 : decode cX7_goesHome 6 = .ok (.iadd, 1) := by decide +kernel
theorem dX7_goesHome_7 : decode cX7_goesHome 7 = .ok (.putfield 254, 3) := by decide +kernel
theorem dX7_goesHome_10 : decode cX7_goesHome 10 = .ok (.aload_n 0, 1) := by decide +kernel
theorem dX7_goesHome_11 : decode cX7_goesHome 11 = .ok (.iconst 0, 1) := by decide +kernel
theorem dX7_goesHome_12 : decode cX7_goesHome 12 = .ok (.aload_n 0, 1) := by decide +kernel
theorem dX7_goesHome_13 : decode cX7_goesHome 13 = .ok (.invokevirtual 43, 3) := by decide +kernel
theorem dX7_goesHome_16 : decode cX7_goesHome 16 = .ok (.iconst 1, 1) := by decide +kernel
theorem dX7_goesHome_17 : decode cX7_goesHome 17 = .ok (.isub, 1) := by decide +kernel
theorem dX7_goesHome_18 : decode cX7_goesHome 18 = .ok (.invokevirtual 311, 3) := by decide +kernel
theorem dX7_goesHome_21 : decode cX7_goesHome 21 = .ok (.ifCond .ne 5, 3) := by decide +kernel
theorem dX7_goesHome_24 : decode cX7_goesHome 24 = .ok (.iconst 0, 1) := by decide +kernel
theorem dX7_goesHome_25 : decode cX7_goesHome 25 = .ok (.ireturn, 1) := by decide +kernel
theorem dX7_goesHome_26 : decode cX7_goesHome 26 = .ok (.aload_n 0, 1) := by decide +kernel
theorem dX7_goesHome_27 : decode cX7_goesHome 27 = .ok (.iload_n 1, 1) := by decide +kernel
theorem dX7_goesHome_28 : decode cX7_goesHome 28 = .ok (.invokevirtual 360, 3) := by decide +kernel
theorem dX7_goesHome_31 : decode cX7_goesHome 31 = .ok (.ifCond .ne 5, 3) := by decide +kernel
theorem dX7_goesHome_34 : decode cX7_goesHome 34 = .ok (.iconst 1, 1) := by decide +kernel
theorem dX7_goesHome_35 : decode cX7_goesHome 35 = .ok (.ireturn, 1) := by decide +kernel
theorem dX7_goesHome_36 : decode cX7_goesHome 36 = .ok (.iconst 0, 1) := by decide +kernel
theorem dX7_goesHome_37 : decode cX7_goesHome 37 = .ok (.istore_n 2, 1) := by decide +kernel
theorem dX7_goesHome_38 : decode cX7_goesHome 38 = .ok (.iload_n 2, 1) := by decide +kernel
theorem dX7_goesHome_39 : decode cX7_goesHome 39 = .ok (.aload_n 0, 1) := by decide +kernel
theorem dX7_goesHome_40 : decode cX7_goesHome 40 = .ok (.invokevirtual 47, 3) := by decide +kernel
theorem dX7_goesHome_43 : decode cX7_goesHome 43 = .ok (.if_icmp .ge 26, 3) := by decide +kernel
theorem dX7_goesHome_46 : decode cX7_goesHome 46 = .ok (.aload_n 0, 1) := by decide +kernel
theorem dX7_goesHome_47 : decode cX7_goesHome 47 = .ok (.aload_n 0, 1) := by decide +kernel
theorem dX7_goesHome_48 : decode cX7_goesHome 48 = .ok (.invokevirtual 47, 3) := by decide +kernel
theorem dX7_goesHome_51 : decode cX7_goesHome 51 = .ok (.aload_n 0, 1) := by decide +kernel
theorem dX7_goesHome_52 : decode cX7_goesHome 52 = .ok (.getfield 299, 3) := by decide +kernel
theorem dX7_goesHome_55 : decode cX7_goesHome 55 = .ok (.imul, 1) := by decide +kernel
theorem dX7_goesHome_56 : decode cX7_goesHome 56 = .ok (.iload_n 2, 1) := by decide +kernel
theorem dX7_goesHome_57 : decode cX7_goesHome 57 = .ok (.iadd, 1) := by decide +kernel
theorem dX7_goesHome_58 : decode cX7_goesHome 58 = .ok (.iconst 0, 1) := by decide +kernel
theorem dX7_goesHome_59 : decode cX7_goesHome 59 = .ok (.iconst 0, 1) := by decide +kernel
theorem dX7_goesHome_60 : decode cX7_goesHome 60 = .ok (.invokevirtual 116, 3) := by decide +kernel
theorem dX7_goesHome_63 : decode cX7_goesHome 63 = .ok (.iinc 2 1, 3) := by decide +kernel
theorem dX7_goesHome_66 : decode cX7_goesHome 66 = .ok (.goto (-28), 3) := by decide +kernel
theorem dX7_goesHome_69 : decode cX7_goesHome 69 = .ok (.iconst 1, 1) := by decide +kernel
theorem dX7_goesHome_70 : decode cX7_goesHome 70 = .ok (.ireturn, 1) := by decide +kernel
theorem dX7_goesWait_0 : decode cX7_goesWait 0 = .ok (.aload_n 0, 1) := by decide +kernel
theorem dX7_goesWait_1 : decode cX7_goesWait 1 = .ok (.dup, 1) := by decide +kernel
theorem dX7_goesWait_2 : decode cX7_goesWait 2 = .ok (.getfield 254, 3) := by decide +kernel
theorem dX7_goesWait_5 : decode cX7_goesWait 5 = .ok (.iconst 4, 1) := by decide +kernel
theorem dX7_goesWait_6 : decode cX7_goesWait 6 = .ok (.iadd, 1) := by decide +kernel
theorem dX7_goesWait_7 : decode cX7_goesWait 7 = .ok (.putfield 254, 3) := by decide +kernel
theorem dX7_goesWait_10 : decode cX7_goesWait 10 = .ok (.aload_n 0, 1) := by decide +kernel
theorem dX7_goesWait_11 : decode cX7_goesWait 11 = .ok (.iconst 1, 1) := by decide +kernel
theorem dX7_goesWait_12 : decode cX7_goesWait 12 = .ok (.bipush 99, 2) := by decide +kernel
theorem dX7_goesWait_14 : decode cX7_goesWait 14 = .ok (.invokevirtual 311, 3) := by decide +kernel
theorem dX7_goesWait_17 : decode cX7_goesWait 17 = .ok (.ifCond .ne 5, 3) := by decide +kernel
theorem dX7_goesWait_20 : decode cX7_goesWait 20 = .ok (.iconst 0, 1) := by decide +kernel
theorem dX7_goesWait_21 : decode cX7_goesWait 21 = .ok (.ireturn, 1) := by decide +kernel
theorem dX7_goesWait_22 : decode cX7_goesWait 22 = .ok (.aload_n 0, 1) := by decide +kernel
theorem dX7_goesWait_23 : decode cX7_goesWait 23 = .ok (.iload_n 1, 1) := by decide +kernel
theorem dX7_goesWait_24 : decode cX7_goesWait 24 = .ok (.invokevirtual 360, 3) := by decide +kernel
theorem dX7_goesWait_27 : decode cX7_goesWait 27 = .ok (.ifCond .ne 5, 3) := by decide +kernel
theorem dX7_goesWait_30 : decode cX7_goesWait 30 = .ok (.iconst 1, 1) := by decide +kernel
theorem dX7_goesWait_31 : decode cX7_goesWait 31 = .ok (.ireturn, 1) := by decide +kernel
theorem dX7_goesWait_32 : decode cX7_goesWait 32 = .ok (.iconst 0, 1) := by decide +kernel
theorem dX7_goesWait_33 : decode cX7_goesWait 33 = .ok (.istore_n 2, 1) := by decide +kernel
theorem dX7_goesWait_34 : decode cX7_goesWait 34 = .ok (.iload_n 2, 1) := by decide +kernel
theorem dX7_goesWait_35 : decode cX7_goesWait 35 = .ok (.aload_n 0, 1) := by decide +kernel
theorem dX7_goesWait_36 : decode cX7_goesWait 36 = .ok (.getfield 299, 3) := by decide +kernel
theorem dX7_goesWait_39 : decode cX7_goesWait 39 = .ok (.if_icmp .ge 14, 3) := by decide +kernel
theorem dX7_goesWait_42 : decode cX7_goesWait 42 = .ok (.aload_n 0, 1) := by decide +kernel
theorem dX7_goesWait_43 : decode cX7_goesWait 43 = .ok (.invokevirtual 156, 3) := by decide +kernel
theorem dX7_goesWait_46 : decode cX7_goesWait 46 = .ok (.istore_n 3, 1) := by decide +kernel
theorem dX7_goesWait_47 : decode cX7_goesWait 47 = .ok (.iinc 2 1, 3) := by decide +kernel
theorem dX7_goesWait_50 : decode cX7_goesWait 50 = .ok (.goto (-16), 3) := by decide +kernel
theorem dX7_goesWait_53 : decode cX7_goesWait 53 = .ok (.iconst 1, 1) := by decide +kernel
theorem dX7_goesWait_54 : decode cX7_goesWait 54 = .ok (.ireturn, 1) := by decide +kernel
theorem dX7_goesSettle_0 : decode cX7_goesSettle 0 = .ok (.aload_n 0, 1) := by decide +kernel
theorem dX7_goesSettle_1 : decode cX7_goesSettle 1 = .ok (.dup, 1) := by decide +kernel
theorem dX7_goesSettle_2 : decode cX7_goesSettle 2 = .ok (.getfield 254, 3) := by decide +kernel
theorem dX7_goesSettle_5 : decode cX7_goesSettle 5 = .ok (.bipush 6, 2) := by decide +kernel
theorem dX7_goesSettle_7 : decode cX7_goesSettle 7 = .ok (.iadd, 1) := by decide +kernel
theorem dX7_goesSettle_8 : decode cX7_goesSettle 8 = .ok (.putfield 254, 3) := by decide +kernel
theorem dX7_goesSettle_11 : decode cX7_goesSettle 11 = .ok (.aload_n 0, 1) := by decide +kernel
theorem dX7_goesSettle_12 : decode cX7_goesSettle 12 = .ok (.iload_n 1, 1) := by decide +kernel
theorem dX7_goesSettle_13 : decode cX7_goesSettle 13 = .ok (.invokevirtual 360, 3) := by decide +kernel
theorem dX7_goesSettle_16 : decode cX7_goesSettle 16 = .ok (.ifCond .eq 8, 3) := by decide +kernel
theorem dX7_goesSettle_19 : decode cX7_goesSettle 19 = .ok (.aload_n 0, 1) := by decide +kernel
theorem dX7_goesSettle_20 : decode cX7_goesSettle 20 = .ok (.invokevirtual 159, 3) := by decide +kernel
theorem dX7_goesSettle_23 : decode cX7_goesSettle 23 = .ok (.istore_n 2, 1) := by decide +kernel
theorem dX7_goesSettle_24 : decode cX7_goesSettle 24 = .ok (.iconst 1, 1) := by decide +kernel
theorem dX7_goesSettle_25 : decode cX7_goesSettle 25 = .ok (.ireturn, 1) := by decide +kernel
theorem dX7_goesLose_0 : decode cX7_goesLose 0 = .ok (.aload_n 0, 1) := by decide +kernel
theorem dX7_goesLose_1 : decode cX7_goesLose 1 = .ok (.invokevirtual 341, 3) := by decide +kernel
theorem dX7_goesLose_4 : decode cX7_goesLose 4 = .ok (.ifCond .ne 5, 3) := by decide +kernel
theorem dX7_goesLose_7 : decode cX7_goesLose 7 = .ok (.iconst 0, 1) := by decide +kernel
theorem dX7_goesLose_8 : decode cX7_goesLose 8 = .ok (.ireturn, 1) := by decide +kernel
theorem dX7_goesLose_9 : decode cX7_goesLose 9 = .ok (.aload_n 0, 1) := by decide +kernel
theorem dX7_goesLose_10 : decode cX7_goesLose 10 = .ok (.iload_n 1, 1) := by decide +kernel
theorem dX7_goesLose_11 : decode cX7_goesLose 11 = .ok (.invokevirtual 360, 3) := by decide +kernel
theorem dX7_goesLose_14 : decode cX7_goesLose 14 = .ok (.ifCond .eq 17, 3) := by decide +kernel
theorem dX7_goesLose_17 : decode cX7_goesLose 17 = .ok (.aload_n 0, 1) := by decide +kernel
theorem dX7_goesLose_18 : decode cX7_goesLose 18 = .ok (.aload_n 0, 1) := by decide +kernel
theorem dX7_goesLose_19 : decode cX7_goesLose 19 = .ok (.getfield 317, 3) := by decide +kernel
theorem dX7_goesLose_22 : decode cX7_goesLose 22 = .ok (.iconst 4, 1) := by decide +kernel
theorem dX7_goesLose_23 : decode cX7_goesLose 23 = .ok (.aload_n 0, 1) := by decide +kernel
theorem dX7_goesLose_24 : decode cX7_goesLose 24 = .ok (.getfield 299, 3) := by decide +kernel
theorem dX7_goesLose_27 : decode cX7_goesLose 27 = .ok (.i2l, 1) := by decide +kernel
theorem dX7_goesLose_28 : decode cX7_goesLose 28 = .ok (.invokevirtual 78, 3) := by decide +kernel
theorem dX7_goesLose_31 : decode cX7_goesLose 31 = .ok (.iconst 1, 1) := by decide +kernel
theorem dX7_goesLose_32 : decode cX7_goesLose 32 = .ok (.ireturn, 1) := by decide +kernel
theorem dX7_goesOne_0 : decode cX7_goesOne 0 = .ok (.aload_n 0, 1) := by decide +kernel
theorem dX7_goesOne_1 : decode cX7_goesOne 1 = .ok (.ldc_w 328, 3) := by decide +kernel
theorem dX7_goesAll_0 : decode cX7_goesAll 0 = .ok (.aload_n 0, 1) := by decide +kernel
theorem dX7_goesAll_1 : decode cX7_goesAll 1 = .ok (.iload_n 1, 1) := by decide +kernel
theorem dX7_goesTimes_0 : decode cX7_goesTimes 0 = .ok (.aload_n 0, 1) := by decide +kernel
theorem dX7_goesTimes_1 : decode cX7_goesTimes 1 = .ok (.dup, 1) := by decide +kernel
theorem dX7_goesTimes_2 : decode cX7_goesTimes 2 = .ok (.getfield 254, 3) := by decide +kernel
theorem dX7_goesTimes_5 : decode cX7_goesTimes 5 = .ok (.iconst 5, 1) := by decide +kernel
theorem dX7_goesTimes_6 : decode cX7_goesTimes 6 = .ok (.iadd, 1) := by decide +kernel
theorem dX7_goesTimes_7 : decode cX7_goesTimes 7 = .ok (.putfield 254, 3) := by decide +kernel
theorem dX7_goesTimes_10 : decode cX7_goesTimes 10 = .ok (.aload_n 0, 1) := by decide +kernel
theorem dX7_goesTimes_11 : decode cX7_goesTimes 11 = .ok (.iconst 0, 1) := by decide +kernel
theorem dX7_goesTimes_12 : decode cX7_goesTimes 12 = .ok (.bipush 20, 2) := by decide +kernel
theorem dX7_goesTimes_14 : decode cX7_goesTimes 14 = .ok (.invokevirtual 311, 3) := by decide +kernel
theorem dX7_goesTimes_17 : decode cX7_goesTimes 17 = .ok (.ifCond .ne 5, 3) := by decide +kernel
theorem dX7_goesTimes_22 : decode cX7_goesTimes 22 = .ok (.aload_n 0, 1) := by decide +kernel
theorem dX7_goesTimes_23 : decode cX7_goesTimes 23 = .ok (.getfield 299, 3) := by decide +kernel
theorem dX7_goesTimes_26 : decode cX7_goesTimes 26 = .ok (.istore_n 2, 1) := by decide +kernel
theorem dX7_goesTimes_27 : decode cX7_goesTimes 27 = .ok (.aload_n 0, 1) := by decide +kernel
theorem dX7_goesTimes_28 : decode cX7_goesTimes 28 = .ok (.invokevirtual 263, 3) := by decide +kernel
theorem dX7_goesTimes_31 : decode cX7_goesTimes 31 = .ok (.bipush 40, 2) := by decide +kernel
theorem dX7_goesTimes_33 : decode cX7_goesTimes 33 = .ok (.if_icmp .ne 21, 3) := by decide +kernel
theorem dX7_goesTimes_54 : decode cX7_goesTimes 54 = .ok (.aload_n 0, 1) := by decide +kernel
theorem dX7_goesTimes_55 : decode cX7_goesTimes 55 = .ok (.bipush 40, 2) := by decide +kernel
theorem dX7_goesTimes_57 : decode cX7_goesTimes 57 = .ok (.invokevirtual 302, 3) := by decide +kernel
theorem dX7_goesTimes_60 : decode cX7_goesTimes 60 = .ok (.ifCond .ne 5, 3) := by decide +kernel
theorem dX7_goesTimes_65 : decode cX7_goesTimes 65 = .ok (.aload_n 0, 1) := by decide +kernel
theorem dX7_goesTimes_66 : decode cX7_goesTimes 66 = .ok (.iload_n 1, 1) := by decide +kernel
theorem dX7_goesTimes_67 : decode cX7_goesTimes 67 = .ok (.invokevirtual 360, 3) := by decide +kernel
theorem dX7_goesTimes_70 : decode cX7_goesTimes 70 = .ok (.istore_n 3, 1) := by decide +kernel
theorem dX7_goesTimes_71 : decode cX7_goesTimes 71 = .ok (.aload_n 0, 1) := by decide +kernel
theorem dX7_goesTimes_72 : decode cX7_goesTimes 72 = .ok (.getfield 254, 3) := by decide +kernel
theorem dX7_goesTimes_75 : decode cX7_goesTimes 75 = .ok (.istore 4, 2) := by decide +kernel
theorem dX7_goesTimes_77 : decode cX7_goesTimes 77 = .ok (.aload_n 0, 1) := by decide +kernel
theorem dX7_goesTimes_78 : decode cX7_goesTimes 78 = .ok (.dup, 1) := by decide +kernel
theorem dX7_goesTimes_79 : decode cX7_goesTimes 79 = .ok (.getfield 364, 3) := by decide +kernel
theorem dX7_goesTimes_82 : decode cX7_goesTimes 82 = .ok (.iconst 1, 1) := by decide +kernel
theorem dX7_goesTimes_83 : decode cX7_goesTimes 83 = .ok (.iadd, 1) := by decide +kernel
theorem dX7_goesTimes_84 : decode cX7_goesTimes 84 = .ok (.putfield 364, 3) := by decide +kernel
theorem dX7_goesTimes_87 : decode cX7_goesTimes 87 = .ok (.iconst 0, 1) := by decide +kernel
theorem dX7_goesTimes_88 : decode cX7_goesTimes 88 = .ok (.istore 5, 2) := by decide +kernel
theorem dX7_goesTimes_90 : decode cX7_goesTimes 90 = .ok (.iload 5, 2) := by decide +kernel
theorem dX7_goesTimes_92 : decode cX7_goesTimes 92 = .ok (.ifCond .eq 13, 3) := by decide +kernel
theorem dX7_goesTimes_105 : decode cX7_goesTimes 105 = .ok (.aload_n 0, 1) := by decide +kernel
theorem dX7_goesTimes_106 : decode cX7_goesTimes 106 = .ok (.iload 4, 2) := by decide +kernel
theorem dX7_goesTimes_108 : decode cX7_goesTimes 108 = .ok (.putfield 254, 3) := by decide +kernel
theorem dX7_goesTimes_111 : decode cX7_goesTimes 111 = .ok (.aload_n 0, 1) := by decide +kernel
theorem dX7_goesTimes_112 : decode cX7_goesTimes 112 = .ok (.iload_n 3, 1) := by decide +kernel
theorem dX7_goesTimes_113 : decode cX7_goesTimes 113 = .ok (.ifCond .eq 13, 3) := by decide +kernel
theorem dX7_goesTimes_126 : decode cX7_goesTimes 126 = .ok (.iconst 0, 1) := by decide +kernel
theorem dX7_goesProgram_0 : decode cX7_goesProgram 0 = .ok (.aload_n 0, 1) := by decide +kernel
theorem dX7_goesProgram_1 : decode cX7_goesProgram 1 = .ok (.iconst 0, 1) := by decide +kernel
theorem dX7_goesProgram_2 : decode cX7_goesProgram 2 = .ok (.putfield 254, 3) := by decide +kernel
theorem dX7_goesProgram_5 : decode cX7_goesProgram 5 = .ok (.aload_n 0, 1) := by decide +kernel
theorem dX7_goesProgram_6 : decode cX7_goesProgram 6 = .ok (.iconst 0, 1) := by decide +kernel
theorem dX7_goesProgram_7 : decode cX7_goesProgram 7 = .ok (.putfield 364, 3) := by decide +kernel
theorem dX7_goesProgram_10 : decode cX7_goesProgram 10 = .ok (.aload_n 0, 1) := by decide +kernel
theorem dX7_goesProgram_11 : decode cX7_goesProgram 11 = .ok (.iconst 0, 1) := by decide +kernel
theorem dX7_goesProgram_12 : decode cX7_goesProgram 12 = .ok (.putfield 357, 3) := by decide +kernel
theorem dX7_goesProgram_15 : decode cX7_goesProgram 15 = .ok (.aload_n 0, 1) := by decide +kernel
theorem dX7_goesProgram_16 : decode cX7_goesProgram 16 = .ok (.iload_n 1, 1) := by decide +kernel
theorem dX7_run_0 : decode cX7_run 0 = .ok (.aload_n 0, 1) := by decide +kernel
theorem dX7_run_1 : decode cX7_run 1 = .ok (.invokevirtual 147, 3) := by decide +kernel
theorem dX7_run_4 : decode cX7_run 4 = .ok (.ifCond .eq 15, 3) := by decide +kernel
theorem dX7_run_7 : decode cX7_run 7 = .ok (.aload_n 0, 1) := by decide +kernel
theorem dX7_run_8 : decode cX7_run 8 = .ok (.iconst 0, 1) := by decide +kernel
theorem dX7_run_19 : decode cX7_run 19 = .ok (.iconst 0, 1) := by decide +kernel
theorem dX7_run_20 : decode cX7_run 20 = .ok (.istore_n 1, 1) := by decide +kernel
theorem dX7_run_21 : decode cX7_run 21 = .ok (.iload_n 1, 1) := by decide +kernel
theorem dX7_run_22 : decode cX7_run 22 = .ok (.ifCond .eq 13, 3) := by decide +kernel
theorem dX7_run_35 : decode cX7_run 35 = .ok (.aload_n 0, 1) := by decide +kernel
theorem dX7_run_36 : decode cX7_run 36 = .ok (.iconst 0, 1) := by decide +kernel
theorem dX7_run_37 : decode cX7_run 37 = .ok (.putfield 135, 3) := by decide +kernel
theorem dX7_run_40 : decode cX7_run 40 = .ok (.aload_n 0, 1) := by decide +kernel
theorem dX7_run_41 : decode cX7_run 41 = .ok (.invokevirtual 147, 3) := by decide +kernel
theorem dX7_run_44 : decode cX7_run 44 = .ok (.ifCond .ne 7, 3) := by decide +kernel
theorem dX7_run_47 : decode cX7_run 47 = .ok (.iconst (-1), 1) := by decide +kernel
theorem dX7_run_48 : decode cX7_run 48 = .ok (.goto 21, 3) := by decide +kernel
theorem dX7_run_51 : decode cX7_run 51 = .ok (.iload_n 1, 1) := by decide +kernel
theorem dX7_run_52 : decode cX7_run 52 = .ok (.ifCond .eq 10, 3) := by decide +kernel
theorem dX7_run_62 : decode cX7_run 62 = .ok (.bipush (-2), 2) := by decide +kernel
theorem dX7_run_64 : decode cX7_run 64 = .ok (.aload_n 0, 1) := by decide +kernel
theorem dX7_run_65 : decode cX7_run 65 = .ok (.getfield 260, 3) := by decide +kernel
theorem dX7_run_68 : decode cX7_run 68 = .ok (.isub, 1) := by decide +kernel
theorem dX7_run_69 : decode cX7_run 69 = .ok (.ireturn, 1) := by decide +kernel
theorem dX7_loudest_0 : decode cX7_loudest 0 = .ok (.aload_n 0, 1) := by decide +kernel
theorem dX7_loudest_1 : decode cX7_loudest 1 = .ok (.invokevirtual 147, 3) := by decide +kernel
theorem dX7_loudest_4 : decode cX7_loudest 4 = .ok (.ifCond .eq 13, 3) := by decide +kernel
theorem dX7_loudest_7 : decode cX7_loudest 7 = .ok (.iload_n 1, 1) := by decide +kernel
theorem dX7_loudest_8 : decode cX7_loudest 8 = .ok (.i2l, 1) := by decide +kernel
theorem dX7_loudest_9 : decode cX7_loudest 9 = .ok (.lconst 0, 1) := by decide +kernel
theorem dX7_loudest_10 : decode cX7_loudest 10 = .ok (.lconst 1, 1) := by decide +kernel
theorem dX7_loudest_11 : decode cX7_loudest 11 = .ok (.invokestatic 39, 3) := by decide +kernel
theorem dX7_loudest_14 : decode cX7_loudest 14 = .ok (.ifCond .ne 5, 3) := by decide +kernel
theorem dX7_loudest_17 : decode cX7_loudest 17 = .ok (.iconst (-1), 1) := by decide +kernel
theorem dX7_loudest_18 : decode cX7_loudest 18 = .ok (.ireturn, 1) := by decide +kernel
theorem dX7_loudest_19 : decode cX7_loudest 19 = .ok (.aload_n 0, 1) := by decide +kernel
theorem dX7_loudest_20 : decode cX7_loudest 20 = .ok (.invokevirtual 210, 3) := by decide +kernel
theorem dX7_loudest_23 : decode cX7_loudest 23 = .ok (.bipush (-2), 2) := by decide +kernel
theorem dX7_loudest_25 : decode cX7_loudest 25 = .ok (.istore_n 2, 1) := by decide +kernel
theorem dX7_loudest_26 : decode cX7_loudest 26 = .ok (.iconst 0, 1) := by decide +kernel
theorem dX7_loudest_27 : decode cX7_loudest 27 = .ok (.istore_n 3, 1) := by decide +kernel
theorem dX7_loudest_28 : decode cX7_loudest 28 = .ok (.iconst 0, 1) := by decide +kernel
theorem dX7_loudest_29 : decode cX7_loudest 29 = .ok (.istore 4, 2) := by decide +kernel
theorem dX7_loudest_31 : decode cX7_loudest 31 = .ok (.aload_n 0, 1) := by decide +kernel
theorem dX7_loudest_32 : decode cX7_loudest 32 = .ok (.invokevirtual 156, 3) := by decide +kernel
theorem dX7_loudest_35 : decode cX7_loudest 35 = .ok (.ifCond .le 28, 3) := by decide +kernel
theorem dX7_loudest_38 : decode cX7_loudest 38 = .ok (.aload_n 0, 1) := by decide +kernel
theorem dX7_loudest_39 : decode cX7_loudest 39 = .ok (.getfield 86, 3) := by decide +kernel
theorem dX7_loudest_42 : decode cX7_loudest 42 = .ok (.iload_n 3, 1) := by decide +kernel
theorem dX7_loudest_43 : decode cX7_loudest 43 = .ok (.if_icmp .gt 6, 3) := by decide +kernel
theorem dX7_loudest_46 : decode cX7_loudest 46 = .ok (.goto 11, 3) := by decide +kernel
theorem dX7_loudest_49 : decode cX7_loudest 49 = .ok (.iload 4, 2) := by decide +kernel
theorem dX7_loudest_51 : decode cX7_loudest 51 = .ok (.istore_n 2, 1) := by decide +kernel
theorem dX7_loudest_52 : decode cX7_loudest 52 = .ok (.aload_n 0, 1) := by decide +kernel
theorem dX7_loudest_53 : decode cX7_loudest 53 = .ok (.getfield 86, 3) := by decide +kernel
theorem dX7_loudest_56 : decode cX7_loudest 56 = .ok (.istore_n 3, 1) := by decide +kernel
theorem dX7_loudest_57 : decode cX7_loudest 57 = .ok (.iinc 4 1, 3) := by decide +kernel
theorem dX7_loudest_60 : decode cX7_loudest 60 = .ok (.goto (-29), 3) := by decide +kernel
theorem dX7_loudest_63 : decode cX7_loudest 63 = .ok (.aload_n 0, 1) := by decide +kernel
theorem dX7_loudest_64 : decode cX7_loudest 64 = .ok (.invokevirtual 216, 3) := by decide +kernel
theorem dX7_loudest_67 : decode cX7_loudest 67 = .ok (.iload_n 2, 1) := by decide +kernel
theorem dX7_loudest_68 : decode cX7_loudest 68 = .ok (.bipush (-2), 2) := by decide +kernel
theorem dX7_loudest_70 : decode cX7_loudest 70 = .ok (.if_icmp .eq 7, 3) := by decide +kernel
theorem dX7_loudest_73 : decode cX7_loudest 73 = .ok (.iload_n 1, 1) := by decide +kernel
theorem dX7_loudest_74 : decode cX7_loudest 74 = .ok (.ifCond .ne 7, 3) := by decide +kernel
theorem dX7_loudest_77 : decode cX7_loudest 77 = .ok (.iload_n 2, 1) := by decide +kernel
theorem dX7_loudest_78 : decode cX7_loudest 78 = .ok (.goto 6, 3) := by decide +kernel
theorem dX7_loudest_81 : decode cX7_loudest 81 = .ok (.iload_n 3, 1) := by decide +kernel
theorem dX7_loudest_82 : decode cX7_loudest 82 = .ok (.iload_n 3, 1) := by decide +kernel
theorem dX7_loudest_83 : decode cX7_loudest 83 = .ok (.imul, 1) := by decide +kernel
theorem dX7_loudest_84 : decode cX7_loudest 84 = .ok (.ireturn, 1) := by decide +kernel
theorem dX7_usual_0 : decode cX7_usual 0 = .ok (.aload_n 0, 1) := by decide +kernel
theorem dX7_usual_1 : decode cX7_usual 1 = .ok (.iload_n 1, 1) := by decide +kernel
theorem dX7_usual_2 : decode cX7_usual 2 = .ok (.invokevirtual 180, 3) := by decide +kernel
theorem dX7_usual_5 : decode cX7_usual 5 = .ok (.ifCond .eq 13, 3) := by decide +kernel
theorem dX7_usual_8 : decode cX7_usual 8 = .ok (.iload_n 2, 1) := by decide +kernel
theorem dX7_usual_9 : decode cX7_usual 9 = .ok (.i2l, 1) := by decide +kernel
theorem dX7_usual_10 : decode cX7_usual 10 = .ok (.lconst 0, 1) := by decide +kernel
theorem dX7_usual_11 : decode cX7_usual 11 = .ok (.lconst 1, 1) := by decide +kernel
theorem dX7_usual_12 : decode cX7_usual 12 = .ok (.invokestatic 39, 3) := by decide +kernel
theorem dX7_usual_15 : decode cX7_usual 15 = .ok (.ifCond .ne 5, 3) := by decide +kernel
theorem dX7_usual_18 : decode cX7_usual 18 = .ok (.iconst (-1), 1) := by decide +kernel
theorem dX7_usual_19 : decode cX7_usual 19 = .ok (.ireturn, 1) := by decide +kernel
theorem dX7_usual_20 : decode cX7_usual 20 = .ok (.bipush (-2), 2) := by decide +kernel
theorem dX7_usual_22 : decode cX7_usual 22 = .ok (.istore_n 3, 1) := by decide +kernel
theorem dX7_usual_23 : decode cX7_usual 23 = .ok (.iconst 0, 1) := by decide +kernel
theorem dX7_usual_24 : decode cX7_usual 24 = .ok (.istore 4, 2) := by decide +kernel
theorem dX7_usual_26 : decode cX7_usual 26 = .ok (.iconst 0, 1) := by decide +kernel
theorem dX7_usual_27 : decode cX7_usual 27 = .ok (.istore 5, 2) := by decide +kernel
theorem dX7_usual_29 : decode cX7_usual 29 = .ok (.iload 5, 2) := by decide +kernel
theorem dX7_usual_31 : decode cX7_usual 31 = .ok (.aload_n 0, 1) := by decide +kernel
theorem dX7_usual_32 : decode cX7_usual 32 = .ok (.iload_n 1, 1) := by decide +kernel
theorem dX7_usual_33 : decode cX7_usual 33 = .ok (.invokevirtual 60, 3) := by decide +kernel
theorem dX7_usual_36 : decode cX7_usual 36 = .ok (.if_icmp .ge 38, 3) := by decide +kernel
theorem dX7_usual_39 : decode cX7_usual 39 = .ok (.aload_n 0, 1) := by decide +kernel
theorem dX7_usual_40 : decode cX7_usual 40 = .ok (.iload_n 1, 1) := by decide +kernel
theorem dX7_usual_41 : decode cX7_usual 41 = .ok (.iload 5, 2) := by decide +kernel
theorem dX7_usual_43 : decode cX7_usual 43 = .ok (.iconst 1, 1) := by decide +kernel
theorem dX7_usual_44 : decode cX7_usual 44 = .ok (.invokevirtual 407, 3) := by decide +kernel
theorem dX7_usual_47 : decode cX7_usual 47 = .ok (.iload 4, 2) := by decide +kernel
theorem dX7_usual_49 : decode cX7_usual 49 = .ok (.if_icmp .gt 6, 3) := by decide +kernel
theorem dX7_usual_52 : decode cX7_usual 52 = .ok (.goto 16, 3) := by decide +kernel
theorem dX7_usual_55 : decode cX7_usual 55 = .ok (.iload 5, 2) := by decide +kernel
theorem dX7_usual_57 : decode cX7_usual 57 = .ok (.istore_n 3, 1) := by decide +kernel
theorem dX7_usual_58 : decode cX7_usual 58 = .ok (.aload_n 0, 1) := by decide +kernel
theorem dX7_usual_59 : decode cX7_usual 59 = .ok (.iload_n 1, 1) := by decide +kernel
theorem dX7_usual_60 : decode cX7_usual 60 = .ok (.iload 5, 2) := by decide +kernel
theorem dX7_usual_62 : decode cX7_usual 62 = .ok (.iconst 1, 1) := by decide +kernel
theorem dX7_usual_63 : decode cX7_usual 63 = .ok (.invokevirtual 407, 3) := by decide +kernel
theorem dX7_usual_66 : decode cX7_usual 66 = .ok (.istore 4, 2) := by decide +kernel
theorem dX7_usual_68 : decode cX7_usual 68 = .ok (.iinc 5 1, 3) := by decide +kernel
theorem dX7_usual_71 : decode cX7_usual 71 = .ok (.goto (-42), 3) := by decide +kernel
theorem dX7_usual_74 : decode cX7_usual 74 = .ok (.iload_n 3, 1) := by decide +kernel
theorem dX7_usual_75 : decode cX7_usual 75 = .ok (.bipush (-2), 2) := by decide +kernel
theorem dX7_usual_77 : decode cX7_usual 77 = .ok (.if_icmp .eq 7, 3) := by decide +kernel
theorem dX7_usual_80 : decode cX7_usual 80 = .ok (.iload_n 2, 1) := by decide +kernel
theorem dX7_usual_81 : decode cX7_usual 81 = .ok (.ifCond .ne 7, 3) := by decide +kernel
theorem dX7_usual_84 : decode cX7_usual 84 = .ok (.iload_n 3, 1) := by decide +kernel
theorem dX7_usual_85 : decode cX7_usual 85 = .ok (.goto 5, 3) := by decide +kernel
theorem dX7_usual_88 : decode cX7_usual 88 = .ok (.iload 4, 2) := by decide +kernel
theorem dX7_usual_90 : decode cX7_usual 90 = .ok (.ireturn, 1) := by decide +kernel

