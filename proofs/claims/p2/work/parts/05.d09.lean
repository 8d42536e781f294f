theorem dX7_readsDrum_77 : decode cX7_readsDrum 77 = .ok (.getfield 7, 3) := by decide +kernel
theorem dX7_readsDrum_80 : decode cX7_readsDrum 80 = .ok (.iload_n 2, 1) := by decide +kernel
theorem dX7_readsDrum_81 : decode cX7_readsDrum 81 = .ok (.iconst 1, 1) := by decide +kernel
theorem dX7_readsDrum_82 : decode cX7_readsDrum 82 = .ok (.iadd, 1) := by decide +kernel
theorem dX7_readsDrum_83 : decode cX7_readsDrum 83 = .ok (.aload_n 0, 1) := by decide +kernel
theorem dX7_readsDrum_84 : decode cX7_readsDrum 84 = .ok (.getfield 308, 3) := by decide +kernel
theorem dX7_readsDrum_87 : decode cX7_readsDrum 87 = .ok (.i2l, 1) := by decide +kernel
theorem dX7_readsDrum_88 : decode cX7_readsDrum 88 = .ok (.lastore, 1) := by decide +kernel
theorem dX7_readsDrum_89 : decode cX7_readsDrum 89 = .ok (.iconst 0, 1) := by decide +kernel
theorem dX7_readsDrum_90 : decode cX7_readsDrum 90 = .ok (.istore_n 3, 1) := by decide +kernel
theorem dX7_readsDrum_91 : decode cX7_readsDrum 91 = .ok (.iload_n 3, 1) := by decide +kernel
theorem dX7_readsDrum_92 : decode cX7_readsDrum 92 = .ok (.aload_n 0, 1) := by decide +kernel
theorem dX7_readsDrum_93 : decode cX7_readsDrum 93 = .ok (.getfield 308, 3) := by decide +kernel
theorem dX7_readsDrum_96 : decode cX7_readsDrum 96 = .ok (.if_icmp .ge 31, 3) := by decide +kernel
theorem dX7_readsDrum_99 : decode cX7_readsDrum 99 = .ok (.aload_n 0, 1) := by decide +kernel
theorem dX7_readsDrum_100 : decode cX7_readsDrum 100 = .ok (.getfield 7, 3) := by decide +kernel
theorem dX7_readsDrum_103 : decode cX7_readsDrum 103 = .ok (.iload_n 2, 1) := by decide +kernel
theorem dX7_readsDrum_104 : decode cX7_readsDrum 104 = .ok (.iconst 2, 1) := by decide +kernel
theorem dX7_readsDrum_105 : decode cX7_readsDrum 105 = .ok (.iadd, 1) := by decide +kernel
theorem dX7_readsDrum_106 : decode cX7_readsDrum 106 = .ok (.iload_n 3, 1) := by decide +kernel
theorem dX7_readsDrum_107 : decode cX7_readsDrum 107 = .ok (.iadd, 1) := by decide +kernel
theorem dX7_readsDrum_108 : decode cX7_readsDrum 108 = .ok (.aload_n 0, 1) := by decide +kernel
theorem dX7_readsDrum_109 : decode cX7_readsDrum 109 = .ok (.getfield 31, 3) := by decide +kernel
theorem dX7_readsDrum_112 : decode cX7_readsDrum 112 = .ok (.aload_n 0, 1) := by decide +kernel
theorem dX7_readsDrum_113 : decode cX7_readsDrum 113 = .ok (.getfield 305, 3) := by decide +kernel
theorem dX7_readsDrum_116 : decode cX7_readsDrum 116 = .ok (.iload_n 3, 1) := by decide +kernel
theorem dX7_readsDrum_117 : decode cX7_readsDrum 117 = .ok (.iadd, 1) := by decide +kernel
theorem dX7_readsDrum_118 : decode cX7_readsDrum 118 = .ok (.baload, 1) := by decide +kernel
theorem dX7_readsDrum_119 : decode cX7_readsDrum 119 = .ok (.i2l, 1) := by decide +kernel
theorem dX7_readsDrum_120 : decode cX7_readsDrum 120 = .ok (.lastore, 1) := by decide +kernel
theorem dX7_readsDrum_121 : decode cX7_readsDrum 121 = .ok (.iinc 3 1, 3) := by decide +kernel
theorem dX7_readsDrum_124 : decode cX7_readsDrum 124 = .ok (.goto (-33), 3) := by decide +kernel
theorem dX7_readsDrum_127 : decode cX7_readsDrum 127 = .ok (.aload_n 0, 1) := by decide +kernel
theorem dX7_readsDrum_128 : decode cX7_readsDrum 128 = .ok (.getfield 7, 3) := by decide +kernel
theorem dX7_readsDrum_131 : decode cX7_readsDrum 131 = .ok (.iconst 3, 1) := by decide +kernel
theorem dX7_readsDrum_132 : decode cX7_readsDrum 132 = .ok (.dup2, 1) := by decide +kernel
theorem dX7_readsDrum_133 : decode cX7_readsDrum 133 = .ok (.laload, 1) := by decide +kernel
theorem dX7_readsDrum_134 : decode cX7_readsDrum 134 = .ok (.lconst 1, 1) := by decide +kernel
theorem dX7_readsDrum_135 : decode cX7_readsDrum 135 = .ok (.ladd, 1) := by decide +kernel
theorem dX7_readsDrum_136 : decode cX7_readsDrum 136 = .ok (.lastore, 1) := by decide +kernel
theorem dX7_readsDrum_137 : decode cX7_readsDrum 137 = .ok (.iconst 1, 1) := by decide +kernel
theorem dX7_readsDrum_138 : decode cX7_readsDrum 138 = .ok (.ireturn, 1) := by decide +kernel
theorem dX7_readsCells_0 : decode cX7_readsCells 0 = .ok (.aload_n 0, 1) := by decide +kernel
theorem dX7_readsCells_1 : decode cX7_readsCells 1 = .ok (.dup, 1) := by decide +kernel
theorem dX7_readsCells_2 : decode cX7_readsCells 2 = .ok (.getfield 254, 3) := by decide +kernel
theorem dX7_readsCells_5 : decode cX7_readsCells 5 = .ok (.iconst 5, 1) := by decide +kernel
theorem dX7_readsCells_6 : decode cX7_readsCells 6 = .ok (.iadd, 1) := by decide +kernel
theorem dX7_readsCells_7 : decode cX7_readsCells 7 = .ok (.putfield 254, 3) := by decide +kernel
theorem dX7_readsCells_10 : decode cX7_readsCells 10 = .ok (.aload_n 0, 1) := by decide +kernel
theorem dX7_readsCells_11 : decode cX7_readsCells 11 = .ok (.iconst 0, 1) := by decide +kernel
theorem dX7_readsCells_12 : decode cX7_readsCells 12 = .ok (.aload_n 0, 1) := by decide +kernel
theorem dX7_readsCells_13 : decode cX7_readsCells 13 = .ok (.invokevirtual 53, 3) := by decide +kernel
theorem dX7_readsCells_16 : decode cX7_readsCells 16 = .ok (.iconst 1, 1) := by decide +kernel
theorem dX7_readsCells_17 : decode cX7_readsCells 17 = .ok (.isub, 1) := by decide +kernel
theorem dX7_readsCells_18 : decode cX7_readsCells 18 = .ok (.invokevirtual 311, 3) := by decide +kernel
theorem dX7_readsCells_21 : decode cX7_readsCells 21 = .ok (.ifCond .ne 5, 3) := by decide +kernel
theorem dX7_readsCells_24 : decode cX7_readsCells 24 = .ok (.iconst 0, 1) := by decide +kernel
theorem dX7_readsCells_25 : decode cX7_readsCells 25 = .ok (.ireturn, 1) := by decide +kernel
theorem dX7_readsCells_26 : decode cX7_readsCells 26 = .ok (.aload_n 0, 1) := by decide +kernel
theorem dX7_readsCells_27 : decode cX7_readsCells 27 = .ok (.getfield 299, 3) := by decide +kernel
theorem dX7_readsCells_30 : decode cX7_readsCells 30 = .ok (.istore_n 1, 1) := by decide +kernel
theorem dX7_readsCells_31 : decode cX7_readsCells 31 = .ok (.aload_n 0, 1) := by decide +kernel
theorem dX7_readsCells_32 : decode cX7_readsCells 32 = .ok (.iload_n 1, 1) := by decide +kernel
theorem dX7_readsCells_33 : decode cX7_readsCells 33 = .ok (.aload_n 0, 1) := by decide +kernel
theorem dX7_readsCells_34 : decode cX7_readsCells 34 = .ok (.invokevirtual 53, 3) := by decide +kernel
theorem dX7_readsCells_37 : decode cX7_readsCells 37 = .ok (.iconst 1, 1) := by decide +kernel
theorem dX7_readsCells_38 : decode cX7_readsCells 38 = .ok (.isub, 1) := by decide +kernel
theorem dX7_readsCells_39 : decode cX7_readsCells 39 = .ok (.invokevirtual 311, 3) := by decide +kernel
theorem dX7_readsCells_42 : decode cX7_readsCells 42 = .ok (.ifCond .ne 5, 3) := by decide +kernel
theorem dX7_readsCells_45 : decode cX7_readsCells 45 = .ok (.iconst 0, 1) := by decide +kernel
theorem dX7_readsCells_46 : decode cX7_readsCells 46 = .ok (.ireturn, 1) := by decide +kernel
theorem dX7_readsCells_47 : decode cX7_readsCells 47 = .ok (.aload_n 0, 1) := by decide +kernel
theorem dX7_readsCells_48 : decode cX7_readsCells 48 = .ok (.getfield 299, 3) := by decide +kernel
theorem dX7_readsCells_51 : decode cX7_readsCells 51 = .ok (.istore_n 2, 1) := by decide +kernel
theorem dX7_readsCells_52 : decode cX7_readsCells 52 = .ok (.aload_n 0, 1) := by decide +kernel
theorem dX7_readsCells_53 : decode cX7_readsCells 53 = .ok (.iconst 0, 1) := by decide +kernel
theorem dX7_readsCells_54 : decode cX7_readsCells 54 = .ok (.aload_n 0, 1) := by decide +kernel
theorem dX7_readsCells_55 : decode cX7_readsCells 55 = .ok (.invokevirtual 50, 3) := by decide +kernel
theorem dX7_readsCells_58 : decode cX7_readsCells 58 = .ok (.iconst 1, 1) := by decide +kernel
theorem dX7_readsCells_59 : decode cX7_readsCells 59 = .ok (.isub, 1) := by decide +kernel
theorem dX7_readsCells_60 : decode cX7_readsCells 60 = .ok (.invokevirtual 311, 3) := by decide +kernel
theorem dX7_readsCells_63 : decode cX7_readsCells 63 = .ok (.ifCond .ne 5, 3) := by decide +kernel
theorem dX7_readsCells_66 : decode cX7_readsCells 66 = .ok (.iconst 0, 1) := by decide +kernel
theorem dX7_readsCells_67 : decode cX7_readsCells 67 = .ok (.ireturn, 1) := by decide +kernel
theorem dX7_readsCells_68 : decode cX7_readsCells 68 = .ok (.iload_n 1, 1) := by decide +kernel
theorem dX7_readsCells_69 : decode cX7_readsCells 69 = .ok (.istore_n 3, 1) := by decide +kernel
theorem dX7_readsCells_70 : decode cX7_readsCells 70 = .ok (.iload_n 3, 1) := by decide +kernel
theorem dX7_readsCells_71 : decode cX7_readsCells 71 = .ok (.iload_n 2, 1) := by decide +kernel
theorem dX7_readsCells_72 : decode cX7_readsCells 72 = .ok (.if_icmp .gt 44, 3) := by decide +kernel
theorem dX7_readsCells_75 : decode cX7_readsCells 75 = .ok (.iconst 0, 1) := by decide +kernel
theorem dX7_readsCells_76 : decode cX7_readsCells 76 = .ok (.istore 4, 2) := by decide +kernel
theorem dX7_readsCells_78 : decode cX7_readsCells 78 = .ok (.iload 4, 2) := by decide +kernel
theorem dX7_readsCells_80 : decode cX7_readsCells 80 = .ok (.bipush 8, 2) := by decide +kernel
theorem dX7_readsCells_82 : decode cX7_readsCells 82 = .ok (.if_icmp .ge 17, 3) := by decide +kernel
theorem dX7_readsCells_85 : decode cX7_readsCells 85 = .ok (.aload_n 0, 1) := by decide +kernel
theorem dX7_readsCells_86 : decode cX7_readsCells 86 = .ok (.iload_n 3, 1) := by decide +kernel
theorem dX7_readsCells_87 : decode cX7_readsCells 87 = .ok (.iload 4, 2) := by decide +kernel
theorem dX7_readsCells_89 : decode cX7_readsCells 89 = .ok (.lconst 0, 1) := by decide +kernel
theorem dX7_readsCells_90 : decode cX7_readsCells 90 = .ok (.invokevirtual 78, 3) := by decide +kernel
theorem dX7_readsCells_93 : decode cX7_readsCells 93 = .ok (.iinc 4 1, 3) := by decide +kernel
theorem dX7_readsCells_96 : decode cX7_readsCells 96 = .ok (.goto (-18), 3) := by decide +kernel
theorem dX7_readsCells_99 : decode cX7_readsCells 99 = .ok (.aload_n 0, 1) := by decide +kernel
theorem dX7_readsCells_100 : decode cX7_readsCells 100 = .ok (.iload_n 3, 1) := by decide +kernel
theorem dX7_readsCells_101 : decode cX7_readsCells 101 = .ok (.iconst 0, 1) := by decide +kernel
theorem dX7_readsCells_102 : decode cX7_readsCells 102 = .ok (.aload_n 0, 1) := by decide +kernel
theorem dX7_readsCells_103 : decode cX7_readsCells 103 = .ok (.getfield 299, 3) := by decide +kernel
theorem dX7_readsCells_106 : decode cX7_readsCells 106 = .ok (.i2l, 1) := by decide +kernel
theorem dX7_readsCells_107 : decode cX7_readsCells 107 = .ok (.invokevirtual 78, 3) := by decide +kernel
theorem dX7_readsCells_110 : decode cX7_readsCells 110 = .ok (.iinc 3 1, 3) := by decide +kernel
theorem dX7_readsCells_113 : decode cX7_readsCells 113 = .ok (.goto (-43), 3) := by decide +kernel
theorem dX7_readsCells_116 : decode cX7_readsCells 116 = .ok (.iconst 1, 1) := by decide +kernel
theorem dX7_readsCells_117 : decode cX7_readsCells 117 = .ok (.ireturn, 1) := by decide +kernel
theorem dX7_readsWorn_0 : decode cX7_readsWorn 0 = .ok (.aload_n 0, 1) := by decide +kernel
theorem dX7_readsWorn_1 : decode cX7_readsWorn 1 = .ok (.dup, 1) := by decide +kernel
theorem dX7_readsWorn_2 : decode cX7_readsWorn 2 = .ok (.getfield 254, 3) := by decide +kernel
theorem dX7_readsWorn_5 : decode cX7_readsWorn 5 = .ok (.iconst 4, 1) := by decide +kernel
theorem dX7_readsWorn_6 : decode cX7_readsWorn 6 = .ok (.iadd, 1) := by decide +kernel
theorem dX7_readsWorn_7 : decode cX7_readsWorn 7 = .ok (.putfield 254, 3) := by decide +kernel
theorem dX7_readsWorn_10 : decode cX7_readsWorn 10 = .ok (.aload_n 0, 1) := by decide +kernel
theorem dX7_readsWorn_11 : decode cX7_readsWorn 11 = .ok (.iconst 0, 1) := by decide +kernel
theorem dX7_readsWorn_12 : decode cX7_readsWorn 12 = .ok (.aload_n 0, 1) := by decide +kernel
theorem dX7_readsWorn_13 : decode cX7_readsWorn 13 = .ok (.invokevirtual 53, 3) := by decide +kernel
theorem dX7_readsWorn_16 : decode cX7_readsWorn 16 = .ok (.iconst 1, 1) := by decide +kernel
theorem dX7_readsWorn_17 : decode cX7_readsWorn 17 = .ok (.isub, 1) := by decide +kernel
theorem dX7_readsWorn_18 : decode cX7_readsWorn 18 = .ok (.invokevirtual 311, 3) := by decide +kernel
theorem dX7_readsWorn_21 : decode cX7_readsWorn 21 = .ok (.ifCond .ne 5, 3) := by decide +kernel
theorem dX7_readsWorn_24 : decode cX7_readsWorn 24 = .ok (.iconst 0, 1) := by decide +kernel
theorem dX7_readsWorn_25 : decode cX7_readsWorn 25 = .ok (.ireturn, 1) := by decide +kernel
theorem dX7_readsWorn_26 : decode cX7_readsWorn 26 = .ok (.aload_n 0, 1) := by decide +kernel
theorem dX7_readsWorn_27 : decode cX7_readsWorn 27 = .ok (.getfield 299, 3) := by decide +kernel
theorem dX7_readsWorn_30 : decode cX7_readsWorn 30 = .ok (.istore_n 1, 1) := by decide +kernel
theorem dX7_readsWorn_31 : decode cX7_readsWorn 31 = .ok (.aload_n 0, 1) := by decide +kernel
theorem dX7_readsWorn_32 : decode cX7_readsWorn 32 = .ok (.iconst 1, 1) := by decide +kernel
theorem dX7_readsWorn_33 : decode cX7_readsWorn 33 = .ok (.aload_n 0, 1) := by decide +kernel
theorem dX7_readsWorn_34 : decode cX7_readsWorn 34 = .ok (.iload_n 1, 1) := by decide +kernel
theorem dX7_readsWorn_35 : decode cX7_readsWorn 35 = .ok (.invokevirtual 67, 3) := by decide +kernel
theorem dX7_readsWorn_38 : decode cX7_readsWorn 38 = .ok (.iconst 1, 1) := by decide +kernel
theorem dX7_readsWorn_39 : decode cX7_readsWorn 39 = .ok (.isub, 1) := by decide +kernel
theorem dX7_readsWorn_40 : decode cX7_readsWorn 40 = .ok (.invokevirtual 311, 3) := by decide +kernel
theorem dX7_readsWorn_43 : decode cX7_readsWorn 43 = .ok (.ifCond .ne 5, 3) := by decide +kernel
theorem dX7_readsWorn_46 : decode cX7_readsWorn 46 = .ok (.iconst 0, 1) := by decide +kernel
theorem dX7_readsWorn_47 : decode cX7_readsWorn 47 = .ok (.ireturn, 1) := by decide +kernel
theorem dX7_readsWorn_48 : decode cX7_readsWorn 48 = .ok (.aload_n 0, 1) := by decide +kernel
theorem dX7_readsWorn_49 : decode cX7_readsWorn 49 = .ok (.iload_n 1, 1) := by decide +kernel
theorem dX7_readsWorn_50 : decode cX7_readsWorn 50 = .ok (.invokevirtual 109, 3) := by decide +kernel
theorem dX7_readsWorn_53 : decode cX7_readsWorn 53 = .ok (.aload_n 0, 1) := by decide +kernel
theorem dX7_readsWorn_54 : decode cX7_readsWorn 54 = .ok (.getfield 299, 3) := by decide +kernel
theorem dX7_readsWorn_57 : decode cX7_readsWorn 57 = .ok (.invokestatic 74, 3) := by decide +kernel
theorem dX7_readsWorn_60 : decode cX7_readsWorn 60 = .ok (.ifCond .eq 13, 3) := by decide +kernel
theorem dX7_readsWorn_63 : decode cX7_readsWorn 63 = .ok (.aload_n 0, 1) := by decide +kernel
theorem dX7_readsWorn_64 : decode cX7_readsWorn 64 = .ok (.iconst 2, 1) := by decide +kernel
theorem dX7_readsWorn_65 : decode cX7_readsWorn 65 = .ok (.aload_n 0, 1) := by decide +kernel
theorem dX7_readsWorn_66 : decode cX7_readsWorn 66 = .ok (.getfield 296, 3) := by decide +kernel
theorem dX7_readsWorn_69 : decode cX7_readsWorn 69 = .ok (.invokevirtual 286, 3) := by decide +kernel
theorem dX7_readsWorn_72 : decode cX7_readsWorn 72 = .ok (.ireturn, 1) := by decide +kernel
theorem dX7_readsWorn_73 : decode cX7_readsWorn 73 = .ok (.aload_n 0, 1) := by decide +kernel
theorem dX7_readsWorn_74 : decode cX7_readsWorn 74 = .ok (.iload_n 1, 1) := by decide +kernel
theorem dX7_readsWorn_75 : decode cX7_readsWorn 75 = .ok (.aload_n 0, 1) := by decide +kernel
theorem dX7_readsWorn_76 : decode cX7_readsWorn 76 = .ok (.getfield 299, 3) := by decide +kernel
theorem dX7_readsWorn_79 : decode cX7_readsWorn 79 = .ok (.invokevirtual 170, 3) := by decide +kernel
theorem dX7_readsWorn_82 : decode cX7_readsWorn 82 = .ok (.iconst 1, 1) := by decide +kernel
theorem dX7_readsWorn_83 : decode cX7_readsWorn 83 = .ok (.ireturn, 1) := by decide +kernel
theorem dX7_readsRow_0 : decode cX7_readsRow 0 = .ok (.aload_n 0, 1) := by decide +kernel
theorem dX7_readsRow_1 : decode cX7_readsRow 1 = .ok (.dup, 1) := by decide +kernel
theorem dX7_readsRow_2 : decode cX7_readsRow 2 = .ok (.getfield 254, 3) := by decide +kernel
theorem dX7_readsRow_5 : decode cX7_readsRow 5 = .ok (.iconst 3, 1) := by decide +kernel
theorem dX7_readsRow_6 : decode cX7_readsRow 6 = .ok (.iadd, 1) := by decide +kernel
theorem dX7_readsRow_7 : decode cX7_readsRow 7 = .ok (.putfield 254, 3) := by decide +kernel
theorem dX7_readsRow_10 : decode cX7_readsRow 10 = .ok (.aload_n 0, 1) := by decide +kernel
theorem dX7_readsRow_11 : decode cX7_readsRow 11 = .ok (.iconst 0, 1) := by decide +kernel
theorem dX7_readsRow_12 : decode cX7_readsRow 12 = .ok (.aload_n 0, 1) := by decide +kernel
theorem dX7_readsRow_13 : decode cX7_readsRow 13 = .ok (.invokevirtual 43, 3) := by decide +kernel
theorem dX7_readsRow_16 : decode cX7_readsRow 16 = .ok (.iconst 1, 1) := by decide +kernel
theorem dX7_readsRow_17 : decode cX7_readsRow 17 = .ok (.isub, 1) := by decide +kernel
theorem dX7_readsRow_18 : decode cX7_readsRow 18 = .ok (.invokevirtual 311, 3) := by decide +kernel
theorem dX7_readsRow_21 : decode cX7_readsRow 21 = .ok (.ifCond .ne 5, 3) := by decide +kernel
theorem dX7_readsRow_24 : decode cX7_readsRow 24 = .ok (.iconst 0, 1) := by decide +kernel
theorem dX7_readsRow_25 : decode cX7_readsRow 25 = .ok (.ireturn, 1) := by decide +kernel
theorem dX7_readsRow_26 : decode cX7_readsRow 26 = .ok (.aload_n 0, 1) := by decide +kernel
theorem dX7_readsRow_27 : decode cX7_readsRow 27 = .ok (.getfield 299, 3) := by decide +kernel
theorem dX7_readsRow_30 : decode cX7_readsRow 30 = .ok (.istore_n 1, 1) := by decide +kernel
theorem dX7_readsRow_31 : decode cX7_readsRow 31 = .ok (.aload_n 0, 1) := by decide +kernel
theorem dX7_readsRow_32 : decode cX7_readsRow 32 = .ok (.iconst 0, 1) := by decide +kernel
theorem dX7_readsRow_33 : decode cX7_readsRow 33 = .ok (.aload_n 0, 1) := by decide +kernel
theorem dX7_readsRow_34 : decode cX7_readsRow 34 = .ok (.invokevirtual 47, 3) := by decide +kernel
theorem dX7_readsRow_37 : decode cX7_readsRow 37 = .ok (.invokevirtual 314, 3) := by decide +kernel
theorem dX7_readsRow_40 : decode cX7_readsRow 40 = .ok (.ifCond .ne 5, 3) := by decide +kernel
theorem dX7_readsRow_43 : decode cX7_readsRow 43 = .ok (.iconst 0, 1) := by decide +kernel
theorem dX7_readsRow_44 : decode cX7_readsRow 44 = .ok (.ireturn, 1) := by decide +kernel
theorem dX7_readsRow_45 : decode cX7_readsRow 45 = .ok (.aload_n 0, 1) := by decide +kernel
theorem dX7_readsRow_46 : decode cX7_readsRow 46 = .ok (.iload_n 1, 1) := by decide +kernel
theorem dX7_readsRow_47 : decode cX7_readsRow 47 = .ok (.aload_n 0, 1) := by decide +kernel
theorem dX7_readsRow_48 : decode cX7_readsRow 48 = .ok (.getfield 305, 3) := by decide +kernel
theorem dX7_readsRow_51 : decode cX7_readsRow 51 = .ok (.aload_n 0, 1) := by decide +kernel
theorem dX7_readsRow_52 : decode cX7_readsRow 52 = .ok (.getfield 308, 3) := by decide +kernel
theorem dX7_readsRow_55 : decode cX7_readsRow 55 = .ok (.iconst 0, 1) := by decide +kernel
theorem dX7_readsRow_56 : decode cX7_readsRow 56 = .ok (.invokevirtual 120, 3) := by decide +kernel
theorem dX7_readsRow_59 : decode cX7_readsRow 59 = .ok (.istore_n 2, 1) := by decide +kernel
theorem dX7_readsRow_60 : decode cX7_readsRow 60 = .ok (.iconst 0, 1) := by decide +kernel
theorem dX7_readsRow_61 : decode cX7_readsRow 61 = .ok (.istore_n 3, 1) := by decide +kernel
theorem dX7_readsRow_62 : decode cX7_readsRow 62 = .ok (.iload_n 3, 1) := by decide +kernel
theorem dX7_readsRow_63 : decode cX7_readsRow 63 = .ok (.aload_n 0, 1) := by decide +kernel
theorem dX7_readsRow_64 : decode cX7_readsRow 64 = .ok (.invokevirtual 47, 3) := by decide +kernel
theorem dX7_readsRow_67 : decode cX7_readsRow 67 = .ok (.if_icmp .ge 49, 3) := by decide +kernel
theorem dX7_readsRow_70 : decode cX7_readsRow 70 = .ok (.aload_n 0, 1) := by decide +kernel
theorem dX7_readsRow_71 : decode cX7_readsRow 71 = .ok (.invokevirtual 47, 3) := by decide +kernel
theorem dX7_readsRow_74 : decode cX7_readsRow 74 = .ok (.iload_n 1, 1) := by decide +kernel
theorem dX7_readsRow_75 : decode cX7_readsRow 75 = .ok (.imul, 1) := by decide +kernel
theorem dX7_readsRow_76 : decode cX7_readsRow 76 = .ok (.iload_n 3, 1) := by decide +kernel
theorem dX7_readsRow_77 : decode cX7_readsRow 77 = .ok (.iadd, 1) := by decide +kernel
theorem dX7_readsRow_78 : decode cX7_readsRow 78 = .ok (.istore 4, 2) := by decide +kernel
theorem dX7_readsRow_80 : decode cX7_readsRow 80 = .ok (.aload_n 0, 1) := by decide +kernel
theorem dX7_readsRow_81 : decode cX7_readsRow 81 = .ok (.iload 4, 2) := by decide +kernel
theorem dX7_readsRow_83 : decode cX7_readsRow 83 = .ok (.iconst 1, 1) := by decide +kernel
theorem dX7_readsRow_84 : decode cX7_readsRow 84 = .ok (.aload_n 0, 1) := by decide +kernel
theorem dX7_readsRow_85 : decode cX7_readsRow 85 = .ok (.iload 4, 2) := by decide +kernel
theorem dX7_readsRow_87 : decode cX7_readsRow 87 = .ok (.iconst 3, 1) := by decide +kernel
theorem dX7_readsRow_88 : decode cX7_readsRow 88 = .ok (.invokevirtual 56, 3) := by decide +kernel
theorem dX7_readsRow_91 : decode cX7_readsRow 91 = .ok (.i2l, 1) := by decide +kernel
theorem dX7_readsRow_92 : decode cX7_readsRow 92 = .ok (.invokevirtual 78, 3) := by decide +kernel
theorem dX7_readsRow_95 : decode cX7_readsRow 95 = .ok (.aload_n 0, 1) := by decide +kernel
theorem dX7_readsRow_96 : decode cX7_readsRow 96 = .ok (.iload 4, 2) := by decide +kernel
theorem dX7_readsRow_98 : decode cX7_readsRow 98 = .ok (.iconst 2, 1) := by decide +kernel
theorem dX7_readsRow_99 : decode cX7_readsRow 99 = .ok (.aload_n 0, 1) := by decide +kernel
theorem dX7_readsRow_100 : decode cX7_readsRow 100 = .ok (.iload 4, 2) := by decide +kernel
theorem dX7_readsRow_102 : decode cX7_readsRow 102 = .ok (.iconst 3, 1) := by decide +kernel
theorem dX7_readsRow_103 : decode cX7_readsRow 103 = .ok (.invokevirtual 56, 3) := by decide +kernel
theorem dX7_readsRow_106 : decode cX7_readsRow 106 = .ok (.i2l, 1) := by decide +kernel
theorem dX7_readsRow_107 : decode cX7_readsRow 107 = .ok (.invokevirtual 78, 3) := by decide +kernel
theorem dX7_readsRow_110 : decode cX7_readsRow 110 = .ok (.iinc 3 1, 3) := by decide +kernel
theorem dX7_readsRow_113 : decode cX7_readsRow 113 = .ok (.goto (-51), 3) := by decide +kernel
theorem dX7_readsRow_116 : decode cX7_readsRow 116 = .ok (.iconst 1, 1) := by decide +kernel
theorem dX7_readsRow_117 : decode cX7_readsRow 117 = .ok (.ireturn, 1) := by decide +kernel
theorem dX7_readsLose_0 : decode cX7_readsLose 0 = .ok (.aload_n 0, 1) := by decide +kernel
theorem dX7_readsLose_1 : decode cX7_readsLose 1 = .ok (.dup, 1) := by decide +kernel
theorem dX7_readsLose_2 : decode cX7_readsLose 2 = .ok (.getfield 254, 3) := by decide +kernel
theorem dX7_readsLose_5 : decode cX7_readsLose 5 = .ok (.iconst 4, 1) := by decide +kernel
theorem dX7_readsLose_6 : decode cX7_readsLose 6 = .ok (.iadd, 1) := by decide +kernel
theorem dX7_readsLose_7 : decode cX7_readsLose 7 = .ok (.putfield 254, 3) := by decide +kernel
theorem dX7_readsLose_10 : decode cX7_readsLose 10 = .ok (.aload_n 0, 1) := by decide +kernel
theorem dX7_readsLose_11 : decode cX7_readsLose 11 = .ok (.iconst 0, 1) := by decide +kernel
theorem dX7_readsLose_12 : decode cX7_readsLose 12 = .ok (.aload_n 0, 1) := by decide +kernel
theorem dX7_readsLose_13 : decode cX7_readsLose 13 = .ok (.invokevirtual 53, 3) := by decide +kernel
theorem dX7_readsLose_16 : decode cX7_readsLose 16 = .ok (.iconst 1, 1) := by decide +kernel
theorem dX7_readsLose_17 : decode cX7_readsLose 17 = .ok (.isub, 1) := by decide +kernel
theorem dX7_readsLose_18 : decode cX7_readsLose 18 = .ok (.invokevirtual 311, 3) := by decide +kernel
theorem dX7_readsLose_21 : decode cX7_readsLose 21 = .ok (.ifCond .ne 5, 3) := by decide +kernel
theorem dX7_readsLose_24 : decode cX7_readsLose 24 = .ok (.iconst 0, 1) := by decide +kernel
theorem dX7_readsLose_25 : decode cX7_readsLose 25 = .ok (.ireturn, 1) := by decide +kernel
theorem dX7_readsLose_26 : decode cX7_readsLose 26 = .ok (.aload_n 0, 1) := by decide +kernel
theorem dX7_readsLose_27 : decode cX7_readsLose 27 = .ok (.aload_n 0, 1) := by decide +kernel
theorem dX7_readsLose_28 : decode cX7_readsLose 28 = .ok (.getfield 299, 3) := by decide +kernel
theorem dX7_readsLose_31 : decode cX7_readsLose 31 = .ok (.putfield 317, 3) := by decide +kernel
theorem dX7_readsLose_34 : decode cX7_readsLose 34 = .ok (.aload_n 0, 1) := by decide +kernel
theorem dX7_readsLose_35 : decode cX7_readsLose 35 = .ok (.iconst 0, 1) := by decide +kernel
theorem dX7_readsLose_36 : decode cX7_readsLose 36 = .ok (.bipush 9, 2) := by decide +kernel
theorem dX7_readsLose_38 : decode cX7_readsLose 38 = .ok (.invokevirtual 311, 3) := by decide +kernel
theorem dX7_readsLose_41 : decode cX7_readsLose 41 = .ok (.ireturn, 1) := by decide +kernel
theorem dX7_readsPart_0 : decode cX7_readsPart 0 = .ok (.aload_n 0, 1) := by decide +kernel
theorem dX7_readsPart_1 : decode cX7_readsPart 1 = .ok (.ldc_w 320, 3) := by decide +kernel
theorem dX7_readsPart_4 : decode cX7_readsPart 4 = .ok (.invokevirtual 279, 3) := by decide +kernel
theorem dX7_readsPart_7 : decode cX7_readsPart 7 = .ok (.ifCond .eq 8, 3) := by decide +kernel
theorem dX7_readsPart_10 : decode cX7_readsPart 10 = .ok (.aload_n 0, 1) := by decide +kernel
theorem dX7_readsPart_11 : decode cX7_readsPart 11 = .ok (.invokevirtual 322, 3) := by decide +kernel
theorem dX7_readsPart_14 : decode cX7_readsPart 14 = .ok (.ireturn, 1) := by decide +kernel
theorem dX7_readsPart_15 : decode cX7_readsPart 15 = .ok (.aload_n 0, 1) := by decide +kernel
theorem dX7_readsPart_16 : decode cX7_readsPart 16 = .ok (.ldc_w 325, 3) := by decide +kernel
theorem dX7_readsPart_19 : decode cX7_readsPart 19 = .ok (.invokevirtual 279, 3) := by decide +kernel
theorem dX7_readsPart_22 : decode cX7_readsPart 22 = .ok (.ifCond .ne 33, 3) := by decide +kernel
theorem dX7_readsPart_25 : decode cX7_readsPart 25 = .ok (.aload_n 0, 1) := by decide +kernel
theorem dX7_readsPart_26 : decode cX7_readsPart 26 = .ok (.ldc_w 326, 3) := by decide +kernel
theorem dX7_readsPart_29 : decode cX7_readsPart 29 = .ok (.invokevirtual 279, 3) := by decide +kernel
theorem dX7_readsPart_32 : decode cX7_readsPart 32 = .ok (.ifCond .ne 23, 3) := by decide +kernel
theorem dX7_readsPart_35 : decode cX7_readsPart 35 = .ok (.aload_n 0, 1) := by decide +kernel
theorem dX7_readsPart_36 : decode cX7_readsPart 36 = .ok (.ldc_w 328, 3) := by decide +kernel
theorem dX7_readsPart_39 : decode cX7_readsPart 39 = .ok (.invokevirtual 279, 3) := by decide +kernel
theorem dX7_readsPart_42 : decode cX7_readsPart 42 = .ok (.ifCond .ne 13, 3) := by decide +kernel
theorem dX7_readsPart_45 : decode cX7_readsPart 45 = .ok (.aload_n 0, 1) := by decide +kernel
theorem dX7_readsPart_46 : decode cX7_readsPart 46 = .ok (.ldc_w 330, 3) := by decide +kernel
theorem dX7_readsPart_49 : decode cX7_readsPart 49 = .ok (.invokevirtual 279, 3) := by decide +kernel
theorem dX7_readsPart_52 : decode cX7_readsPart 52 = .ok (.ifCond .eq 7, 3) := by decide +kernel
theorem dX7_readsPart_55 : decode cX7_readsPart 55 = .ok (.iconst 1, 1) := by decide +kernel
theorem dX7_readsPart_56 : decode cX7_readsPart 56 = .ok (.goto 4, 3) := by decide +kernel
theorem dX7_readsPart_59 : decode cX7_readsPart 59 = .ok (.iconst 0, 1) := by decide +kernel
theorem dX7_readsPart_60 : decode cX7_readsPart 60 = .ok (.istore_n 1, 1) := by decide +kernel
theorem dX7_readsPart_61 : decode cX7_readsPart 61 = .ok (.iload_n 1, 1) := by decide +kernel
theorem dX7_readsPart_62 : decode cX7_readsPart 62 = .ok (.ifCond .ne 13, 3) := by decide +kernel
theorem dX7_readsPart_65 : decode cX7_readsPart 65 = .ok (.aload_n 0, 1) := by decide +kernel
theorem dX7_readsPart_66 : decode cX7_readsPart 66 = .ok (.iconst 1, 1) := by decide +kernel
theorem dX7_readsPart_67 : decode cX7_readsPart 67 = .ok (.aload_n 0, 1) := by decide +kernel
theorem dX7_readsPart_68 : decode cX7_readsPart 68 = .ok (.getfield 254, 3) := by decide +kernel
theorem dX7_readsPart_71 : decode cX7_readsPart 71 = .ok (.invokevirtual 286, 3) := by decide +kernel
theorem dX7_readsPart_74 : decode cX7_readsPart 74 = .ok (.ireturn, 1) := by decide +kernel
theorem dX7_readsPart_75 : decode cX7_readsPart 75 = .ok (.aload_n 0, 1) := by decide +kernel
theorem dX7_readsPart_76 : decode cX7_readsPart 76 = .ok (.invokevirtual 50, 3) := by decide +kernel
theorem dX7_readsPart_79 : decode cX7_readsPart 79 = .ok (.ifCond .ne 13, 3) := by decide +kernel
theorem dX7_readsPart_82 : decode cX7_readsPart 82 = .ok (.aload_n 0, 1) := by decide +kernel
theorem dX7_readsPart_83 : decode cX7_readsPart 83 = .ok (.iconst 3, 1) := by decide +kernel
theorem dX7_readsPart_84 : decode cX7_readsPart 84 = .ok (.aload_n 0, 1) := by decide +kernel
theorem dX7_readsPart_85 : decode cX7_readsPart 85 = .ok (.getfield 254, 3) := by decide +kernel
theorem dX7_readsPart_88 : decode cX7_readsPart 88 = .ok (.invokevirtual 286, 3) := by decide +kernel
theorem dX7_readsPart_91 : decode cX7_readsPart 91 = .ok (.ireturn, 1) := by decide +kernel
theorem dX7_readsPart_92 : decode cX7_readsPart 92 = .ok (.aload_n 0, 1) := by decide +kernel
theorem dX7_readsPart_93 : decode cX7_readsPart 93 = .ok (.ldc_w 325, 3) := by decide +kernel
theorem dX7_readsPart_96 : decode cX7_readsPart 96 = .ok (.invokevirtual 279, 3) := by decide +kernel
theorem dX7_readsPart_99 : decode cX7_readsPart 99 = .ok (.ifCond .eq 8, 3) := by decide +kernel
theorem dX7_readsPart_102 : decode cX7_readsPart 102 = .ok (.aload_n 0, 1) := by decide +kernel
theorem dX7_readsPart_103 : decode cX7_readsPart 103 = .ok (.invokevirtual 332, 3) := by decide +kernel
theorem dX7_readsPart_106 : decode cX7_readsPart 106 = .ok (.ireturn, 1) := by decide +kernel
theorem dX7_readsPart_107 : decode cX7_readsPart 107 = .ok (.aload_n 0, 1) := by decide +kernel
theorem dX7_readsPart_108 : decode cX7_readsPart 108 = .ok (.ldc_w 326, 3) := by decide +kernel
theorem dX7_readsPart_111 : decode cX7_readsPart 111 = .ok (.invokevirtual 279, 3) := by decide +kernel
theorem dX7_readsPart_114 : decode cX7_readsPart 114 = .ok (.ifCond .eq 8, 3) := by decide +kernel
theorem dX7_readsPart_117 : decode cX7_readsPart 117 = .ok (.aload_n 0, 1) := by decide +kernel
theorem dX7_readsPart_118 : decode cX7_readsPart 118 = .ok (.invokevirtual 335, 3) := by decide +kernel
theorem dX7_readsPart_121 : decode cX7_readsPart 121 = .ok (.ireturn, 1) := by decide +kernel
theorem dX7_readsPart_122 : decode cX7_readsPart 122 = .ok (.aload_n 0, 1) := by decide +kernel
theorem dX7_readsPart_123 : decode cX7_readsPart 123 = .ok (.ldc_w 328, 3) := by decide +kernel
theorem dX7_readsPart_126 : decode cX7_readsPart 126 = .ok (.invokevirtual 279, 3) := by decide +kernel
theorem dX7_readsPart_129 : decode cX7_readsPart 129 = .ok (.ifCond .eq 8, 3) := by decide +kernel
theorem dX7_readsPart_132 : decode cX7_readsPart 132 = .ok (.aload_n 0, 1) := by decide +kernel
theorem dX7_readsPart_133 : decode cX7_readsPart 133 = .ok (.invokevirtual 338, 3) := by decide +kernel
theorem dX7_readsPart_136 : decode cX7_readsPart 136 = .ok (.ireturn, 1) := by decide +kernel
theorem dX7_readsPart_137 : decode cX7_readsPart 137 = .ok (.aload_n 0, 1) := by decide +kernel
theorem dX7_readsPart_138 : decode cX7_readsPart 138 = .ok (.invokevirtual 341, 3) := by decide +kernel
theorem dX7_readsPart_141 : decode cX7_readsPart 141 = .ok (.ifCond .ne 5, 3) := by decide +kernel
theorem dX7_readsPart_144 : decode cX7_readsPart 144 = .ok (.iconst 0, 1) := by decide +kernel
theorem dX7_readsPart_145 : decode cX7_readsPart 145 = .ok (.ireturn, 1) := by decide +kernel
theorem dX7_readsPart_146 : decode cX7_readsPart 146 = .ok (.aload_n 0, 1) := by decide +kernel
theorem dX7_readsPart_147 : decode cX7_readsPart 147 = .ok (.aload_n 0, 1) := by decide +kernel
theorem dX7_readsPart_148 : decode cX7_readsPart 148 = .ok (.getfield 317, 3) := by decide +kernel
theorem dX7_readsPart_151 : decode cX7_readsPart 151 = .ok (.iconst 4, 1) := by decide +kernel
theorem dX7_readsPart_152 : decode cX7_readsPart 152 = .ok (.aload_n 0, 1) := by decide +kernel
theorem dX7_readsPart_153 : decode cX7_readsPart 153 = .ok (.getfield 299, 3) := by decide +kernel
theorem dX7_readsPart_156 : decode cX7_readsPart 156 = .ok (.i2l, 1) := by decide +kernel
theorem dX7_readsPart_157 : decode cX7_readsPart 157 = .ok (.invokevirtual 78, 3) := by decide +kernel
theorem dX7_readsPart_160 : decode cX7_readsPart 160 = .ok (.iconst 1, 1) := by decide +kernel
theorem dX7_readsPart_161 : decode cX7_readsPart 161 = .ok (.ireturn, 1) := by decide +kernel
theorem dX7_readsBoard_0 : decode cX7_readsBoard 0 = .ok (.aload_n 0, 1) := by decide +kernel
theorem dX7_readsBoard_1 : decode cX7_readsBoard 1 = .ok (.iconst 0, 1) := by decide +kernel
theorem dX7_readsBoard_2 : decode cX7_readsBoard 2 = .ok (.putfield 254, 3) := by decide +kernel
theorem dX7_readsBoard_5 : decode cX7_readsBoard 5 = .ok (.aload_n 0, 1) := by decide +kernel
theorem dX7_readsBoard_6 : decode cX7_readsBoard 6 = .ok (.ldc_w 344, 3) := by decide +kernel
theorem dX7_readsBoard_9 : decode cX7_readsBoard 9 = .ok (.invokevirtual 346, 3) := by decide +kernel
theorem dX7_readsBoard_12 : decode cX7_readsBoard 12 = .ok (.ifCond .eq 13, 3) := by decide +kernel
theorem dX7_readsBoard_15 : decode cX7_readsBoard 15 = .ok (.aload_n 0, 1) := by decide +kernel
theorem dX7_readsBoard_16 : decode cX7_readsBoard 16 = .ok (.iconst 1, 1) := by decide +kernel
theorem dX7_readsBoard_17 : decode cX7_readsBoard 17 = .ok (.bipush 6, 2) := by decide +kernel
theorem dX7_readsBoard_19 : decode cX7_readsBoard 19 = .ok (.invokevirtual 311, 3) := by decide +kernel
theorem dX7_readsBoard_22 : decode cX7_readsBoard 22 = .ok (.ifCond .ne 5, 3) := by decide +kernel
theorem dX7_readsBoard_25 : decode cX7_readsBoard 25 = .ok (.iconst 0, 1) := by decide +kernel
theorem dX7_readsBoard_26 : decode cX7_readsBoard 26 = .ok (.ireturn, 1) := by decide +kernel
theorem dX7_readsBoard_27 : decode cX7_readsBoard 27 = .ok (.aload_n 0, 1) := by decide +kernel
theorem dX7_readsBoard_28 : decode cX7_readsBoard 28 = .ok (.getfield 7, 3) := by decide +kernel
theorem dX7_readsBoard_31 : decode cX7_readsBoard 31 = .ok (.iconst 0, 1) := by decide +kernel
theorem dX7_readsBoard_32 : decode cX7_readsBoard 32 = .ok (.aload_n 0, 1) := by decide +kernel
theorem dX7_readsBoard_33 : decode cX7_readsBoard 33 = .ok (.getfield 299, 3) := by decide +kernel
theorem dX7_readsBoard_36 : decode cX7_readsBoard 36 = .ok (.i2l, 1) := by decide +kernel
theorem dX7_readsBoard_37 : decode cX7_readsBoard 37 = .ok (.lastore, 1) := by decide +kernel
theorem dX7_readsBoard_38 : decode cX7_readsBoard 38 = .ok (.aload_n 0, 1) := by decide +kernel
theorem dX7_readsBoard_39 : decode cX7_readsBoard 39 = .ok (.iconst 1, 1) := by decide +kernel
theorem dX7_readsBoard_40 : decode cX7_readsBoard 40 = .ok (.bipush 40, 2) := by decide +kernel
theorem dX7_readsBoard_42 : decode cX7_readsBoard 42 = .ok (.aload_n 0, 1) := by decide +kernel
theorem dX7_readsBoard_43 : decode cX7_readsBoard 43 = .ok (.invokevirtual 43, 3) := by decide +kernel
theorem dX7_readsBoard_46 : decode cX7_readsBoard 46 = .ok (.idiv, 1) := by decide +kernel
theorem dX7_readsBoard_47 : decode cX7_readsBoard 47 = .ok (.bipush 10, 2) := by decide +kernel
theorem dX7_readsBoard_49 : decode cX7_readsBoard 49 = .ok (.if_icmp .ge 13, 3) := by decide +kernel
theorem dX7_readsBoard_52 : decode cX7_readsBoard 52 = .ok (.bipush 40, 2) := by decide +kernel
theorem dX7_readsBoard_54 : decode cX7_readsBoard 54 = .ok (.aload_n 0, 1) := by decide +kernel
theorem dX7_readsBoard_55 : decode cX7_readsBoard 55 = .ok (.invokevirtual 43, 3) := by decide +kernel
theorem dX7_readsBoard_58 : decode cX7_readsBoard 58 = .ok (.idiv, 1) := by decide +kernel
theorem dX7_readsBoard_59 : decode cX7_readsBoard 59 = .ok (.goto 5, 3) := by decide +kernel
theorem dX7_readsBoard_62 : decode cX7_readsBoard 62 = .ok (.bipush 10, 2) := by decide +kernel
theorem dX7_readsBoard_64 : decode cX7_readsBoard 64 = .ok (.invokevirtual 311, 3) := by decide +kernel
theorem dX7_readsBoard_67 : decode cX7_readsBoard 67 = .ok (.ifCond .ne 5, 3) := by decide +kernel
theorem dX7_readsBoard_70 : decode cX7_readsBoard 70 = .ok (.iconst 0, 1) := by decide +kernel
theorem dX7_readsBoard_71 : decode cX7_readsBoard 71 = .ok (.ireturn, 1) := by decide +kernel
theorem dX7_readsBoard_72 : decode cX7_readsBoard 72 = .ok (.aload_n 0, 1) := by decide +kernel
theorem dX7_readsBoard_73 : decode cX7_readsBoard 73 = .ok (.getfield 7, 3) := by decide +kernel
theorem dX7_readsBoard_76 : decode cX7_readsBoard 76 = .ok (.iconst 1, 1) := by decide +kernel
theorem dX7_readsBoard_77 : decode cX7_readsBoard 77 = .ok (.aload_n 0, 1) := by decide +kernel
theorem dX7_readsBoard_78 : decode cX7_readsBoard 78 = .ok (.getfield 299, 3) := by decide +kernel
theorem dX7_readsBoard_81 : decode cX7_readsBoard 81 = .ok (.i2l, 1) := by decide +kernel
theorem dX7_readsBoard_82 : decode cX7_readsBoard 82 = .ok (.lastore, 1) := by decide +kernel
theorem dX7_readsBoard_83 : decode cX7_readsBoard 83 = .ok (.aload_n 0, 1) := by decide +kernel
theorem dX7_readsBoard_84 : decode cX7_readsBoard 84 = .ok (.ldc_w 349, 3) := by decide +kernel
theorem dX7_readsBoard_87 : decode cX7_readsBoard 87 = .ok (.invokevirtual 346, 3) := by decide +kernel
theorem dX7_readsBoard_90 : decode cX7_readsBoard 90 = .ok (.ifCond .eq 13, 3) := by decide +kernel
theorem dX7_readsBoard_93 : decode cX7_readsBoard 93 = .ok (.aload_n 0, 1) := by decide +kernel
theorem dX7_readsBoard_94 : decode cX7_readsBoard 94 = .ok (.iconst 1, 1) := by decide +kernel
theorem dX7_readsBoard_95 : decode cX7_readsBoard 95 = .ok (.bipush 99, 2) := by decide +kernel
theorem dX7_readsBoard_97 : decode cX7_readsBoard 97 = .ok (.invokevirtual 311, 3) := by decide +kernel
theorem dX7_readsBoard_100 : decode cX7_readsBoard 100 = .ok (.ifCond .ne 5, 3) := by decide +kernel
theorem dX7_readsBoard_103 : decode cX7_readsBoard 103 = .ok (.iconst 0, 1) := by decide +kernel
theorem dX7_readsBoard_104 : decode cX7_readsBoard 104 = .ok (.ireturn, 1) := by decide +kernel
theorem dX7_readsBoard_105 : decode cX7_readsBoard 105 = .ok (.aload_n 0, 1) := by decide +kernel
theorem dX7_readsBoard_106 : decode cX7_readsBoard 106 = .ok (.getfield 7, 3) := by decide +kernel
theorem dX7_readsBoard_109 : decode cX7_readsBoard 109 = .ok (.iconst 2, 1) := by decide +kernel
theorem dX7_readsBoard_110 : decode cX7_readsBoard 110 = .ok (.aload_n 0, 1) := by decide +kernel
theorem dX7_readsBoard_111 : decode cX7_readsBoard 111 = .ok (.getfield 299, 3) := by decide +kernel
theorem dX7_readsBoard_114 : decode cX7_readsBoard 114 = .ok (.i2l, 1) := by decide +kernel
theorem dX7_readsBoard_115 : decode cX7_readsBoard 115 = .ok (.lastore, 1) := by decide +kernel
theorem dX7_readsBoard_116 : decode cX7_readsBoard 116 = .ok (.aload_n 0, 1) := by decide +kernel
theorem dX7_readsBoard_117 : decode cX7_readsBoard 117 = .ok (.invokevirtual 263, 3) := by decide +kernel
theorem dX7_readsBoard_120 : decode cX7_readsBoard 120 = .ok (.bipush 59, 2) := by decide +kernel
theorem dX7_readsBoard_122 : decode cX7_readsBoard 122 = .ok (.if_icmp .ne 27, 3) := by decide +kernel
theorem dX7_readsBoard_125 : decode cX7_readsBoard 125 = .ok (.aload_n 0, 1) := by decide +kernel
theorem dX7_readsBoard_126 : decode cX7_readsBoard 126 = .ok (.dup, 1) := by decide +kernel
theorem dX7_readsBoard_127 : decode cX7_readsBoard 127 = .ok (.getfield 254, 3) := by decide +kernel
theorem dX7_readsBoard_130 : decode cX7_readsBoard 130 = .ok (.iconst 1, 1) := by decide +kernel
theorem dX7_readsBoard_131 : decode cX7_readsBoard 131 = .ok (.iadd, 1) := by decide +kernel
theorem dX7_readsBoard_132 : decode cX7_readsBoard 132 = .ok (.putfield 254, 3) := by decide +kernel
theorem dX7_readsBoard_135 : decode cX7_readsBoard 135 = .ok (.aload_n 0, 1) := by decide +kernel
theorem dX7_readsBoard_136 : decode cX7_readsBoard 136 = .ok (.invokevirtual 263, 3) := by decide +kernel
theorem dX7_readsBoard_139 : decode cX7_readsBoard 139 = .ok (.pop, 1) := by decide +kernel
theorem dX7_readsBoard_140 : decode cX7_readsBoard 140 = .ok (.aload_n 0, 1) := by decide +kernel
theorem dX7_readsBoard_141 : decode cX7_readsBoard 141 = .ok (.invokevirtual 351, 3) := by decide +kernel
theorem dX7_readsBoard_144 : decode cX7_readsBoard 144 = .ok (.ifCond .ne (-28), 3) := by decide +kernel
theorem dX7_readsBoard_147 : decode cX7_readsBoard 147 = .ok (.iconst 0, 1) := by decide +kernel
theorem dX7_readsBoard_148 : decode cX7_readsBoard 148 = .ok (.ireturn, 1) := by decide +kernel
theorem dX7_readsBoard_149 : decode cX7_readsBoard 149 = .ok (.aload_n 0, 1) := by decide +kernel
theorem dX7_readsBoard_150 : decode cX7_readsBoard 150 = .ok (.invokevirtual 263, 3) := by decide +kernel
theorem dX7_readsBoard_153 : decode cX7_readsBoard 153 = .ok (.iconst (-1), 1) := by decide +kernel
theorem dX7_readsBoard_154 : decode cX7_readsBoard 154 = .ok (.if_icmp .eq 13, 3) := by decide +kernel
theorem dX7_readsBoard_157 : decode cX7_readsBoard 157 = .ok (.aload_n 0, 1) := by decide +kernel
theorem dX7_readsBoard_158 : decode cX7_readsBoard 158 = .ok (.iconst 1, 1) := by decide +kernel
theorem dX7_readsBoard_159 : decode cX7_readsBoard 159 = .ok (.aload_n 0, 1) := by decide +kernel
theorem dX7_readsBoard_160 : decode cX7_readsBoard 160 = .ok (.getfield 254, 3) := by decide +kernel
theorem dX7_readsBoard_163 : decode cX7_readsBoard 163 = .ok (.invokevirtual 286, 3) := by decide +kernel
theorem dX7_readsBoard_166 : decode cX7_readsBoard 166 = .ok (.ireturn, 1) := by decide +kernel
theorem dX7_readsBoard_167 : decode cX7_readsBoard 167 = .ok (.aload_n 0, 1) := by decide +kernel
theorem dX7_readsBoard_168 : decode cX7_readsBoard 168 = .ok (.invokevirtual 50, 3) := by decide +kernel
theorem dX7_readsBoard_171 : decode cX7_readsBoard 171 = .ok (.ifCond .gt 15, 3) := by decide +kernel
theorem dX7_readsBoard_174 : decode cX7_readsBoard 174 = .ok (.aload_n 0, 1) := by decide +kernel
theorem dX7_readsBoard_175 : decode cX7_readsBoard 175 = .ok (.iconst 4, 1) := by decide +kernel
theorem dX7_readsBoard_176 : decode cX7_readsBoard 176 = .ok (.aload_n 0, 1) := by decide +kernel
theorem dX7_readsBoard_177 : decode cX7_readsBoard 177 = .ok (.getfield 135, 3) := by decide +kernel
theorem dX7_readsBoard_180 : decode cX7_readsBoard 180 = .ok (.invokevirtual 286, 3) := by decide +kernel
theorem dX7_readsBoard_183 : decode cX7_readsBoard 183 = .ok (.ifCond .eq 7, 3) := by decide +kernel
theorem dX7_readsBoard_186 : decode cX7_readsBoard 186 = .ok (.iconst 1, 1) := by decide +kernel
theorem dX7_readsBoard_187 : decode cX7_readsBoard 187 = .ok (.goto 4, 3) := by decide +kernel
theorem dX7_readsBoard_190 : decode cX7_readsBoard 190 = .ok (.iconst 0, 1) := by decide +kernel
theorem dX7_readsBoard_191 : decode cX7_readsBoard 191 = .ok (.ireturn, 1) := by decide +kernel
theorem dX7_tell_0 : decode cX7_tell 0 = .ok (.aload_n 0, 1) := by decide +kernel
theorem dX7_tell_1 : decode cX7_tell 1 = .ok (.invokevirtual 210, 3) := by decide +kernel
theorem dX7_tell_4 : decode cX7_tell 4 = .ok (.iconst 0, 1) := by decide +kernel
theorem dX7_tell_5 : decode cX7_tell 5 = .ok (.istore_n 1, 1) := by decide +kernel
theorem dX7_tell_6 : decode cX7_tell 6 = .ok (.iload_n 1, 1) := by decide +kernel
theorem dX7_tell_7 : decode cX7_tell 7 = .ok (.sipush 6896, 3) := by decide +kernel
theorem dX7_tell_10 : decode cX7_tell 10 = .ok (.if_icmp .ge 16, 3) := by decide +kernel
theorem dX7_tell_13 : decode cX7_tell 13 = .ok (.aload_n 0, 1) := by decide +kernel
theorem dX7_tell_14 : decode cX7_tell 14 = .ok (.getfield 7, 3) := by decide +kernel
theorem dX7_tell_17 : decode cX7_tell 17 = .ok (.iload_n 1, 1) := by decide +kernel
theorem dX7_tell_18 : decode cX7_tell 18 = .ok (.lconst 0, 1) := by decide +kernel
theorem dX7_tell_19 : decode cX7_tell 19 = .ok (.lastore, 1) := by decide +kernel
theorem dX7_tell_20 : decode cX7_tell 20 = .ok (.iinc 1 1, 3) := by decide +kernel
theorem dX7_tell_23 : decode cX7_tell 23 = .ok (.goto (-17), 3) := by decide +kernel
theorem dX7_tell_26 : decode cX7_tell 26 = .ok (.aload_n 0, 1) := by decide +kernel
theorem dX7_tell_27 : decode cX7_tell 27 = .ok (.invokevirtual 354, 3) := by decide +kernel
theorem dX7_tell_30 : decode cX7_tell 30 = .ok (.istore_n 1, 1) := by decide +kernel
theorem dX7_tell_31 : decode cX7_tell 31 = .ok (.aload_n 0, 1) := by decide +kernel
theorem dX7_tell_32 : decode cX7_tell 32 = .ok (.iconst 0, 1) := by decide +kernel
theorem dX7_tell_33 : decode cX7_tell 33 = .ok (.putfield 135, 3) := by decide +kernel
theorem dX7_tell_36 : decode cX7_tell 36 = .ok (.iload_n 1, 1) := by decide +kernel
theorem dX7_tell_37 : decode cX7_tell 37 = .ok (.ifCond .ne 15, 3) := by decide +kernel
theorem dX7_tell_40 : decode cX7_tell 40 = .ok (.aload_n 0, 1) := by decide +kernel
theorem dX7_tell_41 : decode cX7_tell 41 = .ok (.invokevirtual 216, 3) := by decide +kernel
theorem dX7_tell_44 : decode cX7_tell 44 = .ok (.bipush (-2), 2) := by decide +kernel
theorem dX7_tell_46 : decode cX7_tell 46 = .ok (.aload_n 0, 1) := by decide +kernel
theorem dX7_tell_47 : decode cX7_tell 47 = .ok (.getfield 260, 3) := by decide +kernel
theorem dX7_tell_50 : decode cX7_tell 50 = .ok (.isub, 1) := by decide +kernel
theorem dX7_tell_51 : decode cX7_tell 51 = .ok (.ireturn, 1) := by decide +kernel
theorem dX7_tell_52 : decode cX7_tell 52 = .ok (.aload_n 0, 1) := by decide +kernel
theorem dX7_tell_53 : decode cX7_tell 53 = .ok (.iconst 0, 1) := by decide +kernel
theorem dX7_tell_54 : decode cX7_tell 54 = .ok (.putfield 124, 3) := by decide +kernel
theorem dX7_tell_57 : decode cX7_tell 57 = .ok (.aload_n 0, 1) := by decide +kernel
theorem dX7_tell_58 : decode cX7_tell 58 = .ok (.invokevirtual 50, 3) := by decide +kernel
theorem dX7_tell_61 : decode cX7_tell 61 = .ok (.ireturn, 1) := by decide +kernel
theorem dX7_isDone_0 : decode cX7_isDone 0 = .ok (.iload_n 1, 1) := by decide +kernel
theorem dX7_isDone_1 : decode cX7_isDone 1 = .ok (.ifCond .eq 13, 3) := by decide +kernel
theorem dX7_isDone_4 : decode cX7_isDone 4 = .ok (.aload_n 0, 1) := by decide +kernel
theorem dX7_isDone_5 : decode cX7_isDone 5 = .ok (.getfield 357, 3) := by decide +kernel
theorem dX7_isDone_8 : decode cX7_isDone 8 = .ok (.sipush 200, 3) := by decide +kernel
theorem dX7_isDone_11 : decode cX7_isDone 11 = .ok (.if_icmp .ne 5, 3) := by decide +kernel
theorem dX7_isDone_14 : decode cX7_isDone 14 = .ok (.iconst 0, 1) := by decide +kernel
theorem dX7_isDone_15 : decode cX7_isDone 15 = .ok (.ireturn, 1) := by decide +kernel
theorem dX7_isDone_16 : decode cX7_isDone 16 = .ok (.aload_n 0, 1) := by decide +kernel
theorem dX7_isDone_17 : decode cX7_isDone 17 = .ok (.dup, 1) := by decide +kernel
theorem dX7_isDone_18 : decode cX7_isDone 18 = .ok (.getfield 357, 3) := by decide +kernel
theorem dX7_isDone_21 : decode cX7_isDone 21 = .ok (.iconst 1, 1) := by decide +kernel
theorem dX7_isDone_22 : decode cX7_isDone 22 = .ok (.iadd, 1) := by decide +kernel
theorem dX7_isDone_23 : decode cX7_isDone 23 = .ok (.putfield 357, 3) := by decide +kernel
theorem dX7_isDone_26 : decode cX7_isDone 26 = .ok (.iconst 1, 1) := by decide +kernel
theorem dX7_isDone_27 : decode cX7_isDone 27 = .ok (.ireturn, 1) := by decide +kernel
theorem dX7_goesRow_0 : decode cX7_goesRow 0 = .ok (.aload_n 0, 1) := by decide +kernel
theorem dX7_goesRow_1 : decode cX7_goesRow 1 = .ok (.dup, 1) := by decide +kernel
theorem dX7_goesRow_2 : decode cX7_goesRow 2 = .ok (.getfield 254, 3) := by decide +kernel
theorem dX7_goesRow_5 : decode cX7_goesRow 5 = .ok (.iconst 3, 1) := by decide +kernel
theorem dX7_goesRow_6 : decode cX7_goesRow 6 = .ok (.iadd, 1) := by decide +kernel
theorem dX7_goesRow_7 : decode cX7_goesRow 7 = .ok (.putfield 254, 3) := by decide +kernel
theorem dX7_goesRow_10 : decode cX7_goesRow 10 = .ok (.aload_n 0, 1) := by decide +kernel
theorem dX7_goesRow_11 : decode cX7_goesRow 11 = .ok (.iconst 0, 1) := by decide +kernel
theorem dX7_goesRow_12 : decode cX7_goesRow 12 = .ok (.aload_n 0, 1) := by decide +kernel
theorem dX7_goesRow_13 : decode cX7_goesRow 13 = .ok (.invokevirtual 43, 3) := by decide +kernel
theorem dX7_goesRow_16 : decode cX7_goesRow 16 = .ok (.iconst 1, 1) := by decide +kernel
theorem dX7_goesRow_17 : decode cX7_goesRow 17 = .ok (.isub, 1) := by decide +kernel
theorem dX7_goesRow_18 : decode cX7_goesRow 18 = .ok (.invokevirtual 311, 3) := by decide +kernel
theorem dX7_goesRow_21 : decode cX7_goesRow 21 = .ok (.ifCond .ne 5, 3) := by decide +kernel
theorem dX7_goesRow_24 : decode cX7_goesRow 24 = .ok (.iconst 0, 1) := by decide +kernel
theorem dX7_goesRow_25 : decode cX7_goesRow 25 = .ok (.ireturn, 1) := by decide +kernel
theorem dX7_goesRow_26 : decode cX7_goesRow 26 = .ok (.aload_n 0, 1) := by decide +kernel
theorem dX7_goesRow_27 : decode cX7_goesRow 27 = .ok (.getfield 299, 3) := by decide +kernel
theorem dX7_goesRow_30 : decode cX7_goesRow 30 = .ok (.istore_n 2, 1) := by decide +kernel
theorem dX7_goesRow_31 : decode cX7_goesRow 31 = .ok (.aload_n 0, 1) := by decide +kernel
theorem dX7_goesRow_32 : decode cX7_goesRow 32 = .ok (.iconst 0, 1) := by decide +kernel
theorem dX7_goesRow_33 : decode cX7_goesRow 33 = .ok (.aload_n 0, 1) := by decide +kernel
theorem dX7_goesRow_34 : decode cX7_goesRow 34 = .ok (.invokevirtual 47, 3) := by decide +kernel
theorem dX7_goesRow_37 : decode cX7_goesRow 37 = .ok (.invokevirtual 314, 3) := by decide +kernel
theorem dX7_goesRow_40 : decode cX7_goesRow 40 = .ok (.ifCond .ne 5, 3) := by decide +kernel
theorem dX7_goesRow_43 : decode cX7_goesRow 43 = .ok (.iconst 0, 1) := by decide +kernel
theorem dX7_goesRow_44 : decode cX7_goesRow 44 = .ok (.ireturn, 1) := by decide +kernel
theorem dX7_goesRow_45 : decode cX7_goesRow 45 = .ok (.aload_n 0, 1) := by decide +kernel
theorem dX7_goesRow_46 : decode cX7_goesRow 46 = .ok (.iload_n 1, 1) := by decide +kernel
theorem dX7_goesRow_47 : decode cX7_goesRow 47 = .ok (.invokevirtual 360, 3) := by decide +kernel
theorem dX7_goesRow_50 : decode cX7_goesRow 50 = .ok (.ifCond .eq 18, 3) := by decide +kernel
theorem dX7_goesRow_53 : decode cX7_goesRow 53 = .ok (.aload_n 0, 1) := by decide +kernel
theorem dX7_goesRow_54 : decode cX7_goesRow 54 = .ok (.iload_n 2, 1) := by decide +kernel
theorem dX7_goesRow_55 : decode cX7_goesRow 55 = .ok (.aload_n 0, 1) := by decide +kernel
theorem dX7_goesRow_56 : decode cX7_goesRow 56 = .ok (.getfield 305, 3) := by decide +kernel
theorem dX7_goesRow_59 : decode cX7_goesRow 59 = .ok (.aload_n 0, 1) := by decide +kernel
theorem dX7_goesRow_60 : decode cX7_goesRow 60 = .ok (.getfield 308, 3) := by decide +kernel
theorem dX7_goesRow_63 : decode cX7_goesRow 63 = .ok (.iconst 1, 1) := by decide +kernel
theorem dX7_goesRow_64 : decode cX7_goesRow 64 = .ok (.invokevirtual 120, 3) := by decide +kernel
theorem dX7_goesRow_67 : decode cX7_goesRow 67 = .ok (.istore_n 3, 1) := by decide +kernel
theorem dX7_goesRow_68 : decode cX7_goesRow 68 = .ok (.iconst 1, 1) := by decide +kernel
theorem dX7_goesRow_69 : decode cX7_goesRow 69 = .ok (.ireturn, 1) := by decide +kernel
theorem dX7_goesScroll_0 : decode cX7_goesScroll 0 = .ok (.aload_n 0, 1) := by decide +kernel
theorem dX7_goesScroll_1 : decode cX7_goesScroll 1 = .ok (.dup, 1) := by decide +kernel
theorem dX7_goesScroll_2 : decode cX7_goesScroll 2 = .ok (.getfield 254, 3) := by decide +kernel
theorem dX7_goesScroll_5 : decode cX7_goesScroll 5 = .ok (.bipush 6, 2) := by decide +kernel
theorem dX7_goesScroll_7 : decode cX7_goesScroll 7 = .ok (.iadd, 1) := by decide +kernel
theorem dX7_goesScroll_8 : decode cX7_goesScroll 8 = .ok (.putfield 254, 3) := by decide +kernel
theorem dX7_goesScroll_11 : decode cX7_goesScroll 11 = .ok (.aload_n 0, 1) := by decide +kernel
theorem dX7_goesScroll_12 : decode cX7_goesScroll 12 = .ok (.iconst 0, 1) := by decide +kernel
theorem dX7_goesScroll_13 : decode cX7_goesScroll 13 = .ok (.aload_n 0, 1) := by decide +kernel
theorem dX7_goesScroll_14 : decode cX7_goesScroll 14 = .ok (.invokevirtual 47, 3) := by decide +kernel
theorem dX7_goesScroll_17 : decode cX7_goesScroll 17 = .ok (.invokevirtual 314, 3) := by decide +kernel
theorem dX7_goesScroll_20 : decode cX7_goesScroll 20 = .ok (.ifCond .ne 5, 3) := by decide +kernel
theorem dX7_goesScroll_23 : decode cX7_goesScroll 23 = .ok (.iconst 0, 1) := by decide +kernel
theorem dX7_goesScroll_24 : decode cX7_goesScroll 24 = .ok (.ireturn, 1) := by decide +kernel
theorem dX7_goesScroll_25 : decode cX7_goesScroll 25 = .ok (.aload_n 0, 1) := by decide +kernel
theorem dX7_goesScroll_26 : decode cX7_goesScroll 26 = .ok (.iload_n 1, 1) := by decide +kernel
theorem dX7_goesScroll_27 : decode cX7_goesScroll 27 = .ok (.invokevirtual 360, 3) := by decide +kernel
theorem dX7_goesScroll_30 : decode cX7_goesScroll 30 = .ok (.ifCond .eq 16, 3) := by decide +kernel
theorem dX7_goesScroll_33 : decode cX7_goesScroll 33 = .ok (.aload_n 0, 1) := by decide +kernel
theorem dX7_goesScroll_34 : decode cX7_goesScroll 34 = .ok (.aload_n 0, 1) := by decide +kernel
theorem dX7_goesScroll_35 : decode cX7_goesScroll 35 = .ok (.getfield 305, 3) := by decide +kernel
theorem dX7_goesScroll_38 : decode cX7_goesScroll 38 = .ok (.aload_n 0, 1) := by decide +kernel
theorem dX7_goesScroll_39 : decode cX7_goesScroll 39 = .ok (.getfield 308, 3) := by decide +kernel
theorem dX7_goesScroll_42 : decode cX7_goesScroll 42 = .ok (.invokevirtual 151, 3) := by decide +kernel
theorem dX7_goesScroll_45 : decode cX7_goesScroll 45 = .ok (.istore_n 2, 1) := by decide +kernel
theorem dX7_goesScroll_46 : decode cX7_goesScroll 46 = .ok (.iconst 1, 1) := by decide +kernel
theorem dX7_goesScroll_47 : decode cX7_goesScroll 47 = .ok (.ireturn, 1) := by decide +kernel
theorem dX7_goesHome_0 : decode cX7_goesHome 0 = .ok (.aload_n 0, 1) := by decide +kernel
theorem dX7_goesHome_1 : decode cX7_goesHome 1 = .ok (.dup, 1) := by decide +kernel
theorem dX7_goesHome_2 : decode cX7_goesHome 2 = .ok (.getfield 254, 3) := by decide +kernel
theorem dX7_goesHome_5 : decode cX7_goesHome 5 = .ok (.iconst 4, 1) := by decide +kernel
theorem dX7_goesHome_6 : decode cX7_goesHome 6 = .ok (.iadd, 1) := by decide +kernel
theorem dX7_goesHome_7 : decode cX7_goesHome 7 = .ok (.putfield 254, 3) := by decide +kernel
theorem dX7_goesHome_10 : decode cX7_goesHome 10 = .ok (.aload_n 0, 1) := by decide +kernel
theorem dX7_goesHome_11 : decode cX7_goesHome 11 = .ok (.iconst 0, 1) := by decide +kernel
theorem dX7_goesHome_12 : decode cX7_goesHome 12 = .ok (.aload_n 0, 1) := by decide +kernel
theorem dX7_goesHome_13 : decode cX7_goesHome 13 = .ok (.invokevirtual 43, 3) := by decide +kernel
theorem dX7_goesHome_16 : decode cX7_goesHome 16 = .ok (.iconst 1, 1) := by decide +kernel
theorem dX7_goesHome_17 : decode cX7_goesHome 17 = .ok (.isub, 1) := by decide +kernel
theorem dX7_goesHome_18 : decode cX7_goesHome 18 = .ok (.invokevirtual 311, 3) := by decide +kernel
theorem dX7_goesHome_21 : decode cX7_goesHome 21 = .ok (.ifCond .ne 5, 3) := by decide +kernel
theorem dX7_goesHome_24 : decode cX7_goesHome 24 = .ok (.iconst 0, 1) := by decide +kernel
theorem dX7_goesHome_25 : decode cX7_goesHome 25 = .ok (.ireturn, 1) := by decide +kernel
theorem dX7_goesHome_26 : decode cX7_goesHome 26 = .ok (.aload_n 0, 1) := by decide +kernel
theorem dX7_goesHome_27 : decode cX7_goesHome 27 = .ok (.iload_n 1, 1) := by decide +kernel
theorem dX7_goesHome_28 : decode cX7_goesHome 28 = .ok (.invokevirtual 360, 3) := by decide +kernel
theorem dX7_goesHome_31 : decode cX7_goesHome 31 = .ok (.ifCond .ne 5, 3) := by decide +kernel
theorem dX7_goesHome_34 : decode cX7_goesHome 34 = .ok (.iconst 1, 1) := by decide +kernel
theorem dX7_goesHome_35 : decode cX7_goesHome 35 = .ok (.ireturn, 1) := by decide +kernel
theorem dX7_goesHome_36 : decode cX7_goesHome 36 = .ok (.iconst 0, 1) := by decide +kernel
theorem dX7_goesHome_37 : decode cX7_goesHome 37 = .ok (.istore_n 2, 1) := by decide +kernel
theorem dX7_goesHome_38 : decode cX7_goesHome 38 = .ok (.iload_n 2, 1) := by decide +kernel
theorem dX7_goesHome_39 : decode cX7_goesHome 39 = .ok (.aload_n 0, 1) := by decide +kernel
theorem dX7_goesHome_40 : decode cX7_goesHome 40 = .ok (.invokevirtual 47, 3) := by decide +kernel
theorem dX7_goesHome_43 : decode cX7_goesHome 43 = .ok (.if_icmp .ge 26, 3) := by decide +kernel
theorem dX7_goesHome_46 : decode cX7_goesHome 46 = .ok (.aload_n 0, 1) := by decide +kernel
theorem dX7_goesHome_47 : decode cX7_goesHome 47 = .ok (.aload_n 0, 1) := by decide +kernel
theorem dX7_goesHome_48 : decode cX7_goesHome 48 = .ok (.invokevirtual 47, 3) := by decide +kernel
theorem dX7_goesHome_51 : decode cX7_goesHome 51 = .ok (.aload_n 0, 1) := by decide +kernel
theorem dX7_goesHome_52 : decode cX7_goesHome 52 = .ok (.getfield 299, 3) := by decide +kernel
theorem dX7_goesHome_55 : decode cX7_goesHome 55 = .ok (.imul, 1) := by decide +kernel
theorem dX7_goesHome_56 : decode cX7_goesHome 56 = .ok (.iload_n 2, 1) := by decide +kernel
theorem dX7_goesHome_57 : decode cX7_goesHome 57 = .ok (.iadd, 1) := by decide +kernel
theorem dX7_goesHome_58 : decode cX7_goesHome 58 = .ok (.iconst 0, 1) := by decide +kernel
theorem dX7_goesHome_59 : decode cX7_goesHome 59 = .ok (.iconst 0, 1) := by decide +kernel
theorem dX7_goesHome_60 : decode cX7_goesHome 60 = .ok (.invokevirtual 116, 3) := by decide +kernel
theorem dX7_goesHome_63 : decode cX7_goesHome 63 = .ok (.iinc 2 1, 3) := by decide +kernel
theorem dX7_goesHome_66 : decode cX7_goesHome 66 = .ok (.goto (-28), 3) := by decide +kernel
theorem dX7_goesHome_69 : decode cX7_goesHome 69 = .ok (.iconst 1, 1) := by decide +kernel
theorem dX7_goesHome_70 : decode cX7_goesHome 70 = .ok (.ireturn, 1) := by decide +kernel
theorem dX7_goesWait_0 : decode cX7_goesWait 0 = .ok (.aload_n 0, 1) := by decide +kernel
theorem dX7_goesWait_1 : decode cX7_goesWait 1 = .ok (.dup, 1) := by decide +kernel
theorem dX7_goesWait_2 : decode cX7_goesWait 2 = .ok (.getfield 254, 3) := by decide +kernel
theorem dX7_goesWait_5 : decode cX7_goesWait 5 = .ok (.iconst 4, 1) := by decide +kernel
theorem dX7_goesWait_6 : decode cX7_goesWait 6 = .ok (.iadd, 1) := by decide +kernel
theorem dX7_goesWait_7 : decode cX7_goesWait 7 = .ok (.putfield 254, 3) := by decide +kernel
theorem dX7_goesWait_10 : decode cX7_goesWait 10 = .ok (.aload_n 0, 1) := by decide +kernel
theorem dX7_goesWait_11 : decode cX7_goesWait 11 = .ok (.iconst 1, 1) := by decide +kernel
theorem dX7_goesWait_12 : decode cX7_goesWait 12 = .ok (.bipush 99, 2) := by decide +kernel
theorem dX7_goesWait_14 : decode cX7_goesWait 14 = .ok (.invokevirtual 311, 3) := by decide +kernel
theorem dX7_goesWait_17 : decode cX7_goesWait 17 = .ok (.ifCond .ne 5, 3) := by decide +kernel
theorem dX7_goesWait_20 : decode cX7_goesWait 20 = .ok (.iconst 0, 1) := by decide +kernel
theorem dX7_goesWait_21 : decode cX7_goesWait 21 = .ok (.ireturn, 1) := by decide +kernel
theorem dX7_goesWait_22 : decode cX7_goesWait 22 = .ok (.aload_n 0, 1) := by decide +kernel
theorem dX7_goesWait_23 : decode cX7_goesWait 23 = .ok (.iload_n 1, 1) := by decide +kernel
theorem dX7_goesWait_24 : decode cX7_goesWait 24 = .ok (.invokevirtual 360, 3) := by decide +kernel
theorem dX7_goesWait_27 : decode cX7_goesWait 27 = .ok (.ifCond .ne 5, 3) := by decide +kernel
theorem dX7_goesWait_30 : decode cX7_goesWait 30 = .ok (.iconst 1, 1) := by decide +kernel
theorem dX7_goesWait_31 : decode cX7_goesWait 31 = .ok (.ireturn, 1) := by decide +kernel
theorem dX7_goesWait_32 : decode cX7_goesWait 32 = .ok (.iconst 0, 1) := by decide +kernel
theorem dX7_goesWait_33 : decode cX7_goesWait 33 = .ok (.istore_n 2, 1) := by decide +kernel
theorem dX7_goesWait_34 : decode cX7_goesWait 34 = .ok (.iload_n 2, 1) := by decide +kernel
theorem dX7_goesWait_35 : decode cX7_goesWait 35 = .ok (.aload_n 0, 1) := by decide +kernel
theorem dX7_goesWait_36 : decode cX7_goesWait 36 = .ok (.getfield 299, 3) := by decide +kernel
theorem dX7_goesWait_39 : decode cX7_goesWait 39 = .ok (.if_icmp .ge 14, 3) := by decide +kernel
theorem dX7_goesWait_42 : decode cX7_goesWait 42 = .ok (.aload_n 0, 1) := by decide +kernel
theorem dX7_goesWait_43 : decode cX7_goesWait 43 = .ok (.invokevirtual 156, 3) := by decide +kernel
theorem dX7_goesWait_46 : decode cX7_goesWait 46 = .ok (.istore_n 3, 1) := by decide +kernel
theorem dX7_goesWait_47 : decode cX7_goesWait 47 = .ok (.iinc 2 1, 3) := by decide +kernel
theorem dX7_goesWait_50 : decode cX7_goesWait 50 = .ok (.goto (-16), 3) := by decide +kernel
theorem dX7_goesWait_53 : decode cX7_goesWait 53 = .ok (.iconst 1, 1) := by decide +kernel
theorem dX7_goesWait_54 : decode cX7_goesWait 54 = .ok (.ireturn, 1) := by decide +kernel
theorem dX7_goesSettle_0 : decode cX7_goesSettle 0 = .ok (.aload_n 0, 1) := by decide +kernel
theorem dX7_goesSettle_1 : decode cX7_goesSettle 1 = .ok (.dup, 1) := by decide +kernel
theorem dX7_goesSettle_2 : decode cX7_goesSettle 2 = .ok (.getfield 254, 3) := by decide +kernel
theorem dX7_goesSettle_5 : decode cX7_goesSettle 5 = .ok (.bipush 6, 2) := by decide +kernel
theorem dX7_goesSettle_7 : decode cX7_goesSettle 7 = .ok (.iadd, 1) := by decide +kernel
theorem dX7_goesSettle_8 : decode cX7_goesSettle 8 = .ok (.putfield 254, 3) := by decide +kernel
theorem dX7_goesSettle_11 : decode cX7_goesSettle 11 = .ok (.aload_n 0, 1) := by decide +kernel
theorem dX7_goesSettle_12 : decode cX7_goesSettle 12 = .ok (.iload_n 1, 1) := by decide +kernel
theorem dX7_goesSettle_13 : decode cX7_goesSettle 13 = .ok (.invokevirtual 360, 3) := by decide +kernel
theorem dX7_goesSettle_16 : decode cX7_goesSettle 16 = .ok (.ifCond .eq 8, 3) := by decide +kernel
theorem dX7_goesSettle_19 : decode cX7_goesSettle 19 = .ok (.aload_n 0, 1) := by decide +kernel
theorem dX7_goesSettle_20 : decode cX7_goesSettle 20 = .ok (.invokevirtual 159, 3) := by decide +kernel
theorem dX7_goesSettle_23 : decode cX7_goesSettle 23 = .ok (.istore_n 2, 1) := by decide +kernel
theorem dX7_goesSettle_24 : decode cX7_goesSettle 24 = .ok (.iconst 1, 1) := by decide +kernel
theorem dX7_goesSettle_25 : decode cX7_goesSettle 25 = .ok (.ireturn, 1) := by decide +kernel
theorem dX7_goesLose_0 : decode cX7_goesLose 0 = .ok (.aload_n 0, 1) := by decide +kernel
theorem dX7_goesLose_1 : decode cX7_goesLose 1 = .ok (.invokevirtual 341, 3) := by decide +kernel
theorem dX7_goesLose_4 : decode cX7_goesLose 4 = .ok (.ifCond .ne 5, 3) := by decide +kernel
theorem dX7_goesLose_7 : decode cX7_goesLose 7 = .ok (.iconst 0, 1) := by decide +kernel
theorem dX7_goesLose_8 : decode cX7_goesLose 8 = .ok (.ireturn, 1) := by decide +kernel
theorem dX7_goesLose_9 : decode cX7_goesLose 9 = .ok (.aload_n 0, 1) := by decide +kernel
theorem dX7_goesLose_10 : decode cX7_goesLose 10 = .ok (.iload_n 1, 1) := by decide +kernel
theorem dX7_goesLose_11 : decode cX7_goesLose 11 = .ok (.invokevirtual 360, 3) := by decide +kernel
theorem dX7_goesLose_14 : decode cX7_goesLose 14 = .ok (.ifCond .eq 17, 3) := by decide +kernel
theorem dX7_goesLose_17 : decode cX7_goesLose 17 = .ok (.aload_n 0, 1) := by decide +kernel
theorem dX7_goesLose_18 : decode cX7_goesLose 18 = .ok (.aload_n 0, 1) := by decide +kernel
theorem dX7_goesLose_19 : decode cX7_goesLose 19 = .ok (.getfield 317, 3) := by decide +kernel
theorem dX7_goesLose_22 : decode cX7_goesLose 22 = .ok (.iconst 4, 1) := by decide +kernel
theorem dX7_goesLose_23 : decode cX7_goesLose 23 = .ok (.aload_n 0, 1) := by decide +kernel
theorem dX7_goesLose_24 : decode cX7_goesLose 24 = .ok (.getfield 299, 3) := by decide +kernel
theorem dX7_goesLose_27 : decode cX7_goesLose 27 = .ok (.i2l, 1) := by decide +kernel
theorem dX7_goesLose_28 : decode cX7_goesLose 28 = .ok (.invokevirtual 78, 3) := by decide +kernel
theorem dX7_goesLose_31 : decode cX7_goesLose 31 = .ok (.iconst 1, 1) := by decide +kernel
theorem dX7_goesLose_32 : decode cX7_goesLose 32 = .ok (.ireturn, 1) := by decide +kernel
theorem dX7_goesOne_0 : decode cX7_goesOne 0 = .ok (.aload_n 0, 1) := by decide +kernel
theorem dX7_goesOne_1 : decode cX7_goesOne 1 = .ok (.ldc_w 328, 3) := by decide +kernel
theorem dX7_goesOne_4 : decode cX7_goesOne 4 = .ok (.invokevirtual 279, 3) := by decide +kernel
theorem dX7_goesOne_7 : decode cX7_goesOne 7 = .ok (.ifCond .eq 9, 3) := by decide +kernel
theorem dX7_goesOne_10 : decode cX7_goesOne 10 = .ok (.aload_n 0, 1) := by decide +kernel
theorem dX7_goesOne_11 : decode cX7_goesOne 11 = .ok (.iload_n 1, 1) := by decide +kernel
theorem dX7_goesOne_12 : decode cX7_goesOne 12 = .ok (.invokevirtual 370, 3) := by decide +kernel
theorem dX7_goesOne_15 : decode cX7_goesOne 15 = .ok (.ireturn, 1) := by decide +kernel
theorem dX7_goesOne_16 : decode cX7_goesOne 16 = .ok (.aload_n 0, 1) := by decide +kernel
theorem dX7_goesOne_17 : decode cX7_goesOne 17 = .ok (.ldc_w 373, 3) := by decide +kernel
theorem dX7_goesOne_20 : decode cX7_goesOne 20 = .ok (.invokevirtual 279, 3) := by decide +kernel
theorem dX7_goesOne_23 : decode cX7_goesOne 23 = .ok (.ifCond .eq 9, 3) := by decide +kernel
theorem dX7_goesOne_26 : decode cX7_goesOne 26 = .ok (.aload_n 0, 1) := by decide +kernel
theorem dX7_goesOne_27 : decode cX7_goesOne 27 = .ok (.iload_n 1, 1) := by decide +kernel
theorem dX7_goesOne_28 : decode cX7_goesOne 28 = .ok (.invokevirtual 375, 3) := by decide +kernel
theorem dX7_goesOne_31 : decode cX7_goesOne 31 = .ok (.ireturn, 1) := by decide +kernel
theorem dX7_goesOne_32 : decode cX7_goesOne 32 = .ok (.aload_n 0, 1) := by decide +kernel
theorem dX7_goesOne_33 : decode cX7_goesOne 33 = .ok (.ldc_w 378, 3) := by decide +kernel
theorem dX7_goesOne_36 : decode cX7_goesOne 36 = .ok (.invokevirtual 279, 3) := by decide +kernel
theorem dX7_goesOne_39 : decode cX7_goesOne 39 = .ok (.ifCond .eq 9, 3) := by decide +kernel
theorem dX7_goesOne_42 : decode cX7_goesOne 42 = .ok (.aload_n 0, 1) := by decide +kernel
theorem dX7_goesOne_43 : decode cX7_goesOne 43 = .ok (.iload_n 1, 1) := by decide +kernel
theorem dX7_goesOne_44 : decode cX7_goesOne 44 = .ok (.invokevirtual 380, 3) := by decide +kernel
theorem dX7_goesOne_47 : decode cX7_goesOne 47 = .ok (.ireturn, 1) := by decide +kernel
theorem dX7_goesOne_48 : decode cX7_goesOne 48 = .ok (.aload_n 0, 1) := by decide +kernel
theorem dX7_goesOne_49 : decode cX7_goesOne 49 = .ok (.ldc_w 383, 3) := by decide +kernel
theorem dX7_goesOne_52 : decode cX7_goesOne 52 = .ok (.invokevirtual 279, 3) := by decide +kernel
theorem dX7_goesOne_55 : decode cX7_goesOne 55 = .ok (.ifCond .eq 9, 3) := by decide +kernel
