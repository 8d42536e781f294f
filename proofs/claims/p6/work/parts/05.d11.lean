theorem dX7_mustWord_5 : decode cX7_mustWord 5 = .ok (.ifCond .ne 15, 3) := by decide +kernel
theorem dX7_mustWord_8 : decode cX7_mustWord 8 = .ok (.aload_n 0, 1) := by decide +kernel
theorem dX7_mustWord_9 : decode cX7_mustWord 9 = .ok (.iconst 1, 1) := by decide +kernel
theorem dX7_mustWord_10 : decode cX7_mustWord 10 = .ok (.aload_n 0, 1) := by decide +kernel
theorem dX7_mustWord_11 : decode cX7_mustWord 11 = .ok (.getfield 254, 3) := by decide +kernel
theorem dX7_mustWord_14 : decode cX7_mustWord 14 = .ok (.invokevirtual 286, 3) := by decide +kernel
theorem dX7_mustWord_17 : decode cX7_mustWord 17 = .ok (.ifCond .eq 7, 3) := by decide +kernel
theorem dX7_mustWord_20 : decode cX7_mustWord 20 = .ok (.iconst 1, 1) := by decide +kernel
theorem dX7_mustWord_21 : decode cX7_mustWord 21 = .ok (.goto 4, 3) := by decide +kernel
theorem dX7_mustWord_24 : decode cX7_mustWord 24 = .ok (.iconst 0, 1) := by decide +kernel
theorem dX7_mustWord_25 : decode cX7_mustWord 25 = .ok (.ireturn, 1) := by decide +kernel
theorem dX7_takesByte_0 : decode cX7_takesByte 0 = .ok (.aload_n 0, 1) := by decide +kernel
theorem dX7_takesByte_1 : decode cX7_takesByte 1 = .ok (.invokevirtual 263, 3) := by decide +kernel
theorem dX7_takesByte_4 : decode cX7_takesByte 4 = .ok (.iload_n 1, 1) := by decide +kernel
theorem dX7_takesByte_5 : decode cX7_takesByte 5 = .ok (.if_icmp .ne 7, 3) := by decide +kernel
theorem dX7_takesByte_8 : decode cX7_takesByte 8 = .ok (.iconst 1, 1) := by decide +kernel
theorem dX7_takesByte_9 : decode cX7_takesByte 9 = .ok (.goto 4, 3) := by decide +kernel
theorem dX7_takesByte_12 : decode cX7_takesByte 12 = .ok (.iconst 0, 1) := by decide +kernel
theorem dX7_takesByte_13 : decode cX7_takesByte 13 = .ok (.istore_n 2, 1) := by decide +kernel
theorem dX7_takesByte_14 : decode cX7_takesByte 14 = .ok (.iload_n 2, 1) := by decide +kernel
theorem dX7_takesByte_15 : decode cX7_takesByte 15 = .ok (.ifCond .eq 13, 3) := by decide +kernel
theorem dX7_takesByte_18 : decode cX7_takesByte 18 = .ok (.aload_n 0, 1) := by decide +kernel
theorem dX7_takesByte_19 : decode cX7_takesByte 19 = .ok (.dup, 1) := by decide +kernel
theorem dX7_takesByte_20 : decode cX7_takesByte 20 = .ok (.getfield 254, 3) := by decide +kernel
theorem dX7_takesByte_23 : decode cX7_takesByte 23 = .ok (.iconst 1, 1) := by decide +kernel
theorem dX7_takesByte_24 : decode cX7_takesByte 24 = .ok (.iadd, 1) := by decide +kernel
theorem dX7_takesByte_25 : decode cX7_takesByte 25 = .ok (.putfield 254, 3) := by decide +kernel
theorem dX7_takesByte_28 : decode cX7_takesByte 28 = .ok (.iload_n 2, 1) := by decide +kernel
theorem dX7_takesByte_29 : decode cX7_takesByte 29 = .ok (.ireturn, 1) := by decide +kernel
theorem dX7_mustByte_0 : decode cX7_mustByte 0 = .ok (.aload_n 0, 1) := by decide +kernel
theorem dX7_mustByte_1 : decode cX7_mustByte 1 = .ok (.iload_n 1, 1) := by decide +kernel
theorem dX7_mustByte_2 : decode cX7_mustByte 2 = .ok (.invokevirtual 289, 3) := by decide +kernel
theorem dX7_mustByte_5 : decode cX7_mustByte 5 = .ok (.ifCond .ne 15, 3) := by decide +kernel
theorem dX7_mustByte_8 : decode cX7_mustByte 8 = .ok (.aload_n 0, 1) := by decide +kernel
theorem dX7_mustByte_9 : decode cX7_mustByte 9 = .ok (.iconst 1, 1) := by decide +kernel
theorem dX7_mustByte_10 : decode cX7_mustByte 10 = .ok (.aload_n 0, 1) := by decide +kernel
theorem dX7_mustByte_11 : decode cX7_mustByte 11 = .ok (.getfield 254, 3) := by decide +kernel
theorem dX7_mustByte_14 : decode cX7_mustByte 14 = .ok (.invokevirtual 286, 3) := by decide +kernel
theorem dX7_mustByte_17 : decode cX7_mustByte 17 = .ok (.ifCond .eq 7, 3) := by decide +kernel
theorem dX7_mustByte_20 : decode cX7_mustByte 20 = .ok (.iconst 1, 1) := by decide +kernel
theorem dX7_mustByte_21 : decode cX7_mustByte 21 = .ok (.goto 4, 3) := by decide +kernel
theorem dX7_mustByte_24 : decode cX7_mustByte 24 = .ok (.iconst 0, 1) := by decide +kernel
theorem dX7_mustByte_25 : decode cX7_mustByte 25 = .ok (.ireturn, 1) := by decide +kernel
theorem dX7_readsNumber_0 : decode cX7_readsNumber 0 = .ok (.aload_n 0, 1) := by decide +kernel
theorem dX7_readsNumber_1 : decode cX7_readsNumber 1 = .ok (.invokevirtual 263, 3) := by decide +kernel
theorem dX7_readsNumber_4 : decode cX7_readsNumber 4 = .ok (.i2l, 1) := by decide +kernel
theorem dX7_readsNumber_5 : decode cX7_readsNumber 5 = .ok (.ldc2_w 292, 3) := by decide +kernel
theorem dX7_readsNumber_8 : decode cX7_readsNumber 8 = .ok (.ldc2_w 294, 3) := by decide +kernel
theorem dX7_readsNumber_11 : decode cX7_readsNumber 11 = .ok (.invokestatic 39, 3) := by decide +kernel
theorem dX7_readsNumber_14 : decode cX7_readsNumber 14 = .ok (.ifCond .ne 13, 3) := by decide +kernel
theorem dX7_readsNumber_17 : decode cX7_readsNumber 17 = .ok (.aload_n 0, 1) := by decide +kernel
theorem dX7_readsNumber_18 : decode cX7_readsNumber 18 = .ok (.iconst 1, 1) := by decide +kernel
theorem dX7_readsNumber_19 : decode cX7_readsNumber 19 = .ok (.aload_n 0, 1) := by decide +kernel
theorem dX7_readsNumber_20 : decode cX7_readsNumber 20 = .ok (.getfield 254, 3) := by decide +kernel
theorem dX7_readsNumber_23 : decode cX7_readsNumber 23 = .ok (.invokevirtual 286, 3) := by decide +kernel
theorem dX7_readsNumber_26 : decode cX7_readsNumber 26 = .ok (.ireturn, 1) := by decide +kernel
theorem dX7_readsNumber_27 : decode cX7_readsNumber 27 = .ok (.aload_n 0, 1) := by decide +kernel
theorem dX7_readsNumber_28 : decode cX7_readsNumber 28 = .ok (.aload_n 0, 1) := by decide +kernel
theorem dX7_readsNumber_29 : decode cX7_readsNumber 29 = .ok (.getfield 254, 3) := by decide +kernel
theorem dX7_readsNumber_32 : decode cX7_readsNumber 32 = .ok (.putfield 296, 3) := by decide +kernel
theorem dX7_readsNumber_35 : decode cX7_readsNumber 35 = .ok (.aload_n 0, 1) := by decide +kernel
theorem dX7_readsNumber_36 : decode cX7_readsNumber 36 = .ok (.iconst 0, 1) := by decide +kernel
theorem dX7_readsNumber_37 : decode cX7_readsNumber 37 = .ok (.putfield 299, 3) := by decide +kernel
theorem dX7_readsNumber_40 : decode cX7_readsNumber 40 = .ok (.aload_n 0, 1) := by decide +kernel
theorem dX7_readsNumber_41 : decode cX7_readsNumber 41 = .ok (.aload_n 0, 1) := by decide +kernel
theorem dX7_readsNumber_42 : decode cX7_readsNumber 42 = .ok (.getfield 254, 3) := by decide +kernel
theorem dX7_readsNumber_45 : decode cX7_readsNumber 45 = .ok (.invokevirtual 257, 3) := by decide +kernel
theorem dX7_readsNumber_48 : decode cX7_readsNumber 48 = .ok (.i2l, 1) := by decide +kernel
theorem dX7_readsNumber_49 : decode cX7_readsNumber 49 = .ok (.ldc2_w 292, 3) := by decide +kernel
theorem dX7_readsNumber_52 : decode cX7_readsNumber 52 = .ok (.ldc2_w 294, 3) := by decide +kernel
theorem dX7_readsNumber_55 : decode cX7_readsNumber 55 = .ok (.invokestatic 39, 3) := by decide +kernel
theorem dX7_readsNumber_58 : decode cX7_readsNumber 58 = .ok (.ifCond .eq 49, 3) := by decide +kernel
theorem dX7_readsNumber_61 : decode cX7_readsNumber 61 = .ok (.aload_n 0, 1) := by decide +kernel
theorem dX7_readsNumber_62 : decode cX7_readsNumber 62 = .ok (.getfield 299, 3) := by decide +kernel
theorem dX7_readsNumber_65 : decode cX7_readsNumber 65 = .ok (.sipush 10000, 3) := by decide +kernel
theorem dX7_readsNumber_68 : decode cX7_readsNumber 68 = .ok (.if_icmp .ge 26, 3) := by decide +kernel
theorem dX7_readsNumber_71 : decode cX7_readsNumber 71 = .ok (.aload_n 0, 1) := by decide +kernel
theorem dX7_readsNumber_72 : decode cX7_readsNumber 72 = .ok (.bipush 10, 2) := by decide +kernel
theorem dX7_readsNumber_74 : decode cX7_readsNumber 74 = .ok (.aload_n 0, 1) := by decide +kernel
theorem dX7_readsNumber_75 : decode cX7_readsNumber 75 = .ok (.getfield 299, 3) := by decide +kernel
theorem dX7_readsNumber_78 : decode cX7_readsNumber 78 = .ok (.imul, 1) := by decide +kernel
theorem dX7_readsNumber_79 : decode cX7_readsNumber 79 = .ok (.aload_n 0, 1) := by decide +kernel
theorem dX7_readsNumber_80 : decode cX7_readsNumber 80 = .ok (.aload_n 0, 1) := by decide +kernel
theorem dX7_readsNumber_81 : decode cX7_readsNumber 81 = .ok (.getfield 254, 3) := by decide +kernel
theorem dX7_readsNumber_84 : decode cX7_readsNumber 84 = .ok (.invokevirtual 257, 3) := by decide +kernel
theorem dX7_readsNumber_87 : decode cX7_readsNumber 87 = .ok (.iadd, 1) := by decide +kernel
theorem dX7_readsNumber_88 : decode cX7_readsNumber 88 = .ok (.bipush 48, 2) := by decide +kernel
theorem dX7_readsNumber_90 : decode cX7_readsNumber 90 = .ok (.isub, 1) := by decide +kernel
theorem dX7_readsNumber_91 : decode cX7_readsNumber 91 = .ok (.putfield 299, 3) := by decide +kernel
theorem dX7_readsNumber_94 : decode cX7_readsNumber 94 = .ok (.aload_n 0, 1) := by decide +kernel
theorem dX7_readsNumber_95 : decode cX7_readsNumber 95 = .ok (.dup, 1) := by decide +kernel
theorem dX7_readsNumber_96 : decode cX7_readsNumber 96 = .ok (.getfield 254, 3) := by decide +kernel
theorem dX7_readsNumber_99 : decode cX7_readsNumber 99 = .ok (.iconst 1, 1) := by decide +kernel
theorem dX7_readsNumber_100 : decode cX7_readsNumber 100 = .ok (.iadd, 1) := by decide +kernel
theorem dX7_readsNumber_101 : decode cX7_readsNumber 101 = .ok (.putfield 254, 3) := by decide +kernel
theorem dX7_readsNumber_104 : decode cX7_readsNumber 104 = .ok (.goto (-64), 3) := by decide +kernel
theorem dX7_readsNumber_107 : decode cX7_readsNumber 107 = .ok (.aload_n 0, 1) := by decide +kernel
theorem dX7_readsNumber_108 : decode cX7_readsNumber 108 = .ok (.getfield 299, 3) := by decide +kernel
theorem dX7_readsNumber_111 : decode cX7_readsNumber 111 = .ok (.i2l, 1) := by decide +kernel
theorem dX7_readsNumber_112 : decode cX7_readsNumber 112 = .ok (.iload_n 1, 1) := by decide +kernel
theorem dX7_readsNumber_113 : decode cX7_readsNumber 113 = .ok (.i2l, 1) := by decide +kernel
theorem dX7_readsNumber_114 : decode cX7_readsNumber 114 = .ok (.iload_n 2, 1) := by decide +kernel
theorem dX7_readsNumber_115 : decode cX7_readsNumber 115 = .ok (.i2l, 1) := by decide +kernel
theorem dX7_readsNumber_116 : decode cX7_readsNumber 116 = .ok (.invokestatic 39, 3) := by decide +kernel
theorem dX7_readsNumber_119 : decode cX7_readsNumber 119 = .ok (.ifCond .ne 15, 3) := by decide +kernel
theorem dX7_readsNumber_122 : decode cX7_readsNumber 122 = .ok (.aload_n 0, 1) := by decide +kernel
theorem dX7_readsNumber_123 : decode cX7_readsNumber 123 = .ok (.iconst 2, 1) := by decide +kernel
theorem dX7_readsNumber_124 : decode cX7_readsNumber 124 = .ok (.aload_n 0, 1) := by decide +kernel
theorem dX7_readsNumber_125 : decode cX7_readsNumber 125 = .ok (.getfield 296, 3) := by decide +kernel
theorem dX7_readsNumber_128 : decode cX7_readsNumber 128 = .ok (.invokevirtual 286, 3) := by decide +kernel
theorem dX7_readsNumber_131 : decode cX7_readsNumber 131 = .ok (.ifCond .eq 7, 3) := by decide +kernel
theorem dX7_readsNumber_134 : decode cX7_readsNumber 134 = .ok (.iconst 1, 1) := by decide +kernel
theorem dX7_readsNumber_135 : decode cX7_readsNumber 135 = .ok (.goto 4, 3) := by decide +kernel
theorem dX7_readsNumber_138 : decode cX7_readsNumber 138 = .ok (.iconst 0, 1) := by decide +kernel
theorem dX7_readsNumber_139 : decode cX7_readsNumber 139 = .ok (.ireturn, 1) := by decide +kernel
theorem dX7_readsQuoted_0 : decode cX7_readsQuoted 0 = .ok (.aload_n 0, 1) := by decide +kernel
theorem dX7_readsQuoted_1 : decode cX7_readsQuoted 1 = .ok (.bipush 39, 2) := by decide +kernel
theorem dX7_readsQuoted_3 : decode cX7_readsQuoted 3 = .ok (.invokevirtual 302, 3) := by decide +kernel
theorem dX7_readsQuoted_6 : decode cX7_readsQuoted 6 = .ok (.ifCond .ne 5, 3) := by decide +kernel
theorem dX7_readsQuoted_9 : decode cX7_readsQuoted 9 = .ok (.iconst 0, 1) := by decide +kernel
theorem dX7_readsQuoted_10 : decode cX7_readsQuoted 10 = .ok (.ireturn, 1) := by decide +kernel
theorem dX7_readsQuoted_11 : decode cX7_readsQuoted 11 = .ok (.aload_n 0, 1) := by decide +kernel
theorem dX7_readsQuoted_12 : decode cX7_readsQuoted 12 = .ok (.aload_n 0, 1) := by decide +kernel
theorem dX7_readsQuoted_13 : decode cX7_readsQuoted 13 = .ok (.getfield 254, 3) := by decide +kernel
theorem dX7_readsQuoted_16 : decode cX7_readsQuoted 16 = .ok (.putfield 305, 3) := by decide +kernel
theorem dX7_readsQuoted_19 : decode cX7_readsQuoted 19 = .ok (.aload_n 0, 1) := by decide +kernel
theorem dX7_readsQuoted_20 : decode cX7_readsQuoted 20 = .ok (.iconst 0, 1) := by decide +kernel
theorem dX7_readsQuoted_21 : decode cX7_readsQuoted 21 = .ok (.putfield 308, 3) := by decide +kernel
theorem dX7_readsQuoted_24 : decode cX7_readsQuoted 24 = .ok (.aload_n 0, 1) := by decide +kernel
theorem dX7_readsQuoted_25 : decode cX7_readsQuoted 25 = .ok (.aload_n 0, 1) := by decide +kernel
theorem dX7_readsQuoted_26 : decode cX7_readsQuoted 26 = .ok (.getfield 254, 3) := by decide +kernel
theorem dX7_readsQuoted_29 : decode cX7_readsQuoted 29 = .ok (.invokevirtual 257, 3) := by decide +kernel
theorem dX7_readsQuoted_32 : decode cX7_readsQuoted 32 = .ok (.bipush 39, 2) := by decide +kernel
theorem dX7_readsQuoted_34 : decode cX7_readsQuoted 34 = .ok (.if_icmp .eq 68, 3) := by decide +kernel
theorem dX7_readsQuoted_37 : decode cX7_readsQuoted 37 = .ok (.aload_n 0, 1) := by decide +kernel
theorem dX7_readsQuoted_38 : decode cX7_readsQuoted 38 = .ok (.aload_n 0, 1) := by decide +kernel
theorem dX7_readsQuoted_39 : decode cX7_readsQuoted 39 = .ok (.getfield 254, 3) := by decide +kernel
theorem dX7_readsQuoted_42 : decode cX7_readsQuoted 42 = .ok (.invokevirtual 257, 3) := by decide +kernel
theorem dX7_readsQuoted_45 : decode cX7_readsQuoted 45 = .ok (.invokestatic 127, 3) := by decide +kernel
theorem dX7_readsQuoted_48 : decode cX7_readsQuoted 48 = .ok (.ifCond .ne 13, 3) := by decide +kernel
theorem dX7_readsQuoted_51 : decode cX7_readsQuoted 51 = .ok (.aload_n 0, 1) := by decide +kernel
theorem dX7_readsQuoted_52 : decode cX7_readsQuoted 52 = .ok (.iconst 1, 1) := by decide +kernel
theorem dX7_readsQuoted_53 : decode cX7_readsQuoted 53 = .ok (.aload_n 0, 1) := by decide +kernel
theorem dX7_readsQuoted_54 : decode cX7_readsQuoted 54 = .ok (.getfield 254, 3) := by decide +kernel
theorem dX7_readsQuoted_57 : decode cX7_readsQuoted 57 = .ok (.invokevirtual 286, 3) := by decide +kernel
theorem dX7_readsQuoted_60 : decode cX7_readsQuoted 60 = .ok (.ireturn, 1) := by decide +kernel
theorem dX7_readsQuoted_61 : decode cX7_readsQuoted 61 = .ok (.aload_n 0, 1) := by decide +kernel
theorem dX7_readsQuoted_62 : decode cX7_readsQuoted 62 = .ok (.getfield 308, 3) := by decide +kernel
theorem dX7_readsQuoted_65 : decode cX7_readsQuoted 65 = .ok (.iload_n 2, 1) := by decide +kernel
theorem dX7_readsQuoted_66 : decode cX7_readsQuoted 66 = .ok (.if_icmp .ne 13, 3) := by decide +kernel
theorem dX7_readsQuoted_69 : decode cX7_readsQuoted 69 = .ok (.aload_n 0, 1) := by decide +kernel
theorem dX7_readsQuoted_70 : decode cX7_readsQuoted 70 = .ok (.iconst 2, 1) := by decide +kernel
theorem dX7_readsQuoted_71 : decode cX7_readsQuoted 71 = .ok (.aload_n 0, 1) := by decide +kernel
theorem dX7_readsQuoted_72 : decode cX7_readsQuoted 72 = .ok (.getfield 254, 3) := by decide +kernel
theorem dX7_readsQuoted_75 : decode cX7_readsQuoted 75 = .ok (.invokevirtual 286, 3) := by decide +kernel
theorem dX7_readsQuoted_78 : decode cX7_readsQuoted 78 = .ok (.ireturn, 1) := by decide +kernel
theorem dX7_readsQuoted_79 : decode cX7_readsQuoted 79 = .ok (.aload_n 0, 1) := by decide +kernel
theorem dX7_readsQuoted_80 : decode cX7_readsQuoted 80 = .ok (.dup, 1) := by decide +kernel
theorem dX7_readsQuoted_81 : decode cX7_readsQuoted 81 = .ok (.getfield 308, 3) := by decide +kernel
theorem dX7_readsQuoted_84 : decode cX7_readsQuoted 84 = .ok (.iconst 1, 1) := by decide +kernel
theorem dX7_readsQuoted_85 : decode cX7_readsQuoted 85 = .ok (.iadd, 1) := by decide +kernel
theorem dX7_readsQuoted_86 : decode cX7_readsQuoted 86 = .ok (.putfield 308, 3) := by decide +kernel
theorem dX7_readsQuoted_89 : decode cX7_readsQuoted 89 = .ok (.aload_n 0, 1) := by decide +kernel
theorem dX7_readsQuoted_90 : decode cX7_readsQuoted 90 = .ok (.dup, 1) := by decide +kernel
theorem dX7_readsQuoted_91 : decode cX7_readsQuoted 91 = .ok (.getfield 254, 3) := by decide +kernel
theorem dX7_readsQuoted_94 : decode cX7_readsQuoted 94 = .ok (.iconst 1, 1) := by decide +kernel
theorem dX7_readsQuoted_95 : decode cX7_readsQuoted 95 = .ok (.iadd, 1) := by decide +kernel
theorem dX7_readsQuoted_96 : decode cX7_readsQuoted 96 = .ok (.putfield 254, 3) := by decide +kernel
theorem dX7_readsQuoted_99 : decode cX7_readsQuoted 99 = .ok (.goto (-75), 3) := by decide +kernel
theorem dX7_readsQuoted_102 : decode cX7_readsQuoted 102 = .ok (.aload_n 0, 1) := by decide +kernel
theorem dX7_readsQuoted_103 : decode cX7_readsQuoted 103 = .ok (.getfield 308, 3) := by decide +kernel
theorem dX7_readsQuoted_106 : decode cX7_readsQuoted 106 = .ok (.iload_n 1, 1) := by decide +kernel
theorem dX7_readsQuoted_107 : decode cX7_readsQuoted 107 = .ok (.if_icmp .ge 13, 3) := by decide +kernel
theorem dX7_readsQuoted_110 : decode cX7_readsQuoted 110 = .ok (.aload_n 0, 1) := by decide +kernel
theorem dX7_readsQuoted_111 : decode cX7_readsQuoted 111 = .ok (.iconst 2, 1) := by decide +kernel
theorem dX7_readsQuoted_112 : decode cX7_readsQuoted 112 = .ok (.aload_n 0, 1) := by decide +kernel
theorem dX7_readsQuoted_113 : decode cX7_readsQuoted 113 = .ok (.getfield 254, 3) := by decide +kernel
theorem dX7_readsQuoted_116 : decode cX7_readsQuoted 116 = .ok (.invokevirtual 286, 3) := by decide +kernel
theorem dX7_readsQuoted_119 : decode cX7_readsQuoted 119 = .ok (.ireturn, 1) := by decide +kernel
theorem dX7_readsQuoted_120 : decode cX7_readsQuoted 120 = .ok (.aload_n 0, 1) := by decide +kernel
theorem dX7_readsQuoted_121 : decode cX7_readsQuoted 121 = .ok (.dup, 1) := by decide +kernel
theorem dX7_readsQuoted_122 : decode cX7_readsQuoted 122 = .ok (.getfield 254, 3) := by decide +kernel
theorem dX7_readsQuoted_125 : decode cX7_readsQuoted 125 = .ok (.iconst 1, 1) := by decide +kernel
theorem dX7_readsQuoted_126 : decode cX7_readsQuoted 126 = .ok (.iadd, 1) := by decide +kernel
theorem dX7_readsQuoted_127 : decode cX7_readsQuoted 127 = .ok (.putfield 254, 3) := by decide +kernel
theorem dX7_readsQuoted_130 : decode cX7_readsQuoted 130 = .ok (.iconst 1, 1) := by decide +kernel
theorem dX7_readsQuoted_131 : decode cX7_readsQuoted 131 = .ok (.ireturn, 1) := by decide +kernel
theorem dX7_readsDrum_0 : decode cX7_readsDrum 0 = .ok (.aload_n 0, 1) := by decide +kernel
theorem dX7_readsDrum_1 : decode cX7_readsDrum 1 = .ok (.invokevirtual 50, 3) := by decide +kernel
theorem dX7_readsDrum_4 : decode cX7_readsDrum 4 = .ok (.iconst 4, 1) := by decide +kernel
theorem dX7_readsDrum_5 : decode cX7_readsDrum 5 = .ok (.if_icmp .ne 13, 3) := by decide +kernel
theorem dX7_readsDrum_8 : decode cX7_readsDrum 8 = .ok (.aload_n 0, 1) := by decide +kernel
theorem dX7_readsDrum_9 : decode cX7_readsDrum 9 = .ok (.iconst 3, 1) := by decide +kernel
theorem dX7_readsDrum_10 : decode cX7_readsDrum 10 = .ok (.aload_n 0, 1) := by decide +kernel
theorem dX7_readsDrum_11 : decode cX7_readsDrum 11 = .ok (.getfield 254, 3) := by decide +kernel
theorem dX7_readsDrum_14 : decode cX7_readsDrum 14 = .ok (.invokevirtual 286, 3) := by decide +kernel
theorem dX7_readsDrum_17 : decode cX7_readsDrum 17 = .ok (.ireturn, 1) := by decide +kernel
theorem dX7_readsDrum_18 : decode cX7_readsDrum 18 = .ok (.aload_n 0, 1) := by decide +kernel
theorem dX7_readsDrum_19 : decode cX7_readsDrum 19 = .ok (.dup, 1) := by decide +kernel
theorem dX7_readsDrum_20 : decode cX7_readsDrum 20 = .ok (.getfield 254, 3) := by decide +kernel
theorem dX7_readsDrum_23 : decode cX7_readsDrum 23 = .ok (.iconst 4, 1) := by decide +kernel
theorem dX7_readsDrum_24 : decode cX7_readsDrum 24 = .ok (.iadd, 1) := by decide +kernel
theorem dX7_readsDrum_25 : decode cX7_readsDrum 25 = .ok (.putfield 254, 3) := by decide +kernel
theorem dX7_readsDrum_28 : decode cX7_readsDrum 28 = .ok (.aload_n 0, 1) := by decide +kernel
theorem dX7_readsDrum_29 : decode cX7_readsDrum 29 = .ok (.iconst 1, 1) := by decide +kernel
theorem dX7_readsDrum_30 : decode cX7_readsDrum 30 = .ok (.bipush 9, 2) := by decide +kernel
theorem dX7_readsDrum_32 : decode cX7_readsDrum 32 = .ok (.invokevirtual 311, 3) := by decide +kernel
theorem dX7_readsDrum_35 : decode cX7_readsDrum 35 = .ok (.ifCond .ne 5, 3) := by decide +kernel
theorem dX7_readsDrum_38 : decode cX7_readsDrum 38 = .ok (.iconst 0, 1) := by decide +kernel
theorem dX7_readsDrum_39 : decode cX7_readsDrum 39 = .ok (.ireturn, 1) := by decide +kernel
theorem dX7_readsDrum_40 : decode cX7_readsDrum 40 = .ok (.aload_n 0, 1) := by decide +kernel
theorem dX7_readsDrum_41 : decode cX7_readsDrum 41 = .ok (.getfield 299, 3) := by decide +kernel
theorem dX7_readsDrum_44 : decode cX7_readsDrum 44 = .ok (.istore_n 1, 1) := by decide +kernel
theorem dX7_readsDrum_45 : decode cX7_readsDrum 45 = .ok (.aload_n 0, 1) := by decide +kernel
theorem dX7_readsDrum_46 : decode cX7_readsDrum 46 = .ok (.iconst 2, 1) := by decide +kernel
theorem dX7_readsDrum_47 : decode cX7_readsDrum 47 = .ok (.bipush 40, 2) := by decide +kernel
theorem dX7_readsDrum_49 : decode cX7_readsDrum 49 = .ok (.invokevirtual 314, 3) := by decide +kernel
theorem dX7_readsDrum_52 : decode cX7_readsDrum 52 = .ok (.ifCond .ne 5, 3) := by decide +kernel
theorem dX7_readsDrum_55 : decode cX7_readsDrum 55 = .ok (.iconst 0, 1) := by decide +kernel
theorem dX7_readsDrum_56 : decode cX7_readsDrum 56 = .ok (.ireturn, 1) := by decide +kernel
theorem dX7_readsDrum_57 : decode cX7_readsDrum 57 = .ok (.bipush 8, 2) := by decide +kernel
theorem dX7_readsDrum_59 : decode cX7_readsDrum 59 = .ok (.bipush 42, 2) := by decide +kernel
theorem dX7_readsDrum_61 : decode cX7_readsDrum 61 = .ok (.aload_n 0, 1) := by decide +kernel
theorem dX7_readsDrum_62 : decode cX7_readsDrum 62 = .ok (.invokevirtual 50, 3) := by decide +kernel
theorem dX7_readsDrum_65 : decode cX7_readsDrum 65 = .ok (.imul, 1) := by decide +kernel
theorem dX7_readsDrum_66 : decode cX7_readsDrum 66 = .ok (.iadd, 1) := by decide +kernel
theorem dX7_readsDrum_67 : decode cX7_readsDrum 67 = .ok (.istore_n 2, 1) := by decide +kernel
theorem dX7_readsDrum_68 : decode cX7_readsDrum 68 = .ok (.aload_n 0, 1) := by decide +kernel
theorem dX7_readsDrum_69 : decode cX7_readsDrum 69 = .ok (.getfield 7, 3) := by decide +kernel
theorem dX7_readsDrum_72 : decode cX7_readsDrum 72 = .ok (.iload_n 2, 1) := by decide +kernel
theorem dX7_readsDrum_73 : decode cX7_readsDrum 73 = .ok (.iload_n 1, 1) := by decide +kernel
theorem dX7_readsDrum_74 : decode cX7_readsDrum 74 = .ok (.i2l, 1) := by decide +kernel
theorem dX7_readsDrum_75 : decode cX7_readsDrum 75 = .ok (.lastore, 1) := by decide +kernel
theorem dX7_readsDrum_76 : decode cX7_readsDrum 76 = .ok (.aload_n 0, 1) := by decide +kernel
theorem dX7_readsDrum_77 : decode cX7_readsDrum 77 = .ok (.getfield 7, 3) := by decide +kernel
theorem dX7_readsDrum_80 : decode cX7_readsDrum 80 = .ok (.iload_n 2, 1) := by decide +kernel
theorem dX7_readsDrum_81 : decode cX7_readsDrum 81 = .ok (.iconst 1, 1) := by decide +kernel
theorem dX7_readsDrum_82 : decode cX7_readsDrum 82 = .ok (.iadd, 1) := by decide +kernel
theorem dX7_readsDrum_83 : decode cX7_readsDrum 83 = .ok (.aload_n 0, 1) := by decide +kernel
theorem dX7_readsDrum_84 : decode cX7_readsDrum 84 = .ok (.getfield 308, 3) := by decide +kernel
theorem dX7_readsDrum_87 : decode cX7_readsDrum 87 = .ok (.i2l, 1) := by decide +kernel
theorem dX7_readsDrum_88 : decode cX7_readsDrum 88 = .ok (.lastore, 1) := by decide +kernel
theorem dX7_readsDrum_89 : decode cX7_readsDrum 89 = .ok (.iconst 0, 1) := by decide +kernel
theorem dX7_readsDrum_90 : decode cX7_readsDrum 90 = .ok (.istore_n 3, 1) := by decide +kernel
theorem dX7_readsDrum_91 : decode cX7_readsDrum 91 = .ok (.iload_n 3, 1) := by decide +kernel
theorem dX7_readsDrum_92 : decode cX7_readsDrum 92 = .ok (.aload_n 0, 1) := by decide +kernel
theorem dX7_readsDrum_93 : decode cX7_readsDrum 93 = .ok (.getfield 308, 3) := by decide +kernel
theorem dX7_readsDrum_96 : decode cX7_readsDrum 96 = .ok (.if_icmp .ge 31, 3) := by decide +kernel
theorem dX7_readsDrum_99 : decode cX7_readsDrum 99 = .ok (.aload_n 0, 1) := by decide +kernel
theorem dX7_readsDrum_100 : decode cX7_readsDrum 100 = .ok (.getfield 7, 3) := by decide +kernel
theorem dX7_readsDrum_103 : decode cX7_readsDrum 103 = .ok (.iload_n 2, 1) := by decide +kernel
theorem dX7_readsDrum_104 : decode cX7_readsDrum 104 = .ok (.iconst 2, 1) := by decide +kernel
theorem dX7_readsDrum_105 : decode cX7_readsDrum 105 = .ok (.iadd, 1) := by decide +kernel
theorem dX7_readsDrum_106 : decode cX7_readsDrum 106 = .ok (.iload_n 3, 1) := by decide +kernel
theorem dX7_readsDrum_107 : decode cX7_readsDrum 107 = .ok (.iadd, 1) := by decide +kernel
theorem dX7_readsDrum_108 : decode cX7_readsDrum 108 = .ok (.aload_n 0, 1) := by decide +kernel
theorem dX7_readsDrum_109 : decode cX7_readsDrum 109 = .ok (.getfield 31, 3) := by decide +kernel
theorem dX7_readsDrum_112 : decode cX7_readsDrum 112 = .ok (.aload_n 0, 1) := by decide +kernel
theorem dX7_readsDrum_113 : decode cX7_readsDrum 113 = .ok (.getfield 305, 3) := by decide +kernel
theorem dX7_readsDrum_116 : decode cX7_readsDrum 116 = .ok (.iload_n 3, 1) := by decide +kernel
theorem dX7_readsDrum_117 : decode cX7_readsDrum 117 = .ok (.iadd, 1) := by decide +kernel
theorem dX7_readsDrum_118 : decode cX7_readsDrum 118 = .ok (.baload, 1) := by decide +kernel
theorem dX7_readsDrum_119 : decode cX7_readsDrum 119 = .ok (.i2l, 1) := by decide +kernel
theorem dX7_readsDrum_120 : decode cX7_readsDrum 120 = .ok (.lastore, 1) := by decide +kernel
theorem dX7_readsDrum_121 : decode cX7_readsDrum 121 = .ok (.iinc 3 1, 3) := by decide +kernel
theorem dX7_readsDrum_124 : decode cX7_readsDrum 124 = .ok (.goto (-33), 3) := by decide +kernel
theorem dX7_readsDrum_127 : decode cX7_readsDrum 127 = .ok (.aload_n 0, 1) := by decide +kernel
theorem dX7_readsDrum_128 : decode cX7_readsDrum 128 = .ok (.getfield 7, 3) := by decide +kernel
theorem dX7_readsDrum_131 : decode cX7_readsDrum 131 = .ok (.iconst 3, 1) := by decide +kernel
theorem dX7_readsDrum_132 : decode cX7_readsDrum 132 = .ok (.dup2, 1) := by decide +kernel
theorem dX7_readsDrum_133 : decode cX7_readsDrum 133 = .ok (.laload, 1) := by decide +kernel
theorem dX7_readsDrum_134 : decode cX7_readsDrum 134 = .ok (.lconst 1, 1) := by decide +kernel
theorem dX7_readsDrum_135 : decode cX7_readsDrum 135 = .ok (.ladd, 1) := by decide +kernel
theorem dX7_readsDrum_136 : decode cX7_readsDrum 136 = .ok (.lastore, 1) := by decide +kernel
theorem dX7_readsDrum_137 : decode cX7_readsDrum 137 = .ok (.iconst 1, 1) := by decide +kernel
theorem dX7_readsDrum_138 : decode cX7_readsDrum 138 = .ok (.ireturn, 1) := by decide +kernel
theorem dX7_readsCells_0 : decode cX7_readsCells 0 = .ok (.aload_n 0, 1) := by decide +kernel
theorem dX7_readsCells_1 : decode cX7_readsCells 1 = .ok (.dup, 1) := by decide +kernel
theorem dX7_readsCells_2 : decode cX7_readsCells 2 = .ok (.getfield 254, 3) := by decide +kernel
theorem dX7_readsCells_5 : decode cX7_readsCells 5 = .ok (.iconst 5, 1) := by decide +kernel
theorem dX7_readsCells_6 : decode cX7_readsCells 6 = .ok (.iadd, 1) := by decide +kernel
theorem dX7_readsCells_7 : decode cX7_readsCells 7 = .ok (.putfield 254, 3) := by decide +kernel
theorem dX7_readsCells_10 : decode cX7_readsCells 10 = .ok (.aload_n 0, 1) := by decide +kernel
theorem dX7_readsCells_11 : decode cX7_readsCells 11 = .ok (.iconst 0, 1) := by decide +kernel
theorem dX7_readsCells_12 : decode cX7_readsCells 12 = .ok (.aload_n 0, 1) := by decide +kernel
theorem dX7_readsCells_13 : decode cX7_readsCells 13 = .ok (.invokevirtual 53, 3) := by decide +kernel
theorem dX7_readsCells_16 : decode cX7_readsCells 16 = .ok (.iconst 1, 1) := by decide +kernel
theorem dX7_readsCells_17 : decode cX7_readsCells 17 = .ok (.isub, 1) := by decide +kernel
theorem dX7_readsCells_18 : decode cX7_readsCells 18 = .ok (.invokevirtual 311, 3) := by decide +kernel
theorem dX7_readsCells_21 : decode cX7_readsCells 21 = .ok (.ifCond .ne 5, 3) := by decide +kernel
theorem dX7_readsCells_24 : decode cX7_readsCells 24 = .ok (.iconst 0, 1) := by decide +kernel
theorem dX7_readsCells_25 : decode cX7_readsCells 25 = .ok (.ireturn, 1) := by decide +kernel
theorem dX7_readsCells_26 : decode cX7_readsCells 26 = .ok (.aload_n 0, 1) := by decide +kernel
theorem dX7_readsCells_27 : decode cX7_readsCells 27 = .ok (.getfield 299, 3) := by decide +kernel
theorem dX7_readsCells_30 : decode cX7_readsCells 30 = .ok (.istore_n 1, 1) := by decide +kernel
theorem dX7_readsCells_31 : decode cX7_readsCells 31 = .ok (.aload_n 0, 1) := by decide +kernel
theorem dX7_readsCells_32 : decode cX7_readsCells 32 = .ok (.iload_n 1, 1) := by decide +kernel
theorem dX7_readsCells_33 : decode cX7_readsCells 33 = .ok (.aload_n 0, 1) := by decide +kernel
theorem dX7_readsCells_34 : decode cX7_readsCells 34 = .ok (.invokevirtual 53, 3) := by decide +kernel
theorem dX7_readsCells_37 : decode cX7_readsCells 37 = .ok (.iconst 1, 1) := by decide +kernel
theorem dX7_readsCells_38 : decode cX7_readsCells 38 = .ok (.isub, 1) := by decide +kernel
theorem dX7_readsCells_39 : decode cX7_readsCells 39 = .ok (.invokevirtual 311, 3) := by decide +kernel
theorem dX7_readsCells_42 : decode cX7_readsCells 42 = .ok (.ifCond .ne 5, 3) := by decide +kernel
theorem dX7_readsCells_45 : decode cX7_readsCells 45 = .ok (.iconst 0, 1) := by decide +kernel
theorem dX7_readsCells_46 : decode cX7_readsCells 46 = .ok (.ireturn, 1) := by decide +kernel
theorem dX7_readsCells_47 : decode cX7_readsCells 47 = .ok (.aload_n 0, 1) := by decide +kernel
theorem dX7_readsCells_48 : decode cX7_readsCells 48 = .ok (.getfield 299, 3) := by decide +kernel
theorem dX7_readsCells_51 : decode cX7_readsCells 51 = .ok (.istore_n 2, 1) := by decide +kernel
theorem dX7_readsCells_52 : decode cX7_readsCells 52 = .ok (.aload_n 0, 1) := by decide +kernel
theorem dX7_readsCells_53 : decode cX7_readsCells 53 = .ok (.iconst 0, 1) := by decide +kernel
theorem dX7_readsCells_54 : decode cX7_readsCells 54 = .ok (.aload_n 0, 1) := by decide +kernel
theorem dX7_readsCells_55 : decode cX7_readsCells 55 = .ok (.invokevirtual 50, 3) := by decide +kernel
theorem dX7_readsCells_58 : decode cX7_readsCells 58 = .ok (.iconst 1, 1) := by decide +kernel
theorem dX7_readsCells_59 : decode cX7_readsCells 59 = .ok (.isub, 1) := by decide +kernel
theorem dX7_readsCells_60 : decode cX7_readsCells 60 = .ok (.invokevirtual 311, 3) := by decide +kernel
theorem dX7_readsCells_63 : decode cX7_readsCells 63 = .ok (.ifCond .ne 5, 3) := by decide +kernel
theorem dX7_readsCells_66 : decode cX7_readsCells 66 = .ok (.iconst 0, 1) := by decide +kernel
theorem dX7_readsCells_67 : decode cX7_readsCells 67 = .ok (.ireturn, 1) := by decide +kernel
theorem dX7_readsCells_68 : decode cX7_readsCells 68 = .ok (.iload_n 1, 1) := by decide +kernel
theorem dX7_readsCells_69 : decode cX7_readsCells 69 = .ok (.istore_n 3, 1) := by decide +kernel
theorem dX7_readsCells_70 : decode cX7_readsCells 70 = .ok (.iload_n 3, 1) := by decide +kernel
theorem dX7_readsCells_71 : decode cX7_readsCells 71 = .ok (.iload_n 2, 1) := by decide +kernel
theorem dX7_readsCells_72 : decode cX7_readsCells 72 = .ok (.if_icmp .gt 44, 3) := by decide +kernel
theorem dX7_readsCells_75 : decode cX7_readsCells 75 = .ok (.iconst 0, 1) := by decide +kernel
theorem dX7_readsCells_76 : decode cX7_readsCells 76 = .ok (.istore 4, 2) := by decide +kernel
theorem dX7_readsCells_78 : decode cX7_readsCells 78 = .ok (.iload 4, 2) := by decide +kernel
theorem dX7_readsCells_80 : decode cX7_readsCells 80 = .ok (.bipush 8, 2) := by decide +kernel
theorem dX7_readsCells_82 : decode cX7_readsCells 82 = .ok (.if_icmp .ge 17, 3) := by decide +kernel
theorem dX7_readsCells_85 : decode cX7_readsCells 85 = .ok (.aload_n 0, 1) := by decide +kernel
theorem dX7_readsCells_86 : decode cX7_readsCells 86 = .ok (.iload_n 3, 1) := by decide +kernel
theorem dX7_readsCells_87 : decode cX7_readsCells 87 = .ok (.iload 4, 2) := by decide +kernel
theorem dX7_readsCells_89 : decode cX7_readsCells 89 = .ok (.lconst 0, 1) := by decide +kernel
theorem dX7_readsCells_90 : decode cX7_readsCells 90 = .ok (.invokevirtual 78, 3) := by decide +kernel
theorem dX7_readsCells_93 : decode cX7_readsCells 93 = .ok (.iinc 4 1, 3) := by decide +kernel
theorem dX7_readsCells_96 : decode cX7_readsCells 96 = .ok (.goto (-18), 3) := by decide +kernel
theorem dX7_readsCells_99 : decode cX7_readsCells 99 = .ok (.aload_n 0, 1) := by decide +kernel
theorem dX7_readsCells_100 : decode cX7_readsCells 100 = .ok (.iload_n 3, 1) := by decide +kernel
theorem dX7_readsCells_101 : decode cX7_readsCells 101 = .ok (.iconst 0, 1) := by decide +kernel
theorem dX7_readsCells_102 : decode cX7_readsCells 102 = .ok (.aload_n 0, 1) := by decide +kernel
theorem dX7_readsCells_103 : decode cX7_readsCells 103 = .ok (.getfield 299, 3) := by decide +kernel
theorem dX7_readsCells_106 : decode cX7_readsCells 106 = .ok (.i2l, 1) := by decide +kernel
theorem dX7_readsCells_107 : decode cX7_readsCells 107 = .ok (.invokevirtual 78, 3) := by decide +kernel
theorem dX7_readsCells_110 : decode cX7_readsCells 110 = .ok (.iinc 3 1, 3) := by decide +kernel
theorem dX7_readsCells_113 : decode cX7_readsCells 113 = .ok (.goto (-43), 3) := by decide +kernel
theorem dX7_readsCells_116 : decode cX7_readsCells 116 = .ok (.iconst 1, 1) := by decide +kernel
theorem dX7_readsCells_117 : decode cX7_readsCells 117 = .ok (.ireturn, 1) := by decide +kernel
theorem dX7_readsWorn_0 : decode cX7_readsWorn 0 = .ok (.aload_n 0, 1) := by decide +kernel
theorem dX7_readsWorn_1 : decode cX7_readsWorn 1 = .ok (.dup, 1) := by decide +kernel
theorem dX7_readsWorn_2 : decode cX7_readsWorn 2 = .ok (.getfield 254, 3) := by decide +kernel
theorem dX7_readsWorn_5 : decode cX7_readsWorn 5 = .ok (.iconst 4, 1) := by decide +kernel
theorem dX7_readsWorn_6 : decode cX7_readsWorn 6 = .ok (.iadd, 1) := by decide +kernel
theorem dX7_readsWorn_7 : decode cX7_readsWorn 7 = .ok (.putfield 254, 3) := by decide +kernel
theorem dX7_readsWorn_10 : decode cX7_readsWorn 10 = .ok (.aload_n 0, 1) := by decide +kernel
theorem dX7_readsWorn_11 : decode cX7_readsWorn 11 = .ok (.iconst 0, 1) := by decide +kernel
theorem dX7_readsWorn_12 : decode cX7_readsWorn 12 = .ok (.aload_n 0, 1) := by decide +kernel
theorem dX7_readsWorn_13 : decode cX7_readsWorn 13 = .ok (.invokevirtual 53, 3) := by decide +kernel
theorem dX7_readsWorn_16 : decode cX7_readsWorn 16 = .ok (.iconst 1, 1) := by decide +kernel
theorem dX7_readsWorn_17 : decode cX7_readsWorn 17 = .ok (.isub, 1) := by decide +kernel
theorem dX7_readsWorn_18 : decode cX7_readsWorn 18 = .ok (.invokevirtual 311, 3) := by decide +kernel
theorem dX7_readsWorn_21 : decode cX7_readsWorn 21 = .ok (.ifCond .ne 5, 3) := by decide +kernel
theorem dX7_readsWorn_24 : decode cX7_readsWorn 24 = .ok (.iconst 0, 1) := by decide +kernel
theorem dX7_readsWorn_25 : decode cX7_readsWorn 25 = .ok (.ireturn, 1) := by decide +kernel
theorem dX7_readsWorn_26 : decode cX7_readsWorn 26 = .ok (.aload_n 0, 1) := by decide +kernel
theorem dX7_readsWorn_27 : decode cX7_readsWorn 27 = .ok (.getfield 299, 3) := by decide +kernel
theorem dX7_readsWorn_30 : decode cX7_readsWorn 30 = .ok (.istore_n 1, 1) := by decide +kernel
theorem dX7_readsWorn_31 : decode cX7_readsWorn 31 = .ok (.aload_n 0, 1) := by decide +kernel
theorem dX7_readsWorn_32 : decode cX7_readsWorn 32 = .ok (.iconst 1, 1) := by decide +kernel
theorem dX7_readsWorn_33 : decode cX7_readsWorn 33 = .ok (.aload_n 0, 1) := by decide +kernel
theorem dX7_readsWorn_34 : decode cX7_readsWorn 34 = .ok (.iload_n 1, 1) := by decide +kernel
theorem dX7_readsWorn_35 : decode cX7_readsWorn 35 = .ok (.invokevirtual 67, 3) := by decide +kernel
theorem dX7_readsWorn_38 : decode cX7_readsWorn 38 = .ok (.iconst 1, 1) := by decide +kernel
theorem dX7_readsWorn_39 : decode cX7_readsWorn 39 = .ok (.isub, 1) := by decide +kernel
theorem dX7_readsWorn_40 : decode cX7_readsWorn 40 = .ok (.invokevirtual 311, 3) := by decide +kernel
theorem dX7_readsWorn_43 : decode cX7_readsWorn 43 = .ok (.ifCond .ne 5, 3) := by decide +kernel
theorem dX7_readsWorn_46 : decode cX7_readsWorn 46 = .ok (.iconst 0, 1) := by decide +kernel
theorem dX7_readsWorn_47 : decode cX7_readsWorn 47 = .ok (.ireturn, 1) := by decide +kernel
theorem dX7_readsWorn_48 : decode cX7_readsWorn 48 = .ok (.aload_n 0, 1) := by decide +kernel
theorem dX7_readsWorn_49 : decode cX7_readsWorn 49 = .ok (.iload_n 1, 1) := by decide +kernel
theorem dX7_readsWorn_50 : decode cX7_readsWorn 50 = .ok (.invokevirtual 109, 3) := by decide +kernel
theorem dX7_readsWorn_53 : decode cX7_readsWorn 53 = .ok (.aload_n 0, 1) := by decide +kernel
theorem dX7_readsWorn_54 : decode cX7_readsWorn 54 = .ok (.getfield 299, 3) := by decide +kernel
theorem dX7_readsWorn_57 : decode cX7_readsWorn 57 = .ok (.invokestatic 74, 3) := by decide +kernel
theorem dX7_readsWorn_60 : decode cX7_readsWorn 60 = .ok (.ifCond .eq 13, 3) := by decide +kernel
theorem dX7_readsWorn_63 : decode cX7_readsWorn 63 = .ok (.aload_n 0, 1) := by decide +kernel
theorem dX7_readsWorn_64 : decode cX7_readsWorn 64 = .ok (.iconst 2, 1) := by decide +kernel
theorem dX7_readsWorn_65 : decode cX7_readsWorn 65 = .ok (.aload_n 0, 1) := by decide +kernel
theorem dX7_readsWorn_66 : decode cX7_readsWorn 66 = .ok (.getfield 296, 3) := by decide +kernel
theorem dX7_readsWorn_69 : decode cX7_readsWorn 69 = .ok (.invokevirtual 286, 3) := by decide +kernel
theorem dX7_readsWorn_72 : decode cX7_readsWorn 72 = .ok (.ireturn, 1) := by decide +kernel
theorem dX7_readsWorn_73 : decode cX7_readsWorn 73 = .ok (.aload_n 0, 1) := by decide +kernel
theorem dX7_readsWorn_74 : decode cX7_readsWorn 74 = .ok (.iload_n 1, 1) := by decide +kernel
theorem dX7_readsWorn_75 : decode cX7_readsWorn 75 = .ok (.aload_n 0, 1) := by decide +kernel
theorem dX7_readsWorn_76 : decode cX7_readsWorn 76 = .ok (.getfield 299, 3) := by decide +kernel
theorem dX7_readsWorn_79 : decode cX7_readsWorn 79 = .ok (.invokevirtual 170, 3) := by decide +kernel
theorem dX7_readsWorn_82 : decode cX7_readsWorn 82 = .ok (.iconst 1, 1) := by decide +kernel
theorem dX7_readsWorn_83 : decode cX7_readsWorn 83 = .ok (.ireturn, 1) := by decide +kernel
theorem dX7_readsRow_0 : decode cX7_readsRow 0 = .ok (.aload_n 0, 1) := by decide +kernel
theorem dX7_readsRow_1 : decode cX7_readsRow 1 = .ok (.dup, 1) := by decide +kernel
theorem dX7_readsRow_2 : decode cX7_readsRow 2 = .ok (.getfield 254, 3) := by decide +kernel
theorem dX7_readsRow_5 : decode cX7_readsRow 5 = .ok (.iconst 3, 1) := by decide +kernel
theorem dX7_readsRow_6 : decode cX7_readsRow 6 = .ok (.iadd, 1) := by decide +kernel
theorem dX7_readsRow_7 : decode cX7_readsRow 7 = .ok (.putfield 254, 3) := by decide +kernel
theorem dX7_readsRow_10 : decode cX7_readsRow 10 = .ok (.aload_n 0, 1) := by decide +kernel
theorem dX7_readsRow_11 : decode cX7_readsRow 11 = .ok (.iconst 0, 1) := by decide +kernel
theorem dX7_readsRow_12 : decode cX7_readsRow 12 = .ok (.aload_n 0, 1) := by decide +kernel
theorem dX7_readsRow_13 : decode cX7_readsRow 13 = .ok (.invokevirtual 43, 3) := by decide +kernel
theorem dX7_readsRow_16 : decode cX7_readsRow 16 = .ok (.iconst 1, 1) := by decide +kernel
theorem dX7_readsRow_17 : decode cX7_readsRow 17 = .ok (.isub, 1) := by decide +kernel
theorem dX7_readsRow_18 : decode cX7_readsRow 18 = .ok (.invokevirtual 311, 3) := by decide +kernel
theorem dX7_readsRow_21 : decode cX7_readsRow 21 = .ok (.ifCond .ne 5, 3) := by decide +kernel
theorem dX7_readsRow_24 : decode cX7_readsRow 24 = .ok (.iconst 0, 1) := by decide +kernel
theorem dX7_readsRow_25 : decode cX7_readsRow 25 = .ok (.ireturn, 1) := by decide +kernel
theorem dX7_readsRow_26 : decode cX7_readsRow 26 = .ok (.aload_n 0, 1) := by decide +kernel
theorem dX7_readsRow_27 : decode cX7_readsRow 27 = .ok (.getfield 299, 3) := by decide +kernel
theorem dX7_readsRow_30 : decode cX7_readsRow 30 = .ok (.istore_n 1, 1) := by decide +kernel
theorem dX7_readsRow_31 : decode cX7_readsRow 31 = .ok (.aload_n 0, 1) := by decide +kernel
theorem dX7_readsRow_32 : decode cX7_readsRow 32 = .ok (.iconst 0, 1) := by decide +kernel
theorem dX7_readsRow_33 : decode cX7_readsRow 33 = .ok (.aload_n 0, 1) := by decide +kernel
theorem dX7_readsRow_34 : decode cX7_readsRow 34 = .ok (.invokevirtual 47, 3) := by decide +kernel
theorem dX7_readsRow_37 : decode cX7_readsRow 37 = .ok (.invokevirtual 314, 3) := by decide +kernel
theorem dX7_readsRow_40 : decode cX7_readsRow 40 = .ok (.ifCond .ne 5, 3) := by decide +kernel
theorem dX7_readsRow_43 : decode cX7_readsRow 43 = .ok (.iconst 0, 1) := by decide +kernel
theorem dX7_readsRow_44 : decode cX7_readsRow 44 = .ok (.ireturn, 1) := by decide +kernel
theorem dX7_readsRow_45 : decode cX7_readsRow 45 = .ok (.aload_n 0, 1) := by decide +kernel
theorem dX7_readsRow_46 : decode cX7_readsRow 46 = .ok (.iload_n 1, 1) := by decide +kernel
theorem dX7_readsRow_47 : decode cX7_readsRow 47 = .ok (.aload_n 0, 1) := by decide +kernel
theorem dX7_readsRow_48 : decode cX7_readsRow 48 = .ok (.getfield 305, 3) := by decide +kernel
theorem dX7_readsRow_51 : decode cX7_readsRow 51 = .ok (.aload_n 0, 1) := by decide +kernel
theorem dX7_readsRow_52 : decode cX7_readsRow 52 = .ok (.getfield 308, 3) := by decide +kernel
theorem dX7_readsRow_55 : decode cX7_readsRow 55 = .ok (.iconst 0, 1) := by decide +kernel
theorem dX7_readsRow_56 : decode cX7_readsRow 56 = .ok (.invokevirtual 120, 3) := by decide +kernel
theorem dX7_readsRow_59 : decode cX7_readsRow 59 = .ok (.istore_n 2, 1) := by decide +kernel
theorem dX7_readsRow_60 : decode cX7_readsRow 60 = .ok (.iconst 0, 1) := by decide +kernel
theorem dX7_readsRow_61 : decode cX7_readsRow 61 = .ok (.istore_n 3, 1) := by decide +kernel
theorem dX7_readsRow_62 : decode cX7_readsRow 62 = .ok (.iload_n 3, 1) := by decide +kernel
theorem dX7_readsRow_63 : decode cX7_readsRow 63 = .ok (.aload_n 0, 1) := by decide +kernel
theorem dX7_readsRow_64 : decode cX7_readsRow 64 = .ok (.invokevirtual 47, 3) := by decide +kernel
theorem dX7_readsRow_67 : decode cX7_readsRow 67 = .ok (.if_icmp .ge 49, 3) := by decide +kernel
theorem dX7_readsRow_70 : decode cX7_readsRow 70 = .ok (.aload_n 0, 1) := by decide +kernel
theorem dX7_readsRow_71 : decode cX7_readsRow 71 = .ok (.invokevirtual 47, 3) := by decide +kernel
theorem dX7_readsRow_74 : decode cX7_readsRow 74 = .ok (.iload_n 1, 1) := by decide +kernel
theorem dX7_readsRow_75 : decode cX7_readsRow 75 = .ok (.imul, 1) := by decide +kernel
theorem dX7_readsRow_76 : decode cX7_readsRow 76 = .ok (.iload_n 3, 1) := by decide +kernel
theorem dX7_readsRow_77 : decode cX7_readsRow 77 = .ok (.iadd, 1) := by decide +kernel
theorem dX7_readsRow_78 : decode cX7_readsRow 78 = .ok (.istore 4, 2) := by decide +kernel
theorem dX7_readsRow_80 : decode cX7_readsRow 80 = .ok (.aload_n 0, 1) := by decide +kernel
theorem dX7_readsRow_81 : decode cX7_readsRow 81 = .ok (.iload 4, 2) := by decide +kernel
theorem dX7_readsRow_83 : decode cX7_readsRow 83 = .ok (.iconst 1, 1) := by decide +kernel
theorem dX7_readsRow_84 : decode cX7_readsRow 84 = .ok (.aload_n 0, 1) := by decide +kernel
theorem dX7_readsRow_85 : decode cX7_readsRow 85 = .ok (.iload 4, 2) := by decide +kernel
theorem dX7_readsRow_87 : decode cX7_readsRow 87 = .ok (.iconst 3, 1) := by decide +kernel
theorem dX7_readsRow_88 : decode cX7_readsRow 88 = .ok (.invokevirtual 56, 3) := by decide +kernel
theorem dX7_readsRow_91 : decode cX7_readsRow 91 = .ok (.i2l, 1) := by decide +kernel
theorem dX7_readsRow_92 : decode cX7_readsRow 92 = .ok (.invokevirtual 78, 3) := by decide +kernel
theorem dX7_readsRow_95 : decode cX7_readsRow 95 = .ok (.aload_n 0, 1) := by decide +kernel
theorem dX7_readsRow_96 : decode cX7_readsRow 96 = .ok (.iload 4, 2) := by decide +kernel
theorem dX7_readsRow_98 : decode cX7_readsRow 98 = .ok (.iconst 2, 1) := by decide +kernel
theorem dX7_readsRow_99 : decode cX7_readsRow 99 = .ok (.aload_n 0, 1) := by decide +kernel
theorem dX7_readsRow_100 : decode cX7_readsRow 100 = .ok (.iload 4, 2) := by decide +kernel
theorem dX7_readsRow_102 : decode cX7_readsRow 102 = .ok (.iconst 3, 1) := by decide +kernel
theorem dX7_readsRow_103 : decode cX7_readsRow 103 = .ok (.invokevirtual 56, 3) := by decide +kernel
theorem dX7_readsRow_106 : decode cX7_readsRow 106 = .ok (.i2l, 1) := by decide +kernel
theorem dX7_readsRow_107 : decode cX7_readsRow 107 = .ok (.invokevirtual 78, 3) := by decide +kernel
theorem dX7_readsRow_110 : decode cX7_readsRow 110 = .ok (.iinc 3 1, 3) := by decide +kernel
theorem dX7_readsRow_113 : decode cX7_readsRow 113 = .ok (.goto (-51), 3) := by decide +kernel
theorem dX7_readsRow_116 : decode cX7_readsRow 116 = .ok (.iconst 1, 1) := by decide +kernel
theorem dX7_readsRow_117 : decode cX7_readsRow 117 = .ok (.ireturn, 1) := by decide +kernel
theorem dX7_readsLose_0 : decode cX7_readsLose 0 = .ok (.aload_n 0, 1) := by decide +kernel
theorem dX7_readsLose_1 : decode cX7_readsLose 1 = .ok (.dup, 1) := by decide +kernel
theorem dX7_readsLose_2 : decode cX7_readsLose 2 = .ok (.getfield 254, 3) := by decide +kernel
theorem dX7_readsLose_5 : decode cX7_readsLose 5 = .ok (.iconst 4, 1) := by decide +kernel
theorem dX7_readsLose_6 : decode cX7_readsLose 6 = .ok (.iadd, 1) := by decide +kernel
theorem dX7_readsLose_7 : decode cX7_readsLose 7 = .ok (.putfield 254, 3) := by decide +kernel
theorem dX7_readsLose_10 : decode cX7_readsLose 10 = .ok (.aload_n 0, 1) := by decide +kernel
theorem dX7_readsLose_11 : decode cX7_readsLose 11 = .ok (.iconst 0, 1) := by decide +kernel
theorem dX7_readsLose_12 : decode cX7_readsLose 12 = .ok (.aload_n 0, 1) := by decide +kernel
theorem dX7_readsLose_13 : decode cX7_readsLose 13 = .ok (.invokevirtual 53, 3) := by decide +kernel
theorem dX7_readsLose_16 : decode cX7_readsLose 16 = .ok (.iconst 1, 1) := by decide +kernel
theorem dX7_readsLose_17 : decode cX7_readsLose 17 = .ok (.isub, 1) := by decide +kernel
theorem dX7_readsLose_18 : decode cX7_readsLose 18 = .ok (.invokevirtual 311, 3) := by decide +kernel
theorem dX7_readsLose_21 : decode cX7_readsLose 21 = .ok (.ifCond .ne 5, 3) := by decide +kernel
theorem dX7_readsLose_24 : decode cX7_readsLose 24 = .ok (.iconst 0, 1) := by decide +kernel
theorem dX7_readsLose_25 : decode cX7_readsLose 25 = .ok (.ireturn, 1) := by decide +kernel
theorem dX7_readsLose_26 : decode cX7_readsLose 26 = .ok (.aload_n 0, 1) := by decide +kernel
theorem dX7_readsLose_27 : decode cX7_readsLose 27 = .ok (.aload_n 0, 1) := by decide +kernel
theorem dX7_readsLose_28 : decode cX7_readsLose 28 = .ok (.getfield 299, 3) := by decide +kernel
theorem dX7_readsLose_31 : decode cX7_readsLose 31 = .ok (.putfield 317, 3) := by decide +kernel
theorem dX7_readsLose_34 : decode cX7_readsLose 34 = .ok (.aload_n 0, 1) := by decide +kernel
theorem dX7_readsLose_35 : decode cX7_readsLose 35 = .ok (.iconst 0, 1) := by decide +kernel
theorem dX7_readsLose_36 : decode cX7_readsLose 36 = .ok (.bipush 9, 2) := by decide +kernel
theorem dX7_readsLose_38 : decode cX7_readsLose 38 = .ok (.invokevirtual 311, 3) := by decide +kernel
theorem dX7_readsLose_41 : decode cX7_readsLose 41 = .ok (.ireturn, 1) := by decide +kernel
theorem dX7_readsPart_0 : decode cX7_readsPart 0 = .ok (.aload_n 0, 1) := by decide +kernel
theorem dX7_readsPart_1 : decode cX7_readsPart 1 = .ok (.ldc_w 320, 3) := by decide +kernel
theorem dX7_readsPart_4 : decode cX7_readsPart 4 = .ok (.invokevirtual 279, 3) := by decide +kernel
theorem dX7_readsPart_7 : decode cX7_readsPart 7 = .ok (.ifCond .eq 8, 3) := by decide +kernel
theorem dX7_readsPart_10 : decode cX7_readsPart 10 = .ok (.aload_n 0, 1) := by decide +kernel
theorem dX7_readsPart_11 : decode cX7_readsPart 11 = .ok (.invokevirtual 322, 3) := by decide +kernel
theorem dX7_readsPart_14 : decode cX7_readsPart 14 = .ok (.ireturn, 1) := by decide +kernel
theorem dX7_readsPart_15 : decode cX7_readsPart 15 = .ok (.aload_n 0, 1) := by decide +kernel
theorem dX7_readsPart_16 : decode cX7_readsPart 16 = .ok (.ldc_w 325, 3) := by decide +kernel
theorem dX7_readsPart_19 : decode cX7_readsPart 19 = .ok (.invokevirtual 279, 3) := by decide +kernel
theorem dX7_readsPart_22 : decode cX7_readsPart 22 = .ok (.ifCond .ne 33, 3) := by decide +kernel
theorem dX7_readsPart_25 : decode cX7_readsPart 25 = .ok (.aload_n 0, 1) := by decide +kernel
theorem dX7_readsPart_26 : decode cX7_readsPart 26 = .ok (.ldc_w 326, 3) := by decide +kernel
theorem dX7_readsPart_29 : decode cX7_readsPart 29 = .ok (.invokevirtual 279, 3) := by decide +kernel
theorem dX7_readsPart_32 : decode cX7_readsPart 32 = .ok (.ifCond .ne 23, 3) := by decide +kernel
theorem dX7_readsPart_35 : decode cX7_readsPart 35 = .ok (.aload_n 0, 1) := by decide +kernel
theorem dX7_readsPart_36 : decode cX7_readsPart 36 = .ok (.ldc_w 328, 3) := by decide +kernel
theorem dX7_readsPart_39 : decode cX7_readsPart 39 = .ok (.invokevirtual 279, 3) := by decide +kernel
theorem dX7_readsPart_42 : decode cX7_readsPart 42 = .ok (.ifCond .ne 13, 3) := by decide +kernel
theorem dX7_readsPart_45 : decode cX7_readsPart 45 = .ok (.aload_n 0, 1) := by decide +kernel
theorem dX7_readsPart_46 : decode cX7_readsPart 46 = .ok (.ldc_w 330, 3) := by decide +kernel
theorem dX7_readsPart_49 : decode cX7_readsPart 49 = .ok (.invokevirtual 279, 3) := by decide +kernel
theorem dX7_readsPart_52 : decode cX7_readsPart 52 = .ok (.ifCond .eq 7, 3) := by decide +kernel
theorem dX7_readsPart_55 : decode cX7_readsPart 55 = .ok (.iconst 1, 1) := by decide +kernel
theorem dX7_readsPart_56 : decode cX7_readsPart 56 = .ok (.goto 4, 3) := by decide +kernel
theorem dX7_readsPart_59 : decode cX7_readsPart 59 = .ok (.iconst 0, 1) := by decide +kernel
theorem dX7_readsPart_60 : decode cX7_readsPart 60 = .ok (.istore_n 1, 1) := by decide +kernel
theorem dX7_readsPart_61 : decode cX7_readsPart 61 = .ok (.iload_n 1, 1) := by decide +kernel
theorem dX7_readsPart_62 : decode cX7_readsPart 62 = .ok (.ifCond .ne 13, 3) := by decide +kernel
theorem dX7_readsPart_65 : decode cX7_readsPart 65 = .ok (.aload_n 0, 1) := by decide +kernel
theorem dX7_readsPart_66 : decode cX7_readsPart 66 = .ok (.iconst 1, 1) := by decide +kernel
theorem dX7_readsPart_67 : decode cX7_readsPart 67 = .ok (.aload_n 0, 1) := by decide +kernel
theorem dX7_readsPart_68 : decode cX7_readsPart 68 = .ok (.getfield 254, 3) := by decide +kernel
theorem dX7_readsPart_71 : decode cX7_readsPart 71 = .ok (.invokevirtual 286, 3) := by decide +kernel
theorem dX7_readsPart_74 : decode cX7_readsPart 74 = .ok (.ireturn, 1) := by decide +kernel
theorem dX7_readsPart_75 : decode cX7_readsPart 75 = .ok (.aload_n 0, 1) := by decide +kernel
theorem dX7_readsPart_76 : decode cX7_readsPart 76 = .ok (.invokevirtual 50, 3) := by decide +kernel
theorem dX7_readsPart_79 : decode cX7_readsPart 79 = .ok (.ifCond .ne 13, 3) := by decide +kernel
theorem dX7_readsPart_82 : decode cX7_readsPart 82 = .ok (.aload_n 0, 1) := by decide +kernel
theorem dX7_readsPart_83 : decode cX7_readsPart 83 = .ok (.iconst 3, 1) := by decide +kernel
theorem dX7_readsPart_84 : decode cX7_readsPart 84 = .ok (.aload_n 0, 1) := by decide +kernel
theorem dX7_readsPart_85 : decode cX7_readsPart 85 = .ok (.getfield 254, 3) := by decide +kernel
theorem dX7_readsPart_88 : decode cX7_readsPart 88 = .ok (.invokevirtual 286, 3) := by decide +kernel
theorem dX7_readsPart_91 : decode cX7_readsPart 91 = .ok (.ireturn, 1) := by decide +kernel
theorem dX7_readsPart_92 : decode cX7_readsPart 92 = .ok (.aload_n 0, 1) := by decide +kernel
theorem dX7_readsPart_93 : decode cX7_readsPart 93 = .ok (.ldc_w 325, 3) := by decide +kernel
theorem dX7_readsPart_96 : decode cX7_readsPart 96 = .ok (.invokevirtual 279, 3) := by decide +kernel
theorem dX7_readsPart_99 : decode cX7_readsPart 99 = .ok (.ifCond .eq 8, 3) := by decide +kernel
theorem dX7_readsPart_102 : decode cX7_readsPart 102 = .ok (.aload_n 0, 1) := by decide +kernel
theorem dX7_readsPart_103 : decode cX7_readsPart 103 = .ok (.invokevirtual 332, 3) := by decide +kernel
theorem dX7_readsPart_106 : decode cX7_readsPart 106 = .ok (.ireturn, 1) := by decide +kernel
theorem dX7_readsPart_107 : decode cX7_readsPart 107 = .ok (.aload_n 0, 1) := by decide +kernel
theorem dX7_readsPart_108 : decode cX7_readsPart 108 = .ok (.ldc_w 326, 3) := by decide +kernel
theorem dX7_readsPart_111 : decode cX7_readsPart 111 = .ok (.invokevirtual 279, 3) := by decide +kernel
theorem dX7_readsPart_114 : decode cX7_readsPart 114 = .ok (.ifCond .eq 8, 3) := by decide +kernel
theorem dX7_readsPart_117 : decode cX7_readsPart 117 = .ok (.aload_n 0, 1) := by decide +kernel
theorem dX7_readsPart_118 : decode cX7_readsPart 118 = .ok (.invokevirtual 335, 3) := by decide +kernel
theorem dX7_readsPart_121 : decode cX7_readsPart 121 = .ok (.ireturn, 1) := by decide +kernel
theorem dX7_readsPart_122 : decode cX7_readsPart 122 = .ok (.aload_n 0, 1) := by decide +kernel
theorem dX7_readsPart_123 : decode cX7_readsPart 123 = .ok (.ldc_w 328, 3) := by decide +kernel
theorem dX7_readsPart_126 : decode cX7_readsPart 126 = .ok (.invokevirtual 279, 3) := by decide +kernel
theorem dX7_readsPart_129 : decode cX7_readsPart 129 = .ok (.ifCond .eq 8, 3) := by decide +kernel
theorem dX7_readsPart_132 : decode cX7_readsPart 132 = .ok (.aload_n 0, 1) := by decide +kernel
theorem dX7_readsPart_133 : decode cX7_readsPart 133 = .ok (.invokevirtual 338, 3) := by decide +kernel
theorem dX7_readsPart_136 : decode cX7_readsPart 136 = .ok (.ireturn, 1) := by decide +kernel
theorem dX7_readsPart_137 : decode cX7_readsPart 137 = .ok (.aload_n 0, 1) := by decide +kernel
theorem dX7_readsPart_138 : decode cX7_readsPart 138 = .ok (.invokevirtual 341, 3) := by decide +kernel
theorem dX7_readsPart_141 : decode cX7_readsPart 141 = .ok (.ifCond .ne 5, 3) := by decide +kernel
theorem dX7_readsPart_144 : decode cX7_readsPart 144 = .ok (.iconst 0, 1) := by decide +kernel
theorem dX7_readsPart_145 : decode cX7_readsPart 145 = .ok (.ireturn, 1) := by decide +kernel
theorem dX7_readsPart_146 : decode cX7_readsPart 146 = .ok (.aload_n 0, 1) := by decide +kernel
theorem dX7_readsPart_147 : decode cX7_readsPart 147 = .ok (.aload_n 0, 1) := by decide +kernel
theorem dX7_readsPart_148 : decode cX7_readsPart 148 = .ok (.getfield 317, 3) := by decide +kernel
theorem dX7_readsPart_151 : decode cX7_readsPart 151 = .ok (.iconst 4, 1) := by decide +kernel
theorem dX7_readsPart_152 : decode cX7_readsPart 152 = .ok (.aload_n 0, 1) := by decide +kernel
theorem dX7_readsPart_153 : decode cX7_readsPart 153 = .ok (.getfield 299, 3) := by decide +kernel
theorem dX7_readsPart_156 : decode cX7_readsPart 156 = .ok (.i2l, 1) := by decide +kernel
theorem dX7_readsPart_157 : decode cX7_readsPart 157 = .ok (.invokevirtual 78, 3) := by decide +kernel
theorem dX7_readsPart_160 : decode cX7_readsPart 160 = .ok (.iconst 1, 1) := by decide +kernel
theorem dX7_readsPart_161 : decode cX7_readsPart 161 = .ok (.ireturn, 1) := by decide +kernel
theorem dX7_readsBoard_0 : decode cX7_readsBoard 0 = .ok (.aload_n 0, 1) := by decide +kernel
theorem dX7_readsBoard_1 : decode cX7_readsBoard 1 = .ok (.iconst 0, 1) := by decide +kernel
theorem dX7_readsBoard_2 : decode cX7_readsBoard 2 = .ok (.putfield 254, 3) := by decide +kernel
theorem dX7_readsBoard_5 : decode cX7_readsBoard 5 = .ok (.aload_n 0, 1) := by decide +kernel
theorem dX7_readsBoard_6 : decode cX7_readsBoard 6 = .ok (.ldc_w 344, 3) := by decide +kernel
theorem dX7_readsBoard_9 : decode cX7_readsBoard 9 = .ok (.invokevirtual 346, 3) := by decide +kernel
theorem dX7_readsBoard_12 : decode cX7_readsBoard 12 = .ok (.ifCond .eq 13, 3) := by decide +kernel
theorem dX7_readsBoard_15 : decode cX7_readsBoard 15 = .ok (.aload_n 0, 1) := by decide +kernel
theorem dX7_readsBoard_16 : decode cX7_readsBoard 16 = .ok (.iconst 1, 1) := by decide +kernel
theorem dX7_readsBoard_17 : decode cX7_readsBoard 17 = .ok (.bipush 6, 2) := by decide +kernel
theorem dX7_readsBoard_19 : decode cX7_readsBoard 19 = .ok (.invokevirtual 311, 3) := by decide +kernel
theorem dX7_readsBoard_22 : decode cX7_readsBoard 22 = .ok (.ifCond .ne 5, 3) := by decide +kernel
theorem dX7_readsBoard_25 : decode cX7_readsBoard 25 = .ok (.iconst 0, 1) := by decide +kernel
theorem dX7_readsBoard_26 : decode cX7_readsBoard 26 = .ok (.ireturn, 1) := by decide +kernel
theorem dX7_readsBoard_27 : decode cX7_readsBoard 27 = .ok (.aload_n 0, 1) := by decide +kernel
theorem dX7_readsBoard_28 : decode cX7_readsBoard 28 = .ok (.getfield 7, 3) := by decide +kernel
theorem dX7_readsBoard_31 : decode cX7_readsBoard 31 = .ok (.iconst 0, 1) := by decide +kernel
theorem dX7_readsBoard_32 : decode cX7_readsBoard 32 = .ok (.aload_n 0, 1) := by decide +kernel
theorem dX7_readsBoard_33 : decode cX7_readsBoard 33 = .ok (.getfield 299, 3) := by decide +kernel
theorem dX7_readsBoard_36 : decode cX7_readsBoard 36 = .ok (.i2l, 1) := by decide +kernel
theorem dX7_readsBoard_37 : decode cX7_readsBoard 37 = .ok (.lastore, 1) := by decide +kernel
theorem dX7_readsBoard_38 : decode cX7_readsBoard 38 = .ok (.aload_n 0, 1) := by decide +kernel
theorem dX7_readsBoard_39 : decode cX7_readsBoard 39 = .ok (.iconst 1, 1) := by decide +kernel
theorem dX7_readsBoard_40 : decode cX7_readsBoard 40 = .ok (.bipush 40, 2) := by decide +kernel
theorem dX7_readsBoard_42 : decode cX7_readsBoard 42 = .ok (.aload_n 0, 1) := by decide +kernel
theorem dX7_readsBoard_43 : decode cX7_readsBoard 43 = .ok (.invokevirtual 43, 3) := by decide +kernel
theorem dX7_readsBoard_46 : decode cX7_readsBoard 46 = .ok (.idiv, 1) := by decide +kernel
theorem dX7_readsBoard_47 : decode cX7_readsBoard 47 = .ok (.bipush 10, 2) := by decide +kernel
theorem dX7_readsBoard_49 : decode cX7_readsBoard 49 = .ok (.if_icmp .ge 13, 3) := by decide +kernel
theorem dX7_readsBoard_52 : decode cX7_readsBoard 52 = .ok (.bipush 40, 2) := by decide +kernel
theorem dX7_readsBoard_54 : decode cX7_readsBoard 54 = .ok (.aload_n 0, 1) := by decide +kernel
theorem dX7_readsBoard_55 : decode cX7_readsBoard 55 = .ok (.invokevirtual 43, 3) := by decide +kernel
theorem dX7_readsBoard_58 : decode cX7_readsBoard 58 = .ok (.idiv, 1) := by decide +kernel
theorem dX7_readsBoard_59 : decode cX7_readsBoard 59 = .ok (.goto 5, 3) := by decide +kernel
theorem dX7_readsBoard_62 : decode cX7_readsBoard 62 = .ok (.bipush 10, 2) := by decide +kernel
theorem dX7_readsBoard_64 : decode cX7_readsBoard 64 = .ok (.invokevirtual 311, 3) := by decide +kernel
theorem dX7_readsBoard_67 : decode cX7_readsBoard 67 = .ok (.ifCond .ne 5, 3) := by decide +kernel
theorem dX7_readsBoard_70 : decode cX7_readsBoard 70 = .ok (.iconst 0, 1) := by decide +kernel
theorem dX7_readsBoard_71 : decode cX7_readsBoard 71 = .ok (.ireturn, 1) := by decide +kernel
theorem dX7_readsBoard_72 : decode cX7_readsBoard 72 = .ok (.aload_n 0, 1) := by decide +kernel
theorem dX7_readsBoard_73 : decode cX7_readsBoard 73 = .ok (.getfield 7, 3) := by decide +kernel
theorem dX7_readsBoard_76 : decode cX7_readsBoard 76 = .ok (.iconst 1, 1) := by decide +kernel
theorem dX7_readsBoard_77 : decode cX7_readsBoard 77 = .ok (.aload_n 0, 1) := by decide +kernel
theorem dX7_readsBoard_78 : decode cX7_readsBoard 78 = .ok (.getfield 299, 3) := by decide +kernel
theorem dX7_readsBoard_81 : decode cX7_readsBoard 81 = .ok (.i2l, 1) := by decide +kernel
theorem dX7_readsBoard_82 : decode cX7_readsBoard 82 = .ok (.lastore, 1) := by decide +kernel
theorem dX7_readsBoard_83 : decode cX7_readsBoard 83 = .ok (.aload_n 0, 1) := by decide +kernel
theorem dX7_readsBoard_84 : decode cX7_readsBoard 84 = .ok (.ldc_w 349, 3) := by decide +kernel
theorem dX7_readsBoard_87 : decode cX7_readsBoard 87 = .ok (.invokevirtual 346, 3) := by decide +kernel
theorem dX7_readsBoard_90 : decode cX7_readsBoard 90 = .ok (.ifCond .eq 13, 3) := by decide +kernel
theorem dX7_readsBoard_93 : decode cX7_readsBoard 93 = .ok (.aload_n 0, 1) := by decide +kernel
theorem dX7_readsBoard_94 : decode cX7_readsBoard 94 = .ok (.iconst 1, 1) := by decide +kernel
theorem dX7_readsBoard_95 : decode cX7_readsBoard 95 = .ok (.bipush 99, 2) := by decide +kernel
theorem dX7_readsBoard_97 : decode cX7_readsBoard 97 = .ok (.invokevirtual 311, 3) := by decide +kernel
theorem dX7_readsBoard_100 : decode cX7_readsBoard 100 = .ok (.ifCond .ne 5, 3) := by decide +kernel
theorem dX7_readsBoard_103 : decode cX7_readsBoard 103 = .ok (.iconst 0, 1) := by decide +kernel
theorem dX7_readsBoard_104 : decode cX7_readsBoard 104 = .ok (.ireturn, 1) := by decide +kernel
theorem dX7_readsBoard_105 : decode cX7_readsBoard 105 = .ok (.aload_n 0, 1) := by decide +kernel
theorem dX7_readsBoard_106 : decode cX7_readsBoard 106 = .ok (.getfield 7, 3) := by decide +kernel
theorem dX7_readsBoard_109 : decode cX7_readsBoard 109 = .ok (.iconst 2, 1) := by decide +kernel
theorem dX7_readsBoard_110 : decode cX7_readsBoard 110 = .ok (.aload_n 0, 1) := by decide +kernel
theorem dX7_readsBoard_111 : decode cX7_readsBoard 111 = .ok (.getfield 299, 3) := by decide +kernel
theorem dX7_readsBoard_114 : decode cX7_readsBoard 114 = .ok (.i2l, 1) := by decide +kernel
theorem dX7_readsBoard_115 : decode cX7_readsBoard 115 = .ok (.lastore, 1) := by decide +kernel
theorem dX7_readsBoard_116 : decode cX7_readsBoard 116 = .ok (.aload_n 0, 1) := by decide +kernel
theorem dX7_readsBoard_117 : decode cX7_readsBoard 117 = .ok (.invokevirtual 263, 3) := by decide +kernel
theorem dX7_readsBoard_120 : decode cX7_readsBoard 120 = .ok (.bipush 59, 2) := by decide +kernel
theorem dX7_readsBoard_122 : decode cX7_readsBoard 122 = .ok (.if_icmp .ne 27, 3) := by decide +kernel
theorem dX7_readsBoard_125 : decode cX7_readsBoard 125 = .ok (.aload_n 0, 1) := by decide +kernel
theorem dX7_readsBoard_126 : decode cX7_readsBoard 126 = .ok (.dup, 1) := by decide +kernel
theorem dX7_readsBoard_127 : decode cX7_readsBoard 127 = .ok (.getfield 254, 3) := by decide +kernel
theorem dX7_readsBoard_130 : decode cX7_readsBoard 130 = .ok (.iconst 1, 1) := by decide +kernel
theorem dX7_readsBoard_131 : decode cX7_readsBoard 131 = .ok (.iadd, 1) := by decide +kernel
theorem dX7_readsBoard_132 : decode cX7_readsBoard 132 = .ok (.putfield 254, 3) := by decide +kernel
theorem dX7_readsBoard_135 : decode cX7_readsBoard 135 = .ok (.aload_n 0, 1) := by decide +kernel
theorem dX7_readsBoard_136 : decode cX7_readsBoard 136 = .ok (.invokevirtual 263, 3) := by decide +kernel
theorem dX7_readsBoard_139 : decode cX7_readsBoard 139 = .ok (.pop, 1) := by decide +kernel
theorem dX7_readsBoard_140 : decode cX7_readsBoard 140 = .ok (.aload_n 0, 1) := by decide +kernel
theorem dX7_readsBoard_141 : decode cX7_readsBoard 141 = .ok (.invokevirtual 351, 3) := by decide +kernel
theorem dX7_readsBoard_144 : decode cX7_readsBoard 144 = .ok (.ifCond .ne (-28), 3) := by decide +kernel
theorem dX7_readsBoard_147 : decode cX7_readsBoard 147 = .ok (.iconst 0, 1) := by decide +kernel
theorem dX7_readsBoard_148 : decode cX7_readsBoard 148 = .ok (.ireturn, 1) := by decide +kernel
theorem dX7_readsBoard_149 : decode cX7_readsBoard 149 = .ok (.aload_n 0, 1) := by decide +kernel
theorem dX7_readsBoard_150 : decode cX7_readsBoard 150 = .ok (.invokevirtual 263, 3) := by decide +kernel
theorem dX7_readsBoard_153 : decode cX7_readsBoard 153 = .ok (.iconst (-1), 1) := by decide +kernel
theorem dX7_readsBoard_154 : decode cX7_readsBoard 154 = .ok (.if_icmp .eq 13, 3) := by decide +kernel
theorem dX7_readsBoard_157 : decode cX7_readsBoard 157 = .ok (.aload_n 0, 1) := by decide +kernel
theorem dX7_readsBoard_158 : decode cX7_readsBoard 158 = .ok (.iconst 1, 1) := by decide +kernel
theorem dX7_readsBoard_159 : decode cX7_readsBoard 159 = .ok (.aload_n 0, 1) := by decide +kernel
theorem dX7_readsBoard_160 : decode cX7_readsBoard 160 = .ok (.getfield 254, 3) := by decide +kernel
theorem dX7_readsBoard_163 : decode cX7_readsBoard 163 = .ok (.invokevirtual 286, 3) := by decide +kernel
theorem dX7_readsBoard_166 : decode cX7_readsBoard 166 = .ok (.ireturn, 1) := by decide +kernel
theorem dX7_readsBoard_167 : decode cX7_readsBoard 167 = .ok (.aload_n 0, 1) := by decide +kernel
theorem dX7_readsBoard_168 : decode cX7_readsBoard 168 = .ok (.invokevirtual 50, 3) := by decide +kernel
theorem dX7_readsBoard_171 : decode cX7_readsBoard 171 = .ok (.ifCond .gt 15, 3) := by decide +kernel
theorem dX7_readsBoard_174 : decode cX7_readsBoard 174 = .ok (.aload_n 0, 1) := by decide +kernel
theorem dX7_readsBoard_175 : decode cX7_readsBoard 175 = .ok (.iconst 4, 1) := by decide +kernel
theorem dX7_readsBoard_176 : decode cX7_readsBoard 176 = .ok (.aload_n 0, 1) := by decide +kernel
theorem dX7_readsBoard_177 : decode cX7_readsBoard 177 = .ok (.getfield 135, 3) := by decide +kernel
theorem dX7_readsBoard_180 : decode cX7_readsBoard 180 = .ok (.invokevirtual 286, 3) := by decide +kernel
theorem dX7_readsBoard_183 : decode cX7_readsBoard 183 = .ok (.ifCond .eq 7, 3) := by decide +kernel
theorem dX7_readsBoard_186 : decode cX7_readsBoard 186 = .ok (.iconst 1, 1) := by decide +kernel
theorem dX7_readsBoard_187 : decode cX7_readsBoard 187 = .ok (.goto 4, 3) := by decide +kernel
theorem dX7_readsBoard_190 : decode cX7_readsBoard 190 = .ok (.iconst 0, 1) := by decide +kernel
theorem dX7_readsBoard_191 : decode cX7_readsBoard 191 = .ok (.ireturn, 1) := by decide +kernel
theorem dX7_tell_0 : decode cX7_tell 0 = .ok (.aload_n 0, 1) := by decide +kernel
theorem dX7_tell_1 : decode cX7_tell 1 = .ok (.invokevirtual 210, 3) := by decide +kernel
theorem dX7_tell_4 : decode cX7_tell 4 = .ok (.iconst 0, 1) := by decide +kernel
theorem dX7_tell_5 : decode cX7_tell 5 = .ok (.istore_n 1, 1) := by decide +kernel
theorem dX7_tell_6 : decode cX7_tell 6 = .ok (.iload_n 1, 1) := by decide +kernel
theorem dX7_tell_7 : decode cX7_tell 7 = .ok (.sipush 6896, 3) := by decide +kernel
theorem dX7_tell_10 : decode cX7_tell 10 = .ok (.if_icmp .ge 16, 3) := by decide +kernel
theorem dX7_tell_13 : decode cX7_tell 13 = .ok (.aload_n 0, 1) := by decide +kernel
theorem dX7_tell_14 : decode cX7_tell 14 = .ok (.getfield 7, 3) := by decide +kernel
theorem dX7_tell_17 : decode cX7_tell 17 = .ok (.iload_n 1, 1) := by decide +kernel
theorem dX7_tell_18 : decode cX7_tell 18 = .ok (.lconst 0, 1) := by decide +kernel
theorem dX7_tell_19 : decode cX7_tell 19 = .ok (.lastore, 1) := by decide +kernel
theorem dX7_tell_20 : decode cX7_tell 20 = .ok (.iinc 1 1, 3) := by decide +kernel
theorem dX7_tell_23 : decode cX7_tell 23 = .ok (.goto (-17), 3) := by decide +kernel
theorem dX7_tell_26 : decode cX7_tell 26 = .ok (.aload_n 0, 1) := by decide +kernel
theorem dX7_tell_27 : decode cX7_tell 27 = .ok (.invokevirtual 354, 3) := by decide +kernel
theorem dX7_tell_30 : decode cX7_tell 30 = .ok (.istore_n 1, 1) := by decide +kernel
theorem dX7_tell_31 : decode cX7_tell 31 = .ok (.aload_n 0, 1) := by decide +kernel
theorem dX7_tell_32 : decode cX7_tell 32 = .ok (.iconst 0, 1) := by decide +kernel
theorem dX7_tell_33 : decode cX7_tell 33 = .ok (.putfield 135, 3) := by decide +kernel
theorem dX7_tell_36 : decode cX7_tell 36 = .ok (.iload_n 1, 1) := by decide +kernel
theorem dX7_tell_37 : decode cX7_tell 37 = .ok (.ifCond .ne 15, 3) := by decide +kernel
theorem dX7_tell_40 : decode cX7_tell 40 = .ok (.aload_n 0, 1) := by decide +kernel
