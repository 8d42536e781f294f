theorem dX7_mustWord_5 : decode cX7_mustWord 5 = .ok (.ifCond .ne 15, 3) := ok_ifCond (by decide +kernel)
theorem dX7_mustWord_8 : decode cX7_mustWord 8 = .ok (.aload_n 0, 1) := ok_aload_n (by decide +kernel)
theorem dX7_mustWord_9 : decode cX7_mustWord 9 = .ok (.iconst 1, 1) := ok_iconst (by decide +kernel)
theorem dX7_mustWord_10 : decode cX7_mustWord 10 = .ok (.aload_n 0, 1) := ok_aload_n (by decide +kernel)
theorem dX7_mustWord_11 : decode cX7_mustWord 11 = .ok (.getfield 254, 3) := ok_getfield (by decide +kernel)
theorem dX7_mustWord_14 : decode cX7_mustWord 14 = .ok (.invokevirtual 286, 3) := ok_invokevirtual (by decide +kernel)
theorem dX7_mustWord_17 : decode cX7_mustWord 17 = .ok (.ifCond .eq 7, 3) := ok_ifCond (by decide +kernel)
theorem dX7_mustWord_20 : decode cX7_mustWord 20 = .ok (.iconst 1, 1) := ok_iconst (by decide +kernel)
theorem dX7_mustWord_21 : decode cX7_mustWord 21 = .ok (.goto 4, 3) := ok_goto (by decide +kernel)
theorem dX7_mustWord_24 : decode cX7_mustWord 24 = .ok (.iconst 0, 1) := ok_iconst (by decide +kernel)
theorem dX7_mustWord_25 : decode cX7_mustWord 25 = .ok (.ireturn, 1) := ok_ireturn (by decide +kernel)
theorem dX7_takesByte_0 : decode cX7_takesByte 0 = .ok (.aload_n 0, 1) := ok_aload_n (by decide +kernel)
theorem dX7_takesByte_1 : decode cX7_takesByte 1 = .ok (.invokevirtual 263, 3) := ok_invokevirtual (by decide +kernel)
theorem dX7_takesByte_4 : decode cX7_takesByte 4 = .ok (.iload_n 1, 1) := ok_iload_n (by decide +kernel)
theorem dX7_takesByte_5 : decode cX7_takesByte 5 = .ok (.if_icmp .ne 7, 3) := ok_if_icmp (by decide +kernel)
theorem dX7_takesByte_8 : decode cX7_takesByte 8 = .ok (.iconst 1, 1) := ok_iconst (by decide +kernel)
theorem dX7_takesByte_9 : decode cX7_takesByte 9 = .ok (.goto 4, 3) := ok_goto (by decide +kernel)
theorem dX7_takesByte_12 : decode cX7_takesByte 12 = .ok (.iconst 0, 1) := ok_iconst (by decide +kernel)
theorem dX7_takesByte_13 : decode cX7_takesByte 13 = .ok (.istore_n 2, 1) := ok_istore_n (by decide +kernel)
theorem dX7_takesByte_14 : decode cX7_takesByte 14 = .ok (.iload_n 2, 1) := ok_iload_n (by decide +kernel)
theorem dX7_takesByte_15 : decode cX7_takesByte 15 = .ok (.ifCond .eq 13, 3) := ok_ifCond (by decide +kernel)
theorem dX7_takesByte_18 : decode cX7_takesByte 18 = .ok (.aload_n 0, 1) := ok_aload_n (by decide +kernel)
theorem dX7_takesByte_19 : decode cX7_takesByte 19 = .ok (.dup, 1) := ok_dup (by decide +kernel)
theorem dX7_takesByte_20 : decode cX7_takesByte 20 = .ok (.getfield 254, 3) := ok_getfield (by decide +kernel)
theorem dX7_takesByte_23 : decode cX7_takesByte 23 = .ok (.iconst 1, 1) := ok_iconst (by decide +kernel)
theorem dX7_takesByte_24 : decode cX7_takesByte 24 = .ok (.iadd, 1) := ok_iadd (by decide +kernel)
theorem dX7_takesByte_25 : decode cX7_takesByte 25 = .ok (.putfield 254, 3) := ok_putfield (by decide +kernel)
theorem dX7_takesByte_28 : decode cX7_takesByte 28 = .ok (.iload_n 2, 1) := ok_iload_n (by decide +kernel)
theorem dX7_takesByte_29 : decode cX7_takesByte 29 = .ok (.ireturn, 1) := ok_ireturn (by decide +kernel)
theorem dX7_mustByte_0 : decode cX7_mustByte 0 = .ok (.aload_n 0, 1) := ok_aload_n (by decide +kernel)
theorem dX7_mustByte_1 : decode cX7_mustByte 1 = .ok (.iload_n 1, 1) := ok_iload_n (by decide +kernel)
theorem dX7_mustByte_2 : decode cX7_mustByte 2 = .ok (.invokevirtual 289, 3) := ok_invokevirtual (by decide +kernel)
theorem dX7_mustByte_5 : decode cX7_mustByte 5 = .ok (.ifCond .ne 15, 3) := ok_ifCond (by decide +kernel)
theorem dX7_mustByte_8 : decode cX7_mustByte 8 = .ok (.aload_n 0, 1) := ok_aload_n (by decide +kernel)
theorem dX7_mustByte_9 : decode cX7_mustByte 9 = .ok (.iconst 1, 1) := ok_iconst (by decide +kernel)
theorem dX7_mustByte_10 : decode cX7_mustByte 10 = .ok (.aload_n 0, 1) := ok_aload_n (by decide +kernel)
theorem dX7_mustByte_11 : decode cX7_mustByte 11 = .ok (.getfield 254, 3) := ok_getfield (by decide +kernel)
theorem dX7_mustByte_14 : decode cX7_mustByte 14 = .ok (.invokevirtual 286, 3) := ok_invokevirtual (by decide +kernel)
theorem dX7_mustByte_17 : decode cX7_mustByte 17 = .ok (.ifCond .eq 7, 3) := ok_ifCond (by decide +kernel)
theorem dX7_mustByte_20 : decode cX7_mustByte 20 = .ok (.iconst 1, 1) := ok_iconst (by decide +kernel)
theorem dX7_mustByte_21 : decode cX7_mustByte 21 = .ok (.goto 4, 3) := ok_goto (by decide +kernel)
theorem dX7_mustByte_24 : decode cX7_mustByte 24 = .ok (.iconst 0, 1) := ok_iconst (by decide +kernel)
theorem dX7_mustByte_25 : decode cX7_mustByte 25 = .ok (.ireturn, 1) := ok_ireturn (by decide +kernel)
theorem dX7_readsNumber_0 : decode cX7_readsNumber 0 = .ok (.aload_n 0, 1) := ok_aload_n (by decide +kernel)
theorem dX7_readsNumber_1 : decode cX7_readsNumber 1 = .ok (.invokevirtual 263, 3) := ok_invokevirtual (by decide +kernel)
theorem dX7_readsNumber_4 : decode cX7_readsNumber 4 = .ok (.i2l, 1) := ok_i2l (by decide +kernel)
theorem dX7_readsNumber_5 : decode cX7_readsNumber 5 = .ok (.ldc2_w 292, 3) := ok_ldc2_w (by decide +kernel)
theorem dX7_readsNumber_8 : decode cX7_readsNumber 8 = .ok (.ldc2_w 294, 3) := ok_ldc2_w (by decide +kernel)
theorem dX7_readsNumber_11 : decode cX7_readsNumber 11 = .ok (.invokestatic 39, 3) := ok_invokestatic (by decide +kernel)
theorem dX7_readsNumber_14 : decode cX7_readsNumber 14 = .ok (.ifCond .ne 13, 3) := ok_ifCond (by decide +kernel)
theorem dX7_readsNumber_17 : decode cX7_readsNumber 17 = .ok (.aload_n 0, 1) := ok_aload_n (by decide +kernel)
theorem dX7_readsNumber_18 : decode cX7_readsNumber 18 = .ok (.iconst 1, 1) := ok_iconst (by decide +kernel)
theorem dX7_readsNumber_19 : decode cX7_readsNumber 19 = .ok (.aload_n 0, 1) := ok_aload_n (by decide +kernel)
theorem dX7_readsNumber_20 : decode cX7_readsNumber 20 = .ok (.getfield 254, 3) := ok_getfield (by decide +kernel)
theorem dX7_readsNumber_23 : decode cX7_readsNumber 23 = .ok (.invokevirtual 286, 3) := ok_invokevirtual (by decide +kernel)
theorem dX7_readsNumber_26 : decode cX7_readsNumber 26 = .ok (.ireturn, 1) := ok_ireturn (by decide +kernel)
theorem dX7_readsNumber_27 : decode cX7_readsNumber 27 = .ok (.aload_n 0, 1) := ok_aload_n (by decide +kernel)
theorem dX7_readsNumber_28 : decode cX7_readsNumber 28 = .ok (.aload_n 0, 1) := ok_aload_n (by decide +kernel)
theorem dX7_readsNumber_29 : decode cX7_readsNumber 29 = .ok (.getfield 254, 3) := ok_getfield (by decide +kernel)
theorem dX7_readsNumber_32 : decode cX7_readsNumber 32 = .ok (.putfield 296, 3) := ok_putfield (by decide +kernel)
theorem dX7_readsNumber_35 : decode cX7_readsNumber 35 = .ok (.aload_n 0, 1) := ok_aload_n (by decide +kernel)
theorem dX7_readsNumber_36 : decode cX7_readsNumber 36 = .ok (.iconst 0, 1) := ok_iconst (by decide +kernel)
theorem dX7_readsNumber_37 : decode cX7_readsNumber 37 = .ok (.putfield 299, 3) := ok_putfield (by decide +kernel)
theorem dX7_readsNumber_40 : decode cX7_readsNumber 40 = .ok (.aload_n 0, 1) := ok_aload_n (by decide +kernel)
theorem dX7_readsNumber_41 : decode cX7_readsNumber 41 = .ok (.aload_n 0, 1) := ok_aload_n (by decide +kernel)
theorem dX7_readsNumber_42 : decode cX7_readsNumber 42 = .ok (.getfield 254, 3) := ok_getfield (by decide +kernel)
theorem dX7_readsNumber_45 : decode cX7_readsNumber 45 = .ok (.invokevirtual 257, 3) := ok_invokevirtual (by decide +kernel)
theorem dX7_readsNumber_48 : decode cX7_readsNumber 48 = .ok (.i2l, 1) := ok_i2l (by decide +kernel)
theorem dX7_readsNumber_49 : decode cX7_readsNumber 49 = .ok (.ldc2_w 292, 3) := ok_ldc2_w (by decide +kernel)
theorem dX7_readsNumber_52 : decode cX7_readsNumber 52 = .ok (.ldc2_w 294, 3) := ok_ldc2_w (by decide +kernel)
theorem dX7_readsNumber_55 : decode cX7_readsNumber 55 = .ok (.invokestatic 39, 3) := ok_invokestatic (by decide +kernel)
theorem dX7_readsNumber_58 : decode cX7_readsNumber 58 = .ok (.ifCond .eq 49, 3) := ok_ifCond (by decide +kernel)
theorem dX7_readsNumber_61 : decode cX7_readsNumber 61 = .ok (.aload_n 0, 1) := ok_aload_n (by decide +kernel)
theorem dX7_readsNumber_62 : decode cX7_readsNumber 62 = .ok (.getfield 299, 3) := ok_getfield (by decide +kernel)
theorem dX7_readsNumber_65 : decode cX7_readsNumber 65 = .ok (.sipush 10000, 3) := ok_sipush (by decide +kernel)
theorem dX7_readsNumber_68 : decode cX7_readsNumber 68 = .ok (.if_icmp .ge 26, 3) := ok_if_icmp (by decide +kernel)
theorem dX7_readsNumber_71 : decode cX7_readsNumber 71 = .ok (.aload_n 0, 1) := ok_aload_n (by decide +kernel)
theorem dX7_readsNumber_72 : decode cX7_readsNumber 72 = .ok (.bipush 10, 2) := ok_bipush (by decide +kernel)
theorem dX7_readsNumber_74 : decode cX7_readsNumber 74 = .ok (.aload_n 0, 1) := ok_aload_n (by decide +kernel)
theorem dX7_readsNumber_75 : decode cX7_readsNumber 75 = .ok (.getfield 299, 3) := ok_getfield (by decide +kernel)
theorem dX7_readsNumber_78 : decode cX7_readsNumber 78 = .ok (.imul, 1) := ok_imul (by decide +kernel)
theorem dX7_readsNumber_79 : decode cX7_readsNumber 79 = .ok (.aload_n 0, 1) := ok_aload_n (by decide +kernel)
theorem dX7_readsNumber_80 : decode cX7_readsNumber 80 = .ok (.aload_n 0, 1) := ok_aload_n (by decide +kernel)
theorem dX7_readsNumber_81 : decode cX7_readsNumber 81 = .ok (.getfield 254, 3) := ok_getfield (by decide +kernel)
theorem dX7_readsNumber_84 : decode cX7_readsNumber 84 = .ok (.invokevirtual 257, 3) := ok_invokevirtual (by decide +kernel)
theorem dX7_readsNumber_87 : decode cX7_readsNumber 87 = .ok (.iadd, 1) := ok_iadd (by decide +kernel)
theorem dX7_readsNumber_88 : decode cX7_readsNumber 88 = .ok (.bipush 48, 2) := ok_bipush (by decide +kernel)
theorem dX7_readsNumber_90 : decode cX7_readsNumber 90 = .ok (.isub, 1) := ok_isub (by decide +kernel)
theorem dX7_readsNumber_91 : decode cX7_readsNumber 91 = .ok (.putfield 299, 3) := ok_putfield (by decide +kernel)
theorem dX7_readsNumber_94 : decode cX7_readsNumber 94 = .ok (.aload_n 0, 1) := ok_aload_n (by decide +kernel)
theorem dX7_readsNumber_95 : decode cX7_readsNumber 95 = .ok (.dup, 1) := ok_dup (by decide +kernel)
theorem dX7_readsNumber_96 : decode cX7_readsNumber 96 = .ok (.getfield 254, 3) := ok_getfield (by decide +kernel)
theorem dX7_readsNumber_99 : decode cX7_readsNumber 99 = .ok (.iconst 1, 1) := ok_iconst (by decide +kernel)
theorem dX7_readsNumber_100 : decode cX7_readsNumber 100 = .ok (.iadd, 1) := ok_iadd (by decide +kernel)
theorem dX7_readsNumber_101 : decode cX7_readsNumber 101 = .ok (.putfield 254, 3) := ok_putfield (by decide +kernel)
theorem dX7_readsNumber_104 : decode cX7_readsNumber 104 = .ok (.goto (-64), 3) := ok_goto (by decide +kernel)
theorem dX7_readsNumber_107 : decode cX7_readsNumber 107 = .ok (.aload_n 0, 1) := ok_aload_n (by decide +kernel)
theorem dX7_readsNumber_108 : decode cX7_readsNumber 108 = .ok (.getfield 299, 3) := ok_getfield (by decide +kernel)
theorem dX7_readsNumber_111 : decode cX7_readsNumber 111 = .ok (.i2l, 1) := ok_i2l (by decide +kernel)
theorem dX7_readsNumber_112 : decode cX7_readsNumber 112 = .ok (.iload_n 1, 1) := ok_iload_n (by decide +kernel)
theorem dX7_readsNumber_113 : decode cX7_readsNumber 113 = .ok (.i2l, 1) := ok_i2l (by decide +kernel)
theorem dX7_readsNumber_114 : decode cX7_readsNumber 114 = .ok (.iload_n 2, 1) := ok_iload_n (by decide +kernel)
theorem dX7_readsNumber_115 : decode cX7_readsNumber 115 = .ok (.i2l, 1) := ok_i2l (by decide +kernel)
theorem dX7_readsNumber_116 : decode cX7_readsNumber 116 = .ok (.invokestatic 39, 3) := ok_invokestatic (by decide +kernel)
theorem dX7_readsNumber_119 : decode cX7_readsNumber 119 = .ok (.ifCond .ne 15, 3) := ok_ifCond (by decide +kernel)
theorem dX7_readsNumber_122 : decode cX7_readsNumber 122 = .ok (.aload_n 0, 1) := ok_aload_n (by decide +kernel)
theorem dX7_readsNumber_123 : decode cX7_readsNumber 123 = .ok (.iconst 2, 1) := ok_iconst (by decide +kernel)
theorem dX7_readsNumber_124 : decode cX7_readsNumber 124 = .ok (.aload_n 0, 1) := ok_aload_n (by decide +kernel)
theorem dX7_readsNumber_125 : decode cX7_readsNumber 125 = .ok (.getfield 296, 3) := ok_getfield (by decide +kernel)
theorem dX7_readsNumber_128 : decode cX7_readsNumber 128 = .ok (.invokevirtual 286, 3) := ok_invokevirtual (by decide +kernel)
theorem dX7_readsNumber_131 : decode cX7_readsNumber 131 = .ok (.ifCond .eq 7, 3) := ok_ifCond (by decide +kernel)
theorem dX7_readsNumber_134 : decode cX7_readsNumber 134 = .ok (.iconst 1, 1) := ok_iconst (by decide +kernel)
theorem dX7_readsNumber_135 : decode cX7_readsNumber 135 = .ok (.goto 4, 3) := ok_goto (by decide +kernel)
theorem dX7_readsNumber_138 : decode cX7_readsNumber 138 = .ok (.iconst 0, 1) := ok_iconst (by decide +kernel)
theorem dX7_readsNumber_139 : decode cX7_readsNumber 139 = .ok (.ireturn, 1) := ok_ireturn (by decide +kernel)
theorem dX7_readsQuoted_0 : decode cX7_readsQuoted 0 = .ok (.aload_n 0, 1) := ok_aload_n (by decide +kernel)
theorem dX7_readsQuoted_1 : decode cX7_readsQuoted 1 = .ok (.bipush 39, 2) := ok_bipush (by decide +kernel)
theorem dX7_readsQuoted_3 : decode cX7_readsQuoted 3 = .ok (.invokevirtual 302, 3) := ok_invokevirtual (by decide +kernel)
theorem dX7_readsQuoted_6 : decode cX7_readsQuoted 6 = .ok (.ifCond .ne 5, 3) := ok_ifCond (by decide +kernel)
theorem dX7_readsQuoted_9 : decode cX7_readsQuoted 9 = .ok (.iconst 0, 1) := ok_iconst (by decide +kernel)
theorem dX7_readsQuoted_10 : decode cX7_readsQuoted 10 = .ok (.ireturn, 1) := ok_ireturn (by decide +kernel)
theorem dX7_readsQuoted_11 : decode cX7_readsQuoted 11 = .ok (.aload_n 0, 1) := ok_aload_n (by decide +kernel)
theorem dX7_readsQuoted_12 : decode cX7_readsQuoted 12 = .ok (.aload_n 0, 1) := ok_aload_n (by decide +kernel)
theorem dX7_readsQuoted_13 : decode cX7_readsQuoted 13 = .ok (.getfield 254, 3) := ok_getfield (by decide +kernel)
theorem dX7_readsQuoted_16 : decode cX7_readsQuoted 16 = .ok (.putfield 305, 3) := ok_putfield (by decide +kernel)
theorem dX7_readsQuoted_19 : decode cX7_readsQuoted 19 = .ok (.aload_n 0, 1) := ok_aload_n (by decide +kernel)
theorem dX7_readsQuoted_20 : decode cX7_readsQuoted 20 = .ok (.iconst 0, 1) := ok_iconst (by decide +kernel)
theorem dX7_readsQuoted_21 : decode cX7_readsQuoted 21 = .ok (.putfield 308, 3) := ok_putfield (by decide +kernel)
theorem dX7_readsQuoted_24 : decode cX7_readsQuoted 24 = .ok (.aload_n 0, 1) := ok_aload_n (by decide +kernel)
theorem dX7_readsQuoted_25 : decode cX7_readsQuoted 25 = .ok (.aload_n 0, 1) := ok_aload_n (by decide +kernel)
theorem dX7_readsQuoted_26 : decode cX7_readsQuoted 26 = .ok (.getfield 254, 3) := ok_getfield (by decide +kernel)
theorem dX7_readsQuoted_29 : decode cX7_readsQuoted 29 = .ok (.invokevirtual 257, 3) := ok_invokevirtual (by decide +kernel)
theorem dX7_readsQuoted_32 : decode cX7_readsQuoted 32 = .ok (.bipush 39, 2) := ok_bipush (by decide +kernel)
theorem dX7_readsQuoted_34 : decode cX7_readsQuoted 34 = .ok (.if_icmp .eq 68, 3) := ok_if_icmp (by decide +kernel)
theorem dX7_readsQuoted_37 : decode cX7_readsQuoted 37 = .ok (.aload_n 0, 1) := ok_aload_n (by decide +kernel)
theorem dX7_readsQuoted_38 : decode cX7_readsQuoted 38 = .ok (.aload_n 0, 1) := ok_aload_n (by decide +kernel)
theorem dX7_readsQuoted_39 : decode cX7_readsQuoted 39 = .ok (.getfield 254, 3) := ok_getfield (by decide +kernel)
theorem dX7_readsQuoted_42 : decode cX7_readsQuoted 42 = .ok (.invokevirtual 257, 3) := ok_invokevirtual (by decide +kernel)
theorem dX7_readsQuoted_45 : decode cX7_readsQuoted 45 = .ok (.invokestatic 127, 3) := ok_invokestatic (by decide +kernel)
theorem dX7_readsQuoted_48 : decode cX7_readsQuoted 48 = .ok (.ifCond .ne 13, 3) := ok_ifCond (by decide +kernel)
theorem dX7_readsQuoted_51 : decode cX7_readsQuoted 51 = .ok (.aload_n 0, 1) := ok_aload_n (by decide +kernel)
theorem dX7_readsQuoted_52 : decode cX7_readsQuoted 52 = .ok (.iconst 1, 1) := ok_iconst (by decide +kernel)
theorem dX7_readsQuoted_53 : decode cX7_readsQuoted 53 = .ok (.aload_n 0, 1) := ok_aload_n (by decide +kernel)
theorem dX7_readsQuoted_54 : decode cX7_readsQuoted 54 = .ok (.getfield 254, 3) := ok_getfield (by decide +kernel)
theorem dX7_readsQuoted_57 : decode cX7_readsQuoted 57 = .ok (.invokevirtual 286, 3) := ok_invokevirtual (by decide +kernel)
theorem dX7_readsQuoted_60 : decode cX7_readsQuoted 60 = .ok (.ireturn, 1) := ok_ireturn (by decide +kernel)
theorem dX7_readsQuoted_61 : decode cX7_readsQuoted 61 = .ok (.aload_n 0, 1) := ok_aload_n (by decide +kernel)
theorem dX7_readsQuoted_62 : decode cX7_readsQuoted 62 = .ok (.getfield 308, 3) := ok_getfield (by decide +kernel)
theorem dX7_readsQuoted_65 : decode cX7_readsQuoted 65 = .ok (.iload_n 2, 1) := ok_iload_n (by decide +kernel)
theorem dX7_readsQuoted_66 : decode cX7_readsQuoted 66 = .ok (.if_icmp .ne 13, 3) := ok_if_icmp (by decide +kernel)
theorem dX7_readsQuoted_69 : decode cX7_readsQuoted 69 = .ok (.aload_n 0, 1) := ok_aload_n (by decide +kernel)
theorem dX7_readsQuoted_70 : decode cX7_readsQuoted 70 = .ok (.iconst 2, 1) := ok_iconst (by decide +kernel)
theorem dX7_readsQuoted_71 : decode cX7_readsQuoted 71 = .ok (.aload_n 0, 1) := ok_aload_n (by decide +kernel)
theorem dX7_readsQuoted_72 : decode cX7_readsQuoted 72 = .ok (.getfield 254, 3) := ok_getfield (by decide +kernel)
theorem dX7_readsQuoted_75 : decode cX7_readsQuoted 75 = .ok (.invokevirtual 286, 3) := ok_invokevirtual (by decide +kernel)
theorem dX7_readsQuoted_78 : decode cX7_readsQuoted 78 = .ok (.ireturn, 1) := ok_ireturn (by decide +kernel)
theorem dX7_readsQuoted_79 : decode cX7_readsQuoted 79 = .ok (.aload_n 0, 1) := ok_aload_n (by decide +kernel)
theorem dX7_readsQuoted_80 : decode cX7_readsQuoted 80 = .ok (.dup, 1) := ok_dup (by decide +kernel)
theorem dX7_readsQuoted_81 : decode cX7_readsQuoted 81 = .ok (.getfield 308, 3) := ok_getfield (by decide +kernel)
theorem dX7_readsQuoted_84 : decode cX7_readsQuoted 84 = .ok (.iconst 1, 1) := ok_iconst (by decide +kernel)
theorem dX7_readsQuoted_85 : decode cX7_readsQuoted 85 = .ok (.iadd, 1) := ok_iadd (by decide +kernel)
theorem dX7_readsQuoted_86 : decode cX7_readsQuoted 86 = .ok (.putfield 308, 3) := ok_putfield (by decide +kernel)
theorem dX7_readsQuoted_89 : decode cX7_readsQuoted 89 = .ok (.aload_n 0, 1) := ok_aload_n (by decide +kernel)
theorem dX7_readsQuoted_90 : decode cX7_readsQuoted 90 = .ok (.dup, 1) := ok_dup (by decide +kernel)
theorem dX7_readsQuoted_91 : decode cX7_readsQuoted 91 = .ok (.getfield 254, 3) := ok_getfield (by decide +kernel)
theorem dX7_readsQuoted_94 : decode cX7_readsQuoted 94 = .ok (.iconst 1, 1) := ok_iconst (by decide +kernel)
theorem dX7_readsQuoted_95 : decode cX7_readsQuoted 95 = .ok (.iadd, 1) := ok_iadd (by decide +kernel)
theorem dX7_readsQuoted_96 : decode cX7_readsQuoted 96 = .ok (.putfield 254, 3) := ok_putfield (by decide +kernel)
theorem dX7_readsQuoted_99 : decode cX7_readsQuoted 99 = .ok (.goto (-75), 3) := ok_goto (by decide +kernel)
theorem dX7_readsQuoted_102 : decode cX7_readsQuoted 102 = .ok (.aload_n 0, 1) := ok_aload_n (by decide +kernel)
theorem dX7_readsQuoted_103 : decode cX7_readsQuoted 103 = .ok (.getfield 308, 3) := ok_getfield (by decide +kernel)
theorem dX7_readsQuoted_106 : decode cX7_readsQuoted 106 = .ok (.iload_n 1, 1) := ok_iload_n (by decide +kernel)
theorem dX7_readsQuoted_107 : decode cX7_readsQuoted 107 = .ok (.if_icmp .ge 13, 3) := ok_if_icmp (by decide +kernel)
theorem dX7_readsQuoted_110 : decode cX7_readsQuoted 110 = .ok (.aload_n 0, 1) := ok_aload_n (by decide +kernel)
theorem dX7_readsQuoted_111 : decode cX7_readsQuoted 111 = .ok (.iconst 2, 1) := ok_iconst (by decide +kernel)
theorem dX7_readsQuoted_112 : decode cX7_readsQuoted 112 = .ok (.aload_n 0, 1) := ok_aload_n (by decide +kernel)
theorem dX7_readsQuoted_113 : decode cX7_readsQuoted 113 = .ok (.getfield 254, 3) := ok_getfield (by decide +kernel)
theorem dX7_readsQuoted_116 : decode cX7_readsQuoted 116 = .ok (.invokevirtual 286, 3) := ok_invokevirtual (by decide +kernel)
theorem dX7_readsQuoted_119 : decode cX7_readsQuoted 119 = .ok (.ireturn, 1) := ok_ireturn (by decide +kernel)
theorem dX7_readsQuoted_120 : decode cX7_readsQuoted 120 = .ok (.aload_n 0, 1) := ok_aload_n (by decide +kernel)
theorem dX7_readsQuoted_121 : decode cX7_readsQuoted 121 = .ok (.dup, 1) := ok_dup (by decide +kernel)
theorem dX7_readsQuoted_122 : decode cX7_readsQuoted 122 = .ok (.getfield 254, 3) := ok_getfield (by decide +kernel)
theorem dX7_readsQuoted_125 : decode cX7_readsQuoted 125 = .ok (.iconst 1, 1) := ok_iconst (by decide +kernel)
theorem dX7_readsQuoted_126 : decode cX7_readsQuoted 126 = .ok (.iadd, 1) := ok_iadd (by decide +kernel)
theorem dX7_readsQuoted_127 : decode cX7_readsQuoted 127 = .ok (.putfield 254, 3) := ok_putfield (by decide +kernel)
theorem dX7_readsQuoted_130 : decode cX7_readsQuoted 130 = .ok (.iconst 1, 1) := ok_iconst (by decide +kernel)
theorem dX7_readsQuoted_131 : decode cX7_readsQuoted 131 = .ok (.ireturn, 1) := ok_ireturn (by decide +kernel)
theorem dX7_readsDrum_0 : decode cX7_readsDrum 0 = .ok (.aload_n 0, 1) := ok_aload_n (by decide +kernel)
theorem dX7_readsDrum_1 : decode cX7_readsDrum 1 = .ok (.invokevirtual 50, 3) := ok_invokevirtual (by decide +kernel)
theorem dX7_readsDrum_4 : decode cX7_readsDrum 4 = .ok (.iconst 4, 1) := ok_iconst (by decide +kernel)
theorem dX7_readsDrum_5 : decode cX7_readsDrum 5 = .ok (.if_icmp .ne 13, 3) := ok_if_icmp (by decide +kernel)
theorem dX7_readsDrum_8 : decode cX7_readsDrum 8 = .ok (.aload_n 0, 1) := ok_aload_n (by decide +kernel)
theorem dX7_readsDrum_9 : decode cX7_readsDrum 9 = .ok (.iconst 3, 1) := ok_iconst (by decide +kernel)
theorem dX7_readsDrum_10 : decode cX7_readsDrum 10 = .ok (.aload_n 0, 1) := ok_aload_n (by decide +kernel)
theorem dX7_readsDrum_11 : decode cX7_readsDrum 11 = .ok (.getfield 254, 3) := ok_getfield (by decide +kernel)
theorem dX7_readsDrum_14 : decode cX7_readsDrum 14 = .ok (.invokevirtual 286, 3) := ok_invokevirtual (by decide +kernel)
theorem dX7_readsDrum_17 : decode cX7_readsDrum 17 = .ok (.ireturn, 1) := ok_ireturn (by decide +kernel)
theorem dX7_readsDrum_18 : decode cX7_readsDrum 18 = .ok (.aload_n 0, 1) := ok_aload_n (by decide +kernel)
theorem dX7_readsDrum_19 : decode cX7_readsDrum 19 = .ok (.dup, 1) := ok_dup (by decide +kernel)
theorem dX7_readsDrum_20 : decode cX7_readsDrum 20 = .ok (.getfield 254, 3) := ok_getfield (by decide +kernel)
theorem dX7_readsDrum_23 : decode cX7_readsDrum 23 = .ok (.iconst 4, 1) := ok_iconst (by decide +kernel)
theorem dX7_readsDrum_24 : decode cX7_readsDrum 24 = .ok (.iadd, 1) := ok_iadd (by decide +kernel)
theorem dX7_readsDrum_25 : decode cX7_readsDrum 25 = .ok (.putfield 254, 3) := ok_putfield (by decide +kernel)
theorem dX7_readsDrum_28 : decode cX7_readsDrum 28 = .ok (.aload_n 0, 1) := ok_aload_n (by decide +kernel)
theorem dX7_readsDrum_29 : decode cX7_readsDrum 29 = .ok (.iconst 1, 1) := ok_iconst (by decide +kernel)
theorem dX7_readsDrum_30 : decode cX7_readsDrum 30 = .ok (.bipush 9, 2) := ok_bipush (by decide +kernel)
theorem dX7_readsDrum_32 : decode cX7_readsDrum 32 = .ok (.invokevirtual 311, 3) := ok_invokevirtual (by decide +kernel)
theorem dX7_readsDrum_35 : decode cX7_readsDrum 35 = .ok (.ifCond .ne 5, 3) := ok_ifCond (by decide +kernel)
theorem dX7_readsDrum_38 : decode cX7_readsDrum 38 = .ok (.iconst 0, 1) := ok_iconst (by decide +kernel)
theorem dX7_readsDrum_39 : decode cX7_readsDrum 39 = .ok (.ireturn, 1) := ok_ireturn (by decide +kernel)
theorem dX7_readsDrum_40 : decode cX7_readsDrum 40 = .ok (.aload_n 0, 1) := ok_aload_n (by decide +kernel)
theorem dX7_readsDrum_41 : decode cX7_readsDrum 41 = .ok (.getfield 299, 3) := ok_getfield (by decide +kernel)
theorem dX7_readsDrum_44 : decode cX7_readsDrum 44 = .ok (.istore_n 1, 1) := ok_istore_n (by decide +kernel)
theorem dX7_readsDrum_45 : decode cX7_readsDrum 45 = .ok (.aload_n 0, 1) := ok_aload_n (by decide +kernel)
theorem dX7_readsDrum_46 : decode cX7_readsDrum 46 = .ok (.iconst 2, 1) := ok_iconst (by decide +kernel)
theorem dX7_readsDrum_47 : decode cX7_readsDrum 47 = .ok (.bipush 40, 2) := ok_bipush (by decide +kernel)
theorem dX7_readsDrum_49 : decode cX7_readsDrum 49 = .ok (.invokevirtual 314, 3) := ok_invokevirtual (by decide +kernel)
theorem dX7_readsDrum_52 : decode cX7_readsDrum 52 = .ok (.ifCond .ne 5, 3) := ok_ifCond (by decide +kernel)
theorem dX7_readsDrum_55 : decode cX7_readsDrum 55 = .ok (.iconst 0, 1) := ok_iconst (by decide +kernel)
theorem dX7_readsDrum_56 : decode cX7_readsDrum 56 = .ok (.ireturn, 1) := ok_ireturn (by decide +kernel)
theorem dX7_readsDrum_57 : decode cX7_readsDrum 57 = .ok (.bipush 8, 2) := ok_bipush (by decide +kernel)
theorem dX7_readsDrum_59 : decode cX7_readsDrum 59 = .ok (.bipush 42, 2) := ok_bipush (by decide +kernel)
theorem dX7_readsDrum_61 : decode cX7_readsDrum 61 = .ok (.aload_n 0, 1) := ok_aload_n (by decide +kernel)
theorem dX7_readsDrum_62 : decode cX7_readsDrum 62 = .ok (.invokevirtual 50, 3) := ok_invokevirtual (by decide +kernel)
theorem dX7_readsDrum_65 : decode cX7_readsDrum 65 = .ok (.imul, 1) := ok_imul (by decide +kernel)
theorem dX7_readsDrum_66 : decode cX7_readsDrum 66 = .ok (.iadd, 1) := ok_iadd (by decide +kernel)
theorem dX7_readsDrum_67 : decode cX7_readsDrum 67 = .ok (.istore_n 2, 1) := ok_istore_n (by decide +kernel)
theorem dX7_readsDrum_68 : decode cX7_readsDrum 68 = .ok (.aload_n 0, 1) := ok_aload_n (by decide +kernel)
theorem dX7_readsDrum_69 : decode cX7_readsDrum 69 = .ok (.getfield 7, 3) := ok_getfield (by decide +kernel)
theorem dX7_readsDrum_72 : decode cX7_readsDrum 72 = .ok (.iload_n 2, 1) := ok_iload_n (by decide +kernel)
theorem dX7_readsDrum_73 : decode cX7_readsDrum 73 = .ok (.iload_n 1, 1) := ok_iload_n (by decide +kernel)
theorem dX7_readsDrum_74 : decode cX7_readsDrum 74 = .ok (.i2l, 1) := ok_i2l (by decide +kernel)
theorem dX7_readsDrum_75 : decode cX7_readsDrum 75 = .ok (.lastore, 1) := ok_lastore (by decide +kernel)
theorem dX7_readsDrum_76 : decode cX7_readsDrum 76 = .ok (.aload_n 0, 1) := ok_aload_n (by decide +kernel)
theorem dX7_readsDrum_77 : decode cX7_readsDrum 77 = .ok (.getfield 7, 3) := ok_getfield (by decide +kernel)
theorem dX7_readsDrum_80 : decode cX7_readsDrum 80 = .ok (.iload_n 2, 1) := ok_iload_n (by decide +kernel)
theorem dX7_readsDrum_81 : decode cX7_readsDrum 81 = .ok (.iconst 1, 1) := ok_iconst (by decide +kernel)
theorem dX7_readsDrum_82 : decode cX7_readsDrum 82 = .ok (.iadd, 1) := ok_iadd (by decide +kernel)
theorem dX7_readsDrum_83 : decode cX7_readsDrum 83 = .ok (.aload_n 0, 1) := ok_aload_n (by decide +kernel)
theorem dX7_readsDrum_84 : decode cX7_readsDrum 84 = .ok (.getfield 308, 3) := ok_getfield (by decide +kernel)
theorem dX7_readsDrum_87 : decode cX7_readsDrum 87 = .ok (.i2l, 1) := ok_i2l (by decide +kernel)
theorem dX7_readsDrum_88 : decode cX7_readsDrum 88 = .ok (.lastore, 1) := ok_lastore (by decide +kernel)
theorem dX7_readsDrum_89 : decode cX7_readsDrum 89 = .ok (.iconst 0, 1) := ok_iconst (by decide +kernel)
theorem dX7_readsDrum_90 : decode cX7_readsDrum 90 = .ok (.istore_n 3, 1) := ok_istore_n (by decide +kernel)
theorem dX7_readsDrum_91 : decode cX7_readsDrum 91 = .ok (.iload_n 3, 1) := ok_iload_n (by decide +kernel)
theorem dX7_readsDrum_92 : decode cX7_readsDrum 92 = .ok (.aload_n 0, 1) := ok_aload_n (by decide +kernel)
theorem dX7_readsDrum_93 : decode cX7_readsDrum 93 = .ok (.getfield 308, 3) := ok_getfield (by decide +kernel)
theorem dX7_readsDrum_96 : decode cX7_readsDrum 96 = .ok (.if_icmp .ge 31, 3) := ok_if_icmp (by decide +kernel)
theorem dX7_readsDrum_99 : decode cX7_readsDrum 99 = .ok (.aload_n 0, 1) := ok_aload_n (by decide +kernel)
theorem dX7_readsDrum_100 : decode cX7_readsDrum 100 = .ok (.getfield 7, 3) := ok_getfield (by decide +kernel)
theorem dX7_readsDrum_103 : decode cX7_readsDrum 103 = .ok (.iload_n 2, 1) := ok_iload_n (by decide +kernel)
theorem dX7_readsDrum_104 : decode cX7_readsDrum 104 = .ok (.iconst 2, 1) := ok_iconst (by decide +kernel)
theorem dX7_readsDrum_105 : decode cX7_readsDrum 105 = .ok (.iadd, 1) := ok_iadd (by decide +kernel)
theorem dX7_readsDrum_106 : decode cX7_readsDrum 106 = .ok (.iload_n 3, 1) := ok_iload_n (by decide +kernel)
theorem dX7_readsDrum_107 : decode cX7_readsDrum 107 = .ok (.iadd, 1) := ok_iadd (by decide +kernel)
theorem dX7_readsDrum_108 : decode cX7_readsDrum 108 = .ok (.aload_n 0, 1) := ok_aload_n (by decide +kernel)
theorem dX7_readsDrum_109 : decode cX7_readsDrum 109 = .ok (.getfield 31, 3) := ok_getfield (by decide +kernel)
theorem dX7_readsDrum_112 : decode cX7_readsDrum 112 = .ok (.aload_n 0, 1) := ok_aload_n (by decide +kernel)
theorem dX7_readsDrum_113 : decode cX7_readsDrum 113 = .ok (.getfield 305, 3) := ok_getfield (by decide +kernel)
theorem dX7_readsDrum_116 : decode cX7_readsDrum 116 = .ok (.iload_n 3, 1) := ok_iload_n (by decide +kernel)
theorem dX7_readsDrum_117 : decode cX7_readsDrum 117 = .ok (.iadd, 1) := ok_iadd (by decide +kernel)
theorem dX7_readsDrum_118 : decode cX7_readsDrum 118 = .ok (.baload, 1) := by decide +kernel
theorem dX7_readsDrum_119 : decode cX7_readsDrum 119 = .ok (.i2l, 1) := ok_i2l (by decide +kernel)
theorem dX7_readsDrum_120 : decode cX7_readsDrum 120 = .ok (.lastore, 1) := ok_lastore (by decide +kernel)
theorem dX7_readsDrum_121 : decode cX7_readsDrum 121 = .ok (.iinc 3 1, 3) := ok_iinc (by decide +kernel)
theorem dX7_readsDrum_124 : decode cX7_readsDrum 124 = .ok (.goto (-33), 3) := ok_goto (by decide +kernel)
theorem dX7_readsDrum_127 : decode cX7_readsDrum 127 = .ok (.aload_n 0, 1) := ok_aload_n (by decide +kernel)
theorem dX7_readsDrum_128 : decode cX7_readsDrum 128 = .ok (.getfield 7, 3) := ok_getfield (by decide +kernel)
theorem dX7_readsDrum_131 : decode cX7_readsDrum 131 = .ok (.iconst 3, 1) := ok_iconst (by decide +kernel)
theorem dX7_readsDrum_132 : decode cX7_readsDrum 132 = .ok (.dup2, 1) := ok_dup2 (by decide +kernel)
theorem dX7_readsDrum_133 : decode cX7_readsDrum 133 = .ok (.laload, 1) := ok_laload (by decide +kernel)
theorem dX7_readsDrum_134 : decode cX7_readsDrum 134 = .ok (.lconst 1, 1) := ok_lconst (by decide +kernel)
theorem dX7_readsDrum_135 : decode cX7_readsDrum 135 = .ok (.ladd, 1) := ok_ladd (by decide +kernel)
theorem dX7_readsDrum_136 : decode cX7_readsDrum 136 = .ok (.lastore, 1) := ok_lastore (by decide +kernel)
theorem dX7_readsDrum_137 : decode cX7_readsDrum 137 = .ok (.iconst 1, 1) := ok_iconst (by decide +kernel)
theorem dX7_readsDrum_138 : decode cX7_readsDrum 138 = .ok (.ireturn, 1) := ok_ireturn (by decide +kernel)
theorem dX7_readsCells_0 : decode cX7_readsCells 0 = .ok (.aload_n 0, 1) := ok_aload_n (by decide +kernel)
theorem dX7_readsCells_1 : decode cX7_readsCells 1 = .ok (.dup, 1) := ok_dup (by decide +kernel)
theorem dX7_readsCells_2 : decode cX7_readsCells 2 = .ok (.getfield 254, 3) := ok_getfield (by decide +kernel)
theorem dX7_readsCells_5 : decode cX7_readsCells 5 = .ok (.iconst 5, 1) := ok_iconst (by decide +kernel)
theorem dX7_readsCells_6 : decode cX7_readsCells 6 = .ok (.iadd, 1) := ok_iadd (by decide +kernel)
theorem dX7_readsCells_7 : decode cX7_readsCells 7 = .ok (.putfield 254, 3) := ok_putfield (by decide +kernel)
theorem dX7_readsCells_10 : decode cX7_readsCells 10 = .ok (.aload_n 0, 1) := ok_aload_n (by decide +kernel)
theorem dX7_readsCells_11 : decode cX7_readsCells 11 = .ok (.iconst 0, 1) := ok_iconst (by decide +kernel)
theorem dX7_readsCells_12 : decode cX7_readsCells 12 = .ok (.aload_n 0, 1) := ok_aload_n (by decide +kernel)
theorem dX7_readsCells_13 : decode cX7_readsCells 13 = .ok (.invokevirtual 53, 3) := ok_invokevirtual (by decide +kernel)
theorem dX7_readsCells_16 : decode cX7_readsCells 16 = .ok (.iconst 1, 1) := ok_iconst (by decide +kernel)
theorem dX7_readsCells_17 : decode cX7_readsCells 17 = .ok (.isub, 1) := ok_isub (by decide +kernel)
theorem dX7_readsCells_18 : decode cX7_readsCells 18 = .ok (.invokevirtual 311, 3) := ok_invokevirtual (by decide +kernel)
theorem dX7_readsCells_21 : decode cX7_readsCells 21 = .ok (.ifCond .ne 5, 3) := ok_ifCond (by decide +kernel)
theorem dX7_readsCells_24 : decode cX7_readsCells 24 = .ok (.iconst 0, 1) := ok_iconst (by decide +kernel)
theorem dX7_readsCells_25 : decode cX7_readsCells 25 = .ok (.ireturn, 1) := ok_ireturn (by decide +kernel)
theorem dX7_readsCells_26 : decode cX7_readsCells 26 = .ok (.aload_n 0, 1) := ok_aload_n (by decide +kernel)
theorem dX7_readsCells_27 : decode cX7_readsCells 27 = .ok (.getfield 299, 3) := ok_getfield (by decide +kernel)
theorem dX7_readsCells_30 : decode cX7_readsCells 30 = .ok (.istore_n 1, 1) := ok_istore_n (by decide +kernel)
theorem dX7_readsCells_31 : decode cX7_readsCells 31 = .ok (.aload_n 0, 1) := ok_aload_n (by decide +kernel)
theorem dX7_readsCells_32 : decode cX7_readsCells 32 = .ok (.iload_n 1, 1) := ok_iload_n (by decide +kernel)
theorem dX7_readsCells_33 : decode cX7_readsCells 33 = .ok (.aload_n 0, 1) := ok_aload_n (by decide +kernel)
theorem dX7_readsCells_34 : decode cX7_readsCells 34 = .ok (.invokevirtual 53, 3) := ok_invokevirtual (by decide +kernel)
theorem dX7_readsCells_37 : decode cX7_readsCells 37 = .ok (.iconst 1, 1) := ok_iconst (by decide +kernel)
theorem dX7_readsCells_38 : decode cX7_readsCells 38 = .ok (.isub, 1) := ok_isub (by decide +kernel)
theorem dX7_readsCells_39 : decode cX7_readsCells 39 = .ok (.invokevirtual 311, 3) := ok_invokevirtual (by decide +kernel)
theorem dX7_readsCells_42 : decode cX7_readsCells 42 = .ok (.ifCond .ne 5, 3) := ok_ifCond (by decide +kernel)
theorem dX7_readsCells_45 : decode cX7_readsCells 45 = .ok (.iconst 0, 1) := ok_iconst (by decide +kernel)
theorem dX7_readsCells_46 : decode cX7_readsCells 46 = .ok (.ireturn, 1) := ok_ireturn (by decide +kernel)
theorem dX7_readsCells_47 : decode cX7_readsCells 47 = .ok (.aload_n 0, 1) := ok_aload_n (by decide +kernel)
theorem dX7_readsCells_48 : decode cX7_readsCells 48 = .ok (.getfield 299, 3) := ok_getfield (by decide +kernel)
theorem dX7_readsCells_51 : decode cX7_readsCells 51 = .ok (.istore_n 2, 1) := ok_istore_n (by decide +kernel)
theorem dX7_readsCells_52 : decode cX7_readsCells 52 = .ok (.aload_n 0, 1) := ok_aload_n (by decide +kernel)
theorem dX7_readsCells_53 : decode cX7_readsCells 53 = .ok (.iconst 0, 1) := ok_iconst (by decide +kernel)
theorem dX7_readsCells_54 : decode cX7_readsCells 54 = .ok (.aload_n 0, 1) := ok_aload_n (by decide +kernel)
theorem dX7_readsCells_55 : decode cX7_readsCells 55 = .ok (.invokevirtual 50, 3) := ok_invokevirtual (by decide +kernel)
theorem dX7_readsCells_58 : decode cX7_readsCells 58 = .ok (.iconst 1, 1) := ok_iconst (by decide +kernel)
theorem dX7_readsCells_59 : decode cX7_readsCells 59 = .ok (.isub, 1) := ok_isub (by decide +kernel)
theorem dX7_readsCells_60 : decode cX7_readsCells 60 = .ok (.invokevirtual 311, 3) := ok_invokevirtual (by decide +kernel)
theorem dX7_readsCells_63 : decode cX7_readsCells 63 = .ok (.ifCond .ne 5, 3) := ok_ifCond (by decide +kernel)
theorem dX7_readsCells_66 : decode cX7_readsCells 66 = .ok (.iconst 0, 1) := ok_iconst (by decide +kernel)
theorem dX7_readsCells_67 : decode cX7_readsCells 67 = .ok (.ireturn, 1) := ok_ireturn (by decide +kernel)
theorem dX7_readsCells_68 : decode cX7_readsCells 68 = .ok (.iload_n 1, 1) := ok_iload_n (by decide +kernel)
theorem dX7_readsCells_69 : decode cX7_readsCells 69 = .ok (.istore_n 3, 1) := ok_istore_n (by decide +kernel)
theorem dX7_readsCells_70 : decode cX7_readsCells 70 = .ok (.iload_n 3, 1) := ok_iload_n (by decide +kernel)
theorem dX7_readsCells_71 : decode cX7_readsCells 71 = .ok (.iload_n 2, 1) := ok_iload_n (by decide +kernel)
theorem dX7_readsCells_72 : decode cX7_readsCells 72 = .ok (.if_icmp .gt 44, 3) := ok_if_icmp (by decide +kernel)
theorem dX7_readsCells_75 : decode cX7_readsCells 75 = .ok (.iconst 0, 1) := ok_iconst (by decide +kernel)
theorem dX7_readsCells_76 : decode cX7_readsCells 76 = .ok (.istore 4, 2) := ok_istore (by decide +kernel)
theorem dX7_readsCells_78 : decode cX7_readsCells 78 = .ok (.iload 4, 2) := ok_iload (by decide +kernel)
theorem dX7_readsCells_80 : decode cX7_readsCells 80 = .ok (.bipush 8, 2) := ok_bipush (by decide +kernel)
theorem dX7_readsCells_82 : decode cX7_readsCells 82 = .ok (.if_icmp .ge 17, 3) := ok_if_icmp (by decide +kernel)
theorem dX7_readsCells_85 : decode cX7_readsCells 85 = .ok (.aload_n 0, 1) := ok_aload_n (by decide +kernel)
theorem dX7_readsCells_86 : decode cX7_readsCells 86 = .ok (.iload_n 3, 1) := ok_iload_n (by decide +kernel)
theorem dX7_readsCells_87 : decode cX7_readsCells 87 = .ok (.iload 4, 2) := ok_iload (by decide +kernel)
theorem dX7_readsCells_89 : decode cX7_readsCells 89 = .ok (.lconst 0, 1) := ok_lconst (by decide +kernel)
theorem dX7_readsCells_90 : decode cX7_readsCells 90 = .ok (.invokevirtual 78, 3) := ok_invokevirtual (by decide +kernel)
theorem dX7_readsCells_93 : decode cX7_readsCells 93 = .ok (.iinc 4 1, 3) := ok_iinc (by decide +kernel)
theorem dX7_readsCells_96 : decode cX7_readsCells 96 = .ok (.goto (-18), 3) := ok_goto (by decide +kernel)
theorem dX7_readsCells_99 : decode cX7_readsCells 99 = .ok (.aload_n 0, 1) := ok_aload_n (by decide +kernel)
theorem dX7_readsCells_100 : decode cX7_readsCells 100 = .ok (.iload_n 3, 1) := ok_iload_n (by decide +kernel)
theorem dX7_readsCells_101 : decode cX7_readsCells 101 = .ok (.iconst 0, 1) := ok_iconst (by decide +kernel)
theorem dX7_readsCells_102 : decode cX7_readsCells 102 = .ok (.aload_n 0, 1) := ok_aload_n (by decide +kernel)
theorem dX7_readsCells_103 : decode cX7_readsCells 103 = .ok (.getfield 299, 3) := ok_getfield (by decide +kernel)
theorem dX7_readsCells_106 : decode cX7_readsCells 106 = .ok (.i2l, 1) := ok_i2l (by decide +kernel)
theorem dX7_readsCells_107 : decode cX7_readsCells 107 = .ok (.invokevirtual 78, 3) := ok_invokevirtual (by decide +kernel)
theorem dX7_readsCells_110 : decode cX7_readsCells 110 = .ok (.iinc 3 1, 3) := ok_iinc (by decide +kernel)
theorem dX7_readsCells_113 : decode cX7_readsCells 113 = .ok (.goto (-43), 3) := ok_goto (by decide +kernel)
theorem dX7_readsCells_116 : decode cX7_readsCells 116 = .ok (.iconst 1, 1) := ok_iconst (by decide +kernel)
theorem dX7_readsCells_117 : decode cX7_readsCells 117 = .ok (.ireturn, 1) := ok_ireturn (by decide +kernel)
theorem dX7_readsWorn_0 : decode cX7_readsWorn 0 = .ok (.aload_n 0, 1) := ok_aload_n (by decide +kernel)
theorem dX7_readsWorn_1 : decode cX7_readsWorn 1 = .ok (.dup, 1) := ok_dup (by decide +kernel)
theorem dX7_readsWorn_2 : decode cX7_readsWorn 2 = .ok (.getfield 254, 3) := ok_getfield (by decide +kernel)
theorem dX7_readsWorn_5 : decode cX7_readsWorn 5 = .ok (.iconst 4, 1) := ok_iconst (by decide +kernel)
theorem dX7_readsWorn_6 : decode cX7_readsWorn 6 = .ok (.iadd, 1) := ok_iadd (by decide +kernel)
theorem dX7_readsWorn_7 : decode cX7_readsWorn 7 = .ok (.putfield 254, 3) := ok_putfield (by decide +kernel)
theorem dX7_readsWorn_10 : decode cX7_readsWorn 10 = .ok (.aload_n 0, 1) := ok_aload_n (by decide +kernel)
theorem dX7_readsWorn_11 : decode cX7_readsWorn 11 = .ok (.iconst 0, 1) := ok_iconst (by decide +kernel)
theorem dX7_readsWorn_12 : decode cX7_readsWorn 12 = .ok (.aload_n 0, 1) := ok_aload_n (by decide +kernel)
theorem dX7_readsWorn_13 : decode cX7_readsWorn 13 = .ok (.invokevirtual 53, 3) := ok_invokevirtual (by decide +kernel)
theorem dX7_readsWorn_16 : decode cX7_readsWorn 16 = .ok (.iconst 1, 1) := ok_iconst (by decide +kernel)
theorem dX7_readsWorn_17 : decode cX7_readsWorn 17 = .ok (.isub, 1) := ok_isub (by decide +kernel)
theorem dX7_readsWorn_18 : decode cX7_readsWorn 18 = .ok (.invokevirtual 311, 3) := ok_invokevirtual (by decide +kernel)
theorem dX7_readsWorn_21 : decode cX7_readsWorn 21 = .ok (.ifCond .ne 5, 3) := ok_ifCond (by decide +kernel)
theorem dX7_readsWorn_24 : decode cX7_readsWorn 24 = .ok (.iconst 0, 1) := ok_iconst (by decide +kernel)
theorem dX7_readsWorn_25 : decode cX7_readsWorn 25 = .ok (.ireturn, 1) := ok_ireturn (by decide +kernel)
theorem dX7_readsWorn_26 : decode cX7_readsWorn 26 = .ok (.aload_n 0, 1) := ok_aload_n (by decide +kernel)
theorem dX7_readsWorn_27 : decode cX7_readsWorn 27 = .ok (.getfield 299, 3) := ok_getfield (by decide +kernel)
theorem dX7_readsWorn_30 : decode cX7_readsWorn 30 = .ok (.istore_n 1, 1) := ok_istore_n (by decide +kernel)
theorem dX7_readsWorn_31 : decode cX7_readsWorn 31 = .ok (.aload_n 0, 1) := ok_aload_n (by decide +kernel)
theorem dX7_readsWorn_32 : decode cX7_readsWorn 32 = .ok (.iconst 1, 1) := ok_iconst (by decide +kernel)
theorem dX7_readsWorn_33 : decode cX7_readsWorn 33 = .ok (.aload_n 0, 1) := ok_aload_n (by decide +kernel)
theorem dX7_readsWorn_34 : decode cX7_readsWorn 34 = .ok (.iload_n 1, 1) := ok_iload_n (by decide +kernel)
theorem dX7_readsWorn_35 : decode cX7_readsWorn 35 = .ok (.invokevirtual 67, 3) := ok_invokevirtual (by decide +kernel)
theorem dX7_readsWorn_38 : decode cX7_readsWorn 38 = .ok (.iconst 1, 1) := ok_iconst (by decide +kernel)
theorem dX7_readsWorn_39 : decode cX7_readsWorn 39 = .ok (.isub, 1) := ok_isub (by decide +kernel)
theorem dX7_readsWorn_40 : decode cX7_readsWorn 40 = .ok (.invokevirtual 311, 3) := ok_invokevirtual (by decide +kernel)
theorem dX7_readsWorn_43 : decode cX7_readsWorn 43 = .ok (.ifCond .ne 5, 3) := ok_ifCond (by decide +kernel)
theorem dX7_readsWorn_46 : decode cX7_readsWorn 46 = .ok (.iconst 0, 1) := ok_iconst (by decide +kernel)
theorem dX7_readsWorn_47 : decode cX7_readsWorn 47 = .ok (.ireturn, 1) := ok_ireturn (by decide +kernel)
theorem dX7_readsWorn_48 : decode cX7_readsWorn 48 = .ok (.aload_n 0, 1) := ok_aload_n (by decide +kernel)
theorem dX7_readsWorn_49 : decode cX7_readsWorn 49 = .ok (.iload_n 1, 1) := ok_iload_n (by decide +kernel)
theorem dX7_readsWorn_50 : decode cX7_readsWorn 50 = .ok (.invokevirtual 109, 3) := ok_invokevirtual (by decide +kernel)
theorem dX7_readsWorn_53 : decode cX7_readsWorn 53 = .ok (.aload_n 0, 1) := ok_aload_n (by decide +kernel)
theorem dX7_readsWorn_54 : decode cX7_readsWorn 54 = .ok (.getfield 299, 3) := ok_getfield (by decide +kernel)
theorem dX7_readsWorn_57 : decode cX7_readsWorn 57 = .ok (.invokestatic 74, 3) := ok_invokestatic (by decide +kernel)
theorem dX7_readsWorn_60 : decode cX7_readsWorn 60 = .ok (.ifCond .eq 13, 3) := ok_ifCond (by decide +kernel)
theorem dX7_readsWorn_63 : decode cX7_readsWorn 63 = .ok (.aload_n 0, 1) := ok_aload_n (by decide +kernel)
theorem dX7_readsWorn_64 : decode cX7_readsWorn 64 = .ok (.iconst 2, 1) := ok_iconst (by decide +kernel)
theorem dX7_readsWorn_65 : decode cX7_readsWorn 65 = .ok (.aload_n 0, 1) := ok_aload_n (by decide +kernel)
theorem dX7_readsWorn_66 : decode cX7_readsWorn 66 = .ok (.getfield 296, 3) := ok_getfield (by decide +kernel)
theorem dX7_readsWorn_69 : decode cX7_readsWorn 69 = .ok (.invokevirtual 286, 3) := ok_invokevirtual (by decide +kernel)
theorem dX7_readsWorn_72 : decode cX7_readsWorn 72 = .ok (.ireturn, 1) := ok_ireturn (by decide +kernel)
theorem dX7_readsWorn_73 : decode cX7_readsWorn 73 = .ok (.aload_n 0, 1) := ok_aload_n (by decide +kernel)
theorem dX7_readsWorn_74 : decode cX7_readsWorn 74 = .ok (.iload_n 1, 1) := ok_iload_n (by decide +kernel)
theorem dX7_readsWorn_75 : decode cX7_readsWorn 75 = .ok (.aload_n 0, 1) := ok_aload_n (by decide +kernel)
theorem dX7_readsWorn_76 : decode cX7_readsWorn 76 = .ok (.getfield 299, 3) := ok_getfield (by decide +kernel)
theorem dX7_readsWorn_79 : decode cX7_readsWorn 79 = .ok (.invokevirtual 170, 3) := ok_invokevirtual (by decide +kernel)
theorem dX7_readsWorn_82 : decode cX7_readsWorn 82 = .ok (.iconst 1, 1) := ok_iconst (by decide +kernel)
theorem dX7_readsWorn_83 : decode cX7_readsWorn 83 = .ok (.ireturn, 1) := ok_ireturn (by decide +kernel)
theorem dX7_readsRow_0 : decode cX7_readsRow 0 = .ok (.aload_n 0, 1) := ok_aload_n (by decide +kernel)
theorem dX7_readsRow_1 : decode cX7_readsRow 1 = .ok (.dup, 1) := ok_dup (by decide +kernel)
theorem dX7_readsRow_2 : decode cX7_readsRow 2 = .ok (.getfield 254, 3) := ok_getfield (by decide +kernel)
theorem dX7_readsRow_5 : decode cX7_readsRow 5 = .ok (.iconst 3, 1) := ok_iconst (by decide +kernel)
theorem dX7_readsRow_6 : decode cX7_readsRow 6 = .ok (.iadd, 1) := ok_iadd (by decide +kernel)
theorem dX7_readsRow_7 : decode cX7_readsRow 7 = .ok (.putfield 254, 3) := ok_putfield (by decide +kernel)
theorem dX7_readsRow_10 : decode cX7_readsRow 10 = .ok (.aload_n 0, 1) := ok_aload_n (by decide +kernel)
theorem dX7_readsRow_11 : decode cX7_readsRow 11 = .ok (.iconst 0, 1) := ok_iconst (by decide +kernel)
theorem dX7_readsRow_12 : decode cX7_readsRow 12 = .ok (.aload_n 0, 1) := ok_aload_n (by decide +kernel)
theorem dX7_readsRow_13 : decode cX7_readsRow 13 = .ok (.invokevirtual 43, 3) := ok_invokevirtual (by decide +kernel)
theorem dX7_readsRow_16 : decode cX7_readsRow 16 = .ok (.iconst 1, 1) := ok_iconst (by decide +kernel)
theorem dX7_readsRow_17 : decode cX7_readsRow 17 = .ok (.isub, 1) := ok_isub (by decide +kernel)
theorem dX7_readsRow_18 : decode cX7_readsRow 18 = .ok (.invokevirtual 311, 3) := ok_invokevirtual (by decide +kernel)
theorem dX7_readsRow_21 : decode cX7_readsRow 21 = .ok (.ifCond .ne 5, 3) := ok_ifCond (by decide +kernel)
theorem dX7_readsRow_24 : decode cX7_readsRow 24 = .ok (.iconst 0, 1) := ok_iconst (by decide +kernel)
theorem dX7_readsRow_25 : decode cX7_readsRow 25 = .ok (.ireturn, 1) := ok_ireturn (by decide +kernel)
theorem dX7_readsRow_26 : decode cX7_readsRow 26 = .ok (.aload_n 0, 1) := ok_aload_n (by decide +kernel)
theorem dX7_readsRow_27 : decode cX7_readsRow 27 = .ok (.getfield 299, 3) := ok_getfield (by decide +kernel)
theorem dX7_readsRow_30 : decode cX7_readsRow 30 = .ok (.istore_n 1, 1) := ok_istore_n (by decide +kernel)
theorem dX7_readsRow_31 : decode cX7_readsRow 31 = .ok (.aload_n 0, 1) := ok_aload_n (by decide +kernel)
theorem dX7_readsRow_32 : decode cX7_readsRow 32 = .ok (.iconst 0, 1) := ok_iconst (by decide +kernel)
theorem dX7_readsRow_33 : decode cX7_readsRow 33 = .ok (.aload_n 0, 1) := ok_aload_n (by decide +kernel)
theorem dX7_readsRow_34 : decode cX7_readsRow 34 = .ok (.invokevirtual 47, 3) := ok_invokevirtual (by decide +kernel)
theorem dX7_readsRow_37 : decode cX7_readsRow 37 = .ok (.invokevirtual 314, 3) := ok_invokevirtual (by decide +kernel)
theorem dX7_readsRow_40 : decode cX7_readsRow 40 = .ok (.ifCond .ne 5, 3) := ok_ifCond (by decide +kernel)
theorem dX7_readsRow_43 : decode cX7_readsRow 43 = .ok (.iconst 0, 1) := ok_iconst (by decide +kernel)
theorem dX7_readsRow_44 : decode cX7_readsRow 44 = .ok (.ireturn, 1) := ok_ireturn (by decide +kernel)
theorem dX7_readsRow_45 : decode cX7_readsRow 45 = .ok (.aload_n 0, 1) := ok_aload_n (by decide +kernel)
theorem dX7_readsRow_46 : decode cX7_readsRow 46 = .ok (.iload_n 1, 1) := ok_iload_n (by decide +kernel)
theorem dX7_readsRow_47 : decode cX7_readsRow 47 = .ok (.aload_n 0, 1) := ok_aload_n (by decide +kernel)
theorem dX7_readsRow_48 : decode cX7_readsRow 48 = .ok (.getfield 305, 3) := ok_getfield (by decide +kernel)
theorem dX7_readsRow_51 : decode cX7_readsRow 51 = .ok (.aload_n 0, 1) := ok_aload_n (by decide +kernel)
theorem dX7_readsRow_52 : decode cX7_readsRow 52 = .ok (.getfield 308, 3) := ok_getfield (by decide +kernel)
theorem dX7_readsRow_55 : decode cX7_readsRow 55 = .ok (.iconst 0, 1) := ok_iconst (by decide +kernel)
theorem dX7_readsRow_56 : decode cX7_readsRow 56 = .ok (.invokevirtual 120, 3) := ok_invokevirtual (by decide +kernel)
theorem dX7_readsRow_59 : decode cX7_readsRow 59 = .ok (.istore_n 2, 1) := ok_istore_n (by decide +kernel)
theorem dX7_readsRow_60 : decode cX7_readsRow 60 = .ok (.iconst 0, 1) := ok_iconst (by decide +kernel)
theorem dX7_readsRow_61 : decode cX7_readsRow 61 = .ok (.istore_n 3, 1) := ok_istore_n (by decide +kernel)
theorem dX7_readsRow_62 : decode cX7_readsRow 62 = .ok (.iload_n 3, 1) := ok_iload_n (by decide +kernel)
theorem dX7_readsRow_63 : decode cX7_readsRow 63 = .ok (.aload_n 0, 1) := ok_aload_n (by decide +kernel)
theorem dX7_readsRow_64 : decode cX7_readsRow 64 = .ok (.invokevirtual 47, 3) := ok_invokevirtual (by decide +kernel)
theorem dX7_readsRow_67 : decode cX7_readsRow 67 = .ok (.if_icmp .ge 49, 3) := ok_if_icmp (by decide +kernel)
theorem dX7_readsRow_70 : decode cX7_readsRow 70 = .ok (.aload_n 0, 1) := ok_aload_n (by decide +kernel)
theorem dX7_readsRow_71 : decode cX7_readsRow 71 = .ok (.invokevirtual 47, 3) := ok_invokevirtual (by decide +kernel)
theorem dX7_readsRow_74 : decode cX7_readsRow 74 = .ok (.iload_n 1, 1) := ok_iload_n (by decide +kernel)
theorem dX7_readsRow_75 : decode cX7_readsRow 75 = .ok (.imul, 1) := ok_imul (by decide +kernel)
theorem dX7_readsRow_76 : decode cX7_readsRow 76 = .ok (.iload_n 3, 1) := ok_iload_n (by decide +kernel)
theorem dX7_readsRow_77 : decode cX7_readsRow 77 = .ok (.iadd, 1) := ok_iadd (by decide +kernel)
theorem dX7_readsRow_78 : decode cX7_readsRow 78 = .ok (.istore 4, 2) := ok_istore (by decide +kernel)
theorem dX7_readsRow_80 : decode cX7_readsRow 80 = .ok (.aload_n 0, 1) := ok_aload_n (by decide +kernel)
theorem dX7_readsRow_81 : decode cX7_readsRow 81 = .ok (.iload 4, 2) := ok_iload (by decide +kernel)
theorem dX7_readsRow_83 : decode cX7_readsRow 83 = .ok (.iconst 1, 1) := ok_iconst (by decide +kernel)
theorem dX7_readsRow_84 : decode cX7_readsRow 84 = .ok (.aload_n 0, 1) := ok_aload_n (by decide +kernel)
theorem dX7_readsRow_85 : decode cX7_readsRow 85 = .ok (.iload 4, 2) := ok_iload (by decide +kernel)
theorem dX7_readsRow_87 : decode cX7_readsRow 87 = .ok (.iconst 3, 1) := ok_iconst (by decide +kernel)
theorem dX7_readsRow_88 : decode cX7_readsRow 88 = .ok (.invokevirtual 56, 3) := ok_invokevirtual (by decide +kernel)
theorem dX7_readsRow_91 : decode cX7_readsRow 91 = .ok (.i2l, 1) := ok_i2l (by decide +kernel)
theorem dX7_readsRow_92 : decode cX7_readsRow 92 = .ok (.invokevirtual 78, 3) := ok_invokevirtual (by decide +kernel)
theorem dX7_readsRow_95 : decode cX7_readsRow 95 = .ok (.aload_n 0, 1) := ok_aload_n (by decide +kernel)
theorem dX7_readsRow_96 : decode cX7_readsRow 96 = .ok (.iload 4, 2) := ok_iload (by decide +kernel)
theorem dX7_readsRow_98 : decode cX7_readsRow 98 = .ok (.iconst 2, 1) := ok_iconst (by decide +kernel)
theorem dX7_readsRow_99 : decode cX7_readsRow 99 = .ok (.aload_n 0, 1) := ok_aload_n (by decide +kernel)
theorem dX7_readsRow_100 : decode cX7_readsRow 100 = .ok (.iload 4, 2) := ok_iload (by decide +kernel)
theorem dX7_readsRow_102 : decode cX7_readsRow 102 = .ok (.iconst 3, 1) := ok_iconst (by decide +kernel)
theorem dX7_readsRow_103 : decode cX7_readsRow 103 = .ok (.invokevirtual 56, 3) := ok_invokevirtual (by decide +kernel)
theorem dX7_readsRow_106 : decode cX7_readsRow 106 = .ok (.i2l, 1) := ok_i2l (by decide +kernel)
theorem dX7_readsRow_107 : decode cX7_readsRow 107 = .ok (.invokevirtual 78, 3) := ok_invokevirtual (by decide +kernel)
theorem dX7_readsRow_110 : decode cX7_readsRow 110 = .ok (.iinc 3 1, 3) := ok_iinc (by decide +kernel)
theorem dX7_readsRow_113 : decode cX7_readsRow 113 = .ok (.goto (-51), 3) := ok_goto (by decide +kernel)
theorem dX7_readsRow_116 : decode cX7_readsRow 116 = .ok (.iconst 1, 1) := ok_iconst (by decide +kernel)
theorem dX7_readsRow_117 : decode cX7_readsRow 117 = .ok (.ireturn, 1) := ok_ireturn (by decide +kernel)
theorem dX7_readsLose_0 : decode cX7_readsLose 0 = .ok (.aload_n 0, 1) := ok_aload_n (by decide +kernel)
theorem dX7_readsLose_1 : decode cX7_readsLose 1 = .ok (.dup, 1) := ok_dup (by decide +kernel)
theorem dX7_readsLose_2 : decode cX7_readsLose 2 = .ok (.getfield 254, 3) := ok_getfield (by decide +kernel)
theorem dX7_readsLose_5 : decode cX7_readsLose 5 = .ok (.iconst 4, 1) := ok_iconst (by decide +kernel)
theorem dX7_readsLose_6 : decode cX7_readsLose 6 = .ok (.iadd, 1) := ok_iadd (by decide +kernel)
theorem dX7_readsLose_7 : decode cX7_readsLose 7 = .ok (.putfield 254, 3) := ok_putfield (by decide +kernel)
theorem dX7_readsLose_10 : decode cX7_readsLose 10 = .ok (.aload_n 0, 1) := ok_aload_n (by decide +kernel)
theorem dX7_readsLose_11 : decode cX7_readsLose 11 = .ok (.iconst 0, 1) := ok_iconst (by decide +kernel)
theorem dX7_readsLose_12 : decode cX7_readsLose 12 = .ok (.aload_n 0, 1) := ok_aload_n (by decide +kernel)
theorem dX7_readsLose_13 : decode cX7_readsLose 13 = .ok (.invokevirtual 53, 3) := ok_invokevirtual (by decide +kernel)
theorem dX7_readsLose_16 : decode cX7_readsLose 16 = .ok (.iconst 1, 1) := ok_iconst (by decide +kernel)
theorem dX7_readsLose_17 : decode cX7_readsLose 17 = .ok (.isub, 1) := ok_isub (by decide +kernel)
theorem dX7_readsLose_18 : decode cX7_readsLose 18 = .ok (.invokevirtual 311, 3) := ok_invokevirtual (by decide +kernel)
theorem dX7_readsLose_21 : decode cX7_readsLose 21 = .ok (.ifCond .ne 5, 3) := ok_ifCond (by decide +kernel)
theorem dX7_readsLose_24 : decode cX7_readsLose 24 = .ok (.iconst 0, 1) := ok_iconst (by decide +kernel)
theorem dX7_readsLose_25 : decode cX7_readsLose 25 = .ok (.ireturn, 1) := ok_ireturn (by decide +kernel)
theorem dX7_readsLose_26 : decode cX7_readsLose 26 = .ok (.aload_n 0, 1) := ok_aload_n (by decide +kernel)
theorem dX7_readsLose_27 : decode cX7_readsLose 27 = .ok (.aload_n 0, 1) := ok_aload_n (by decide +kernel)
theorem dX7_readsLose_28 : decode cX7_readsLose 28 = .ok (.getfield 299, 3) := ok_getfield (by decide +kernel)
theorem dX7_readsLose_31 : decode cX7_readsLose 31 = .ok (.putfield 317, 3) := ok_putfield (by decide +kernel)
theorem dX7_readsLose_34 : decode cX7_readsLose 34 = .ok (.aload_n 0, 1) := ok_aload_n (by decide +kernel)
theorem dX7_readsLose_35 : decode cX7_readsLose 35 = .ok (.iconst 0, 1) := ok_iconst (by decide +kernel)
theorem dX7_readsLose_36 : decode cX7_readsLose 36 = .ok (.bipush 9, 2) := ok_bipush (by decide +kernel)
theorem dX7_readsLose_38 : decode cX7_readsLose 38 = .ok (.invokevirtual 311, 3) := ok_invokevirtual (by decide +kernel)
theorem dX7_readsLose_41 : decode cX7_readsLose 41 = .ok (.ireturn, 1) := ok_ireturn (by decide +kernel)
theorem dX7_readsPart_0 : decode cX7_readsPart 0 = .ok (.aload_n 0, 1) := ok_aload_n (by decide +kernel)
theorem dX7_readsPart_1 : decode cX7_readsPart 1 = .ok (.ldc_w 320, 3) := ok_ldc_w (by decide +kernel)
theorem dX7_readsPart_4 : decode cX7_readsPart 4 = .ok (.invokevirtual 279, 3) := ok_invokevirtual (by decide +kernel)
theorem dX7_readsPart_7 : decode cX7_readsPart 7 = .ok (.ifCond .eq 8, 3) := ok_ifCond (by decide +kernel)
theorem dX7_readsPart_10 : decode cX7_readsPart 10 = .ok (.aload_n 0, 1) := ok_aload_n (by decide +kernel)
theorem dX7_readsPart_11 : decode cX7_readsPart 11 = .ok (.invokevirtual 322, 3) := ok_invokevirtual (by decide +kernel)
theorem dX7_readsPart_14 : decode cX7_readsPart 14 = .ok (.ireturn, 1) := ok_ireturn (by decide +kernel)
theorem dX7_readsPart_15 : decode cX7_readsPart 15 = .ok (.aload_n 0, 1) := ok_aload_n (by decide +kernel)
theorem dX7_readsPart_16 : decode cX7_readsPart 16 = .ok (.ldc_w 325, 3) := ok_ldc_w (by decide +kernel)
theorem dX7_readsPart_19 : decode cX7_readsPart 19 = .ok (.invokevirtual 279, 3) := ok_invokevirtual (by decide +kernel)
theorem dX7_readsPart_22 : decode cX7_readsPart 22 = .ok (.ifCond .ne 33, 3) := ok_ifCond (by decide +kernel)
theorem dX7_readsPart_25 : decode cX7_readsPart 25 = .ok (.aload_n 0, 1) := ok_aload_n (by decide +kernel)
theorem dX7_readsPart_26 : decode cX7_readsPart 26 = .ok (.ldc_w 326, 3) := ok_ldc_w (by decide +kernel)
theorem dX7_readsPart_29 : decode cX7_readsPart 29 = .ok (.invokevirtual 279, 3) := ok_invokevirtual (by decide +kernel)
theorem dX7_readsPart_32 : decode cX7_readsPart 32 = .ok (.ifCond .ne 23, 3) := ok_ifCond (by decide +kernel)
theorem dX7_readsPart_35 : decode cX7_readsPart 35 = .ok (.aload_n 0, 1) := ok_aload_n (by decide +kernel)
theorem dX7_readsPart_36 : decode cX7_readsPart 36 = .ok (.ldc_w 328, 3) := ok_ldc_w (by decide +kernel)
theorem dX7_readsPart_39 : decode cX7_readsPart 39 = .ok (.invokevirtual 279, 3) := ok_invokevirtual (by decide +kernel)
theorem dX7_readsPart_42 : decode cX7_readsPart 42 = .ok (.ifCond .ne 13, 3) := ok_ifCond (by decide +kernel)
theorem dX7_readsPart_45 : decode cX7_readsPart 45 = .ok (.aload_n 0, 1) := ok_aload_n (by decide +kernel)
theorem dX7_readsPart_46 : decode cX7_readsPart 46 = .ok (.ldc_w 330, 3) := ok_ldc_w (by decide +kernel)
theorem dX7_readsPart_49 : decode cX7_readsPart 49 = .ok (.invokevirtual 279, 3) := ok_invokevirtual (by decide +kernel)
theorem dX7_readsPart_52 : decode cX7_readsPart 52 = .ok (.ifCond .eq 7, 3) := ok_ifCond (by decide +kernel)
theorem dX7_readsPart_55 : decode cX7_readsPart 55 = .ok (.iconst 1, 1) := ok_iconst (by decide +kernel)
theorem dX7_readsPart_56 : decode cX7_readsPart 56 = .ok (.goto 4, 3) := ok_goto (by decide +kernel)
theorem dX7_readsPart_59 : decode cX7_readsPart 59 = .ok (.iconst 0, 1) := ok_iconst (by decide +kernel)
theorem dX7_readsPart_60 : decode cX7_readsPart 60 = .ok (.istore_n 1, 1) := ok_istore_n (by decide +kernel)
theorem dX7_readsPart_61 : decode cX7_readsPart 61 = .ok (.iload_n 1, 1) := ok_iload_n (by decide +kernel)
theorem dX7_readsPart_62 : decode cX7_readsPart 62 = .ok (.ifCond .ne 13, 3) := ok_ifCond (by decide +kernel)
theorem dX7_readsPart_65 : decode cX7_readsPart 65 = .ok (.aload_n 0, 1) := ok_aload_n (by decide +kernel)
theorem dX7_readsPart_66 : decode cX7_readsPart 66 = .ok (.iconst 1, 1) := ok_iconst (by decide +kernel)
theorem dX7_readsPart_67 : decode cX7_readsPart 67 = .ok (.aload_n 0, 1) := ok_aload_n (by decide +kernel)
theorem dX7_readsPart_68 : decode cX7_readsPart 68 = .ok (.getfield 254, 3) := ok_getfield (by decide +kernel)
theorem dX7_readsPart_71 : decode cX7_readsPart 71 = .ok (.invokevirtual 286, 3) := ok_invokevirtual (by decide +kernel)
theorem dX7_readsPart_74 : decode cX7_readsPart 74 = .ok (.ireturn, 1) := ok_ireturn (by decide +kernel)
theorem dX7_readsPart_75 : decode cX7_readsPart 75 = .ok (.aload_n 0, 1) := ok_aload_n (by decide +kernel)
theorem dX7_readsPart_76 : decode cX7_readsPart 76 = .ok (.invokevirtual 50, 3) := ok_invokevirtual (by decide +kernel)
theorem dX7_readsPart_79 : decode cX7_readsPart 79 = .ok (.ifCond .ne 13, 3) := ok_ifCond (by decide +kernel)
theorem dX7_readsPart_82 : decode cX7_readsPart 82 = .ok (.aload_n 0, 1) := ok_aload_n (by decide +kernel)
theorem dX7_readsPart_83 : decode cX7_readsPart 83 = .ok (.iconst 3, 1) := ok_iconst (by decide +kernel)
theorem dX7_readsPart_84 : decode cX7_readsPart 84 = .ok (.aload_n 0, 1) := ok_aload_n (by decide +kernel)
theorem dX7_readsPart_85 : decode cX7_readsPart 85 = .ok (.getfield 254, 3) := ok_getfield (by decide +kernel)
theorem dX7_readsPart_88 : decode cX7_readsPart 88 = .ok (.invokevirtual 286, 3) := ok_invokevirtual (by decide +kernel)
theorem dX7_readsPart_91 : decode cX7_readsPart 91 = .ok (.ireturn, 1) := ok_ireturn (by decide +kernel)
theorem dX7_readsPart_92 : decode cX7_readsPart 92 = .ok (.aload_n 0, 1) := ok_aload_n (by decide +kernel)
theorem dX7_readsPart_93 : decode cX7_readsPart 93 = .ok (.ldc_w 325, 3) := ok_ldc_w (by decide +kernel)
theorem dX7_readsPart_96 : decode cX7_readsPart 96 = .ok (.invokevirtual 279, 3) := ok_invokevirtual (by decide +kernel)
theorem dX7_readsPart_99 : decode cX7_readsPart 99 = .ok (.ifCond .eq 8, 3) := ok_ifCond (by decide +kernel)
theorem dX7_readsPart_102 : decode cX7_readsPart 102 = .ok (.aload_n 0, 1) := ok_aload_n (by decide +kernel)
theorem dX7_readsPart_103 : decode cX7_readsPart 103 = .ok (.invokevirtual 332, 3) := ok_invokevirtual (by decide +kernel)
theorem dX7_readsPart_106 : decode cX7_readsPart 106 = .ok (.ireturn, 1) := ok_ireturn (by decide +kernel)
theorem dX7_readsPart_107 : decode cX7_readsPart 107 = .ok (.aload_n 0, 1) := ok_aload_n (by decide +kernel)
theorem dX7_readsPart_108 : decode cX7_readsPart 108 = .ok (.ldc_w 326, 3) := ok_ldc_w (by decide +kernel)
theorem dX7_readsPart_111 : decode cX7_readsPart 111 = .ok (.invokevirtual 279, 3) := ok_invokevirtual (by decide +kernel)
theorem dX7_readsPart_114 : decode cX7_readsPart 114 = .ok (.ifCond .eq 8, 3) := ok_ifCond (by decide +kernel)
theorem dX7_readsPart_117 : decode cX7_readsPart 117 = .ok (.aload_n 0, 1) := ok_aload_n (by decide +kernel)
theorem dX7_readsPart_118 : decode cX7_readsPart 118 = .ok (.invokevirtual 335, 3) := ok_invokevirtual (by decide +kernel)
theorem dX7_readsPart_121 : decode cX7_readsPart 121 = .ok (.ireturn, 1) := ok_ireturn (by decide +kernel)
theorem dX7_readsPart_122 : decode cX7_readsPart 122 = .ok (.aload_n 0, 1) := ok_aload_n (by decide +kernel)
theorem dX7_readsPart_123 : decode cX7_readsPart 123 = .ok (.ldc_w 328, 3) := ok_ldc_w (by decide +kernel)
theorem dX7_readsPart_126 : decode cX7_readsPart 126 = .ok (.invokevirtual 279, 3) := ok_invokevirtual (by decide +kernel)
theorem dX7_readsPart_129 : decode cX7_readsPart 129 = .ok (.ifCond .eq 8, 3) := ok_ifCond (by decide +kernel)
theorem dX7_readsPart_132 : decode cX7_readsPart 132 = .ok (.aload_n 0, 1) := ok_aload_n (by decide +kernel)
theorem dX7_readsPart_133 : decode cX7_readsPart 133 = .ok (.invokevirtual 338, 3) := ok_invokevirtual (by decide +kernel)
theorem dX7_readsPart_136 : decode cX7_readsPart 136 = .ok (.ireturn, 1) := ok_ireturn (by decide +kernel)
theorem dX7_readsPart_137 : decode cX7_readsPart 137 = .ok (.aload_n 0, 1) := ok_aload_n (by decide +kernel)
theorem dX7_readsPart_138 : decode cX7_readsPart 138 = .ok (.invokevirtual 341, 3) := ok_invokevirtual (by decide +kernel)
theorem dX7_readsPart_141 : decode cX7_readsPart 141 = .ok (.ifCond .ne 5, 3) := ok_ifCond (by decide +kernel)
theorem dX7_readsPart_144 : decode cX7_readsPart 144 = .ok (.iconst 0, 1) := ok_iconst (by decide +kernel)
theorem dX7_readsPart_145 : decode cX7_readsPart 145 = .ok (.ireturn, 1) := ok_ireturn (by decide +kernel)
theorem dX7_readsPart_146 : decode cX7_readsPart 146 = .ok (.aload_n 0, 1) := ok_aload_n (by decide +kernel)
theorem dX7_readsPart_147 : decode cX7_readsPart 147 = .ok (.aload_n 0, 1) := ok_aload_n (by decide +kernel)
theorem dX7_readsPart_148 : decode cX7_readsPart 148 = .ok (.getfield 317, 3) := ok_getfield (by decide +kernel)
theorem dX7_readsPart_151 : decode cX7_readsPart 151 = .ok (.iconst 4, 1) := ok_iconst (by decide +kernel)
theorem dX7_readsPart_152 : decode cX7_readsPart 152 = .ok (.aload_n 0, 1) := ok_aload_n (by decide +kernel)
theorem dX7_readsPart_153 : decode cX7_readsPart 153 = .ok (.getfield 299, 3) := ok_getfield (by decide +kernel)
theorem dX7_readsPart_156 : decode cX7_readsPart 156 = .ok (.i2l, 1) := ok_i2l (by decide +kernel)
theorem dX7_readsPart_157 : decode cX7_readsPart 157 = .ok (.invokevirtual 78, 3) := ok_invokevirtual (by decide +kernel)
theorem dX7_readsPart_160 : decode cX7_readsPart 160 = .ok (.iconst 1, 1) := ok_iconst (by decide +kernel)
theorem dX7_readsPart_161 : decode cX7_readsPart 161 = .ok (.ireturn, 1) := ok_ireturn (by decide +kernel)
theorem dX7_readsBoard_0 : decode cX7_readsBoard 0 = .ok (.aload_n 0, 1) := ok_aload_n (by decide +kernel)
theorem dX7_readsBoard_1 : decode cX7_readsBoard 1 = .ok (.iconst 0, 1) := ok_iconst (by decide +kernel)
theorem dX7_readsBoard_2 : decode cX7_readsBoard 2 = .ok (.putfield 254, 3) := ok_putfield (by decide +kernel)
theorem dX7_readsBoard_5 : decode cX7_readsBoard 5 = .ok (.aload_n 0, 1) := ok_aload_n (by decide +kernel)
theorem dX7_readsBoard_6 : decode cX7_readsBoard 6 = .ok (.ldc_w 344, 3) := ok_ldc_w (by decide +kernel)
theorem dX7_readsBoard_9 : decode cX7_readsBoard 9 = .ok (.invokevirtual 346, 3) := ok_invokevirtual (by decide +kernel)
theorem dX7_readsBoard_12 : decode cX7_readsBoard 12 = .ok (.ifCond .eq 13, 3) := ok_ifCond (by decide +kernel)
theorem dX7_readsBoard_15 : decode cX7_readsBoard 15 = .ok (.aload_n 0, 1) := ok_aload_n (by decide +kernel)
theorem dX7_readsBoard_16 : decode cX7_readsBoard 16 = .ok (.iconst 1, 1) := ok_iconst (by decide +kernel)
theorem dX7_readsBoard_17 : decode cX7_readsBoard 17 = .ok (.bipush 6, 2) := ok_bipush (by decide +kernel)
theorem dX7_readsBoard_19 : decode cX7_readsBoard 19 = .ok (.invokevirtual 311, 3) := ok_invokevirtual (by decide +kernel)
theorem dX7_readsBoard_22 : decode cX7_readsBoard 22 = .ok (.ifCond .ne 5, 3) := ok_ifCond (by decide +kernel)
theorem dX7_readsBoard_25 : decode cX7_readsBoard 25 = .ok (.iconst 0, 1) := ok_iconst (by decide +kernel)
theorem dX7_readsBoard_26 : decode cX7_readsBoard 26 = .ok (.ireturn, 1) := ok_ireturn (by decide +kernel)
theorem dX7_readsBoard_27 : decode cX7_readsBoard 27 = .ok (.aload_n 0, 1) := ok_aload_n (by decide +kernel)
theorem dX7_readsBoard_28 : decode cX7_readsBoard 28 = .ok (.getfield 7, 3) := ok_getfield (by decide +kernel)
theorem dX7_readsBoard_31 : decode cX7_readsBoard 31 = .ok (.iconst 0, 1) := ok_iconst (by decide +kernel)
theorem dX7_readsBoard_32 : decode cX7_readsBoard 32 = .ok (.aload_n 0, 1) := ok_aload_n (by decide +kernel)
theorem dX7_readsBoard_33 : decode cX7_readsBoard 33 = .ok (.getfield 299, 3) := ok_getfield (by decide +kernel)
theorem dX7_readsBoard_36 : decode cX7_readsBoard 36 = .ok (.i2l, 1) := ok_i2l (by decide +kernel)
theorem dX7_readsBoard_37 : decode cX7_readsBoard 37 = .ok (.lastore, 1) := ok_lastore (by decide +kernel)
theorem dX7_readsBoard_38 : decode cX7_readsBoard 38 = .ok (.aload_n 0, 1) := ok_aload_n (by decide +kernel)
theorem dX7_readsBoard_39 : decode cX7_readsBoard 39 = .ok (.iconst 1, 1) := ok_iconst (by decide +kernel)
theorem dX7_readsBoard_40 : decode cX7_readsBoard 40 = .ok (.bipush 40, 2) := ok_bipush (by decide +kernel)
theorem dX7_readsBoard_42 : decode cX7_readsBoard 42 = .ok (.aload_n 0, 1) := ok_aload_n (by decide +kernel)
theorem dX7_readsBoard_43 : decode cX7_readsBoard 43 = .ok (.invokevirtual 43, 3) := ok_invokevirtual (by decide +kernel)
theorem dX7_readsBoard_46 : decode cX7_readsBoard 46 = .ok (.idiv, 1) := by decide +kernel
theorem dX7_readsBoard_47 : decode cX7_readsBoard 47 = .ok (.bipush 10, 2) := ok_bipush (by decide +kernel)
theorem dX7_readsBoard_49 : decode cX7_readsBoard 49 = .ok (.if_icmp .ge 13, 3) := ok_if_icmp (by decide +kernel)
theorem dX7_readsBoard_52 : decode cX7_readsBoard 52 = .ok (.bipush 40, 2) := ok_bipush (by decide +kernel)
theorem dX7_readsBoard_54 : decode cX7_readsBoard 54 = .ok (.aload_n 0, 1) := ok_aload_n (by decide +kernel)
theorem dX7_readsBoard_55 : decode cX7_readsBoard 55 = .ok (.invokevirtual 43, 3) := ok_invokevirtual (by decide +kernel)
theorem dX7_readsBoard_58 : decode cX7_readsBoard 58 = .ok (.idiv, 1) := by decide +kernel
theorem dX7_readsBoard_59 : decode cX7_readsBoard 59 = .ok (.goto 5, 3) := ok_goto (by decide +kernel)
theorem dX7_readsBoard_62 : decode cX7_readsBoard 62 = .ok (.bipush 10, 2) := ok_bipush (by decide +kernel)
theorem dX7_readsBoard_64 : decode cX7_readsBoard 64 = .ok (.invokevirtual 311, 3) := ok_invokevirtual (by decide +kernel)
theorem dX7_readsBoard_67 : decode cX7_readsBoard 67 = .ok (.ifCond .ne 5, 3) := ok_ifCond (by decide +kernel)
theorem dX7_readsBoard_70 : decode cX7_readsBoard 70 = .ok (.iconst 0, 1) := ok_iconst (by decide +kernel)
theorem dX7_readsBoard_71 : decode cX7_readsBoard 71 = .ok (.ireturn, 1) := ok_ireturn (by decide +kernel)
theorem dX7_readsBoard_72 : decode cX7_readsBoard 72 = .ok (.aload_n 0, 1) := ok_aload_n (by decide +kernel)
theorem dX7_readsBoard_73 : decode cX7_readsBoard 73 = .ok (.getfield 7, 3) := ok_getfield (by decide +kernel)
theorem dX7_readsBoard_76 : decode cX7_readsBoard 76 = .ok (.iconst 1, 1) := ok_iconst (by decide +kernel)
theorem dX7_readsBoard_77 : decode cX7_readsBoard 77 = .ok (.aload_n 0, 1) := ok_aload_n (by decide +kernel)
theorem dX7_readsBoard_78 : decode cX7_readsBoard 78 = .ok (.getfield 299, 3) := ok_getfield (by decide +kernel)
theorem dX7_readsBoard_81 : decode cX7_readsBoard 81 = .ok (.i2l, 1) := ok_i2l (by decide +kernel)
theorem dX7_readsBoard_82 : decode cX7_readsBoard 82 = .ok (.lastore, 1) := ok_lastore (by decide +kernel)
theorem dX7_readsBoard_83 : decode cX7_readsBoard 83 = .ok (.aload_n 0, 1) := ok_aload_n (by decide +kernel)
theorem dX7_readsBoard_84 : decode cX7_readsBoard 84 = .ok (.ldc_w 349, 3) := ok_ldc_w (by decide +kernel)
theorem dX7_readsBoard_87 : decode cX7_readsBoard 87 = .ok (.invokevirtual 346, 3) := ok_invokevirtual (by decide +kernel)
theorem dX7_readsBoard_90 : decode cX7_readsBoard 90 = .ok (.ifCond .eq 13, 3) := ok_ifCond (by decide +kernel)
theorem dX7_readsBoard_93 : decode cX7_readsBoard 93 = .ok (.aload_n 0, 1) := ok_aload_n (by decide +kernel)
theorem dX7_readsBoard_94 : decode cX7_readsBoard 94 = .ok (.iconst 1, 1) := ok_iconst (by decide +kernel)
theorem dX7_readsBoard_95 : decode cX7_readsBoard 95 = .ok (.bipush 99, 2) := ok_bipush (by decide +kernel)
theorem dX7_readsBoard_97 : decode cX7_readsBoard 97 = .ok (.invokevirtual 311, 3) := ok_invokevirtual (by decide +kernel)
theorem dX7_readsBoard_100 : decode cX7_readsBoard 100 = .ok (.ifCond .ne 5, 3) := ok_ifCond (by decide +kernel)
theorem dX7_readsBoard_103 : decode cX7_readsBoard 103 = .ok (.iconst 0, 1) := ok_iconst (by decide +kernel)
theorem dX7_readsBoard_104 : decode cX7_readsBoard 104 = .ok (.ireturn, 1) := ok_ireturn (by decide +kernel)
theorem dX7_readsBoard_105 : decode cX7_readsBoard 105 = .ok (.aload_n 0, 1) := ok_aload_n (by decide +kernel)
theorem dX7_readsBoard_106 : decode cX7_readsBoard 106 = .ok (.getfield 7, 3) := ok_getfield (by decide +kernel)
theorem dX7_readsBoard_109 : decode cX7_readsBoard 109 = .ok (.iconst 2, 1) := ok_iconst (by decide +kernel)
theorem dX7_readsBoard_110 : decode cX7_readsBoard 110 = .ok (.aload_n 0, 1) := ok_aload_n (by decide +kernel)
theorem dX7_readsBoard_111 : decode cX7_readsBoard 111 = .ok (.getfield 299, 3) := ok_getfield (by decide +kernel)
theorem dX7_readsBoard_114 : decode cX7_readsBoard 114 = .ok (.i2l, 1) := ok_i2l (by decide +kernel)
theorem dX7_readsBoard_115 : decode cX7_readsBoard 115 = .ok (.lastore, 1) := ok_lastore (by decide +kernel)
theorem dX7_readsBoard_116 : decode cX7_readsBoard 116 = .ok (.aload_n 0, 1) := ok_aload_n (by decide +kernel)
theorem dX7_readsBoard_117 : decode cX7_readsBoard 117 = .ok (.invokevirtual 263, 3) := ok_invokevirtual (by decide +kernel)
theorem dX7_readsBoard_120 : decode cX7_readsBoard 120 = .ok (.bipush 59, 2) := ok_bipush (by decide +kernel)
theorem dX7_readsBoard_122 : decode cX7_readsBoard 122 = .ok (.if_icmp .ne 27, 3) := ok_if_icmp (by decide +kernel)
theorem dX7_readsBoard_125 : decode cX7_readsBoard 125 = .ok (.aload_n 0, 1) := ok_aload_n (by decide +kernel)
theorem dX7_readsBoard_126 : decode cX7_readsBoard 126 = .ok (.dup, 1) := ok_dup (by decide +kernel)
theorem dX7_readsBoard_127 : decode cX7_readsBoard 127 = .ok (.getfield 254, 3) := ok_getfield (by decide +kernel)
theorem dX7_readsBoard_130 : decode cX7_readsBoard 130 = .ok (.iconst 1, 1) := ok_iconst (by decide +kernel)
theorem dX7_readsBoard_131 : decode cX7_readsBoard 131 = .ok (.iadd, 1) := ok_iadd (by decide +kernel)
theorem dX7_readsBoard_132 : decode cX7_readsBoard 132 = .ok (.putfield 254, 3) := ok_putfield (by decide +kernel)
theorem dX7_readsBoard_135 : decode cX7_readsBoard 135 = .ok (.aload_n 0, 1) := ok_aload_n (by decide +kernel)
theorem dX7_readsBoard_136 : decode cX7_readsBoard 136 = .ok (.invokevirtual 263, 3) := ok_invokevirtual (by decide +kernel)
theorem dX7_readsBoard_139 : decode cX7_readsBoard 139 = .ok (.pop, 1) := ok_pop (by decide +kernel)
theorem dX7_readsBoard_140 : decode cX7_readsBoard 140 = .ok (.aload_n 0, 1) := ok_aload_n (by decide +kernel)
theorem dX7_readsBoard_141 : decode cX7_readsBoard 141 = .ok (.invokevirtual 351, 3) := ok_invokevirtual (by decide +kernel)
theorem dX7_readsBoard_144 : decode cX7_readsBoard 144 = .ok (.ifCond .ne (-28), 3) := ok_ifCond (by decide +kernel)
theorem dX7_readsBoard_147 : decode cX7_readsBoard 147 = .ok (.iconst 0, 1) := ok_iconst (by decide +kernel)
theorem dX7_readsBoard_148 : decode cX7_readsBoard 148 = .ok (.ireturn, 1) := ok_ireturn (by decide +kernel)
theorem dX7_readsBoard_149 : decode cX7_readsBoard 149 = .ok (.aload_n 0, 1) := ok_aload_n (by decide +kernel)
theorem dX7_readsBoard_150 : decode cX7_readsBoard 150 = .ok (.invokevirtual 263, 3) := ok_invokevirtual (by decide +kernel)
theorem dX7_readsBoard_153 : decode cX7_readsBoard 153 = .ok (.iconst (-1), 1) := ok_iconst (by decide +kernel)
theorem dX7_readsBoard_154 : decode cX7_readsBoard 154 = .ok (.if_icmp .eq 13, 3) := ok_if_icmp (by decide +kernel)
theorem dX7_readsBoard_157 : decode cX7_readsBoard 157 = .ok (.aload_n 0, 1) := ok_aload_n (by decide +kernel)
theorem dX7_readsBoard_158 : decode cX7_readsBoard 158 = .ok (.iconst 1, 1) := ok_iconst (by decide +kernel)
theorem dX7_readsBoard_159 : decode cX7_readsBoard 159 = .ok (.aload_n 0, 1) := ok_aload_n (by decide +kernel)
theorem dX7_readsBoard_160 : decode cX7_readsBoard 160 = .ok (.getfield 254, 3) := ok_getfield (by decide +kernel)
theorem dX7_readsBoard_163 : decode cX7_readsBoard 163 = .ok (.invokevirtual 286, 3) := ok_invokevirtual (by decide +kernel)
theorem dX7_readsBoard_166 : decode cX7_readsBoard 166 = .ok (.ireturn, 1) := ok_ireturn (by decide +kernel)
theorem dX7_readsBoard_167 : decode cX7_readsBoard 167 = .ok (.aload_n 0, 1) := ok_aload_n (by decide +kernel)
theorem dX7_readsBoard_168 : decode cX7_readsBoard 168 = .ok (.invokevirtual 50, 3) := ok_invokevirtual (by decide +kernel)
theorem dX7_readsBoard_171 : decode cX7_readsBoard 171 = .ok (.ifCond .gt 15, 3) := ok_ifCond (by decide +kernel)
theorem dX7_readsBoard_174 : decode cX7_readsBoard 174 = .ok (.aload_n 0, 1) := ok_aload_n (by decide +kernel)
theorem dX7_readsBoard_175 : decode cX7_readsBoard 175 = .ok (.iconst 4, 1) := ok_iconst (by decide +kernel)
theorem dX7_readsBoard_176 : decode cX7_readsBoard 176 = .ok (.aload_n 0, 1) := ok_aload_n (by decide +kernel)
theorem dX7_readsBoard_177 : decode cX7_readsBoard 177 = .ok (.getfield 135, 3) := ok_getfield (by decide +kernel)
theorem dX7_readsBoard_180 : decode cX7_readsBoard 180 = .ok (.invokevirtual 286, 3) := ok_invokevirtual (by decide +kernel)
theorem dX7_readsBoard_183 : decode cX7_readsBoard 183 = .ok (.ifCond .eq 7, 3) := ok_ifCond (by decide +kernel)
theorem dX7_readsBoard_186 : decode cX7_readsBoard 186 = .ok (.iconst 1, 1) := ok_iconst (by decide +kernel)
theorem dX7_readsBoard_187 : decode cX7_readsBoard 187 = .ok (.goto 4, 3) := ok_goto (by decide +kernel)
theorem dX7_readsBoard_190 : decode cX7_readsBoard 190 = .ok (.iconst 0, 1) := ok_iconst (by decide +kernel)
theorem dX7_readsBoard_191 : decode cX7_readsBoard 191 = .ok (.ireturn, 1) := ok_ireturn (by decide +kernel)
theorem dX7_tell_0 : decode cX7_tell 0 = .ok (.aload_n 0, 1) := ok_aload_n (by decide +kernel)
theorem dX7_tell_1 : decode cX7_tell 1 = .ok (.invokevirtual 210, 3) := ok_invokevirtual (by decide +kernel)
theorem dX7_tell_4 : decode cX7_tell 4 = .ok (.iconst 0, 1) := ok_iconst (by decide +kernel)
theorem dX7_tell_5 : decode cX7_tell 5 = .ok (.istore_n 1, 1) := ok_istore_n (by decide +kernel)
theorem dX7_tell_6 : decode cX7_tell 6 = .ok (.iload_n 1, 1) := ok_iload_n (by decide +kernel)
theorem dX7_tell_7 : decode cX7_tell 7 = .ok (.sipush 6896, 3) := ok_sipush (by decide +kernel)
theorem dX7_tell_10 : decode cX7_tell 10 = .ok (.if_icmp .ge 16, 3) := ok_if_icmp (by decide +kernel)
theorem dX7_tell_13 : decode cX7_tell 13 = .ok (.aload_n 0, 1) := ok_aload_n (by decide +kernel)
theorem dX7_tell_14 : decode cX7_tell 14 = .ok (.getfield 7, 3) := ok_getfield (by decide +kernel)
theorem dX7_tell_17 : decode cX7_tell 17 = .ok (.iload_n 1, 1) := ok_iload_n (by decide +kernel)
theorem dX7_tell_18 : decode cX7_tell 18 = .ok (.lconst 0, 1) := ok_lconst (by decide +kernel)
theorem dX7_tell_19 : decode cX7_tell 19 = .ok (.lastore, 1) := ok_lastore (by decide +kernel)
theorem dX7_tell_20 : decode cX7_tell 20 = .ok (.iinc 1 1, 3) := ok_iinc (by decide +kernel)
theorem dX7_tell_23 : decode cX7_tell 23 = .ok (.goto (-17), 3) := ok_goto (by decide +kernel)
theorem dX7_tell_26 : decode cX7_tell 26 = .ok (.aload_n 0, 1) := ok_aload_n (by decide +kernel)
theorem dX7_tell_27 : decode cX7_tell 27 = .ok (.invokevirtual 354, 3) := ok_invokevirtual (by decide +kernel)
theorem dX7_tell_30 : decode cX7_tell 30 = .ok (.istore_n 1, 1) := ok_istore_n (by decide +kernel)
theorem dX7_tell_31 : decode cX7_tell 31 = .ok (.aload_n 0, 1) := ok_aload_n (by decide +kernel)
theorem dX7_tell_32 : decode cX7_tell 32 = .ok (.iconst 0, 1) := ok_iconst (by decide +kernel)
theorem dX7_tell_33 : decode cX7_tell 33 = .ok (.putfield 135, 3) := ok_putfield (by decide +kernel)
theorem dX7_tell_36 : decode cX7_tell 36 = .ok (.iload_n 1, 1) := ok_iload_n (by decide +kernel)
theorem dX7_tell_37 : decode cX7_tell 37 = .ok (.ifCond .ne 15, 3) := ok_ifCond (by decide +kernel)
theorem dX7_tell_40 : decode cX7_tell 40 = .ok (.aload_n 0, 1) := ok_aload_n (by decide +kernel)

theorem dX7_tell_41 : decode cX7_tell 41 = .ok (.invokevirtual 216, 3) := ok_invokevirtual (by decide +kernel)
theorem dX7_tell_44 : decode cX7_tell 44 = .ok (.bipush (-2), 2) := ok_bipush (by decide +kernel)
theorem dX7_tell_46 : decode cX7_tell 46 = .ok (.aload_n 0, 1) := ok_aload_n (by decide +kernel)
theorem dX7_tell_47 : decode cX7_tell 47 = .ok (.getfield 260, 3) := ok_getfield (by decide +kernel)
theorem dX7_tell_50 : decode cX7_tell 50 = .ok (.isub, 1) := ok_isub (by decide +kernel)
theorem dX7_tell_51 : decode cX7_tell 51 = .ok (.ireturn, 1) := ok_ireturn (by decide +kernel)
theorem dX7_tell_52 : decode cX7_tell 52 = .ok (.aload_n 0, 1) := ok_aload_n (by decide +kernel)
theorem dX7_tell_53 : decode cX7_tell 53 = .ok (.iconst 0, 1) := ok_iconst (by decide +kernel)
theorem dX7_tell_54 : decode cX7_tell 54 = .ok (.putfield 124, 3) := ok_putfield (by decide +kernel)
theorem dX7_tell_57 : decode cX7_tell 57 = .ok (.aload_n 0, 1) := ok_aload_n (by decide +kernel)
theorem dX7_tell_58 : decode cX7_tell 58 = .ok (.invokevirtual 50, 3) := ok_invokevirtual (by decide +kernel)
theorem dX7_tell_61 : decode cX7_tell 61 = .ok (.ireturn, 1) := ok_ireturn (by decide +kernel)
theorem dX7_isDone_0 : decode cX7_isDone 0 = .ok (.iload_n 1, 1) := ok_iload_n (by decide +kernel)
theorem dX7_isDone_1 : decode cX7_isDone 1 = .ok (.ifCond .eq 13, 3) := ok_ifCond (by decide +kernel)
theorem dX7_isDone_4 : decode cX7_isDone 4 = .ok (.aload_n 0, 1) := ok_aload_n (by decide +kernel)
theorem dX7_isDone_5 : decode cX7_isDone 5 = .ok (.getfield 357, 3) := ok_getfield (by decide +kernel)
theorem dX7_isDone_8 : decode cX7_isDone 8 = .ok (.sipush 200, 3) := ok_sipush (by decide +kernel)
theorem dX7_isDone_11 : decode cX7_isDone 11 = .ok (.if_icmp .ne 5, 3) := ok_if_icmp (by decide +kernel)
theorem dX7_isDone_14 : decode cX7_isDone 14 = .ok (.iconst 0, 1) := ok_iconst (by decide +kernel)
theorem dX7_isDone_15 : decode cX7_isDone 15 = .ok (.ireturn, 1) := ok_ireturn (by decide +kernel)
theorem dX7_isDone_16 : decode cX7_isDone 16 = .ok (.aload_n 0, 1) := ok_aload_n (by decide +kernel)
theorem dX7_isDone_17 : decode cX7_isDone 17 = .ok (.dup, 1) := ok_dup (by decide +kernel)
theorem dX7_isDone_18 : decode cX7_isDone 18 = .ok (.getfield 357, 3) := ok_getfield (by decide +kernel)
theorem dX7_isDone_21 : decode cX7_isDone 21 = .ok (.iconst 1, 1) := ok_iconst (by decide +kernel)
theorem dX7_isDone_22 : decode cX7_isDone 22 = .ok (.iadd, 1) := ok_iadd (by decide +kernel)
theorem dX7_isDone_23 : decode cX7_isDone 23 = .ok (.putfield 357, 3) := ok_putfield (by decide +kernel)
theorem dX7_isDone_26 : decode cX7_isDone 26 = .ok (.iconst 1, 1) := ok_iconst (by decide +kernel)
theorem dX7_isDone_27 : decode cX7_isDone 27 = .ok (.ireturn, 1) := ok_ireturn (by decide +kernel)
theorem dX7_goesRow_0 : decode cX7_goesRow 0 = .ok (.aload_n 0, 1) := ok_aload_n (by decide +kernel)
theorem dX7_goesRow_1 : decode cX7_goesRow 1 = .ok (.dup, 1) := ok_dup (by decide +kernel)
theorem dX7_goesRow_2 : decode cX7_goesRow 2 = .ok (.getfield 254, 3) := ok_getfield (by decide +kernel)
theorem dX7_goesRow_5 : decode cX7_goesRow 5 = .ok (.iconst 3, 1) := ok_iconst (by decide +kernel)
theorem dX7_goesRow_6 : decode cX7_goesRow 6 = .ok (.iadd, 1) := ok_iadd (by decide +kernel)
theorem dX7_goesRow_7 : decode cX7_goesRow 7 = .ok (.putfield 254, 3) := ok_putfield (by decide +kernel)
theorem dX7_goesRow_10 : decode cX7_goesRow 10 = .ok (.aload_n 0, 1) := ok_aload_n (by decide +kernel)
theorem dX7_goesRow_11 : decode cX7_goesRow 11 = .ok (.iconst 0, 1) := ok_iconst (by decide +kernel)
theorem dX7_goesRow_12 : decode cX7_goesRow 12 = .ok (.aload_n 0, 1) := ok_aload_n (by decide +kernel)
theorem dX7_goesRow_13 : decode cX7_goesRow 13 = .ok (.invokevirtual 43, 3) := ok_invokevirtual (by decide +kernel)
theorem dX7_goesRow_16 : decode cX7_goesRow 16 = .ok (.iconst 1, 1) := ok_iconst (by decide +kernel)
theorem dX7_goesRow_17 : decode cX7_goesRow 17 = .ok (.isub, 1) := ok_isub (by decide +kernel)
theorem dX7_goesRow_18 : decode cX7_goesRow 18 = .ok (.invokevirtual 311, 3) := ok_invokevirtual (by decide +kernel)
theorem dX7_goesRow_21 : decode cX7_goesRow 21 = .ok (.ifCond .ne 5, 3) := ok_ifCond (by decide +kernel)
theorem dX7_goesRow_24 : decode cX7_goesRow 24 = .ok (.iconst 0, 1) := ok_iconst (by decide +kernel)
theorem dX7_goesRow_25 : decode cX7_goesRow 25 = .ok (.ireturn, 1) := ok_ireturn (by decide +kernel)
theorem dX7_goesRow_26 : decode cX7_goesRow 26 = .ok (.aload_n 0, 1) := ok_aload_n (by decide +kernel)
theorem dX7_goesRow_27 : decode cX7_goesRow 27 = .ok (.getfield 299, 3) := ok_getfield (by decide +kernel)
theorem dX7_goesRow_30 : decode cX7_goesRow 30 = .ok (.istore_n 2, 1) := ok_istore_n (by decide +kernel)
theorem dX7_goesRow_31 : decode cX7_goesRow 31 = .ok (.aload_n 0, 1) := ok_aload_n (by decide +kernel)
theorem dX7_goesRow_32 : decode cX7_goesRow 32 = .ok (.iconst 0, 1) := ok_iconst (by decide +kernel)
theorem dX7_goesRow_33 : decode cX7_goesRow 33 = .ok (.aload_n 0, 1) := ok_aload_n (by decide +kernel)
theorem dX7_goesRow_34 : decode cX7_goesRow 34 = .ok (.invokevirtual 47, 3) := ok_invokevirtual (by decide +kernel)
theorem dX7_goesRow_37 : decode cX7_goesRow 37 = .ok (.invokevirtual 314, 3) := ok_invokevirtual (by decide +kernel)
theorem dX7_goesRow_40 : decode cX7_goesRow 40 = .ok (.ifCond .ne 5, 3) := ok_ifCond (by decide +kernel)
theorem dX7_goesRow_43 : decode cX7_goesRow 43 = .ok (.iconst 0, 1) := ok_iconst (by decide +kernel)
theorem dX7_goesRow_44 : decode cX7_goesRow 44 = .ok (.ireturn, 1) := ok_ireturn (by decide +kernel)
theorem dX7_goesRow_45 : decode cX7_goesRow 45 = .ok (.aload_n 0, 1) := ok_aload_n (by decide +kernel)
theorem dX7_goesRow_46 : decode cX7_goesRow 46 = .ok (.iload_n 1, 1) := ok_iload_n (by decide +kernel)
theorem dX7_goesRow_47 : decode cX7_goesRow 47 = .ok (.invokevirtual 360, 3) := ok_invokevirtual (by decide +kernel)
theorem dX7_goesRow_50 : decode cX7_goesRow 50 = .ok (.ifCond .eq 18, 3) := ok_ifCond (by decide +kernel)
theorem dX7_goesRow_53 : decode cX7_goesRow 53 = .ok (.aload_n 0, 1) := ok_aload_n (by decide +kernel)
theorem dX7_goesRow_54 : decode cX7_goesRow 54 = .ok (.iload_n 2, 1) := ok_iload_n (by decide +kernel)
theorem dX7_goesRow_55 : decode cX7_goesRow 55 = .ok (.aload_n 0, 1) := ok_aload_n (by decide +kernel)
theorem dX7_goesRow_56 : decode cX7_goesRow 56 = .ok (.getfield 305, 3) := ok_getfield (by decide +kernel)
theorem dX7_goesRow_59 : decode cX7_goesRow 59 = .ok (.aload_n 0, 1) := ok_aload_n (by decide +kernel)
theorem dX7_goesRow_60 : decode cX7_goesRow 60 = .ok (.getfield 308, 3) := ok_getfield (by decide +kernel)
theorem dX7_goesRow_63 : decode cX7_goesRow 63 = .ok (.iconst 1, 1) := ok_iconst (by decide +kernel)
theorem dX7_goesRow_64 : decode cX7_goesRow 64 = .ok (.invokevirtual 120, 3) := ok_invokevirtual (by decide +kernel)
theorem dX7_goesRow_67 : decode cX7_goesRow 67 = .ok (.istore_n 3, 1) := ok_istore_n (by decide +kernel)
theorem dX7_goesRow_68 : decode cX7_goesRow 68 = .ok (.iconst 1, 1) := ok_iconst (by decide +kernel)
theorem dX7_goesRow_69 : decode cX7_goesRow 69 = .ok (.ireturn, 1) := ok_ireturn (by decide +kernel)
theorem dX7_goesScroll_0 : decode cX7_goesScroll 0 = .ok (.aload_n 0, 1) := ok_aload_n (by decide +kernel)
theorem dX7_goesScroll_1 : decode cX7_goesScroll 1 = .ok (.dup, 1) := ok_dup (by decide +kernel)
theorem dX7_goesScroll_2 : decode cX7_goesScroll 2 = .ok (.getfield 254, 3) := ok_getfield (by decide +kernel)
theorem dX7_goesScroll_5 : decode cX7_goesScroll 5 = .ok (.bipush 6, 2) := ok_bipush (by decide +kernel)
theorem dX7_goesScroll_7 : decode cX7_goesScroll 7 = .ok (.iadd, 1) := ok_iadd (by decide +kernel)
theorem dX7_goesScroll_8 : decode cX7_goesScroll 8 = .ok (.putfield 254, 3) := ok_putfield (by decide +kernel)
theorem dX7_goesScroll_11 : decode cX7_goesScroll 11 = .ok (.aload_n 0, 1) := ok_aload_n (by decide +kernel)
theorem dX7_goesScroll_12 : decode cX7_goesScroll 12 = .ok (.iconst 0, 1) := ok_iconst (by decide +kernel)
theorem dX7_goesScroll_13 : decode cX7_goesScroll 13 = .ok (.aload_n 0, 1) := ok_aload_n (by decide +kernel)
theorem dX7_goesScroll_14 : decode cX7_goesScroll 14 = .ok (.invokevirtual 47, 3) := ok_invokevirtual (by decide +kernel)
theorem dX7_goesScroll_17 : decode cX7_goesScroll 17 = .ok (.invokevirtual 314, 3) := ok_invokevirtual (by decide +kernel)
theorem dX7_goesScroll_20 : decode cX7_goesScroll 20 = .ok (.ifCond .ne 5, 3) := ok_ifCond (by decide +kernel)
theorem dX7_goesScroll_23 : decode cX7_goesScroll 23 = .ok (.iconst 0, 1) := ok_iconst (by decide +kernel)
theorem dX7_goesScroll_24 : decode cX7_goesScroll 24 = .ok (.ireturn, 1) := ok_ireturn (by decide +kernel)
theorem dX7_goesScroll_25 : decode cX7_goesScroll 25 = .ok (.aload_n 0, 1) := ok_aload_n (by decide +kernel)
theorem dX7_goesScroll_26 : decode cX7_goesScroll 26 = .ok (.iload_n 1, 1) := ok_iload_n (by decide +kernel)
theorem dX7_goesScroll_27 : decode cX7_goesScroll 27 = .ok (.invokevirtual 360, 3) := ok_invokevirtual (by decide +kernel)
theorem dX7_goesScroll_30 : decode cX7_goesScroll 30 = .ok (.ifCond .eq 16, 3) := ok_ifCond (by decide +kernel)
theorem dX7_goesScroll_33 : decode cX7_goesScroll 33 = .ok (.aload_n 0, 1) := ok_aload_n (by decide +kernel)
theorem dX7_goesScroll_34 : decode cX7_goesScroll 34 = .ok (.aload_n 0, 1) := ok_aload_n (by decide +kernel)
theorem dX7_goesScroll_35 : decode cX7_goesScroll 35 = .ok (.getfield 305, 3) := ok_getfield (by decide +kernel)
theorem dX7_goesScroll_38 : decode cX7_goesScroll 38 = .ok (.aload_n 0, 1) := ok_aload_n (by decide +kernel)
theorem dX7_goesScroll_39 : decode cX7_goesScroll 39 = .ok (.getfield 308, 3) := ok_getfield (by decide +kernel)
theorem dX7_goesScroll_42 : decode cX7_goesScroll 42 = .ok (.invokevirtual 151, 3) := ok_invokevirtual (by decide +kernel)
theorem dX7_goesScroll_45 : decode cX7_goesScroll 45 = .ok (.istore_n 2, 1) := ok_istore_n (by decide +kernel)
theorem dX7_goesScroll_46 : decode cX7_goesScroll 46 = .ok (.iconst 1, 1) := ok_iconst (by decide +kernel)
theorem dX7_goesScroll_47 : decode cX7_goesScroll 47 = .ok (.ireturn, 1) := ok_ireturn (by decide +kernel)
theorem dX7_goesHome_0 : decode cX7_goesHome 0 = .ok (.aload_n 0, 1) := ok_aload_n (by decide +kernel)
theorem dX7_goesHome_1 : decode cX7_goesHome 1 = .ok (.dup, 1) := ok_dup (by decide +kernel)
theorem dX7_goesHome_2 : decode cX7_goesHome 2 = .ok (.getfield 254, 3) := ok_getfield (by decide +kernel)
theorem dX7_goesHome_5 : decode cX7_goesHome 5 = .ok (.iconst 4, 1) := ok_iconst (by decide +kernel)
theorem dX7_goesHome_6 : decode cX7_goesHome 6 = .ok (.iadd, 1) := ok_iadd (by decide +kernel)
theorem dX7_goesHome_7 : decode cX7_goesHome 7 = .ok (.putfield 254, 3) := ok_putfield (by decide +kernel)
theorem dX7_goesHome_10 : decode cX7_goesHome 10 = .ok (.aload_n 0, 1) := ok_aload_n (by decide +kernel)
theorem dX7_goesHome_11 : decode cX7_goesHome 11 = .ok (.iconst 0, 1) := ok_iconst (by decide +kernel)
theorem dX7_goesHome_12 : decode cX7_goesHome 12 = .ok (.aload_n 0, 1) := ok_aload_n (by decide +kernel)
theorem dX7_goesHome_13 : decode cX7_goesHome 13 = .ok (.invokevirtual 43, 3) := ok_invokevirtual (by decide +kernel)
theorem dX7_goesHome_16 : decode cX7_goesHome 16 = .ok (.iconst 1, 1) := ok_iconst (by decide +kernel)
theorem dX7_goesHome_17 : decode cX7_goesHome 17 = .ok (.isub, 1) := ok_isub (by decide +kernel)
theorem dX7_goesHome_18 : decode cX7_goesHome 18 = .ok (.invokevirtual 311, 3) := ok_invokevirtual (by decide +kernel)
theorem dX7_goesHome_21 : decode cX7_goesHome 21 = .ok (.ifCond .ne 5, 3) := ok_ifCond (by decide +kernel)
theorem dX7_goesHome_24 : decode cX7_goesHome 24 = .ok (.iconst 0, 1) := ok_iconst (by decide +kernel)
theorem dX7_goesHome_25 : decode cX7_goesHome 25 = .ok (.ireturn, 1) := ok_ireturn (by decide +kernel)
theorem dX7_goesHome_26 : decode cX7_goesHome 26 = .ok (.aload_n 0, 1) := ok_aload_n (by decide +kernel)
theorem dX7_goesHome_27 : decode cX7_goesHome 27 = .ok (.iload_n 1, 1) := ok_iload_n (by decide +kernel)
theorem dX7_goesHome_28 : decode cX7_goesHome 28 = .ok (.invokevirtual 360, 3) := ok_invokevirtual (by decide +kernel)
theorem dX7_goesHome_31 : decode cX7_goesHome 31 = .ok (.ifCond .ne 5, 3) := ok_ifCond (by decide +kernel)
theorem dX7_goesHome_34 : decode cX7_goesHome 34 = .ok (.iconst 1, 1) := ok_iconst (by decide +kernel)
theorem dX7_goesHome_35 : decode cX7_goesHome 35 = .ok (.ireturn, 1) := ok_ireturn (by decide +kernel)
theorem dX7_goesHome_36 : decode cX7_goesHome 36 = .ok (.iconst 0, 1) := ok_iconst (by decide +kernel)
theorem dX7_goesHome_37 : decode cX7_goesHome 37 = .ok (.istore_n 2, 1) := ok_istore_n (by decide +kernel)
theorem dX7_goesHome_38 : decode cX7_goesHome 38 = .ok (.iload_n 2, 1) := ok_iload_n (by decide +kernel)
theorem dX7_goesHome_39 : decode cX7_goesHome 39 = .ok (.aload_n 0, 1) := ok_aload_n (by decide +kernel)
theorem dX7_goesHome_40 : decode cX7_goesHome 40 = .ok (.invokevirtual 47, 3) := ok_invokevirtual (by decide +kernel)
theorem dX7_goesHome_43 : decode cX7_goesHome 43 = .ok (.if_icmp .ge 26, 3) := ok_if_icmp (by decide +kernel)
theorem dX7_goesHome_46 : decode cX7_goesHome 46 = .ok (.aload_n 0, 1) := ok_aload_n (by decide +kernel)
theorem dX7_goesHome_47 : decode cX7_goesHome 47 = .ok (.aload_n 0, 1) := ok_aload_n (by decide +kernel)
theorem dX7_goesHome_48 : decode cX7_goesHome 48 = .ok (.invokevirtual 47, 3) := ok_invokevirtual (by decide +kernel)
theorem dX7_goesHome_51 : decode cX7_goesHome 51 = .ok (.aload_n 0, 1) := ok_aload_n (by decide +kernel)
theorem dX7_goesHome_52 : decode cX7_goesHome 52 = .ok (.getfield 299, 3) := ok_getfield (by decide +kernel)
theorem dX7_goesHome_55 : decode cX7_goesHome 55 = .ok (.imul, 1) := ok_imul (by decide +kernel)
theorem dX7_goesHome_56 : decode cX7_goesHome 56 = .ok (.iload_n 2, 1) := ok_iload_n (by decide +kernel)
theorem dX7_goesHome_57 : decode cX7_goesHome 57 = .ok (.iadd, 1) := ok_iadd (by decide +kernel)
theorem dX7_goesHome_58 : decode cX7_goesHome 58 = .ok (.iconst 0, 1) := ok_iconst (by decide +kernel)
theorem dX7_goesHome_59 : decode cX7_goesHome 59 = .ok (.iconst 0, 1) := ok_iconst (by decide +kernel)
theorem dX7_goesHome_60 : decode cX7_goesHome 60 = .ok (.invokevirtual 116, 3) := ok_invokevirtual (by decide +kernel)
theorem dX7_goesHome_63 : decode cX7_goesHome 63 = .ok (.iinc 2 1, 3) := ok_iinc (by decide +kernel)
theorem dX7_goesHome_66 : decode cX7_goesHome 66 = .ok (.goto (-28), 3) := ok_goto (by decide +kernel)
theorem dX7_goesHome_69 : decode cX7_goesHome 69 = .ok (.iconst 1, 1) := ok_iconst (by decide +kernel)
theorem dX7_goesHome_70 : decode cX7_goesHome 70 = .ok (.ireturn, 1) := ok_ireturn (by decide +kernel)
theorem dX7_goesWait_0 : decode cX7_goesWait 0 = .ok (.aload_n 0, 1) := ok_aload_n (by decide +kernel)
theorem dX7_goesWait_1 : decode cX7_goesWait 1 = .ok (.dup, 1) := ok_dup (by decide +kernel)
theorem dX7_goesWait_2 : decode cX7_goesWait 2 = .ok (.getfield 254, 3) := ok_getfield (by decide +kernel)
theorem dX7_goesWait_5 : decode cX7_goesWait 5 = .ok (.iconst 4, 1) := ok_iconst (by decide +kernel)
theorem dX7_goesWait_6 : decode cX7_goesWait 6 = .ok (.iadd, 1) := ok_iadd (by decide +kernel)
theorem dX7_goesWait_7 : decode cX7_goesWait 7 = .ok (.putfield 254, 3) := ok_putfield (by decide +kernel)
theorem dX7_goesWait_10 : decode cX7_goesWait 10 = .ok (.aload_n 0, 1) := ok_aload_n (by decide +kernel)
theorem dX7_goesWait_11 : decode cX7_goesWait 11 = .ok (.iconst 1, 1) := ok_iconst (by decide +kernel)
theorem dX7_goesWait_12 : decode cX7_goesWait 12 = .ok (.bipush 99, 2) := ok_bipush (by decide +kernel)
theorem dX7_goesWait_14 : decode cX7_goesWait 14 = .ok (.invokevirtual 311, 3) := ok_invokevirtual (by decide +kernel)
theorem dX7_goesWait_17 : decode cX7_goesWait 17 = .ok (.ifCond .ne 5, 3) := ok_ifCond (by decide +kernel)
theorem dX7_goesWait_20 : decode cX7_goesWait 20 = .ok (.iconst 0, 1) := ok_iconst (by decide +kernel)
theorem dX7_goesWait_21 : decode cX7_goesWait 21 = .ok (.ireturn, 1) := ok_ireturn (by decide +kernel)
theorem dX7_goesWait_22 : decode cX7_goesWait 22 = .ok (.aload_n 0, 1) := ok_aload_n (by decide +kernel)
theorem dX7_goesWait_23 : decode cX7_goesWait 23 = .ok (.iload_n 1, 1) := ok_iload_n (by decide +kernel)
theorem dX7_goesWait_24 : decode cX7_goesWait 24 = .ok (.invokevirtual 360, 3) := ok_invokevirtual (by decide +kernel)
theorem dX7_goesWait_27 : decode cX7_goesWait 27 = .ok (.ifCond .ne 5, 3) := ok_ifCond (by decide +kernel)
theorem dX7_goesWait_30 : decode cX7_goesWait 30 = .ok (.iconst 1, 1) := ok_iconst (by decide +kernel)
theorem dX7_goesWait_31 : decode cX7_goesWait 31 = .ok (.ireturn, 1) := ok_ireturn (by decide +kernel)
theorem dX7_goesWait_32 : decode cX7_goesWait 32 = .ok (.iconst 0, 1) := ok_iconst (by decide +kernel)
theorem dX7_goesWait_33 : decode cX7_goesWait 33 = .ok (.istore_n 2, 1) := ok_istore_n (by decide +kernel)
theorem dX7_goesWait_34 : decode cX7_goesWait 34 = .ok (.iload_n 2, 1) := ok_iload_n (by decide +kernel)
theorem dX7_goesWait_35 : decode cX7_goesWait 35 = .ok (.aload_n 0, 1) := ok_aload_n (by decide +kernel)
theorem dX7_goesWait_36 : decode cX7_goesWait 36 = .ok (.getfield 299, 3) := ok_getfield (by decide +kernel)
theorem dX7_goesWait_39 : decode cX7_goesWait 39 = .ok (.if_icmp .ge 14, 3) := ok_if_icmp (by decide +kernel)
theorem dX7_goesWait_42 : decode cX7_goesWait 42 = .ok (.aload_n 0, 1) := ok_aload_n (by decide +kernel)
theorem dX7_goesWait_43 : decode cX7_goesWait 43 = .ok (.invokevirtual 156, 3) := ok_invokevirtual (by decide +kernel)
theorem dX7_goesWait_46 : decode cX7_goesWait 46 = .ok (.istore_n 3, 1) := ok_istore_n (by decide +kernel)
theorem dX7_goesWait_47 : decode cX7_goesWait 47 = .ok (.iinc 2 1, 3) := ok_iinc (by decide +kernel)
theorem dX7_goesWait_50 : decode cX7_goesWait 50 = .ok (.goto (-16), 3) := ok_goto (by decide +kernel)
theorem dX7_goesWait_53 : decode cX7_goesWait 53 = .ok (.iconst 1, 1) := ok_iconst (by decide +kernel)
theorem dX7_goesWait_54 : decode cX7_goesWait 54 = .ok (.ireturn, 1) := ok_ireturn (by decide +kernel)
theorem dX7_goesSettle_0 : decode cX7_goesSettle 0 = .ok (.aload_n 0, 1) := ok_aload_n (by decide +kernel)
theorem dX7_goesSettle_1 : decode cX7_goesSettle 1 = .ok (.dup, 1) := ok_dup (by decide +kernel)
theorem dX7_goesSettle_2 : decode cX7_goesSettle 2 = .ok (.getfield 254, 3) := ok_getfield (by decide +kernel)
theorem dX7_goesSettle_5 : decode cX7_goesSettle 5 = .ok (.bipush 6, 2) := ok_bipush (by decide +kernel)
theorem dX7_goesSettle_7 : decode cX7_goesSettle 7 = .ok (.iadd, 1) := ok_iadd (by decide +kernel)
theorem dX7_goesSettle_8 : decode cX7_goesSettle 8 = .ok (.putfield 254, 3) := ok_putfield (by decide +kernel)
theorem dX7_goesSettle_11 : decode cX7_goesSettle 11 = .ok (.aload_n 0, 1) := ok_aload_n (by decide +kernel)
theorem dX7_goesSettle_12 : decode cX7_goesSettle 12 = .ok (.iload_n 1, 1) := ok_iload_n (by decide +kernel)
theorem dX7_goesSettle_13 : decode cX7_goesSettle 13 = .ok (.invokevirtual 360, 3) := ok_invokevirtual (by decide +kernel)
theorem dX7_goesSettle_16 : decode cX7_goesSettle 16 = .ok (.ifCond .eq 8, 3) := ok_ifCond (by decide +kernel)
theorem dX7_goesSettle_19 : decode cX7_goesSettle 19 = .ok (.aload_n 0, 1) := ok_aload_n (by decide +kernel)
theorem dX7_goesSettle_20 : decode cX7_goesSettle 20 = .ok (.invokevirtual 159, 3) := ok_invokevirtual (by decide +kernel)
theorem dX7_goesSettle_23 : decode cX7_goesSettle 23 = .ok (.istore_n 2, 1) := ok_istore_n (by decide +kernel)
theorem dX7_goesSettle_24 : decode cX7_goesSettle 24 = .ok (.iconst 1, 1) := ok_iconst (by decide +kernel)
theorem dX7_goesSettle_25 : decode cX7_goesSettle 25 = .ok (.ireturn, 1) := ok_ireturn (by decide +kernel)
theorem dX7_goesLose_0 : decode cX7_goesLose 0 = .ok (.aload_n 0, 1) := ok_aload_n (by decide +kernel)
theorem dX7_goesLose_1 : decode cX7_goesLose 1 = .ok (.invokevirtual 341, 3) := ok_invokevirtual (by decide +kernel)
theorem dX7_goesLose_4 : decode cX7_goesLose 4 = .ok (.ifCond .ne 5, 3) := ok_ifCond (by decide +kernel)
theorem dX7_goesLose_7 : decode cX7_goesLose 7 = .ok (.iconst 0, 1) := ok_iconst (by decide +kernel)
theorem dX7_goesLose_8 : decode cX7_goesLose 8 = .ok (.ireturn, 1) := ok_ireturn (by decide +kernel)
theorem dX7_goesLose_9 : decode cX7_goesLose 9 = .ok (.aload_n 0, 1) := ok_aload_n (by decide +kernel)
theorem dX7_goesLose_10 : decode cX7_goesLose 10 = .ok (.iload_n 1, 1) := ok_iload_n (by decide +kernel)
theorem dX7_goesLose_11 : decode cX7_goesLose 11 = .ok (.invokevirtual 360, 3) := ok_invokevirtual (by decide +kernel)
theorem dX7_goesLose_14 : decode cX7_goesLose 14 = .ok (.ifCond .eq 17, 3) := ok_ifCond (by decide +kernel)
theorem dX7_goesLose_17 : decode cX7_goesLose 17 = .ok (.aload_n 0, 1) := ok_aload_n (by decide +kernel)
theorem dX7_goesLose_18 : decode cX7_goesLose 18 = .ok (.aload_n 0, 1) := ok_aload_n (by decide +kernel)
theorem dX7_goesLose_19 : decode cX7_goesLose 19 = .ok (.getfield 317, 3) := ok_getfield (by decide +kernel)
theorem dX7_goesLose_22 : decode cX7_goesLose 22 = .ok (.iconst 4, 1) := ok_iconst (by decide +kernel)
theorem dX7_goesLose_23 : decode cX7_goesLose 23 = .ok (.aload_n 0, 1) := ok_aload_n (by decide +kernel)
theorem dX7_goesLose_24 : decode cX7_goesLose 24 = .ok (.getfield 299, 3) := ok_getfield (by decide +kernel)
theorem dX7_goesLose_27 : decode cX7_goesLose 27 = .ok (.i2l, 1) := ok_i2l (by decide +kernel)
theorem dX7_goesLose_28 : decode cX7_goesLose 28 = .ok (.invokevirtual 78, 3) := ok_invokevirtual (by decide +kernel)
theorem dX7_goesLose_31 : decode cX7_goesLose 31 = .ok (.iconst 1, 1) := ok_iconst (by decide +kernel)
theorem dX7_goesLose_32 : decode cX7_goesLose 32 = .ok (.ireturn, 1) := ok_ireturn (by decide +kernel)
theorem dX7_goesOne_0 : decode cX7_goesOne 0 = .ok (.aload_n 0, 1) := ok_aload_n (by decide +kernel)
theorem dX7_goesOne_1 : decode cX7_goesOne 1 = .ok (.ldc_w 328, 3) := ok_ldc_w (by decide +kernel)
theorem dX7_goesOne_4 : decode cX7_goesOne 4 = .ok (.invokevirtual 279, 3) := ok_invokevirtual (by decide +kernel)
theorem dX7_goesOne_7 : decode cX7_goesOne 7 = .ok (.ifCond .eq 9, 3) := ok_ifCond (by decide +kernel)
theorem dX7_goesOne_10 : decode cX7_goesOne 10 = .ok (.aload_n 0, 1) := ok_aload_n (by decide +kernel)
theorem dX7_goesOne_11 : decode cX7_goesOne 11 = .ok (.iload_n 1, 1) := ok_iload_n (by decide +kernel)
theorem dX7_goesOne_12 : decode cX7_goesOne 12 = .ok (.invokevirtual 370, 3) := ok_invokevirtual (by decide +kernel)
theorem dX7_goesOne_15 : decode cX7_goesOne 15 = .ok (.ireturn, 1) := ok_ireturn (by decide +kernel)
theorem dX7_goesOne_16 : decode cX7_goesOne 16 = .ok (.aload_n 0, 1) := ok_aload_n (by decide +kernel)
theorem dX7_goesOne_17 : decode cX7_goesOne 17 = .ok (.ldc_w 373, 3) := ok_ldc_w (by decide +kernel)
theorem dX7_goesOne_20 : decode cX7_goesOne 20 = .ok (.invokevirtual 279, 3) := ok_invokevirtual (by decide +kernel)
theorem dX7_goesOne_23 : decode cX7_goesOne 23 = .ok (.ifCond .eq 9, 3) := ok_ifCond (by decide +kernel)
theorem dX7_goesOne_26 : decode cX7_goesOne 26 = .ok (.aload_n 0, 1) := ok_aload_n (by decide +kernel)
theorem dX7_goesOne_27 : decode cX7_goesOne 27 = .ok (.iload_n 1, 1) := ok_iload_n (by decide +kernel)
theorem dX7_goesOne_28 : decode cX7_goesOne 28 = .ok (.invokevirtual 375, 3) := ok_invokevirtual (by decide +kernel)
theorem dX7_goesOne_31 : decode cX7_goesOne 31 = .ok (.ireturn, 1) := ok_ireturn (by decide +kernel)
theorem dX7_goesOne_32 : decode cX7_goesOne 32 = .ok (.aload_n 0, 1) := ok_aload_n (by decide +kernel)
theorem dX7_goesOne_33 : decode cX7_goesOne 33 = .ok (.ldc_w 378, 3) := ok_ldc_w (by decide +kernel)
theorem dX7_goesOne_36 : decode cX7_goesOne 36 = .ok (.invokevirtual 279, 3) := ok_invokevirtual (by decide +kernel)
theorem dX7_goesOne_39 : decode cX7_goesOne 39 = .ok (.ifCond .eq 9, 3) := ok_ifCond (by decide +kernel)
theorem dX7_goesOne_42 : decode cX7_goesOne 42 = .ok (.aload_n 0, 1) := ok_aload_n (by decide +kernel)
theorem dX7_goesOne_43 : decode cX7_goesOne 43 = .ok (.iload_n 1, 1) := ok_iload_n (by decide +kernel)
theorem dX7_goesOne_44 : decode cX7_goesOne 44 = .ok (.invokevirtual 380, 3) := ok_invokevirtual (by decide +kernel)
theorem dX7_goesOne_47 : decode cX7_goesOne 47 = .ok (.ireturn, 1) := ok_ireturn (by decide +kernel)
theorem dX7_goesOne_48 : decode cX7_goesOne 48 = .ok (.aload_n 0, 1) := ok_aload_n (by decide +kernel)
theorem dX7_goesOne_49 : decode cX7_goesOne 49 = .ok (.ldc_w 383, 3) := ok_ldc_w (by decide +kernel)
theorem dX7_goesOne_52 : decode cX7_goesOne 52 = .ok (.invokevirtual 279, 3) := ok_invokevirtual (by decide +kernel)
theorem dX7_goesOne_55 : decode cX7_goesOne 55 = .ok (.ifCond .eq 9, 3) := ok_ifCond (by decide +kernel)
theorem dX7_goesOne_58 : decode cX7_goesOne 58 = .ok (.aload_n 0, 1) := ok_aload_n (by decide +kernel)
theorem dX7_goesOne_59 : decode cX7_goesOne 59 = .ok (.iload_n 1, 1) := ok_iload_n (by decide +kernel)
theorem dX7_goesOne_60 : decode cX7_goesOne 60 = .ok (.invokevirtual 385, 3) := ok_invokevirtual (by decide +kernel)
theorem dX7_goesOne_63 : decode cX7_goesOne 63 = .ok (.ireturn, 1) := ok_ireturn (by decide +kernel)
theorem dX7_goesOne_64 : decode cX7_goesOne 64 = .ok (.aload_n 0, 1) := ok_aload_n (by decide +kernel)
theorem dX7_goesOne_65 : decode cX7_goesOne 65 = .ok (.ldc_w 388, 3) := ok_ldc_w (by decide +kernel)
theorem dX7_goesOne_68 : decode cX7_goesOne 68 = .ok (.invokevirtual 279, 3) := ok_invokevirtual (by decide +kernel)
theorem dX7_goesOne_71 : decode cX7_goesOne 71 = .ok (.ifCond .eq 9, 3) := ok_ifCond (by decide +kernel)
theorem dX7_goesOne_74 : decode cX7_goesOne 74 = .ok (.aload_n 0, 1) := ok_aload_n (by decide +kernel)
theorem dX7_goesOne_75 : decode cX7_goesOne 75 = .ok (.iload_n 1, 1) := ok_iload_n (by decide +kernel)
theorem dX7_goesOne_76 : decode cX7_goesOne 76 = .ok (.invokevirtual 390, 3) := ok_invokevirtual (by decide +kernel)
theorem dX7_goesOne_79 : decode cX7_goesOne 79 = .ok (.ireturn, 1) := ok_ireturn (by decide +kernel)
theorem dX7_goesOne_80 : decode cX7_goesOne 80 = .ok (.aload_n 0, 1) := ok_aload_n (by decide +kernel)
theorem dX7_goesOne_81 : decode cX7_goesOne 81 = .ok (.ldc_w 330, 3) := ok_ldc_w (by decide +kernel)
theorem dX7_goesOne_84 : decode cX7_goesOne 84 = .ok (.invokevirtual 279, 3) := ok_invokevirtual (by decide +kernel)
theorem dX7_goesOne_87 : decode cX7_goesOne 87 = .ok (.ifCond .eq 9, 3) := ok_ifCond (by decide +kernel)
theorem dX7_goesOne_90 : decode cX7_goesOne 90 = .ok (.aload_n 0, 1) := ok_aload_n (by decide +kernel)
theorem dX7_goesOne_91 : decode cX7_goesOne 91 = .ok (.iload_n 1, 1) := ok_iload_n (by decide +kernel)
theorem dX7_goesOne_92 : decode cX7_goesOne 92 = .ok (.invokevirtual 393, 3) := ok_invokevirtual (by decide +kernel)
theorem dX7_goesOne_95 : decode cX7_goesOne 95 = .ok (.ireturn, 1) := ok_ireturn (by decide +kernel)
theorem dX7_goesOne_96 : decode cX7_goesOne 96 = .ok (.aload_n 0, 1) := ok_aload_n (by decide +kernel)
theorem dX7_goesOne_97 : decode cX7_goesOne 97 = .ok (.ldc_w 396, 3) := ok_ldc_w (by decide +kernel)
theorem dX7_goesOne_100 : decode cX7_goesOne 100 = .ok (.invokevirtual 279, 3) := ok_invokevirtual (by decide +kernel)
theorem dX7_goesOne_103 : decode cX7_goesOne 103 = .ok (.ifCond .eq 11, 3) := ok_ifCond (by decide +kernel)
theorem dX7_goesOne_106 : decode cX7_goesOne 106 = .ok (.aload_n 0, 1) := ok_aload_n (by decide +kernel)
theorem dX7_goesOne_107 : decode cX7_goesOne 107 = .ok (.iload_n 1, 1) := ok_iload_n (by decide +kernel)
theorem dX7_goesOne_108 : decode cX7_goesOne 108 = .ok (.invokevirtual 398, 3) := ok_invokevirtual (by decide +kernel)
theorem dX7_goesOne_111 : decode cX7_goesOne 111 = .ok (.goto 12, 3) := ok_goto (by decide +kernel)
theorem dX7_goesOne_114 : decode cX7_goesOne 114 = .ok (.aload_n 0, 1) := ok_aload_n (by decide +kernel)
theorem dX7_goesOne_115 : decode cX7_goesOne 115 = .ok (.iconst 1, 1) := ok_iconst (by decide +kernel)
theorem dX7_goesOne_116 : decode cX7_goesOne 116 = .ok (.aload_n 0, 1) := ok_aload_n (by decide +kernel)
theorem dX7_goesOne_117 : decode cX7_goesOne 117 = .ok (.getfield 254, 3) := ok_getfield (by decide +kernel)
theorem dX7_goesOne_120 : decode cX7_goesOne 120 = .ok (.invokevirtual 286, 3) := ok_invokevirtual (by decide +kernel)
theorem dX7_goesOne_123 : decode cX7_goesOne 123 = .ok (.ireturn, 1) := ok_ireturn (by decide +kernel)
theorem dX7_goesAll_0 : decode cX7_goesAll 0 = .ok (.aload_n 0, 1) := ok_aload_n (by decide +kernel)
theorem dX7_goesAll_1 : decode cX7_goesAll 1 = .ok (.iload_n 1, 1) := ok_iload_n (by decide +kernel)
theorem dX7_goesAll_2 : decode cX7_goesAll 2 = .ok (.invokevirtual 401, 3) := ok_invokevirtual (by decide +kernel)
theorem dX7_goesAll_5 : decode cX7_goesAll 5 = .ok (.ifCond .ne 5, 3) := ok_ifCond (by decide +kernel)
theorem dX7_goesAll_8 : decode cX7_goesAll 8 = .ok (.iconst 0, 1) := ok_iconst (by decide +kernel)
theorem dX7_goesAll_9 : decode cX7_goesAll 9 = .ok (.ireturn, 1) := ok_ireturn (by decide +kernel)
theorem dX7_goesAll_10 : decode cX7_goesAll 10 = .ok (.aload_n 0, 1) := ok_aload_n (by decide +kernel)
theorem dX7_goesAll_11 : decode cX7_goesAll 11 = .ok (.bipush 59, 2) := ok_bipush (by decide +kernel)
theorem dX7_goesAll_13 : decode cX7_goesAll 13 = .ok (.invokevirtual 289, 3) := ok_invokevirtual (by decide +kernel)
theorem dX7_goesAll_16 : decode cX7_goesAll 16 = .ok (.ifCond .eq 13, 3) := ok_ifCond (by decide +kernel)
theorem dX7_goesAll_19 : decode cX7_goesAll 19 = .ok (.aload_n 0, 1) := ok_aload_n (by decide +kernel)
theorem dX7_goesAll_20 : decode cX7_goesAll 20 = .ok (.iload_n 1, 1) := ok_iload_n (by decide +kernel)
theorem dX7_goesAll_21 : decode cX7_goesAll 21 = .ok (.invokevirtual 401, 3) := ok_invokevirtual (by decide +kernel)
theorem dX7_goesAll_24 : decode cX7_goesAll 24 = .ok (.ifCond .ne (-14), 3) := ok_ifCond (by decide +kernel)
theorem dX7_goesAll_27 : decode cX7_goesAll 27 = .ok (.iconst 0, 1) := ok_iconst (by decide +kernel)
theorem dX7_goesAll_28 : decode cX7_goesAll 28 = .ok (.ireturn, 1) := ok_ireturn (by decide +kernel)
theorem dX7_goesAll_29 : decode cX7_goesAll 29 = .ok (.iconst 1, 1) := ok_iconst (by decide +kernel)
theorem dX7_goesAll_30 : decode cX7_goesAll 30 = .ok (.ireturn, 1) := ok_ireturn (by decide +kernel)
theorem dX7_goesTimes_0 : decode cX7_goesTimes 0 = .ok (.aload_n 0, 1) := ok_aload_n (by decide +kernel)
theorem dX7_goesTimes_1 : decode cX7_goesTimes 1 = .ok (.dup, 1) := ok_dup (by decide +kernel)
theorem dX7_goesTimes_2 : decode cX7_goesTimes 2 = .ok (.getfield 254, 3) := ok_getfield (by decide +kernel)
theorem dX7_goesTimes_5 : decode cX7_goesTimes 5 = .ok (.iconst 5, 1) := ok_iconst (by decide +kernel)
theorem dX7_goesTimes_6 : decode cX7_goesTimes 6 = .ok (.iadd, 1) := ok_iadd (by decide +kernel)
theorem dX7_goesTimes_7 : decode cX7_goesTimes 7 = .ok (.putfield 254, 3) := ok_putfield (by decide +kernel)
theorem dX7_goesTimes_10 : decode cX7_goesTimes 10 = .ok (.aload_n 0, 1) := ok_aload_n (by decide +kernel)
theorem dX7_goesTimes_11 : decode cX7_goesTimes 11 = .ok (.iconst 0, 1) := ok_iconst (by decide +kernel)
theorem dX7_goesTimes_12 : decode cX7_goesTimes 12 = .ok (.bipush 20, 2) := ok_bipush (by decide +kernel)
theorem dX7_goesTimes_14 : decode cX7_goesTimes 14 = .ok (.invokevirtual 311, 3) := ok_invokevirtual (by decide +kernel)
theorem dX7_goesTimes_17 : decode cX7_goesTimes 17 = .ok (.ifCond .ne 5, 3) := ok_ifCond (by decide +kernel)
theorem dX7_goesTimes_20 : decode cX7_goesTimes 20 = .ok (.iconst 0, 1) := ok_iconst (by decide +kernel)
theorem dX7_goesTimes_21 : decode cX7_goesTimes 21 = .ok (.ireturn, 1) := ok_ireturn (by decide +kernel)
theorem dX7_goesTimes_22 : decode cX7_goesTimes 22 = .ok (.aload_n 0, 1) := ok_aload_n (by decide +kernel)
theorem dX7_goesTimes_23 : decode cX7_goesTimes 23 = .ok (.getfield 299, 3) := ok_getfield (by decide +kernel)
theorem dX7_goesTimes_26 : decode cX7_goesTimes 26 = .ok (.istore_n 2, 1) := ok_istore_n (by decide +kernel)
theorem dX7_goesTimes_27 : decode cX7_goesTimes 27 = .ok (.aload_n 0, 1) := ok_aload_n (by decide +kernel)
theorem dX7_goesTimes_28 : decode cX7_goesTimes 28 = .ok (.invokevirtual 263, 3) := ok_invokevirtual (by decide +kernel)
theorem dX7_goesTimes_31 : decode cX7_goesTimes 31 = .ok (.bipush 40, 2) := ok_bipush (by decide +kernel)
theorem dX7_goesTimes_33 : decode cX7_goesTimes 33 = .ok (.if_icmp .ne 21, 3) := ok_if_icmp (by decide +kernel)
theorem dX7_goesTimes_36 : decode cX7_goesTimes 36 = .ok (.aload_n 0, 1) := ok_aload_n (by decide +kernel)
theorem dX7_goesTimes_37 : decode cX7_goesTimes 37 = .ok (.getfield 364, 3) := ok_getfield (by decide +kernel)
theorem dX7_goesTimes_40 : decode cX7_goesTimes 40 = .ok (.iconst 3, 1) := ok_iconst (by decide +kernel)
theorem dX7_goesTimes_41 : decode cX7_goesTimes 41 = .ok (.if_icmp .ne 13, 3) := ok_if_icmp (by decide +kernel)
theorem dX7_goesTimes_44 : decode cX7_goesTimes 44 = .ok (.aload_n 0, 1) := ok_aload_n (by decide +kernel)
theorem dX7_goesTimes_45 : decode cX7_goesTimes 45 = .ok (.iconst 3, 1) := ok_iconst (by decide +kernel)
theorem dX7_goesTimes_46 : decode cX7_goesTimes 46 = .ok (.aload_n 0, 1) := ok_aload_n (by decide +kernel)
theorem dX7_goesTimes_47 : decode cX7_goesTimes 47 = .ok (.getfield 254, 3) := ok_getfield (by decide +kernel)
theorem dX7_goesTimes_50 : decode cX7_goesTimes 50 = .ok (.invokevirtual 286, 3) := ok_invokevirtual (by decide +kernel)
theorem dX7_goesTimes_53 : decode cX7_goesTimes 53 = .ok (.ireturn, 1) := ok_ireturn (by decide +kernel)
theorem dX7_goesTimes_54 : decode cX7_goesTimes 54 = .ok (.aload_n 0, 1) := ok_aload_n (by decide +kernel)
theorem dX7_goesTimes_55 : decode cX7_goesTimes 55 = .ok (.bipush 40, 2) := ok_bipush (by decide +kernel)
theorem dX7_goesTimes_57 : decode cX7_goesTimes 57 = .ok (.invokevirtual 302, 3) := ok_invokevirtual (by decide +kernel)
theorem dX7_goesTimes_60 : decode cX7_goesTimes 60 = .ok (.ifCond .ne 5, 3) := ok_ifCond (by decide +kernel)
theorem dX7_goesTimes_63 : decode cX7_goesTimes 63 = .ok (.iconst 0, 1) := ok_iconst (by decide +kernel)
theorem dX7_goesTimes_64 : decode cX7_goesTimes 64 = .ok (.ireturn, 1) := ok_ireturn (by decide +kernel)
theorem dX7_goesTimes_65 : decode cX7_goesTimes 65 = .ok (.aload_n 0, 1) := ok_aload_n (by decide +kernel)
theorem dX7_goesTimes_66 : decode cX7_goesTimes 66 = .ok (.iload_n 1, 1) := ok_iload_n (by decide +kernel)
theorem dX7_goesTimes_67 : decode cX7_goesTimes 67 = .ok (.invokevirtual 360, 3) := ok_invokevirtual (by decide +kernel)
theorem dX7_goesTimes_70 : decode cX7_goesTimes 70 = .ok (.istore_n 3, 1) := ok_istore_n (by decide +kernel)
theorem dX7_goesTimes_71 : decode cX7_goesTimes 71 = .ok (.aload_n 0, 1) := ok_aload_n (by decide +kernel)
theorem dX7_goesTimes_72 : decode cX7_goesTimes 72 = .ok (.getfield 254, 3) := ok_getfield (by decide +kernel)
theorem dX7_goesTimes_75 : decode cX7_goesTimes 75 = .ok (.istore 4, 2) := ok_istore (by decide +kernel)
theorem dX7_goesTimes_77 : decode cX7_goesTimes 77 = .ok (.aload_n 0, 1) := ok_aload_n (by decide +kernel)
theorem dX7_goesTimes_78 : decode cX7_goesTimes 78 = .ok (.dup, 1) := ok_dup (by decide +kernel)
theorem dX7_goesTimes_79 : decode cX7_goesTimes 79 = .ok (.getfield 364, 3) := ok_getfield (by decide +kernel)
theorem dX7_goesTimes_82 : decode cX7_goesTimes 82 = .ok (.iconst 1, 1) := ok_iconst (by decide +kernel)
theorem dX7_goesTimes_83 : decode cX7_goesTimes 83 = .ok (.iadd, 1) := ok_iadd (by decide +kernel)
theorem dX7_goesTimes_84 : decode cX7_goesTimes 84 = .ok (.putfield 364, 3) := ok_putfield (by decide +kernel)
theorem dX7_goesTimes_87 : decode cX7_goesTimes 87 = .ok (.iconst 0, 1) := ok_iconst (by decide +kernel)
theorem dX7_goesTimes_88 : decode cX7_goesTimes 88 = .ok (.istore 5, 2) := ok_istore (by decide +kernel)
theorem dX7_goesTimes_90 : decode cX7_goesTimes 90 = .ok (.iload 5, 2) := ok_iload (by decide +kernel)
theorem dX7_goesTimes_92 : decode cX7_goesTimes 92 = .ok (.ifCond .eq 13, 3) := ok_ifCond (by decide +kernel)
theorem dX7_goesTimes_95 : decode cX7_goesTimes 95 = .ok (.iload 5, 2) := ok_iload (by decide +kernel)
theorem dX7_goesTimes_97 : decode cX7_goesTimes 97 = .ok (.iload_n 2, 1) := ok_iload_n (by decide +kernel)
theorem dX7_goesTimes_98 : decode cX7_goesTimes 98 = .ok (.if_icmp .ge 43, 3) := ok_if_icmp (by decide +kernel)
theorem dX7_goesTimes_101 : decode cX7_goesTimes 101 = .ok (.iload_n 3, 1) := ok_iload_n (by decide +kernel)
theorem dX7_goesTimes_102 : decode cX7_goesTimes 102 = .ok (.ifCond .eq 39, 3) := ok_ifCond (by decide +kernel)
theorem dX7_goesTimes_105 : decode cX7_goesTimes 105 = .ok (.aload_n 0, 1) := ok_aload_n (by decide +kernel)
theorem dX7_goesTimes_106 : decode cX7_goesTimes 106 = .ok (.iload 4, 2) := ok_iload (by decide +kernel)
theorem dX7_goesTimes_108 : decode cX7_goesTimes 108 = .ok (.putfield 254, 3) := ok_putfield (by decide +kernel)
theorem dX7_goesTimes_111 : decode cX7_goesTimes 111 = .ok (.aload_n 0, 1) := ok_aload_n (by decide +kernel)
theorem dX7_goesTimes_112 : decode cX7_goesTimes 112 = .ok (.iload_n 3, 1) := ok_iload_n (by decide +kernel)
theorem dX7_goesTimes_113 : decode cX7_goesTimes 113 = .ok (.ifCond .eq 13, 3) := ok_ifCond (by decide +kernel)
theorem dX7_goesTimes_116 : decode cX7_goesTimes 116 = .ok (.iload 5, 2) := ok_iload (by decide +kernel)
theorem dX7_goesTimes_118 : decode cX7_goesTimes 118 = .ok (.iload_n 2, 1) := ok_iload_n (by decide +kernel)
theorem dX7_goesTimes_119 : decode cX7_goesTimes 119 = .ok (.if_icmp .ge 7, 3) := ok_if_icmp (by decide +kernel)
theorem dX7_goesTimes_122 : decode cX7_goesTimes 122 = .ok (.iconst 1, 1) := ok_iconst (by decide +kernel)
theorem dX7_goesTimes_123 : decode cX7_goesTimes 123 = .ok (.goto 4, 3) := ok_goto (by decide +kernel)
theorem dX7_goesTimes_126 : decode cX7_goesTimes 126 = .ok (.iconst 0, 1) := ok_iconst (by decide +kernel)
theorem dX7_goesTimes_127 : decode cX7_goesTimes 127 = .ok (.invokevirtual 367, 3) := ok_invokevirtual (by decide +kernel)
theorem dX7_goesTimes_130 : decode cX7_goesTimes 130 = .ok (.ifCond .ne 5, 3) := ok_ifCond (by decide +kernel)
theorem dX7_goesTimes_133 : decode cX7_goesTimes 133 = .ok (.iconst 0, 1) := ok_iconst (by decide +kernel)
theorem dX7_goesTimes_134 : decode cX7_goesTimes 134 = .ok (.ireturn, 1) := ok_ireturn (by decide +kernel)
theorem dX7_goesTimes_135 : decode cX7_goesTimes 135 = .ok (.iinc 5 1, 3) := ok_iinc (by decide +kernel)
theorem dX7_goesTimes_138 : decode cX7_goesTimes 138 = .ok (.goto (-48), 3) := ok_goto (by decide +kernel)
theorem dX7_goesTimes_141 : decode cX7_goesTimes 141 = .ok (.aload_n 0, 1) := ok_aload_n (by decide +kernel)
theorem dX7_goesTimes_142 : decode cX7_goesTimes 142 = .ok (.bipush 41, 2) := ok_bipush (by decide +kernel)
theorem dX7_goesTimes_144 : decode cX7_goesTimes 144 = .ok (.invokevirtual 302, 3) := ok_invokevirtual (by decide +kernel)
theorem dX7_goesTimes_147 : decode cX7_goesTimes 147 = .ok (.ifCond .ne 5, 3) := ok_ifCond (by decide +kernel)
theorem dX7_goesTimes_150 : decode cX7_goesTimes 150 = .ok (.iconst 0, 1) := ok_iconst (by decide +kernel)
theorem dX7_goesTimes_151 : decode cX7_goesTimes 151 = .ok (.ireturn, 1) := ok_ireturn (by decide +kernel)
theorem dX7_goesTimes_152 : decode cX7_goesTimes 152 = .ok (.aload_n 0, 1) := ok_aload_n (by decide +kernel)
theorem dX7_goesTimes_153 : decode cX7_goesTimes 153 = .ok (.dup, 1) := ok_dup (by decide +kernel)
theorem dX7_goesTimes_154 : decode cX7_goesTimes 154 = .ok (.getfield 364, 3) := ok_getfield (by decide +kernel)
theorem dX7_goesTimes_157 : decode cX7_goesTimes 157 = .ok (.iconst 1, 1) := ok_iconst (by decide +kernel)
theorem dX7_goesTimes_158 : decode cX7_goesTimes 158 = .ok (.isub, 1) := ok_isub (by decide +kernel)
theorem dX7_goesTimes_159 : decode cX7_goesTimes 159 = .ok (.putfield 364, 3) := ok_putfield (by decide +kernel)
theorem dX7_goesTimes_162 : decode cX7_goesTimes 162 = .ok (.iconst 1, 1) := ok_iconst (by decide +kernel)
theorem dX7_goesTimes_163 : decode cX7_goesTimes 163 = .ok (.ireturn, 1) := ok_ireturn (by decide +kernel)
theorem dX7_goesProgram_0 : decode cX7_goesProgram 0 = .ok (.aload_n 0, 1) := ok_aload_n (by decide +kernel)
theorem dX7_goesProgram_1 : decode cX7_goesProgram 1 = .ok (.iconst 0, 1) := ok_iconst (by decide +kernel)
theorem dX7_goesProgram_2 : decode cX7_goesProgram 2 = .ok (.putfield 254, 3) := ok_putfield (by decide +kernel)
theorem dX7_goesProgram_5 : decode cX7_goesProgram 5 = .ok (.aload_n 0, 1) := ok_aload_n (by decide +kernel)
theorem dX7_goesProgram_6 : decode cX7_goesProgram 6 = .ok (.iconst 0, 1) := ok_iconst (by decide +kernel)
theorem dX7_goesProgram_7 : decode cX7_goesProgram 7 = .ok (.putfield 364, 3) := ok_putfield (by decide +kernel)
theorem dX7_goesProgram_10 : decode cX7_goesProgram 10 = .ok (.aload_n 0, 1) := ok_aload_n (by decide +kernel)
theorem dX7_goesProgram_11 : decode cX7_goesProgram 11 = .ok (.iconst 0, 1) := ok_iconst (by decide +kernel)
theorem dX7_goesProgram_12 : decode cX7_goesProgram 12 = .ok (.putfield 357, 3) := ok_putfield (by decide +kernel)
theorem dX7_goesProgram_15 : decode cX7_goesProgram 15 = .ok (.aload_n 0, 1) := ok_aload_n (by decide +kernel)
theorem dX7_goesProgram_16 : decode cX7_goesProgram 16 = .ok (.iload_n 1, 1) := ok_iload_n (by decide +kernel)
theorem dX7_goesProgram_17 : decode cX7_goesProgram 17 = .ok (.invokevirtual 367, 3) := ok_invokevirtual (by decide +kernel)
theorem dX7_goesProgram_20 : decode cX7_goesProgram 20 = .ok (.ifCond .ne 5, 3) := ok_ifCond (by decide +kernel)
theorem dX7_goesProgram_23 : decode cX7_goesProgram 23 = .ok (.iconst 0, 1) := ok_iconst (by decide +kernel)
theorem dX7_goesProgram_24 : decode cX7_goesProgram 24 = .ok (.ireturn, 1) := ok_ireturn (by decide +kernel)
theorem dX7_goesProgram_25 : decode cX7_goesProgram 25 = .ok (.aload_n 0, 1) := ok_aload_n (by decide +kernel)
theorem dX7_goesProgram_26 : decode cX7_goesProgram 26 = .ok (.invokevirtual 263, 3) := ok_invokevirtual (by decide +kernel)
theorem dX7_goesProgram_29 : decode cX7_goesProgram 29 = .ok (.iconst (-1), 1) := ok_iconst (by decide +kernel)
theorem dX7_goesProgram_30 : decode cX7_goesProgram 30 = .ok (.if_icmp .eq 15, 3) := ok_if_icmp (by decide +kernel)
theorem dX7_goesProgram_33 : decode cX7_goesProgram 33 = .ok (.aload_n 0, 1) := ok_aload_n (by decide +kernel)
theorem dX7_goesProgram_34 : decode cX7_goesProgram 34 = .ok (.iconst 1, 1) := ok_iconst (by decide +kernel)
theorem dX7_goesProgram_35 : decode cX7_goesProgram 35 = .ok (.aload_n 0, 1) := ok_aload_n (by decide +kernel)
theorem dX7_goesProgram_36 : decode cX7_goesProgram 36 = .ok (.getfield 254, 3) := ok_getfield (by decide +kernel)
theorem dX7_goesProgram_39 : decode cX7_goesProgram 39 = .ok (.invokevirtual 286, 3) := ok_invokevirtual (by decide +kernel)
theorem dX7_goesProgram_42 : decode cX7_goesProgram 42 = .ok (.ifCond .eq 7, 3) := ok_ifCond (by decide +kernel)
theorem dX7_goesProgram_45 : decode cX7_goesProgram 45 = .ok (.iconst 1, 1) := ok_iconst (by decide +kernel)
theorem dX7_goesProgram_46 : decode cX7_goesProgram 46 = .ok (.goto 4, 3) := ok_goto (by decide +kernel)
theorem dX7_goesProgram_49 : decode cX7_goesProgram 49 = .ok (.iconst 0, 1) := ok_iconst (by decide +kernel)
theorem dX7_goesProgram_50 : decode cX7_goesProgram 50 = .ok (.ireturn, 1) := ok_ireturn (by decide +kernel)
theorem dX7_run_0 : decode cX7_run 0 = .ok (.aload_n 0, 1) := ok_aload_n (by decide +kernel)
theorem dX7_run_1 : decode cX7_run 1 = .ok (.invokevirtual 147, 3) := ok_invokevirtual (by decide +kernel)
theorem dX7_run_4 : decode cX7_run 4 = .ok (.ifCond .eq 15, 3) := ok_ifCond (by decide +kernel)
theorem dX7_run_7 : decode cX7_run 7 = .ok (.aload_n 0, 1) := ok_aload_n (by decide +kernel)
theorem dX7_run_8 : decode cX7_run 8 = .ok (.iconst 0, 1) := ok_iconst (by decide +kernel)
theorem dX7_run_9 : decode cX7_run 9 = .ok (.invokevirtual 404, 3) := ok_invokevirtual (by decide +kernel)
theorem dX7_run_12 : decode cX7_run 12 = .ok (.ifCond .eq 7, 3) := ok_ifCond (by decide +kernel)
theorem dX7_run_15 : decode cX7_run 15 = .ok (.iconst 1, 1) := ok_iconst (by decide +kernel)
theorem dX7_run_16 : decode cX7_run 16 = .ok (.goto 4, 3) := ok_goto (by decide +kernel)
theorem dX7_run_19 : decode cX7_run 19 = .ok (.iconst 0, 1) := ok_iconst (by decide +kernel)
theorem dX7_run_20 : decode cX7_run 20 = .ok (.istore_n 1, 1) := ok_istore_n (by decide +kernel)
theorem dX7_run_21 : decode cX7_run 21 = .ok (.iload_n 1, 1) := ok_iload_n (by decide +kernel)
theorem dX7_run_22 : decode cX7_run 22 = .ok (.ifCond .eq 13, 3) := ok_ifCond (by decide +kernel)
theorem dX7_run_25 : decode cX7_run 25 = .ok (.aload_n 0, 1) := ok_aload_n (by decide +kernel)
theorem dX7_run_26 : decode cX7_run 26 = .ok (.invokevirtual 144, 3) := ok_invokevirtual (by decide +kernel)
theorem dX7_run_29 : decode cX7_run 29 = .ok (.aload_n 0, 1) := ok_aload_n (by decide +kernel)
theorem dX7_run_30 : decode cX7_run 30 = .ok (.iconst 1, 1) := ok_iconst (by decide +kernel)
theorem dX7_run_31 : decode cX7_run 31 = .ok (.invokevirtual 404, 3) := ok_invokevirtual (by decide +kernel)
theorem dX7_run_34 : decode cX7_run 34 = .ok (.istore_n 1, 1) := ok_istore_n (by decide +kernel)
theorem dX7_run_35 : decode cX7_run 35 = .ok (.aload_n 0, 1) := ok_aload_n (by decide +kernel)
theorem dX7_run_36 : decode cX7_run 36 = .ok (.iconst 0, 1) := ok_iconst (by decide +kernel)
theorem dX7_run_37 : decode cX7_run 37 = .ok (.putfield 135, 3) := ok_putfield (by decide +kernel)
theorem dX7_run_40 : decode cX7_run 40 = .ok (.aload_n 0, 1) := ok_aload_n (by decide +kernel)
theorem dX7_run_41 : decode cX7_run 41 = .ok (.invokevirtual 147, 3) := ok_invokevirtual (by decide +kernel)
theorem dX7_run_44 : decode cX7_run 44 = .ok (.ifCond .ne 7, 3) := ok_ifCond (by decide +kernel)
theorem dX7_run_47 : decode cX7_run 47 = .ok (.iconst (-1), 1) := ok_iconst (by decide +kernel)
theorem dX7_run_48 : decode cX7_run 48 = .ok (.goto 21, 3) := ok_goto (by decide +kernel)
theorem dX7_run_51 : decode cX7_run 51 = .ok (.iload_n 1, 1) := ok_iload_n (by decide +kernel)
theorem dX7_run_52 : decode cX7_run 52 = .ok (.ifCond .eq 10, 3) := ok_ifCond (by decide +kernel)
theorem dX7_run_55 : decode cX7_run 55 = .ok (.aload_n 0, 1) := ok_aload_n (by decide +kernel)
theorem dX7_run_56 : decode cX7_run 56 = .ok (.getfield 357, 3) := ok_getfield (by decide +kernel)
theorem dX7_run_59 : decode cX7_run 59 = .ok (.goto 10, 3) := ok_goto (by decide +kernel)
theorem dX7_run_62 : decode cX7_run 62 = .ok (.bipush (-2), 2) := ok_bipush (by decide +kernel)
theorem dX7_run_64 : decode cX7_run 64 = .ok (.aload_n 0, 1) := ok_aload_n (by decide +kernel)
theorem dX7_run_65 : decode cX7_run 65 = .ok (.getfield 260, 3) := ok_getfield (by decide +kernel)
theorem dX7_run_68 : decode cX7_run 68 = .ok (.isub, 1) := ok_isub (by decide +kernel)
theorem dX7_run_69 : decode cX7_run 69 = .ok (.ireturn, 1) := ok_ireturn (by decide +kernel)
theorem dX7_loudest_0 : decode cX7_loudest 0 = .ok (.aload_n 0, 1) := ok_aload_n (by decide +kernel)
theorem dX7_loudest_1 : decode cX7_loudest 1 = .ok (.invokevirtual 147, 3) := ok_invokevirtual (by decide +kernel)
theorem dX7_loudest_4 : decode cX7_loudest 4 = .ok (.ifCond .eq 13, 3) := ok_ifCond (by decide +kernel)
theorem dX7_loudest_7 : decode cX7_loudest 7 = .ok (.iload_n 1, 1) := ok_iload_n (by decide +kernel)
theorem dX7_loudest_8 : decode cX7_loudest 8 = .ok (.i2l, 1) := ok_i2l (by decide +kernel)
theorem dX7_loudest_9 : decode cX7_loudest 9 = .ok (.lconst 0, 1) := ok_lconst (by decide +kernel)
theorem dX7_loudest_10 : decode cX7_loudest 10 = .ok (.lconst 1, 1) := ok_lconst (by decide +kernel)
theorem dX7_loudest_11 : decode cX7_loudest 11 = .ok (.invokestatic 39, 3) := ok_invokestatic (by decide +kernel)
theorem dX7_loudest_14 : decode cX7_loudest 14 = .ok (.ifCond .ne 5, 3) := ok_ifCond (by decide +kernel)
theorem dX7_loudest_17 : decode cX7_loudest 17 = .ok (.iconst (-1), 1) := ok_iconst (by decide +kernel)
theorem dX7_loudest_18 : decode cX7_loudest 18 = .ok (.ireturn, 1) := ok_ireturn (by decide +kernel)
theorem dX7_loudest_19 : decode cX7_loudest 19 = .ok (.aload_n 0, 1) := ok_aload_n (by decide +kernel)
theorem dX7_loudest_20 : decode cX7_loudest 20 = .ok (.invokevirtual 210, 3) := ok_invokevirtual (by decide +kernel)
theorem dX7_loudest_23 : decode cX7_loudest 23 = .ok (.bipush (-2), 2) := ok_bipush (by decide +kernel)
theorem dX7_loudest_25 : decode cX7_loudest 25 = .ok (.istore_n 2, 1) := ok_istore_n (by decide +kernel)
theorem dX7_loudest_26 : decode cX7_loudest 26 = .ok (.iconst 0, 1) := ok_iconst (by decide +kernel)
theorem dX7_loudest_27 : decode cX7_loudest 27 = .ok (.istore_n 3, 1) := ok_istore_n (by decide +kernel)
theorem dX7_loudest_28 : decode cX7_loudest 28 = .ok (.iconst 0, 1) := ok_iconst (by decide +kernel)
theorem dX7_loudest_29 : decode cX7_loudest 29 = .ok (.istore 4, 2) := ok_istore (by decide +kernel)
theorem dX7_loudest_31 : decode cX7_loudest 31 = .ok (.aload_n 0, 1) := ok_aload_n (by decide +kernel)
theorem dX7_loudest_32 : decode cX7_loudest 32 = .ok (.invokevirtual 156, 3) := ok_invokevirtual (by decide +kernel)
theorem dX7_loudest_35 : decode cX7_loudest 35 = .ok (.ifCond .le 28, 3) := ok_ifCond (by decide +kernel)
theorem dX7_loudest_38 : decode cX7_loudest 38 = .ok (.aload_n 0, 1) := ok_aload_n (by decide +kernel)
theorem dX7_loudest_39 : decode cX7_loudest 39 = .ok (.getfield 86, 3) := ok_getfield (by decide +kernel)
theorem dX7_loudest_42 : decode cX7_loudest 42 = .ok (.iload_n 3, 1) := ok_iload_n (by decide +kernel)
theorem dX7_loudest_43 : decode cX7_loudest 43 = .ok (.if_icmp .gt 6, 3) := ok_if_icmp (by decide +kernel)
theorem dX7_loudest_46 : decode cX7_loudest 46 = .ok (.goto 11, 3) := ok_goto (by decide +kernel)
theorem dX7_loudest_49 : decode cX7_loudest 49 = .ok (.iload 4, 2) := ok_iload (by decide +kernel)
theorem dX7_loudest_51 : decode cX7_loudest 51 = .ok (.istore_n 2, 1) := ok_istore_n (by decide +kernel)
theorem dX7_loudest_52 : decode cX7_loudest 52 = .ok (.aload_n 0, 1) := ok_aload_n (by decide +kernel)
theorem dX7_loudest_53 : decode cX7_loudest 53 = .ok (.getfield 86, 3) := ok_getfield (by decide +kernel)
theorem dX7_loudest_56 : decode cX7_loudest 56 = .ok (.istore_n 3, 1) := ok_istore_n (by decide +kernel)
theorem dX7_loudest_57 : decode cX7_loudest 57 = .ok (.iinc 4 1, 3) := ok_iinc (by decide +kernel)
theorem dX7_loudest_60 : decode cX7_loudest 60 = .ok (.goto (-29), 3) := ok_goto (by decide +kernel)
theorem dX7_loudest_63 : decode cX7_loudest 63 = .ok (.aload_n 0, 1) := ok_aload_n (by decide +kernel)
theorem dX7_loudest_64 : decode cX7_loudest 64 = .ok (.invokevirtual 216, 3) := ok_invokevirtual (by decide +kernel)
theorem dX7_loudest_67 : decode cX7_loudest 67 = .ok (.iload_n 2, 1) := ok_iload_n (by decide +kernel)
theorem dX7_loudest_68 : decode cX7_loudest 68 = .ok (.bipush (-2), 2) := ok_bipush (by decide +kernel)
theorem dX7_loudest_70 : decode cX7_loudest 70 = .ok (.if_icmp .eq 7, 3) := ok_if_icmp (by decide +kernel)
theorem dX7_loudest_73 : decode cX7_loudest 73 = .ok (.iload_n 1, 1) := ok_iload_n (by decide +kernel)
theorem dX7_loudest_74 : decode cX7_loudest 74 = .ok (.ifCond .ne 7, 3) := ok_ifCond (by decide +kernel)
theorem dX7_loudest_77 : decode cX7_loudest 77 = .ok (.iload_n 2, 1) := ok_iload_n (by decide +kernel)
theorem dX7_loudest_78 : decode cX7_loudest 78 = .ok (.goto 6, 3) := ok_goto (by decide +kernel)
theorem dX7_loudest_81 : decode cX7_loudest 81 = .ok (.iload_n 3, 1) := ok_iload_n (by decide +kernel)
theorem dX7_loudest_82 : decode cX7_loudest 82 = .ok (.iload_n 3, 1) := ok_iload_n (by decide +kernel)
theorem dX7_loudest_83 : decode cX7_loudest 83 = .ok (.imul, 1) := ok_imul (by decide +kernel)
theorem dX7_loudest_84 : decode cX7_loudest 84 = .ok (.ireturn, 1) := ok_ireturn (by decide +kernel)
theorem dX7_usual_0 : decode cX7_usual 0 = .ok (.aload_n 0, 1) := ok_aload_n (by decide +kernel)
theorem dX7_usual_1 : decode cX7_usual 1 = .ok (.iload_n 1, 1) := ok_iload_n (by decide +kernel)
theorem dX7_usual_2 : decode cX7_usual 2 = .ok (.invokevirtual 180, 3) := ok_invokevirtual (by decide +kernel)
theorem dX7_usual_5 : decode cX7_usual 5 = .ok (.ifCond .eq 13, 3) := ok_ifCond (by decide +kernel)
theorem dX7_usual_8 : decode cX7_usual 8 = .ok (.iload_n 2, 1) := ok_iload_n (by decide +kernel)
theorem dX7_usual_9 : decode cX7_usual 9 = .ok (.i2l, 1) := ok_i2l (by decide +kernel)
theorem dX7_usual_10 : decode cX7_usual 10 = .ok (.lconst 0, 1) := ok_lconst (by decide +kernel)
theorem dX7_usual_11 : decode cX7_usual 11 = .ok (.lconst 1, 1) := ok_lconst (by decide +kernel)
theorem dX7_usual_12 : decode cX7_usual 12 = .ok (.invokestatic 39, 3) := ok_invokestatic (by decide +kernel)
theorem dX7_usual_15 : decode cX7_usual 15 = .ok (.ifCond .ne 5, 3) := ok_ifCond (by decide +kernel)
theorem dX7_usual_18 : decode cX7_usual 18 = .ok (.iconst (-1), 1) := ok_iconst (by decide +kernel)
theorem dX7_usual_19 : decode cX7_usual 19 = .ok (.ireturn, 1) := ok_ireturn (by decide +kernel)
theorem dX7_usual_20 : decode cX7_usual 20 = .ok (.bipush (-2), 2) := ok_bipush (by decide +kernel)
theorem dX7_usual_22 : decode cX7_usual 22 = .ok (.istore_n 3, 1) := ok_istore_n (by decide +kernel)
theorem dX7_usual_23 : decode cX7_usual 23 = .ok (.iconst 0, 1) := ok_iconst (by decide +kernel)
theorem dX7_usual_24 : decode cX7_usual 24 = .ok (.istore 4, 2) := ok_istore (by decide +kernel)
theorem dX7_usual_26 : decode cX7_usual 26 = .ok (.iconst 0, 1) := ok_iconst (by decide +kernel)
theorem dX7_usual_27 : decode cX7_usual 27 = .ok (.istore 5, 2) := ok_istore (by decide +kernel)
theorem dX7_usual_29 : decode cX7_usual 29 = .ok (.iload 5, 2) := ok_iload (by decide +kernel)
theorem dX7_usual_31 : decode cX7_usual 31 = .ok (.aload_n 0, 1) := ok_aload_n (by decide +kernel)
theorem dX7_usual_32 : decode cX7_usual 32 = .ok (.iload_n 1, 1) := ok_iload_n (by decide +kernel)
theorem dX7_usual_33 : decode cX7_usual 33 = .ok (.invokevirtual 60, 3) := ok_invokevirtual (by decide +kernel)
theorem dX7_usual_36 : decode cX7_usual 36 = .ok (.if_icmp .ge 38, 3) := ok_if_icmp (by decide +kernel)
theorem dX7_usual_39 : decode cX7_usual 39 = .ok (.aload_n 0, 1) := ok_aload_n (by decide +kernel)
theorem dX7_usual_40 : decode cX7_usual 40 = .ok (.iload_n 1, 1) := ok_iload_n (by decide +kernel)
theorem dX7_usual_41 : decode cX7_usual 41 = .ok (.iload 5, 2) := ok_iload (by decide +kernel)
theorem dX7_usual_43 : decode cX7_usual 43 = .ok (.iconst 1, 1) := ok_iconst (by decide +kernel)
theorem dX7_usual_44 : decode cX7_usual 44 = .ok (.invokevirtual 407, 3) := ok_invokevirtual (by decide +kernel)
theorem dX7_usual_47 : decode cX7_usual 47 = .ok (.iload 4, 2) := ok_iload (by decide +kernel)
theorem dX7_usual_49 : decode cX7_usual 49 = .ok (.if_icmp .gt 6, 3) := ok_if_icmp (by decide +kernel)
theorem dX7_usual_52 : decode cX7_usual 52 = .ok (.goto 16, 3) := ok_goto (by decide +kernel)
theorem dX7_usual_55 : decode cX7_usual 55 = .ok (.iload 5, 2) := ok_iload (by decide +kernel)
theorem dX7_usual_57 : decode cX7_usual 57 = .ok (.istore_n 3, 1) := ok_istore_n (by decide +kernel)
theorem dX7_usual_58 : decode cX7_usual 58 = .ok (.aload_n 0, 1) := ok_aload_n (by decide +kernel)
theorem dX7_usual_59 : decode cX7_usual 59 = .ok (.iload_n 1, 1) := ok_iload_n (by decide +kernel)
theorem dX7_usual_60 : decode cX7_usual 60 = .ok (.iload 5, 2) := ok_iload (by decide +kernel)
theorem dX7_usual_62 : decode cX7_usual 62 = .ok (.iconst 1, 1) := ok_iconst (by decide +kernel)
theorem dX7_usual_63 : decode cX7_usual 63 = .ok (.invokevirtual 407, 3) := ok_invokevirtual (by decide +kernel)
theorem dX7_usual_66 : decode cX7_usual 66 = .ok (.istore 4, 2) := ok_istore (by decide +kernel)
theorem dX7_usual_68 : decode cX7_usual 68 = .ok (.iinc 5 1, 3) := ok_iinc (by decide +kernel)
theorem dX7_usual_71 : decode cX7_usual 71 = .ok (.goto (-42), 3) := ok_goto (by decide +kernel)
theorem dX7_usual_74 : decode cX7_usual 74 = .ok (.iload_n 3, 1) := ok_iload_n (by decide +kernel)
theorem dX7_usual_75 : decode cX7_usual 75 = .ok (.bipush (-2), 2) := ok_bipush (by decide +kernel)
theorem dX7_usual_77 : decode cX7_usual 77 = .ok (.if_icmp .eq 7, 3) := ok_if_icmp (by decide +kernel)
theorem dX7_usual_80 : decode cX7_usual 80 = .ok (.iload_n 2, 1) := ok_iload_n (by decide +kernel)
theorem dX7_usual_81 : decode cX7_usual 81 = .ok (.ifCond .ne 7, 3) := ok_ifCond (by decide +kernel)
theorem dX7_usual_84 : decode cX7_usual 84 = .ok (.iload_n 3, 1) := ok_iload_n (by decide +kernel)
theorem dX7_usual_85 : decode cX7_usual 85 = .ok (.goto 5, 3) := ok_goto (by decide +kernel)
theorem dX7_usual_88 : decode cX7_usual 88 = .ok (.iload 4, 2) := ok_iload (by decide +kernel)
theorem dX7_usual_90 : decode cX7_usual 90 = .ok (.ireturn, 1) := ok_ireturn (by decide +kernel)

/-! Arrays.fill, and what it leaves -/
def fl_f (n : Nat) (v : Int32) (f : Nat → Int32) : Nat → Int32 := fun k => if k < n then v else f k
theorem fl_0 (v : Int32) (f : Nat → Int32) : fl_f 0 v f = f := by
  funext k
  simp [fl_f]
theorem fl_s (i : Nat) (v : Int32) (f : Nat → Int32) (hi : i < 2 ^ 31) : upd (fl_f i v f) (Int32.toNatClampNeg (nI i)) v = fl_f (i + 1) v f := by
  rw [nI_clamp hi]
  funext k
  simp only [upd, fl_f]
  by_cases h : k = i
  · simp [h]
  · by_cases h2 : k < i
    · simp [h2, h, show k < i + 1 by omega]
    · simp [h2, h, show ¬ k < i + 1 by omega]
set_option maxHeartbeats 4000000 in
set_option maxRecDepth 100000 in
theorem c2_fill {l : Launch} {D : va_G} {q : Nat → ClassId} {sz a n : Nat} {f : Nat → Int32} {v : Int32} (hn : n ≤ 6400) : Met l yJ7_fill_53178 (Cond.code yJ7_fill_53178 cJ7_fill_53178 4 none :: w_all) ({ frames := 0, cells := 0, slots := 0, locals := 0 } : Room) (mt_P D q [.ref a, .int v] [(a, .inl (q 0, n, .inl f))] sz) (va_Qv (fun g : Nat → Int32 => g = fl_f n v f) (mt_B D [(a, .inl (q 0, n, .inl f))] sz (fun g => [(a, .inl (q 0, n, .inl g))])) (va_A [(a, .inl (q 0, n, .inl f))] sz)) 0 0 (va_A [(a, .inl (q 0, n, .inl f))] sz) := by
  refine mt_start (by decide) (Nat.le_of_ble_eq_true rfl) ?_
  intro p e s m below meth c ls hx hb hr hml hown ht hk hin hP hQ hD hA hS hV hl
  have hK := hQ.1
  have hl : lv_has ls 4 [(0, .ref a), (1, .int v)] := hl
  refine lv_iconst (v := 0) hx hb dJ7_fill_53178_0 (by decide) ?_
  refine lv_istore_n (lv' := [(2, .int 0), (0, .ref a), (1, .int v)]) hx hb dJ7_fill_53178_1 rfl hl (by decide) rfl (fun ls hl => ?_)
  refine lv_aload_n hx hb dJ7_fill_53178_2 rfl (lv_at hl 1 rfl) ?_
  refine va_alen (v := nI n) hx hb hK hP 0 0 rfl rfl rfl dJ7_fill_53178_3 ?_
  refine lv_istore_n (lv' := [(3, .int (nI n)), (2, .int 0), (0, .ref a), (1, .int v)]) hx hb dJ7_fill_53178_4 rfl hl (by decide) rfl (fun ls hl => ?_)
  have lp : ∀ (j i : Nat), i + j = n → ∀ (H : Heap) (locs : List Loc) (ls : Array Slot), va_P D vwCl [(a, .inl (q 0, n, .inl (fl_f i v f)))] H → va_D (va_A [(a, .inl (q 0, n, .inl f))] sz) [(a, .inl (q 0, n, .inl (fl_f i v f)))] → va_S (va_A [(a, .inl (q 0, n, .inl f))] sz) s.heap H locs → lv_has ls 4 [(2, .int (nI i)), (3, .int (nI n)), (0, .ref a), (1, .int v)] → W p l e ({ frames := 0, cells := 0, slots := 0, locals := 0 } : Room) s m [.ref a, .int v].toArray below meth c H locs 0 0 (MQ below (va_Qv (fun g : Nat → Int32 => g = fl_f n v f) (mt_B D [(a, .inl (q 0, n, .inl f))] sz (fun g => [(a, .inl (q 0, n, .inl g))])) (va_A [(a, .inl (q 0, n, .inl f))] sz)) [.ref a, .int v].toArray s 0 0 (va_A [(a, .inl (q 0, n, .inl f))] sz)) (F0 m 5 ls []) := by
    intro j
    induction j with
    | zero =>
      intro i hi H locs ls hP hD hS hl
      obtain rfl : i = n := by omega
      refine lv_iload_n hx hb dJ7_fill_53178_5 rfl (lv_at hl 0 rfl) ?_
      refine lv_iload_n hx hb dJ7_fill_53178_6 rfl (lv_at hl 1 rfl) ?_
      refine lv_icmp_ge (tgt := 20) hx hb dJ7_fill_53178_7 (by decide) (fun _ => ?_) (fun c9 => absurd (nI_le (Nat.le_refl _) (by omega)) c9)
      exact mt_vret (fl_f i v f) hx hb hr hk rfl hP hD hS dJ7_fill_53178_20
    | succ j ih =>
      intro i hi H locs ls hP hD hS hl
      refine lv_iload_n hx hb dJ7_fill_53178_5 rfl (lv_at hl 0 rfl) ?_
      refine lv_iload_n hx hb dJ7_fill_53178_6 rfl (lv_at hl 1 rfl) ?_
      refine lv_icmp_ge (tgt := 20) hx hb dJ7_fill_53178_7 (by decide) (fun c9 => absurd c9 (nI_ge (by omega) (by omega))) (fun _ => ?_)
      refine lv_aload_n hx hb dJ7_fill_53178_10 rfl (lv_at hl 2 rfl) ?_
      refine lv_iload_n hx hb dJ7_fill_53178_11 rfl (lv_at hl 0 rfl) ?_
      refine lv_iload_n hx hb dJ7_fill_53178_12 rfl (lv_at hl 3 rfl) ?_
      refine va_iast hx hb hK hP hD hS 0 0 rfl rfl (vp_in_nI (by omega) (by omega)) dJ7_fill_53178_13 (fun H locs hP hD hS => ?_)
      rw [fl_s i v f (by omega)] at hP hD
      have hP : va_P D vwCl [(a, .inl (q 0, n, .inl (fl_f (i + 1) v f)))] H := hP
      have hD : va_D _ [(a, .inl (q 0, n, .inl (fl_f (i + 1) v f)))] := hD
      refine lv_iinc (v := nI (i + 1)) (lv' := [(2, .int (nI (i + 1))), (3, .int (nI n)), (0, .ref a), (1, .int v)]) hx hb dJ7_fill_53178_14 hl (k := 0) rfl (nI_inc i) (by decide) rfl (fun ls hl => ?_)
      refine lv_goto (tgt := 5) hx hb dJ7_fill_53178_17 (by decide) ?_
      exact ih (i + 1) (by omega) H locs ls hP hD hS hl
  refine lp n 0 (by omega) _ _ ls ?_ ?_ hS (lv_sub hl [1, 0, 2, 3] rfl)
  · rw [fl_0]
    exact hP
  · rw [fl_0]
    exact hD

/-! Worlds by their members: order counts for nothing. The boards that the past and the shelves hold. -/
theorem vp_iff {D : va_G} {cl : List vw_C} {ws : va_W} {H : Heap} : va_P D cl ws H ↔ ∀ x ∈ ws, va_at D cl x H := by
  constructor
  · intro h x hx
    obtain ⟨k, hk⟩ := List.getElem?_of_mem hx
    exact h k x hk
  · intro h k x hk
    exact h x (List.mem_of_getElem? hk)
theorem vp_perm {D : va_G} {cl : List vw_C} {ws ws2 : va_W} {H : Heap} (hp : List.Perm ws ws2) (h : va_P D cl ws H) : va_P D cl ws2 H := vp_iff.mpr (fun x hx => vp_iff.mp h x (hp.mem_iff.mpr hx))
theorem vd_iff {A : Nat → Prop} {ws : va_W} : va_D A ws ↔ (ws.map Prod.fst).Nodup ∧ ∀ x ∈ ws, A x.1 := by
  constructor
  · intro h
    refine ⟨List.pairwise_iff_getElem.mpr (fun i j hi hj hij e => ?_), fun x hx => ?_⟩
    · have hi2 : i < ws.length := by simpa using hi
      have hj2 : j < ws.length := by simpa using hj
      have := h.1 i j ws[i] ws[j] (List.getElem?_eq_getElem hi2) (List.getElem?_eq_getElem hj2) (by simpa using e)
      omega
    · obtain ⟨k, hk⟩ := List.getElem?_of_mem hx
      exact h.2 k x hk
  · intro h
    refine ⟨fun i j x y hi hj e => ?_, fun k x hk => h.2 x (List.mem_of_getElem? hk)⟩
    have h1 := List.pairwise_iff_getElem.mp h.1
    obtain ⟨li, ei⟩ := List.getElem?_eq_some_iff.mp hi
    obtain ⟨lj, ej⟩ := List.getElem?_eq_some_iff.mp hj
    rcases Nat.lt_trichotomy i j with hlt | heq | hgt
    · have h2 := h1 i j (by simpa using li) (by simpa using lj) hlt
      simp only [List.getElem_map, ei, ej] at h2
      exact absurd e h2
    · exact heq
    · have h2 := h1 j i (by simpa using lj) (by simpa using li) hgt
      simp only [List.getElem_map, ei, ej] at h2
      exact absurd e.symm h2
theorem vd_perm {A : Nat → Prop} {ws ws2 : va_W} (hp : List.Perm ws ws2) (h : va_D A ws) : va_D A ws2 := by
  have h1 := vd_iff.mp h
  exact vd_iff.mpr ⟨(hp.map Prod.fst).nodup_iff.mp h1.1, fun x hx => h1.2 x (hp.mem_iff.mpr hx)⟩
theorem vA_iff {ws : va_W} {sz x : Nat} : va_A ws sz x ↔ (∃ e, (x, e) ∈ ws) ∨ sz ≤ x := by
  constructor
  · rintro (⟨k, e, h⟩ | h)
    · exact Or.inl ⟨e, List.mem_of_getElem? h⟩
    · exact Or.inr h
  · rintro (⟨e, h⟩ | h)
    · obtain ⟨k, hk⟩ := List.getElem?_of_mem h
      exact Or.inl ⟨k, e, hk⟩
    · exact Or.inr h
def sl_w (q : Nat → ClassId) (a : Nat → Nat) (o : Option Bd) : va_W := match o with
  | none => []
  | some s => bd_w a q s
def ps_w (q : Nat → ClassId) (n : Nat) (A : Nat → Nat → Nat) (P : Nat → Option Bd) : va_W := (List.range n).flatMap (fun k => sl_w q (A k) (P k))
theorem ps_congr {q : Nat → ClassId} {n : Nat} {A B : Nat → Nat → Nat} {P Q : Nat → Option Bd} (h : ∀ k, k < n → sl_w q (A k) (P k) = sl_w q (B k) (Q k)) : ps_w q n A P = ps_w q n B Q := by
  unfold ps_w
  induction n with
  | zero => rfl
  | succ n ih =>
    rw [List.range_succ, List.flatMap_append, List.flatMap_append, ih (fun k hk => h k (by omega))]
    simp only [List.flatMap_cons, List.flatMap_nil, List.append_nil]
    rw [h n (by omega)]
/-- one slot, and the rest -/
theorem ps_perm {q : Nat → ClassId} {n k : Nat} {A : Nat → Nat → Nat} {P : Nat → Option Bd} (hk : k < n) : List.Perm (ps_w q n A P) (sl_w q (A k) (P k) ++ ps_w q n A (va_up P k none)) := by
  induction n with
  | zero => omega
  | succ n ih =>
    have e1 : ∀ (R : Nat → Option Bd), ps_w q (n + 1) A R = ps_w q n A R ++ sl_w q (A n) (R n) := by
      intro R
      unfold ps_w
      rw [List.range_succ, List.flatMap_append]
      simp only [List.flatMap_cons, List.flatMap_nil, List.append_nil]
    rw [e1 P, e1 (va_up P k none)]
    by_cases h : k = n
    · subst h
      have e2 : ps_w q k A (va_up P k none) = ps_w q k A P := ps_congr (fun j hj => by
        have : va_up P k none j = P j := by simp [va_up, show ¬ j = k by omega]
        rw [this])
      have e3 : va_up P k none k = none := by simp [va_up]
      rw [e2, e3]
      show List.Perm (ps_w q k A P ++ sl_w q (A k) (P k)) (sl_w q (A k) (P k) ++ (ps_w q k A P ++ []))
      rw [List.append_nil]
      exact List.perm_append_comm
    · have e3 : va_up P k none n = P n := by simp [va_up, show ¬ n = k by omega]
      rw [e3, ← List.append_assoc]
      exact (ih (by omega)).append_right _
/-- a slot filled anew: the rest is as it was -/
theorem ps_fill {q : Nat → ClassId} {n k : Nat} {A : Nat → Nat → Nat} {P : Nat → Option Bd} {a : Nat → Nat} {s : Bd} (hk : k < n) : List.Perm (bd_w a q s ++ ps_w q n A (va_up P k none)) (ps_w q n (va_up A k a) (va_up P k (some s))) := by
  refine List.Perm.symm ?_
  have h := ps_perm (q := q) (n := n) (k := k) (A := va_up A k a) (P := va_up P k (some s)) hk
  have e1 : sl_w q (va_up A k a k) (va_up P k (some s) k) = bd_w a q s := by simp [va_up, sl_w]
  have e2 : ps_w q n (va_up A k a) (va_up (va_up P k (some s)) k none) = ps_w q n A (va_up P k none) := ps_congr (fun j hj => by
    by_cases h : j = k
    · simp [va_up, h, sl_w]
    · simp [va_up, h])
  rw [e1, e2] at h
  exact h
/-- what a row of boards holds: addresses where there are boards -/
def pf_f (A : Nat → Nat → Nat) (P : Nat → Option Bd) : Nat → Option Nat := fun k => (P k).map (fun _ => A k 0)
theorem pf_up {A : Nat → Nat → Nat} {P : Nat → Option Bd} {k : Nat} {a : Nat → Nat} {s : Bd} : va_up (pf_f A P) k (some (a 0)) = pf_f (va_up A k a) (va_up P k (some s)) := by
  funext j
  by_cases h : j = k
  · simp [va_up, pf_f, h]
  · simp [va_up, pf_f, h]

/-! Calls beside a pool of boards; a slot opened, a slot closed. -/
theorem fr_Q {A : Nat → Prop} {X wc pl : va_W} {H0 H : Heap} {locs : List Loc} (hD : va_D A (X ++ pl)) (hS : va_S A H0 H locs) (hA : ∀ x : Nat, H0.size ≤ x → A x) (isC : List Nat) (hC : isC.map (fun i => X[i]?) = wc.map some) : ∀ x, va_A wc H.size x → A x := by
  intro x h
  rcases h with ⟨k, e, h⟩ | h
  · obtain ⟨i, -, h2⟩ := va_in_of isC hC h
    have hi : i < X.length := (List.getElem?_eq_some_iff.mp h2).1
    exact hD.2 i (x, e) (by rw [List.getElem?_append_left hi]; exact h2)
  · exact hA x (Nat.le_trans hS.1 h)
section QQ
variable {p : Program} {l : Launch} {e : Env} {R : Room} {s : State} {m : MethodId} {args : Array Value} {below : List Frame} {meth : Method} {c : Code} {H : Heap} {locs : List Loc} {cells slots : Nat} {Q : State → Prop}
variable {pc : Nat} {ls : Array Slot} {rest st : List Value} {D : va_G} {wc X pl : va_W} {A : Nat → Prop} {H0 : Heap}
theorem mt_govQ {S : Type} {post : S → Prop} {w2 : S → va_W} {wr : va_W} {mc ms : Nat} {av : Array Value} (hr : va_Run p l e R s m args below meth c H locs cells slots mc ms (F0 m pc ls st) rest (va_Qv post (mt_B D wc H.size w2) (va_A wc H.size) av) (va_A wc H.size)) (hP : va_P D vwCl (X ++ pl) H) (hD : va_D A (X ++ pl)) (hS : va_S A H0 H locs) (hA : ∀ x : Nat, H0.size ≤ x → A x) (isC isR : List Nat) (hC : isC.map (fun i => X[i]?) = wc.map some) (hR : isR.map (fun i => X[i]?) = wr.map some) (hn : va_nd isR = true) (hdis : ∀ i ∈ isR, i ∉ isC)
    (kk : ∀ (u : S) (H1 : Heap) (locs1 : List Loc), post u → va_P D vwCl ((wr ++ w2 u) ++ pl) H1 → va_D A ((wr ++ w2 u) ++ pl) → va_S A H0 H1 locs1 → W p l e R s m args below meth c H1 locs1 (cells + mc) (slots + ms) Q (F0 m (pc + 3) ls rest)) : W p l e R s m args below meth c H locs cells slots Q (F0 m pc ls st) := by
  have hF := fr_Q (wc := wc) hD hS hA isC hC
  refine va_callv hr hS (fun x _ h => hF x h) hF (fun u t H1 locs1 ht hvm hw hB hz1 hk1 hS1 => ?_)
  obtain ⟨hP1, hD1⟩ := hB
  rw [ht] at hP1
  obtain ⟨hP2, hD2⟩ := va_joinQ hP hD isC isR hC hR hn hdis hk1 hF hP1 hD1
  exact kk u H1 locs1 hw hP2 hD2 hS1
theorem mt_goiQ {S : Type} {post : Int32 → S → Prop} {w2 : S → va_W} {wr : va_W} {mc ms : Nat} {av : Array Value} (hr : va_Run p l e R s m args below meth c H locs cells slots mc ms (F0 m pc ls st) rest (va_Qi post (mt_B D wc H.size w2) (va_A wc H.size) av) (va_A wc H.size)) (hP : va_P D vwCl (X ++ pl) H) (hD : va_D A (X ++ pl)) (hS : va_S A H0 H locs) (hA : ∀ x : Nat, H0.size ≤ x → A x) (isC isR : List Nat) (hC : isC.map (fun i => X[i]?) = wc.map some) (hR : isR.map (fun i => X[i]?) = wr.map some) (hn : va_nd isR = true) (hdis : ∀ i ∈ isR, i ∉ isC)
    (kk : ∀ (r : Int32) (u : S) (H1 : Heap) (locs1 : List Loc), post r u → va_P D vwCl ((wr ++ w2 u) ++ pl) H1 → va_D A ((wr ++ w2 u) ++ pl) → va_S A H0 H1 locs1 → W p l e R s m args below meth c H1 locs1 (cells + mc) (slots + ms) Q (F0 m (pc + 3) ls (.int r :: rest))) : W p l e R s m args below meth c H locs cells slots Q (F0 m pc ls st) := by
  have hF := fr_Q (wc := wc) hD hS hA isC hC
  refine va_calli hr hS (fun x _ h => hF x h) hF (fun r u t H1 locs1 ht hvm hw hB hz1 hk1 hS1 => ?_)
  obtain ⟨hP1, hD1⟩ := hB
  rw [ht] at hP1
  obtain ⟨hP2, hD2⟩ := va_joinQ hP hD isC isR hC hR hn hdis hk1 hF hP1 hD1
  exact kk r u H1 locs1 hw hP2 hD2 hS1
/-- a call that has the pool too -/
theorem mt_govP {S : Type} {post : S → Prop} {w2 pl2 : S → va_W} {wr : va_W} {mc ms : Nat} {av : Array Value} (hr : va_Run p l e R s m args below meth c H locs cells slots mc ms (F0 m pc ls st) rest (va_Qv post (mt_B D (wc ++ pl) H.size (fun u => w2 u ++ pl2 u)) (va_A (wc ++ pl) H.size) av) (va_A (wc ++ pl) H.size)) (hP : va_P D vwCl (X ++ pl) H) (hD : va_D A (X ++ pl)) (hS : va_S A H0 H locs) (hA : ∀ x : Nat, H0.size ≤ x → A x) (isC isR : List Nat) (hC : isC.map (fun i => X[i]?) = wc.map some) (hR : isR.map (fun i => X[i]?) = wr.map some) (hn : va_nd isR = true) (hdis : ∀ i ∈ isR, i ∉ isC)
    (kk : ∀ (u : S) (H1 : Heap) (locs1 : List Loc), post u → va_P D vwCl ((wr ++ w2 u) ++ pl2 u) H1 → va_D A ((wr ++ w2 u) ++ pl2 u) → va_S A H0 H1 locs1 → W p l e R s m args below meth c H1 locs1 (cells + mc) (slots + ms) Q (F0 m (pc + 3) ls rest)) : W p l e R s m args below meth c H locs cells slots Q (F0 m pc ls st) := by
  have hF := va_freeP (cx := wc) hD hS hA isC hC
  refine va_callv hr hS (fun x _ h => hF x h) hF (fun u t H1 locs1 ht hvm hw hB hz1 hk1 hS1 => ?_)
  obtain ⟨hP1, hD1⟩ := hB
  rw [ht] at hP1
  obtain ⟨hP2, hD2⟩ := va_joinP hP hD isC isR hC hR hn hdis hk1 hF hP1 hD1
  exact kk u H1 locs1 hw hP2 hD2 hS1
theorem mt_goiP {S : Type} {post : Int32 → S → Prop} {w2 pl2 : S → va_W} {wr : va_W} {mc ms : Nat} {av : Array Value} (hr : va_Run p l e R s m args below meth c H locs cells slots mc ms (F0 m pc ls st) rest (va_Qi post (mt_B D (wc ++ pl) H.size (fun u => w2 u ++ pl2 u)) (va_A (wc ++ pl) H.size) av) (va_A (wc ++ pl) H.size)) (hP : va_P D vwCl (X ++ pl) H) (hD : va_D A (X ++ pl)) (hS : va_S A H0 H locs) (hA : ∀ x : Nat, H0.size ≤ x → A x) (isC isR : List Nat) (hC : isC.map (fun i => X[i]?) = wc.map some) (hR : isR.map (fun i => X[i]?) = wr.map some) (hn : va_nd isR = true) (hdis : ∀ i ∈ isR, i ∉ isC)
    (kk : ∀ (r : Int32) (u : S) (H1 : Heap) (locs1 : List Loc), post r u → va_P D vwCl ((wr ++ w2 u) ++ pl2 u) H1 → va_D A ((wr ++ w2 u) ++ pl2 u) → va_S A H0 H1 locs1 → W p l e R s m args below meth c H1 locs1 (cells + mc) (slots + ms) Q (F0 m (pc + 3) ls (.int r :: rest))) : W p l e R s m args below meth c H locs cells slots Q (F0 m pc ls st) := by
  have hF := va_freeP (cx := wc) hD hS hA isC hC
  refine va_calli hr hS (fun x _ h => hF x h) hF (fun r u t H1 locs1 ht hvm hw hB hz1 hk1 hS1 => ?_)
  obtain ⟨hP1, hD1⟩ := hB
  rw [ht] at hP1
  obtain ⟨hP2, hD2⟩ := va_joinP hP hD isC isR hC hR hn hdis hk1 hF hP1 hD1
  exact kk r u H1 locs1 hw hP2 hD2 hS1
end QQ
theorem pq_perm (X Y pl : va_W) : List.Perm ((X ++ pl) ++ Y) ((X ++ Y) ++ pl) := by
  rw [List.append_assoc, List.append_assoc]
  exact (List.perm_append_comm).append_left X
theorem po_perm {q : Nat → ClassId} {n k : Nat} {A : Nat → Nat → Nat} {P : Nat → Option Bd} {S : Bd} (X : va_W) (hk : k < n) (hS : P k = some S) : List.Perm (X ++ ps_w q n A P) ((X ++ bd_w (A k) q S) ++ ps_w q n A (va_up P k none)) := by
  have h := ps_perm (q := q) (A := A) (P := P) hk
  rw [hS] at h
  rw [List.append_assoc]
  exact List.Perm.append_left X h
theorem pc_perm {q : Nat → ClassId} {n k : Nat} {A : Nat → Nat → Nat} {P : Nat → Option Bd} {a : Nat → Nat} {S : Bd} (X : va_W) (hk : k < n) : List.Perm ((X ++ bd_w a q S) ++ ps_w q n A (va_up P k none)) (X ++ ps_w q n (va_up A k a) (va_up P k (some S))) := by
  rw [List.append_assoc]
  exact List.Perm.append_left X (ps_fill hk)
theorem pn_same {q : Nat → ClassId} {n k : Nat} {A : Nat → Nat → Nat} {P : Nat → Option Bd} (hN : P k = none) : ps_w q n A (va_up P k none) = ps_w q n A P := ps_congr (fun j _ => by
  by_cases h : j = k
  · simp [va_up, h, hN]
  · simp [va_up, h])

def wp_J0_coder_7d493 (post : Int32 → Prop) (i0 : Nat) : Prop := post 0
set_option maxHeartbeats 4000000 in
set_option maxRecDepth 100000 in
theorem c2_J0_coder_7d493 {l : Launch} {D : va_G} {q : Nat → ClassId} {i0 : Nat} {post : Int32 → Prop} (hs : i0 < 12) (h : wp_J0_coder_7d493 post i0) : Met l yJ0_coder_7d493 (Cond.code yJ0_coder_7d493 cJ0_coder_7d493 1 (some .byte) :: w_all) ({ frames := 0, cells := 0, slots := 0, locals := 0 } : Room) (rd_P D q [.ref (q (100 + i0))] (([] : va_W))) (vp_Si post) 0 0 (fun _ => False) := by
  refine rd_start (by decide) (Nat.le_of_ble_eq_true rfl) ?_
  intro p e s m below meth c ls hx hb hr hml hown ht hk hP hQ hV hl
  have hK := hQ.1
  have hown : s.vm.findClass RJ0 = some m.cls := hown
  have hl : lv_has ls 1 [(0, .ref (q (100 + i0)))] := hl
  unfold wp_J0_coder_7d493 at h
  refine va_gets (v := .int 1) hx hb hV.2.1 va_S.rf hown (ht _ mw_444) (fun _ h => h) dJ0_coder_7d493_0 ?_
  refine lv_if_eq (tgt := 13) hx hb dJ0_coder_7d493_3 (by decide) (fun c9 => absurd c9 (by decide)) (fun _ => ?_)
  refine lv_aload_n hx hb dJ0_coder_7d493_6 rfl (lv_at hl 0 rfl) ?_
  refine vk_getf (v := .int 0) hx hb (hV.1.1 i0 hs).2.1 va_S.rf hown (ht _ mw_1706) (fun _ h => h) dJ0_coder_7d493_7 ?_
  refine lv_goto (tgt := 14) hx hb dJ0_coder_7d493_10 (by decide) ?_
  exact rd_zret hx hb hr hk rfl h dJ0_coder_7d493_14

def wp_J0_length_8abf5 (post : Int32 → Prop) (i0 : Nat) : Prop := wp_J0_coder_7d493 (fun r_1 => post ((Int32.ofNat (st_len.getD i0 0)) >>> (r_1 &&& 31))) i0
set_option maxHeartbeats 4000000 in
set_option maxRecDepth 100000 in
theorem c2_J0_length_8abf5 {l : Launch} {D : va_G} {q : Nat → ClassId} {i0 : Nat} {post : Int32 → Prop} (hs : i0 < 12) (h : wp_J0_length_8abf5 post i0) : Met l yJ0_length_8abf5 (Cond.code yJ0_length_8abf5 cJ0_length_8abf5 1 (some .int) :: w_all) ({ frames := 1, cells := 0, slots := 0, locals := 20 } : Room) (rd_P D q [.ref (q (100 + i0))] (([] : va_W))) (vp_Si post) 0 0 (fun _ => False) := by
  refine rd_start (by decide) (Nat.le_of_ble_eq_true rfl) ?_
  intro p e s m below meth c ls hx hb hr hml hown ht hk hP hQ hV hl
  have hK := hQ.1
  have hown : s.vm.findClass RJ0 = some m.cls := hown
  have hl : lv_has ls 1 [(0, .ref (q (100 + i0)))] := hl
  unfold wp_J0_length_8abf5 at h
  refine lv_aload_n hx hb dJ0_length_8abf5_0 rfl (lv_at hl 0 rfl) ?_
  refine vk_getf (v := .ref (q (200 + i0))) hx hb (hV.1.1 i0 hs).2.2.1 va_S.rf hown (ht _ mw_1705) (fun _ h => h) dJ0_length_8abf5_1 ?_
  refine va_tlen (v := (Int32.ofNat (st_len.getD i0 0))) hx hb (hV.1.1 i0 hs).2.2.2 va_S.rf rfl dJ0_length_8abf5_4 ?_
  refine lv_aload_n hx hb dJ0_length_8abf5_5 rfl (lv_at hl 0 rfl) ?_
  refine vp_callSi (rd_wVs (i := i0) (wc := ([] : va_W)) (As := []) (rest := [.int (Int32.ofNat (st_len.getD i0 0))]) hx hb hml hown ht (c2_J0_coder_7d493 hs h) wd_J0_coder_7d493 mw_440 hQ hV va_S.rf (hP.sub [] rfl) hs rfl rfl hl.1 rfl (Nat.le_of_ble_eq_true rfl) dJ0_length_8abf5_6 ⟨Nat.le_of_ble_eq_true rfl, Nat.le_of_ble_eq_true rfl, rfl, rfl⟩ ⟨Nat.le_of_ble_eq_true rfl, Nat.le_of_ble_eq_true rfl⟩) (fun r_1 h => ?_)
  try dsimp only at h
  refine lv_ishr hx hb dJ0_length_8abf5_9 ?_
  exact rd_iret hx hb hr hk h dJ0_length_8abf5_10

def wp_J0_isLatin1_aae02 (post : Int32 → Prop) (i0 : Nat) : Prop := post 1
set_option maxHeartbeats 4000000 in
set_option maxRecDepth 100000 in
theorem c2_J0_isLatin1_aae02 {l : Launch} {D : va_G} {q : Nat → ClassId} {i0 : Nat} {post : Int32 → Prop} (hs : i0 < 12) (h : wp_J0_isLatin1_aae02 post i0) : Met l yJ0_isLatin1_aae02 (Cond.code yJ0_isLatin1_aae02 cJ0_isLatin1_aae02 1 (some .boolean) :: w_all) ({ frames := 0, cells := 0, slots := 0, locals := 0 } : Room) (rd_P D q [.ref (q (100 + i0))] (([] : va_W))) (vp_Si post) 0 0 (fun _ => False) := by
  refine rd_start (by decide) (Nat.le_of_ble_eq_true rfl) ?_
  intro p e s m below meth c ls hx hb hr hml hown ht hk hP hQ hV hl
  have hK := hQ.1
  have hown : s.vm.findClass RJ0 = some m.cls := hown
  have hl : lv_has ls 1 [(0, .ref (q (100 + i0)))] := hl
  unfold wp_J0_isLatin1_aae02 at h
  refine va_gets (v := .int 1) hx hb hV.2.1 va_S.rf hown (ht _ mw_444) (fun _ h => h) dJ0_isLatin1_aae02_0 ?_
  refine lv_if_eq (tgt := 17) hx hb dJ0_isLatin1_aae02_3 (by decide) (fun c9 => absurd c9 (by decide)) (fun _ => ?_)
  refine lv_aload_n hx hb dJ0_isLatin1_aae02_6 rfl (lv_at hl 0 rfl) ?_
  refine vk_getf (v := .int 0) hx hb (hV.1.1 i0 hs).2.1 va_S.rf hown (ht _ mw_1706) (fun _ h => h) dJ0_isLatin1_aae02_7 ?_
  refine lv_if_ne (tgt := 17) hx hb dJ0_isLatin1_aae02_10 (by decide) (fun c9 => absurd c9 (by decide)) (fun _ => ?_)
  refine lv_iconst (v := 1) hx hb dJ0_isLatin1_aae02_13 (by decide) ?_
  refine lv_goto (tgt := 18) hx hb dJ0_isLatin1_aae02_14 (by decide) ?_
  exact rd_zret hx hb hr hk rfl h dJ0_isLatin1_aae02_18

def wp_J3_checkIndex_8e157_n (post : Int32 → Prop) (x0 : Int32) (x1 : Int32) : Prop := ((x0 < 0 → False) ∧ (¬ x0 < 0 → ((x0 < x1 → post x0) ∧ (¬ x0 < x1 → False))))
set_option maxHeartbeats 4000000 in
set_option maxRecDepth 100000 in
theorem c2_J3_checkIndex_8e157_n {l : Launch} {D : va_G} {q : Nat → ClassId} {x0 : Int32} {x1 : Int32} {post : Int32 → Prop} (h : wp_J3_checkIndex_8e157_n post x0 x1) : Met l yJ3_checkIndex_8e157 (Cond.code yJ3_checkIndex_8e157 cJ3_checkIndex_8e157 3 (some .int) :: w_all) ({ frames := 0, cells := 0, slots := 0, locals := 0 } : Room) (rd_P D q [.int x0, .int x1, .null] (([] : va_W))) (vp_Si post) 0 0 (fun _ => False) := by
  refine rd_start (by decide) (Nat.le_of_ble_eq_true rfl) ?_
  intro p e s m below meth c ls hx hb hr hml hown ht hk hP hQ hV hl
  have hK := hQ.1
  have hown : s.vm.findClass RJ3 = some m.cls := hown
  have hl : lv_has ls 3 [(0, .int x0), (1, .int x1), (2, .null)] := hl
  unfold wp_J3_checkIndex_8e157_n at h
  refine lv_iload_n hx hb dJ3_checkIndex_8e157_0 rfl (lv_at hl 0 rfl) ?_
  refine lv_if_lt (tgt := 9) hx hb dJ3_checkIndex_8e157_1 (by decide) (fun c_1 => ?_) (fun c_1 => ?_)
  · replace h := h.1 c_1
    refine lv_aload_nN hx hb dJ3_checkIndex_8e157_9 rfl (lv_at hl 2 rfl) ?_
    refine lv_iload_n hx hb dJ3_checkIndex_8e157_10 rfl (lv_at hl 0 rfl) ?_
    refine lv_iload_n hx hb dJ3_checkIndex_8e157_11 rfl (lv_at hl 1 rfl) ?_
    exact h.elim
  · replace h := h.2 c_1
    refine lv_iload_n hx hb dJ3_checkIndex_8e157_4 rfl (lv_at hl 0 rfl) ?_
    refine lv_iload_n hx hb dJ3_checkIndex_8e157_5 rfl (lv_at hl 1 rfl) ?_
    refine lv_icmp_lt (tgt := 16) hx hb dJ3_checkIndex_8e157_6 (by decide) (fun c_2 => ?_) (fun c_2 => ?_)
    · replace h := h.1 c_2
      refine lv_iload_n hx hb dJ3_checkIndex_8e157_16 rfl (lv_at hl 0 rfl) ?_
      exact rd_iret hx hb hr hk h dJ3_checkIndex_8e157_17
    · replace h := h.2 c_2
      refine lv_aload_nN hx hb dJ3_checkIndex_8e157_9 rfl (lv_at hl 2 rfl) ?_
      refine lv_iload_n hx hb dJ3_checkIndex_8e157_10 rfl (lv_at hl 0 rfl) ?_
      refine lv_iload_n hx hb dJ3_checkIndex_8e157_11 rfl (lv_at hl 1 rfl) ?_
      exact h.elim

set_option maxHeartbeats 4000000 in
set_option maxRecDepth 100000 in
theorem c2_J3_checkIndex_8e157_r {l : Launch} {D : va_G} {q : Nat → ClassId} {tz : Nat} {x0 : Int32} {x1 : Int32} {post : Int32 → Prop} (h : wp_J3_checkIndex_8e157_n post x0 x1) : Met l yJ3_checkIndex_8e157 (Cond.code yJ3_checkIndex_8e157 cJ3_checkIndex_8e157 3 (some .int) :: w_all) ({ frames := 0, cells := 0, slots := 0, locals := 0 } : Room) (rd_P D q [.int x0, .int x1, .ref tz] (([] : va_W))) (vp_Si post) 0 0 (fun _ => False) := by
  refine rd_start (by decide) (Nat.le_of_ble_eq_true rfl) ?_
  intro p e s m below meth c ls hx hb hr hml hown ht hk hP hQ hV hl
  have hK := hQ.1
  have hown : s.vm.findClass RJ3 = some m.cls := hown
  have hl : lv_has ls 3 [(0, .int x0), (1, .int x1), (2, .ref tz)] := hl
  unfold wp_J3_checkIndex_8e157_n at h
  refine lv_iload_n hx hb dJ3_checkIndex_8e157_0 rfl (lv_at hl 0 rfl) ?_
  refine lv_if_lt (tgt := 9) hx hb dJ3_checkIndex_8e157_1 (by decide) (fun c_1 => ?_) (fun c_1 => ?_)
  · replace h := h.1 c_1
    refine lv_aload_n hx hb dJ3_checkIndex_8e157_9 rfl (lv_at hl 2 rfl) ?_
    refine lv_iload_n hx hb dJ3_checkIndex_8e157_10 rfl (lv_at hl 0 rfl) ?_
    refine lv_iload_n hx hb dJ3_checkIndex_8e157_11 rfl (lv_at hl 1 rfl) ?_
    exact h.elim
  · replace h := h.2 c_1
    refine lv_iload_n hx hb dJ3_checkIndex_8e157_4 rfl (lv_at hl 0 rfl) ?_
    refine lv_iload_n hx hb dJ3_checkIndex_8e157_5 rfl (lv_at hl 1 rfl) ?_
    refine lv_icmp_lt (tgt := 16) hx hb dJ3_checkIndex_8e157_6 (by decide) (fun c_2 => ?_) (fun c_2 => ?_)
    · replace h := h.1 c_2
      refine lv_iload_n hx hb dJ3_checkIndex_8e157_16 rfl (lv_at hl 0 rfl) ?_
      exact rd_iret hx hb hr hk h dJ3_checkIndex_8e157_17
    · replace h := h.2 c_2
      refine lv_aload_n hx hb dJ3_checkIndex_8e157_9 rfl (lv_at hl 2 rfl) ?_
      refine lv_iload_n hx hb dJ3_checkIndex_8e157_10 rfl (lv_at hl 0 rfl) ?_
      refine lv_iload_n hx hb dJ3_checkIndex_8e157_11 rfl (lv_at hl 1 rfl) ?_
      exact h.elim

def wp_J0_checkIndex_df160 (post : Prop) (x0 : Int32) (x1 : Int32) : Prop := wp_J3_checkIndex_8e157_n (fun r_3 => post) x0 x1
set_option maxHeartbeats 4000000 in
set_option maxRecDepth 100000 in
theorem c2_J0_checkIndex_df160 {l : Launch} {D : va_G} {q : Nat → ClassId} {x0 : Int32} {x1 : Int32} {post : Prop} (h : wp_J0_checkIndex_df160 post x0 x1) : Met l yJ0_checkIndex_df160 (Cond.code yJ0_checkIndex_df160 cJ0_checkIndex_df160 2 none :: w_all) ({ frames := 1, cells := 0, slots := 0, locals := 22 } : Room) (rd_P D q [.int x0, .int x1] (([] : va_W))) (va_Sv (fun _ => post)) 0 0 (fun _ => False) := by
  refine rd_start (by decide) (Nat.le_of_ble_eq_true rfl) ?_
  intro p e s m below meth c ls hx hb hr hml hown ht hk hP hQ hV hl
  have hK := hQ.1
  have hown : s.vm.findClass RJ0 = some m.cls := hown
  have hl : lv_has ls 2 [(0, .int x0), (1, .int x1)] := hl
  unfold wp_J0_checkIndex_df160 at h
  refine lv_iload_n hx hb dJ0_checkIndex_df160_0 rfl (lv_at hl 0 rfl) ?_
  refine lv_iload_n hx hb dJ0_checkIndex_df160_1 rfl (lv_at hl 1 rfl) ?_
  rcases hV.2.2 with hz | ⟨tz, hz⟩
  · refine va_gets (v := .null) hx hb hz va_S.rf hown (ht _ mw_460) (fun _ h => h) dJ0_checkIndex_df160_2 ?_
    refine vp_callSi (rd_wS (wc := ([] : va_W)) (As := [.int x0, .int x1, .null]) (rest := []) hx hb hml hown ht (c2_J3_checkIndex_8e157_n h) wd_J3_checkIndex_8e157 mw_462 hQ hV va_S.rf (hP.sub [] rfl) rfl hl.1 rfl (Nat.le_of_ble_eq_true rfl) dJ0_checkIndex_df160_5 ⟨Nat.le_of_ble_eq_true rfl, Nat.le_of_ble_eq_true rfl, rfl, rfl⟩ ⟨Nat.le_of_ble_eq_true rfl, Nat.le_of_ble_eq_true rfl⟩) (fun r_1 h => ?_)
    try dsimp only at h
    refine lv_pop hx hb dJ0_checkIndex_df160_8 rfl ?_
    exact rd_vret2 hx hb hr hk h dJ0_checkIndex_df160_9
  · refine va_gets (v := .ref tz) hx hb hz va_S.rf hown (ht _ mw_460) (fun _ h => h) dJ0_checkIndex_df160_2 ?_
    refine vp_callSi (rd_wS (wc := ([] : va_W)) (As := [.int x0, .int x1, .ref tz]) (rest := []) hx hb hml hown ht (c2_J3_checkIndex_8e157_r h) wd_J3_checkIndex_8e157 mw_462 hQ hV va_S.rf (hP.sub [] rfl) rfl hl.1 rfl (Nat.le_of_ble_eq_true rfl) dJ0_checkIndex_df160_5 ⟨Nat.le_of_ble_eq_true rfl, Nat.le_of_ble_eq_true rfl, rfl, rfl⟩ ⟨Nat.le_of_ble_eq_true rfl, Nat.le_of_ble_eq_true rfl⟩) (fun r_3 h => ?_)
    try dsimp only at h
    refine lv_pop hx hb dJ0_checkIndex_df160_8 rfl ?_
    exact rd_vret2 hx hb hr hk h dJ0_checkIndex_df160_9

def wp_J1_charAt_3b067 (post : Int32 → Prop) (i0 : Nat) (x1 : Int32) : Prop := wp_J0_checkIndex_df160 (vp_in x1 (st_len.getD i0 0) ∧ narrow .char (.int (UInt32.toInt32 (Int32.toUInt32 (((st_byt.getD i0 []).getD (Int32.toNatClampNeg x1) 0) &&& 255) % 65536))) = .int (UInt32.toInt32 (Int32.toUInt32 (((st_byt.getD i0 []).getD (Int32.toNatClampNeg x1) 0) &&& 255) % 65536)) ∧ post (UInt32.toInt32 (Int32.toUInt32 (((st_byt.getD i0 []).getD (Int32.toNatClampNeg x1) 0) &&& 255) % 65536))) x1 (Int32.ofNat (st_len.getD i0 0))
set_option maxHeartbeats 4000000 in
set_option maxRecDepth 100000 in
theorem c2_J1_charAt_3b067 {l : Launch} {D : va_G} {q : Nat → ClassId} {i0 : Nat} {x1 : Int32} {post : Int32 → Prop} (hs : i0 < 12) (h : wp_J1_charAt_3b067 post i0 x1) : Met l yJ1_charAt_3b067 (Cond.code yJ1_charAt_3b067 cJ1_charAt_3b067 2 (some .char) :: w_all) ({ frames := 2, cells := 0, slots := 0, locals := 43 } : Room) (rd_P D q [.ref (q (200 + i0)), .int x1] (([] : va_W))) (vp_Si post) 0 0 (fun _ => False) := by
  refine rd_start (by decide) (Nat.le_of_ble_eq_true rfl) ?_
  intro p e s m below meth c ls hx hb hr hml hown ht hk hP hQ hV hl
  have hK := hQ.1
  have hown : s.vm.findClass RJ1 = some m.cls := hown
  have hl : lv_has ls 2 [(0, .ref (q (200 + i0))), (1, .int x1)] := hl
  unfold wp_J1_charAt_3b067 at h
  refine lv_iload_n hx hb dJ1_charAt_3b067_0 rfl (lv_at hl 1 rfl) ?_
  refine lv_aload_n hx hb dJ1_charAt_3b067_1 rfl (lv_at hl 0 rfl) ?_
  refine va_tlen (v := (Int32.ofNat (st_len.getD i0 0))) hx hb (hV.1.1 i0 hs).2.2.2 va_S.rf rfl dJ1_charAt_3b067_2 ?_
  refine va_csv (rd_wS (wc := ([] : va_W)) (As := [.int x1, .int (Int32.ofNat (st_len.getD i0 0))]) (rest := []) hx hb hml hown ht (c2_J0_checkIndex_df160 h) wd_J0_checkIndex_df160 mw_457 hQ hV va_S.rf (hP.sub [] rfl) rfl hl.1 rfl (Nat.le_of_ble_eq_true rfl) dJ1_charAt_3b067_3 ⟨Nat.le_of_ble_eq_true rfl, Nat.le_of_ble_eq_true rfl, rfl, rfl⟩ ⟨Nat.le_of_ble_eq_true rfl, Nat.le_of_ble_eq_true rfl⟩) (fun h => ?_)
  try dsimp only at h
  refine lv_aload_n hx hb dJ1_charAt_3b067_6 rfl (lv_at hl 0 rfl) ?_
  refine lv_iload_n hx hb dJ1_charAt_3b067_7 rfl (lv_at hl 1 rfl) ?_
  obtain ⟨g_3, h⟩ := h
  refine va_tb (v := .int ((st_byt.getD i0 []).getD (Int32.toNatClampNeg x1) 0)) hx hb (hV.1.1 i0 hs).2.2.2 va_S.rf g_3 rfl dJ1_charAt_3b067_8 ?_
  refine lv_sipush (v := 255) hx hb dJ1_charAt_3b067_9 (by decide) ?_
  refine lv_iand hx hb dJ1_charAt_3b067_12 ?_
  refine lv_i2c (v := (UInt32.toInt32 (Int32.toUInt32 (((st_byt.getD i0 []).getD (Int32.toNatClampNeg x1) 0) &&& 255) % 65536))) hx hb dJ1_charAt_3b067_13 rfl ?_
  obtain ⟨g_4, h⟩ := h
  exact rd_zret hx hb hr hk g_4 h dJ1_charAt_3b067_14

def wp_J0_charAt_5068e (post : Int32 → Prop) (i0 : Nat) (x1 : Int32) : Prop := wp_J0_isLatin1_aae02 (fun r_1 => ((r_1 = 0 → False) ∧ (¬ r_1 = 0 → wp_J1_charAt_3b067 (fun r_4 => narrow .char (.int r_4) = .int r_4 ∧ post r_4) i0 x1))) i0
set_option maxHeartbeats 4000000 in
set_option maxRecDepth 100000 in
theorem c2_J0_charAt_5068e {l : Launch} {D : va_G} {q : Nat → ClassId} {i0 : Nat} {x1 : Int32} {post : Int32 → Prop} (hs : i0 < 12) (h : wp_J0_charAt_5068e post i0 x1) : Met l yJ0_charAt_5068e (Cond.code yJ0_charAt_5068e cJ0_charAt_5068e 2 (some .char) :: w_all) ({ frames := 3, cells := 0, slots := 0, locals := 64 } : Room) (rd_P D q [.ref (q (100 + i0)), .int x1] (([] : va_W))) (vp_Si post) 0 0 (fun _ => False) := by
  refine rd_start (by decide) (Nat.le_of_ble_eq_true rfl) ?_
  intro p e s m below meth c ls hx hb hr hml hown ht hk hP hQ hV hl
  have hK := hQ.1
  have hown : s.vm.findClass RJ0 = some m.cls := hown
  have hl : lv_has ls 2 [(0, .ref (q (100 + i0))), (1, .int x1)] := hl
  unfold wp_J0_charAt_5068e at h
  refine lv_aload_n hx hb dJ0_charAt_5068e_0 rfl (lv_at hl 0 rfl) ?_
  refine vp_callSi (rd_wVs (i := i0) (wc := ([] : va_W)) (As := []) (rest := []) hx hb hml hown ht (c2_J0_isLatin1_aae02 hs h) wd_J0_isLatin1_aae02 mw_450 hQ hV va_S.rf (hP.sub [] rfl) hs rfl rfl hl.1 rfl (Nat.le_of_ble_eq_true rfl) dJ0_charAt_5068e_1 ⟨Nat.le_of_ble_eq_true rfl, Nat.le_of_ble_eq_true rfl, rfl, rfl⟩ ⟨Nat.le_of_ble_eq_true rfl, Nat.le_of_ble_eq_true rfl⟩) (fun r_1 h => ?_)
  try dsimp only at h
  refine lv_if_eq (tgt := 16) hx hb dJ0_charAt_5068e_4 (by decide) (fun c_3 => ?_) (fun c_3 => ?_)
  · replace h := h.1 c_3
    refine lv_aload_n hx hb dJ0_charAt_5068e_16 rfl (lv_at hl 0 rfl) ?_
    refine vk_getf (v := .ref (q (200 + i0))) hx hb (hV.1.1 i0 hs).2.2.1 va_S.rf hown (ht _ mw_1705) (fun _ h => h) dJ0_charAt_5068e_17 ?_
    refine lv_iload_n hx hb dJ0_charAt_5068e_20 rfl (lv_at hl 1 rfl) ?_
    exact h.elim
  · replace h := h.2 c_3
    refine lv_aload_n hx hb dJ0_charAt_5068e_7 rfl (lv_at hl 0 rfl) ?_
    refine vk_getf (v := .ref (q (200 + i0))) hx hb (hV.1.1 i0 hs).2.2.1 va_S.rf hown (ht _ mw_1705) (fun _ h => h) dJ0_charAt_5068e_8 ?_
    refine lv_iload_n hx hb dJ0_charAt_5068e_11 rfl (lv_at hl 1 rfl) ?_
    refine vp_callSi (rd_wS (wc := ([] : va_W)) (As := [.ref (q (200 + i0)), .int x1]) (rest := []) hx hb hml hown ht (c2_J1_charAt_3b067 hs h) wd_J1_charAt_3b067 mw_454 hQ hV va_S.rf (hP.sub [] rfl) rfl hl.1 rfl (Nat.le_of_ble_eq_true rfl) dJ0_charAt_5068e_12 ⟨Nat.le_of_ble_eq_true rfl, Nat.le_of_ble_eq_true rfl, rfl, rfl⟩ ⟨Nat.le_of_ble_eq_true rfl, Nat.le_of_ble_eq_true rfl⟩) (fun r_4 h => ?_)
    try dsimp only at h
    obtain ⟨g_6, h⟩ := h
    exact rd_zret hx hb hr hk g_6 h dJ0_charAt_5068e_15

def wp_X0_makeCell (post : Bd → Prop) (s0 : Bd) (x1 : Int32) (x2 : Int32) : Prop := vp_in x1 40 ∧ vp_in x1 40 ∧ vp_in x1 40 ∧ vp_in x1 40 ∧ vp_in x1 40 ∧ vp_in x1 40 ∧ vp_in x1 40 ∧ vp_in x1 40 ∧ post (s0.1, (va_up (va_up (va_up (va_up (va_up (va_up (va_up s0.2.1 3 (upd (s0.2.1 3) (Int32.toNatClampNeg x1) x2)) 4 (upd (s0.2.1 4) (Int32.toNatClampNeg x1) 0)) 5 (upd (s0.2.1 5) (Int32.toNatClampNeg x1) 0)) 6 (upd (s0.2.1 6) (Int32.toNatClampNeg x1) 0)) 7 (upd (s0.2.1 7) (Int32.toNatClampNeg x1) 0)) 8 (upd (s0.2.1 8) (Int32.toNatClampNeg x1) 0)) 9 (upd (s0.2.1 9) (Int32.toNatClampNeg x1) 0)), (vp_updL s0.2.2.1 (Int32.toNatClampNeg x1) 0), s0.2.2.2.1, s0.2.2.2.2)
set_option maxHeartbeats 4000000 in
set_option maxRecDepth 100000 in
theorem c2_X0_makeCell {l : Launch} {D : va_G} {q : Nat → ClassId} {sz : Nat} {a0 : Nat → Nat} {s0 : Bd} {x1 : Int32} {x2 : Int32} {post : Bd → Prop} (h : wp_X0_makeCell post s0 x1 x2) : Met l yX0_makeCell (Cond.code yX0_makeCell cX0_makeCell 3 none :: w_all) ({ frames := 0, cells := 0, slots := 0, locals := 0 } : Room) (mt_P D q [.ref (a0 0), .int x1, .int x2] (bd_w a0 q s0) sz) (va_Qv (fun u : Bd => post u) (mt_B D (bd_w a0 q s0) sz (fun u : Bd => bd_w a0 q u)) (va_A (bd_w a0 q s0) sz)) 0 0 (va_A (bd_w a0 q s0) sz) := by
  refine mt_start (by decide) (Nat.le_of_ble_eq_true rfl) ?_
  intro p e s m below meth c ls hx hb hr hml hown ht hk hin hP hQ hD hA hS hV hl
  have hK := hQ.1
  have hown : s.vm.findClass RX0 = some m.cls := hown
  have hl : lv_has ls 3 [(0, .ref (a0 0)), (1, .int x1), (2, .int x2)] := hl
  have hP : va_P D vwCl [((a0 0), .inr (0, [.int (s0.1 0), .int (s0.1 1), .int (s0.1 2), .int (s0.1 3), .int (s0.1 4), .int (s0.1 5), .ref (a0 1), .ref (a0 2), .ref (a0 3), .ref (a0 4), .ref (a0 5), .ref (a0 6), .ref (a0 7), .ref (a0 8), .ref (a0 9), .ref (a0 10), .ref (a0 11), .ref (a0 12)])), ((a0 1), .inl (q 0, 4, .inl (s0.2.1 0))), ((a0 2), .inl (q 0, 4, .inl (s0.2.1 1))), ((a0 3), .inl (q 0, 160, .inl (s0.2.1 2))), ((a0 4), .inl (q 0, 40, .inl (s0.2.1 3))), ((a0 5), .inl (q 0, 40, .inl (s0.2.1 4))), ((a0 6), .inl (q 0, 40, .inl (s0.2.1 5))), ((a0 7), .inl (q 0, 40, .inl (s0.2.1 6))), ((a0 8), .inl (q 0, 40, .inl (s0.2.1 7))), ((a0 9), .inl (q 0, 40, .inl (s0.2.1 8))), ((a0 10), .inl (q 0, 40, .inl (s0.2.1 9))), ((a0 11), .inl (q 1, 40, .inr (.inl s0.2.2.1))), ((a0 12), .inl (q 0, s0.2.2.2.1, .inl s0.2.2.2.2))] s.heap := hP
  have hD : va_D _ [((a0 0), .inr (0, [.int (s0.1 0), .int (s0.1 1), .int (s0.1 2), .int (s0.1 3), .int (s0.1 4), .int (s0.1 5), .ref (a0 1), .ref (a0 2), .ref (a0 3), .ref (a0 4), .ref (a0 5), .ref (a0 6), .ref (a0 7), .ref (a0 8), .ref (a0 9), .ref (a0 10), .ref (a0 11), .ref (a0 12)])), ((a0 1), .inl (q 0, 4, .inl (s0.2.1 0))), ((a0 2), .inl (q 0, 4, .inl (s0.2.1 1))), ((a0 3), .inl (q 0, 160, .inl (s0.2.1 2))), ((a0 4), .inl (q 0, 40, .inl (s0.2.1 3))), ((a0 5), .inl (q 0, 40, .inl (s0.2.1 4))), ((a0 6), .inl (q 0, 40, .inl (s0.2.1 5))), ((a0 7), .inl (q 0, 40, .inl (s0.2.1 6))), ((a0 8), .inl (q 0, 40, .inl (s0.2.1 7))), ((a0 9), .inl (q 0, 40, .inl (s0.2.1 8))), ((a0 10), .inl (q 0, 40, .inl (s0.2.1 9))), ((a0 11), .inl (q 1, 40, .inr (.inl s0.2.2.1))), ((a0 12), .inl (q 0, s0.2.2.2.1, .inl s0.2.2.2.2))] := hD
  unfold wp_X0_makeCell at h
  refine lv_aload_n hx hb dX0_makeCell_0 rfl (lv_at hl 0 rfl) ?_
  refine fl_get (C := RX0) (T := TX0) (N := 18) (ci := 0) (v := .ref (a0 4)) hx hb ht in_X0 hown hK hP 0 rfl rfl 9 (by decide) mw_192 rfl dX0_makeCell_1 ?_
  refine lv_iload_n hx hb dX0_makeCell_4 rfl (lv_at hl 1 rfl) ?_
  refine lv_iload_n hx hb dX0_makeCell_5 rfl (lv_at hl 2 rfl) ?_
  obtain ⟨g_1, h⟩ := h
  refine va_iast hx hb hK hP hD hS 4 0 rfl rfl g_1 dX0_makeCell_6 (fun H locs hP hD hS => ?_)
  have hP : va_P D vwCl [((a0 0), .inr (0, [.int (s0.1 0), .int (s0.1 1), .int (s0.1 2), .int (s0.1 3), .int (s0.1 4), .int (s0.1 5), .ref (a0 1), .ref (a0 2), .ref (a0 3), .ref (a0 4), .ref (a0 5), .ref (a0 6), .ref (a0 7), .ref (a0 8), .ref (a0 9), .ref (a0 10), .ref (a0 11), .ref (a0 12)])), ((a0 1), .inl (q 0, 4, .inl (s0.2.1 0))), ((a0 2), .inl (q 0, 4, .inl (s0.2.1 1))), ((a0 3), .inl (q 0, 160, .inl (s0.2.1 2))), ((a0 4), .inl (q 0, 40, .inl (upd (s0.2.1 3) (Int32.toNatClampNeg x1) x2))), ((a0 5), .inl (q 0, 40, .inl (s0.2.1 4))), ((a0 6), .inl (q 0, 40, .inl (s0.2.1 5))), ((a0 7), .inl (q 0, 40, .inl (s0.2.1 6))), ((a0 8), .inl (q 0, 40, .inl (s0.2.1 7))), ((a0 9), .inl (q 0, 40, .inl (s0.2.1 8))), ((a0 10), .inl (q 0, 40, .inl (s0.2.1 9))), ((a0 11), .inl (q 1, 40, .inr (.inl s0.2.2.1))), ((a0 12), .inl (q 0, s0.2.2.2.1, .inl s0.2.2.2.2))] H := hP
  have hD : va_D _ [((a0 0), .inr (0, [.int (s0.1 0), .int (s0.1 1), .int (s0.1 2), .int (s0.1 3), .int (s0.1 4), .int (s0.1 5), .ref (a0 1), .ref (a0 2), .ref (a0 3), .ref (a0 4), .ref (a0 5), .ref (a0 6), .ref (a0 7), .ref (a0 8), .ref (a0 9), .ref (a0 10), .ref (a0 11), .ref (a0 12)])), ((a0 1), .inl (q 0, 4, .inl (s0.2.1 0))), ((a0 2), .inl (q 0, 4, .inl (s0.2.1 1))), ((a0 3), .inl (q 0, 160, .inl (s0.2.1 2))), ((a0 4), .inl (q 0, 40, .inl (upd (s0.2.1 3) (Int32.toNatClampNeg x1) x2))), ((a0 5), .inl (q 0, 40, .inl (s0.2.1 4))), ((a0 6), .inl (q 0, 40, .inl (s0.2.1 5))), ((a0 7), .inl (q 0, 40, .inl (s0.2.1 6))), ((a0 8), .inl (q 0, 40, .inl (s0.2.1 7))), ((a0 9), .inl (q 0, 40, .inl (s0.2.1 8))), ((a0 10), .inl (q 0, 40, .inl (s0.2.1 9))), ((a0 11), .inl (q 1, 40, .inr (.inl s0.2.2.1))), ((a0 12), .inl (q 0, s0.2.2.2.1, .inl s0.2.2.2.2))] := hD
  refine lv_aload_n hx hb dX0_makeCell_7 rfl (lv_at hl 0 rfl) ?_
  refine fl_get (C := RX0) (T := TX0) (N := 18) (ci := 0) (v := .ref (a0 5)) hx hb ht in_X0 hown hK hP 0 rfl rfl 10 (by decide) mw_194 rfl dX0_makeCell_8 ?_
  refine lv_iload_n hx hb dX0_makeCell_11 rfl (lv_at hl 1 rfl) ?_
  refine lv_iconst (v := 0) hx hb dX0_makeCell_12 (by decide) ?_
  obtain ⟨g_2, h⟩ := h
  refine va_iast hx hb hK hP hD hS 5 0 rfl rfl g_2 dX0_makeCell_13 (fun H locs hP hD hS => ?_)
  have hP : va_P D vwCl [((a0 0), .inr (0, [.int (s0.1 0), .int (s0.1 1), .int (s0.1 2), .int (s0.1 3), .int (s0.1 4), .int (s0.1 5), .ref (a0 1), .ref (a0 2), .ref (a0 3), .ref (a0 4), .ref (a0 5), .ref (a0 6), .ref (a0 7), .ref (a0 8), .ref (a0 9), .ref (a0 10), .ref (a0 11), .ref (a0 12)])), ((a0 1), .inl (q 0, 4, .inl (s0.2.1 0))), ((a0 2), .inl (q 0, 4, .inl (s0.2.1 1))), ((a0 3), .inl (q 0, 160, .inl (s0.2.1 2))), ((a0 4), .inl (q 0, 40, .inl (upd (s0.2.1 3) (Int32.toNatClampNeg x1) x2))), ((a0 5), .inl (q 0, 40, .inl (upd (s0.2.1 4) (Int32.toNatClampNeg x1) 0))), ((a0 6), .inl (q 0, 40, .inl (s0.2.1 5))), ((a0 7), .inl (q 0, 40, .inl (s0.2.1 6))), ((a0 8), .inl (q 0, 40, .inl (s0.2.1 7))), ((a0 9), .inl (q 0, 40, .inl (s0.2.1 8))), ((a0 10), .inl (q 0, 40, .inl (s0.2.1 9))), ((a0 11), .inl (q 1, 40, .inr (.inl s0.2.2.1))), ((a0 12), .inl (q 0, s0.2.2.2.1, .inl s0.2.2.2.2))] H := hP
  have hD : va_D _ [((a0 0), .inr (0, [.int (s0.1 0), .int (s0.1 1), .int (s0.1 2), .int (s0.1 3), .int (s0.1 4), .int (s0.1 5), .ref (a0 1), .ref (a0 2), .ref (a0 3), .ref (a0 4), .ref (a0 5), .ref (a0 6), .ref (a0 7), .ref (a0 8), .ref (a0 9), .ref (a0 10), .ref (a0 11), .ref (a0 12)])), ((a0 1), .inl (q 0, 4, .inl (s0.2.1 0))), ((a0 2), .inl (q 0, 4, .inl (s0.2.1 1))), ((a0 3), .inl (q 0, 160, .inl (s0.2.1 2))), ((a0 4), .inl (q 0, 40, .inl (upd (s0.2.1 3) (Int32.toNatClampNeg x1) x2))), ((a0 5), .inl (q 0, 40, .inl (upd (s0.2.1 4) (Int32.toNatClampNeg x1) 0))), ((a0 6), .inl (q 0, 40, .inl (s0.2.1 5))), ((a0 7), .inl (q 0, 40, .inl (s0.2.1 6))), ((a0 8), .inl (q 0, 40, .inl (s0.2.1 7))), ((a0 9), .inl (q 0, 40, .inl (s0.2.1 8))), ((a0 10), .inl (q 0, 40, .inl (s0.2.1 9))), ((a0 11), .inl (q 1, 40, .inr (.inl s0.2.2.1))), ((a0 12), .inl (q 0, s0.2.2.2.1, .inl s0.2.2.2.2))] := hD
  refine lv_aload_n hx hb dX0_makeCell_14 rfl (lv_at hl 0 rfl) ?_
  refine fl_get (C := RX0) (T := TX0) (N := 18) (ci := 0) (v := .ref (a0 6)) hx hb ht in_X0 hown hK hP 0 rfl rfl 11 (by decide) mw_196 rfl dX0_makeCell_15 ?_
  refine lv_iload_n hx hb dX0_makeCell_18 rfl (lv_at hl 1 rfl) ?_
  refine lv_iconst (v := 0) hx hb dX0_makeCell_19 (by decide) ?_
  obtain ⟨g_3, h⟩ := h
  refine va_iast hx hb hK hP hD hS 6 0 rfl rfl g_3 dX0_makeCell_20 (fun H locs hP hD hS => ?_)
  have hP : va_P D vwCl [((a0 0), .inr (0, [.int (s0.1 0), .int (s0.1 1), .int (s0.1 2), .int (s0.1 3), .int (s0.1 4), .int (s0.1 5), .ref (a0 1), .ref (a0 2), .ref (a0 3), .ref (a0 4), .ref (a0 5), .ref (a0 6), .ref (a0 7), .ref (a0 8), .ref (a0 9), .ref (a0 10), .ref (a0 11), .ref (a0 12)])), ((a0 1), .inl (q 0, 4, .inl (s0.2.1 0))), ((a0 2), .inl (q 0, 4, .inl (s0.2.1 1))), ((a0 3), .inl (q 0, 160, .inl (s0.2.1 2))), ((a0 4), .inl (q 0, 40, .inl (upd (s0.2.1 3) (Int32.toNatClampNeg x1) x2))), ((a0 5), .inl (q 0, 40, .inl (upd (s0.2.1 4) (Int32.toNatClampNeg x1) 0))), ((a0 6), .inl (q 0, 40, .inl (upd (s0.2.1 5) (Int32.toNatClampNeg x1) 0))), ((a0 7), .inl (q 0, 40, .inl (s0.2.1 6))), ((a0 8), .inl (q 0, 40, .inl (s0.2.1 7))), ((a0 9), .inl (q 0, 40, .inl (s0.2.1 8))), ((a0 10), .inl (q 0, 40, .inl (s0.2.1 9))), ((a0 11), .inl (q 1, 40, .inr (.inl s0.2.2.1))), ((a0 12), .inl (q 0, s0.2.2.2.1, .inl s0.2.2.2.2))] H := hP
  have hD : va_D _ [((a0 0), .inr (0, [.int (s0.1 0), .int (s0.1 1), .int (s0.1 2), .int (s0.1 3), .int (s0.1 4), .int (s0.1 5), .ref (a0 1), .ref (a0 2), .ref (a0 3), .ref (a0 4), .ref (a0 5), .ref (a0 6), .ref (a0 7), .ref (a0 8), .ref (a0 9), .ref (a0 10), .ref (a0 11), .ref (a0 12)])), ((a0 1), .inl (q 0, 4, .inl (s0.2.1 0))), ((a0 2), .inl (q 0, 4, .inl (s0.2.1 1))), ((a0 3), .inl (q 0, 160, .inl (s0.2.1 2))), ((a0 4), .inl (q 0, 40, .inl (upd (s0.2.1 3) (Int32.toNatClampNeg x1) x2))), ((a0 5), .inl (q 0, 40, .inl (upd (s0.2.1 4) (Int32.toNatClampNeg x1) 0))), ((a0 6), .inl (q 0, 40, .inl (upd (s0.2.1 5) (Int32.toNatClampNeg x1) 0))), ((a0 7), .inl (q 0, 40, .inl (s0.2.1 6))), ((a0 8), .inl (q 0, 40, .inl (s0.2.1 7))), ((a0 9), .inl (q 0, 40, .inl (s0.2.1 8))), ((a0 10), .inl (q 0, 40, .inl (s0.2.1 9))), ((a0 11), .inl (q 1, 40, .inr (.inl s0.2.2.1))), ((a0 12), .inl (q 0, s0.2.2.2.1, .inl s0.2.2.2.2))] := hD
  refine lv_aload_n hx hb dX0_makeCell_21 rfl (lv_at hl 0 rfl) ?_
  refine fl_get (C := RX0) (T := TX0) (N := 18) (ci := 0) (v := .ref (a0 7)) hx hb ht in_X0 hown hK hP 0 rfl rfl 12 (by decide) mw_198 rfl dX0_makeCell_22 ?_
  refine lv_iload_n hx hb dX0_makeCell_25 rfl (lv_at hl 1 rfl) ?_
  refine lv_iconst (v := 0) hx hb dX0_makeCell_26 (by decide) ?_
  obtain ⟨g_4, h⟩ := h
  refine va_iast hx hb hK hP hD hS 7 0 rfl rfl g_4 dX0_makeCell_27 (fun H locs hP hD hS => ?_)
  have hP : va_P D vwCl [((a0 0), .inr (0, [.int (s0.1 0), .int (s0.1 1), .int (s0.1 2), .int (s0.1 3), .int (s0.1 4), .int (s0.1 5), .ref (a0 1), .ref (a0 2), .ref (a0 3), .ref (a0 4), .ref (a0 5), .ref (a0 6), .ref (a0 7), .ref (a0 8), .ref (a0 9), .ref (a0 10), .ref (a0 11), .ref (a0 12)])), ((a0 1), .inl (q 0, 4, .inl (s0.2.1 0))), ((a0 2), .inl (q 0, 4, .inl (s0.2.1 1))), ((a0 3), .inl (q 0, 160, .inl (s0.2.1 2))), ((a0 4), .inl (q 0, 40, .inl (upd (s0.2.1 3) (Int32.toNatClampNeg x1) x2))), ((a0 5), .inl (q 0, 40, .inl (upd (s0.2.1 4) (Int32.toNatClampNeg x1) 0))), ((a0 6), .inl (q 0, 40, .inl (upd (s0.2.1 5) (Int32.toNatClampNeg x1) 0))), ((a0 7), .inl (q 0, 40, .inl (upd (s0.2.1 6) (Int32.toNatClampNeg x1) 0))), ((a0 8), .inl (q 0, 40, .inl (s0.2.1 7))), ((a0 9), .inl (q 0, 40, .inl (s0.2.1 8))), ((a0 10), .inl (q 0, 40, .inl (s0.2.1 9))), ((a0 11), .inl (q 1, 40, .inr (.inl s0.2.2.1))), ((a0 12), .inl (q 0, s0.2.2.2.1, .inl s0.2.2.2.2))] H := hP
  have hD : va_D _ [((a0 0), .inr (0, [.int (s0.1 0), .int (s0.1 1), .int (s0.1 2), .int (s0.1 3), .int (s0.1 4), .int (s0.1 5), .ref (a0 1), .ref (a0 2), .ref (a0 3), .ref (a0 4), .ref (a0 5), .ref (a0 6), .ref (a0 7), .ref (a0 8), .ref (a0 9), .ref (a0 10), .ref (a0 11), .ref (a0 12)])), ((a0 1), .inl (q 0, 4, .inl (s0.2.1 0))), ((a0 2), .inl (q 0, 4, .inl (s0.2.1 1))), ((a0 3), .inl (q 0, 160, .inl (s0.2.1 2))), ((a0 4), .inl (q 0, 40, .inl (upd (s0.2.1 3) (Int32.toNatClampNeg x1) x2))), ((a0 5), .inl (q 0, 40, .inl (upd (s0.2.1 4) (Int32.toNatClampNeg x1) 0))), ((a0 6), .inl (q 0, 40, .inl (upd (s0.2.1 5) (Int32.toNatClampNeg x1) 0))), ((a0 7), .inl (q 0, 40, .inl (upd (s0.2.1 6) (Int32.toNatClampNeg x1) 0))), ((a0 8), .inl (q 0, 40, .inl (s0.2.1 7))), ((a0 9), .inl (q 0, 40, .inl (s0.2.1 8))), ((a0 10), .inl (q 0, 40, .inl (s0.2.1 9))), ((a0 11), .inl (q 1, 40, .inr (.inl s0.2.2.1))), ((a0 12), .inl (q 0, s0.2.2.2.1, .inl s0.2.2.2.2))] := hD
  refine lv_aload_n hx hb dX0_makeCell_28 rfl (lv_at hl 0 rfl) ?_
  refine fl_get (C := RX0) (T := TX0) (N := 18) (ci := 0) (v := .ref (a0 8)) hx hb ht in_X0 hown hK hP 0 rfl rfl 13 (by decide) mw_200 rfl dX0_makeCell_29 ?_
  refine lv_iload_n hx hb dX0_makeCell_32 rfl (lv_at hl 1 rfl) ?_
  refine lv_iconst (v := 0) hx hb dX0_makeCell_33 (by decide) ?_
  obtain ⟨g_5, h⟩ := h
  refine va_iast hx hb hK hP hD hS 8 0 rfl rfl g_5 dX0_makeCell_34 (fun H locs hP hD hS => ?_)
  have hP : va_P D vwCl [((a0 0), .inr (0, [.int (s0.1 0), .int (s0.1 1), .int (s0.1 2), .int (s0.1 3), .int (s0.1 4), .int (s0.1 5), .ref (a0 1), .ref (a0 2), .ref (a0 3), .ref (a0 4), .ref (a0 5), .ref (a0 6), .ref (a0 7), .ref (a0 8), .ref (a0 9), .ref (a0 10), .ref (a0 11), .ref (a0 12)])), ((a0 1), .inl (q 0, 4, .inl (s0.2.1 0))), ((a0 2), .inl (q 0, 4, .inl (s0.2.1 1))), ((a0 3), .inl (q 0, 160, .inl (s0.2.1 2))), ((a0 4), .inl (q 0, 40, .inl (upd (s0.2.1 3) (Int32.toNatClampNeg x1) x2))), ((a0 5), .inl (q 0, 40, .inl (upd (s0.2.1 4) (Int32.toNatClampNeg x1) 0))), ((a0 6), .inl (q 0, 40, .inl (upd (s0.2.1 5) (Int32.toNatClampNeg x1) 0))), ((a0 7), .inl (q 0, 40, .inl (upd (s0.2.1 6) (Int32.toNatClampNeg x1) 0))), ((a0 8), .inl (q 0, 40, .inl (upd (s0.2.1 7) (Int32.toNatClampNeg x1) 0))), ((a0 9), .inl (q 0, 40, .inl (s0.2.1 8))), ((a0 10), .inl (q 0, 40, .inl (s0.2.1 9))), ((a0 11), .inl (q 1, 40, .inr (.inl s0.2.2.1))), ((a0 12), .inl (q 0, s0.2.2.2.1, .inl s0.2.2.2.2))] H := hP
  have hD : va_D _ [((a0 0), .inr (0, [.int (s0.1 0), .int (s0.1 1), .int (s0.1 2), .int (s0.1 3), .int (s0.1 4), .int (s0.1 5), .ref (a0 1), .ref (a0 2), .ref (a0 3), .ref (a0 4), .ref (a0 5), .ref (a0 6), .ref (a0 7), .ref (a0 8), .ref (a0 9), .ref (a0 10), .ref (a0 11), .ref (a0 12)])), ((a0 1), .inl (q 0, 4, .inl (s0.2.1 0))), ((a0 2), .inl (q 0, 4, .inl (s0.2.1 1))), ((a0 3), .inl (q 0, 160, .inl (s0.2.1 2))), ((a0 4), .inl (q 0, 40, .inl (upd (s0.2.1 3) (Int32.toNatClampNeg x1) x2))), ((a0 5), .inl (q 0, 40, .inl (upd (s0.2.1 4) (Int32.toNatClampNeg x1) 0))), ((a0 6), .inl (q 0, 40, .inl (upd (s0.2.1 5) (Int32.toNatClampNeg x1) 0))), ((a0 7), .inl (q 0, 40, .inl (upd (s0.2.1 6) (Int32.toNatClampNeg x1) 0))), ((a0 8), .inl (q 0, 40, .inl (upd (s0.2.1 7) (Int32.toNatClampNeg x1) 0))), ((a0 9), .inl (q 0, 40, .inl (s0.2.1 8))), ((a0 10), .inl (q 0, 40, .inl (s0.2.1 9))), ((a0 11), .inl (q 1, 40, .inr (.inl s0.2.2.1))), ((a0 12), .inl (q 0, s0.2.2.2.1, .inl s0.2.2.2.2))] := hD
  refine lv_aload_n hx hb dX0_makeCell_35 rfl (lv_at hl 0 rfl) ?_
  refine fl_get (C := RX0) (T := TX0) (N := 18) (ci := 0) (v := .ref (a0 9)) hx hb ht in_X0 hown hK hP 0 rfl rfl 14 (by decide) mw_202 rfl dX0_makeCell_36 ?_
  refine lv_iload_n hx hb dX0_makeCell_39 rfl (lv_at hl 1 rfl) ?_
  refine lv_iconst (v := 0) hx hb dX0_makeCell_40 (by decide) ?_
  obtain ⟨g_6, h⟩ := h
  refine va_iast hx hb hK hP hD hS 9 0 rfl rfl g_6 dX0_makeCell_41 (fun H locs hP hD hS => ?_)
  have hP : va_P D vwCl [((a0 0), .inr (0, [.int (s0.1 0), .int (s0.1 1), .int (s0.1 2), .int (s0.1 3), .int (s0.1 4), .int (s0.1 5), .ref (a0 1), .ref (a0 2), .ref (a0 3), .ref (a0 4), .ref (a0 5), .ref (a0 6), .ref (a0 7), .ref (a0 8), .ref (a0 9), .ref (a0 10), .ref (a0 11), .ref (a0 12)])), ((a0 1), .inl (q 0, 4, .inl (s0.2.1 0))), ((a0 2), .inl (q 0, 4, .inl (s0.2.1 1))), ((a0 3), .inl (q 0, 160, .inl (s0.2.1 2))), ((a0 4), .inl (q 0, 40, .inl (upd (s0.2.1 3) (Int32.toNatClampNeg x1) x2))), ((a0 5), .inl (q 0, 40, .inl (upd (s0.2.1 4) (Int32.toNatClampNeg x1) 0))), ((a0 6), .inl (q 0, 40, .inl (upd (s0.2.1 5) (Int32.toNatClampNeg x1) 0))), ((a0 7), .inl (q 0, 40, .inl (upd (s0.2.1 6) (Int32.toNatClampNeg x1) 0))), ((a0 8), .inl (q 0, 40, .inl (upd (s0.2.1 7) (Int32.toNatClampNeg x1) 0))), ((a0 9), .inl (q 0, 40, .inl (upd (s0.2.1 8) (Int32.toNatClampNeg x1) 0))), ((a0 10), .inl (q 0, 40, .inl (s0.2.1 9))), ((a0 11), .inl (q 1, 40, .inr (.inl s0.2.2.1))), ((a0 12), .inl (q 0, s0.2.2.2.1, .inl s0.2.2.2.2))] H := hP
  have hD : va_D _ [((a0 0), .inr (0, [.int (s0.1 0), .int (s0.1 1), .int (s0.1 2), .int (s0.1 3), .int (s0.1 4), .int (s0.1 5), .ref (a0 1), .ref (a0 2), .ref (a0 3), .ref (a0 4), .ref (a0 5), .ref (a0 6), .ref (a0 7), .ref (a0 8), .ref (a0 9), .ref (a0 10), .ref (a0 11), .ref (a0 12)])), ((a0 1), .inl (q 0, 4, .inl (s0.2.1 0))), ((a0 2), .inl (q 0, 4, .inl (s0.2.1 1))), ((a0 3), .inl (q 0, 160, .inl (s0.2.1 2))), ((a0 4), .inl (q 0, 40, .inl (upd (s0.2.1 3) (Int32.toNatClampNeg x1) x2))), ((a0 5), .inl (q 0, 40, .inl (upd (s0.2.1 4) (Int32.toNatClampNeg x1) 0))), ((a0 6), .inl (q 0, 40, .inl (upd (s0.2.1 5) (Int32.toNatClampNeg x1) 0))), ((a0 7), .inl (q 0, 40, .inl (upd (s0.2.1 6) (Int32.toNatClampNeg x1) 0))), ((a0 8), .inl (q 0, 40, .inl (upd (s0.2.1 7) (Int32.toNatClampNeg x1) 0))), ((a0 9), .inl (q 0, 40, .inl (upd (s0.2.1 8) (Int32.toNatClampNeg x1) 0))), ((a0 10), .inl (q 0, 40, .inl (s0.2.1 9))), ((a0 11), .inl (q 1, 40, .inr (.inl s0.2.2.1))), ((a0 12), .inl (q 0, s0.2.2.2.1, .inl s0.2.2.2.2))] := hD
  refine lv_aload_n hx hb dX0_makeCell_42 rfl (lv_at hl 0 rfl) ?_
  refine fl_get (C := RX0) (T := TX0) (N := 18) (ci := 0) (v := .ref (a0 10)) hx hb ht in_X0 hown hK hP 0 rfl rfl 15 (by decide) mw_204 rfl dX0_makeCell_43 ?_
  refine lv_iload_n hx hb dX0_makeCell_46 rfl (lv_at hl 1 rfl) ?_
  refine lv_iconst (v := 0) hx hb dX0_makeCell_47 (by decide) ?_
  obtain ⟨g_7, h⟩ := h
  refine va_iast hx hb hK hP hD hS 10 0 rfl rfl g_7 dX0_makeCell_48 (fun H locs hP hD hS => ?_)
  have hP : va_P D vwCl [((a0 0), .inr (0, [.int (s0.1 0), .int (s0.1 1), .int (s0.1 2), .int (s0.1 3), .int (s0.1 4), .int (s0.1 5), .ref (a0 1), .ref (a0 2), .ref (a0 3), .ref (a0 4), .ref (a0 5), .ref (a0 6), .ref (a0 7), .ref (a0 8), .ref (a0 9), .ref (a0 10), .ref (a0 11), .ref (a0 12)])), ((a0 1), .inl (q 0, 4, .inl (s0.2.1 0))), ((a0 2), .inl (q 0, 4, .inl (s0.2.1 1))), ((a0 3), .inl (q 0, 160, .inl (s0.2.1 2))), ((a0 4), .inl (q 0, 40, .inl (upd (s0.2.1 3) (Int32.toNatClampNeg x1) x2))), ((a0 5), .inl (q 0, 40, .inl (upd (s0.2.1 4) (Int32.toNatClampNeg x1) 0))), ((a0 6), .inl (q 0, 40, .inl (upd (s0.2.1 5) (Int32.toNatClampNeg x1) 0))), ((a0 7), .inl (q 0, 40, .inl (upd (s0.2.1 6) (Int32.toNatClampNeg x1) 0))), ((a0 8), .inl (q 0, 40, .inl (upd (s0.2.1 7) (Int32.toNatClampNeg x1) 0))), ((a0 9), .inl (q 0, 40, .inl (upd (s0.2.1 8) (Int32.toNatClampNeg x1) 0))), ((a0 10), .inl (q 0, 40, .inl (upd (s0.2.1 9) (Int32.toNatClampNeg x1) 0))), ((a0 11), .inl (q 1, 40, .inr (.inl s0.2.2.1))), ((a0 12), .inl (q 0, s0.2.2.2.1, .inl s0.2.2.2.2))] H := hP
  have hD : va_D _ [((a0 0), .inr (0, [.int (s0.1 0), .int (s0.1 1), .int (s0.1 2), .int (s0.1 3), .int (s0.1 4), .int (s0.1 5), .ref (a0 1), .ref (a0 2), .ref (a0 3), .ref (a0 4), .ref (a0 5), .ref (a0 6), .ref (a0 7), .ref (a0 8), .ref (a0 9), .ref (a0 10), .ref (a0 11), .ref (a0 12)])), ((a0 1), .inl (q 0, 4, .inl (s0.2.1 0))), ((a0 2), .inl (q 0, 4, .inl (s0.2.1 1))), ((a0 3), .inl (q 0, 160, .inl (s0.2.1 2))), ((a0 4), .inl (q 0, 40, .inl (upd (s0.2.1 3) (Int32.toNatClampNeg x1) x2))), ((a0 5), .inl (q 0, 40, .inl (upd (s0.2.1 4) (Int32.toNatClampNeg x1) 0))), ((a0 6), .inl (q 0, 40, .inl (upd (s0.2.1 5) (Int32.toNatClampNeg x1) 0))), ((a0 7), .inl (q 0, 40, .inl (upd (s0.2.1 6) (Int32.toNatClampNeg x1) 0))), ((a0 8), .inl (q 0, 40, .inl (upd (s0.2.1 7) (Int32.toNatClampNeg x1) 0))), ((a0 9), .inl (q 0, 40, .inl (upd (s0.2.1 8) (Int32.toNatClampNeg x1) 0))), ((a0 10), .inl (q 0, 40, .inl (upd (s0.2.1 9) (Int32.toNatClampNeg x1) 0))), ((a0 11), .inl (q 1, 40, .inr (.inl s0.2.2.1))), ((a0 12), .inl (q 0, s0.2.2.2.1, .inl s0.2.2.2.2))] := hD
  refine lv_aload_n hx hb dX0_makeCell_49 rfl (lv_at hl 0 rfl) ?_
  refine fl_get (C := RX0) (T := TX0) (N := 18) (ci := 0) (v := .ref (a0 11)) hx hb ht in_X0 hown hK hP 0 rfl rfl 16 (by decide) mw_206 rfl dX0_makeCell_50 ?_
  refine lv_iload_n hx hb dX0_makeCell_53 rfl (lv_at hl 1 rfl) ?_
  refine lv_lconst (v := 0) hx hb dX0_makeCell_54 (by decide) ?_
  obtain ⟨g_8, h⟩ := h
  refine va_last hx hb hK hP hD hS 11 1 rfl rfl g_8 dX0_makeCell_55 (fun H locs hP hD hS => ?_)
  have hP : va_P D vwCl [((a0 0), .inr (0, [.int (s0.1 0), .int (s0.1 1), .int (s0.1 2), .int (s0.1 3), .int (s0.1 4), .int (s0.1 5), .ref (a0 1), .ref (a0 2), .ref (a0 3), .ref (a0 4), .ref (a0 5), .ref (a0 6), .ref (a0 7), .ref (a0 8), .ref (a0 9), .ref (a0 10), .ref (a0 11), .ref (a0 12)])), ((a0 1), .inl (q 0, 4, .inl (s0.2.1 0))), ((a0 2), .inl (q 0, 4, .inl (s0.2.1 1))), ((a0 3), .inl (q 0, 160, .inl (s0.2.1 2))), ((a0 4), .inl (q 0, 40, .inl (upd (s0.2.1 3) (Int32.toNatClampNeg x1) x2))), ((a0 5), .inl (q 0, 40, .inl (upd (s0.2.1 4) (Int32.toNatClampNeg x1) 0))), ((a0 6), .inl (q 0, 40, .inl (upd (s0.2.1 5) (Int32.toNatClampNeg x1) 0))), ((a0 7), .inl (q 0, 40, .inl (upd (s0.2.1 6) (Int32.toNatClampNeg x1) 0))), ((a0 8), .inl (q 0, 40, .inl (upd (s0.2.1 7) (Int32.toNatClampNeg x1) 0))), ((a0 9), .inl (q 0, 40, .inl (upd (s0.2.1 8) (Int32.toNatClampNeg x1) 0))), ((a0 10), .inl (q 0, 40, .inl (upd (s0.2.1 9) (Int32.toNatClampNeg x1) 0))), ((a0 11), .inl (q 1, 40, .inr (.inl (vp_updL s0.2.2.1 (Int32.toNatClampNeg x1) 0)))), ((a0 12), .inl (q 0, s0.2.2.2.1, .inl s0.2.2.2.2))] H := hP
  have hD : va_D _ [((a0 0), .inr (0, [.int (s0.1 0), .int (s0.1 1), .int (s0.1 2), .int (s0.1 3), .int (s0.1 4), .int (s0.1 5), .ref (a0 1), .ref (a0 2), .ref (a0 3), .ref (a0 4), .ref (a0 5), .ref (a0 6), .ref (a0 7), .ref (a0 8), .ref (a0 9), .ref (a0 10), .ref (a0 11), .ref (a0 12)])), ((a0 1), .inl (q 0, 4, .inl (s0.2.1 0))), ((a0 2), .inl (q 0, 4, .inl (s0.2.1 1))), ((a0 3), .inl (q 0, 160, .inl (s0.2.1 2))), ((a0 4), .inl (q 0, 40, .inl (upd (s0.2.1 3) (Int32.toNatClampNeg x1) x2))), ((a0 5), .inl (q 0, 40, .inl (upd (s0.2.1 4) (Int32.toNatClampNeg x1) 0))), ((a0 6), .inl (q 0, 40, .inl (upd (s0.2.1 5) (Int32.toNatClampNeg x1) 0))), ((a0 7), .inl (q 0, 40, .inl (upd (s0.2.1 6) (Int32.toNatClampNeg x1) 0))), ((a0 8), .inl (q 0, 40, .inl (upd (s0.2.1 7) (Int32.toNatClampNeg x1) 0))), ((a0 9), .inl (q 0, 40, .inl (upd (s0.2.1 8) (Int32.toNatClampNeg x1) 0))), ((a0 10), .inl (q 0, 40, .inl (upd (s0.2.1 9) (Int32.toNatClampNeg x1) 0))), ((a0 11), .inl (q 1, 40, .inr (.inl (vp_updL s0.2.2.1 (Int32.toNatClampNeg x1) 0)))), ((a0 12), .inl (q 0, s0.2.2.2.1, .inl s0.2.2.2.2))] := hD
  exact mt_vret (s0.1, (va_up (va_up (va_up (va_up (va_up (va_up (va_up s0.2.1 3 (upd (s0.2.1 3) (Int32.toNatClampNeg x1) x2)) 4 (upd (s0.2.1 4) (Int32.toNatClampNeg x1) 0)) 5 (upd (s0.2.1 5) (Int32.toNatClampNeg x1) 0)) 6 (upd (s0.2.1 6) (Int32.toNatClampNeg x1) 0)) 7 (upd (s0.2.1 7) (Int32.toNatClampNeg x1) 0)) 8 (upd (s0.2.1 8) (Int32.toNatClampNeg x1) 0)) 9 (upd (s0.2.1 9) (Int32.toNatClampNeg x1) 0)), (vp_updL s0.2.2.1 (Int32.toNatClampNeg x1) 0), s0.2.2.2.1, s0.2.2.2.2) hx hb hr hk h (hP.sub (ws' := bd_w a0 q (s0.1, (va_up (va_up (va_up (va_up (va_up (va_up (va_up s0.2.1 3 (upd (s0.2.1 3) (Int32.toNatClampNeg x1) x2)) 4 (upd (s0.2.1 4) (Int32.toNatClampNeg x1) 0)) 5 (upd (s0.2.1 5) (Int32.toNatClampNeg x1) 0)) 6 (upd (s0.2.1 6) (Int32.toNatClampNeg x1) 0)) 7 (upd (s0.2.1 7) (Int32.toNatClampNeg x1) 0)) 8 (upd (s0.2.1 8) (Int32.toNatClampNeg x1) 0)) 9 (upd (s0.2.1 9) (Int32.toNatClampNeg x1) 0)), (vp_updL s0.2.2.1 (Int32.toNatClampNeg x1) 0), s0.2.2.2.1, s0.2.2.2.2)) [0, 1, 2, 3, 4, 5, 6, 7, 8, 9, 10, 11, 12] rfl) (hD.sub (ws' := bd_w a0 q (s0.1, (va_up (va_up (va_up (va_up (va_up (va_up (va_up s0.2.1 3 (upd (s0.2.1 3) (Int32.toNatClampNeg x1) x2)) 4 (upd (s0.2.1 4) (Int32.toNatClampNeg x1) 0)) 5 (upd (s0.2.1 5) (Int32.toNatClampNeg x1) 0)) 6 (upd (s0.2.1 6) (Int32.toNatClampNeg x1) 0)) 7 (upd (s0.2.1 7) (Int32.toNatClampNeg x1) 0)) 8 (upd (s0.2.1 8) (Int32.toNatClampNeg x1) 0)) 9 (upd (s0.2.1 9) (Int32.toNatClampNeg x1) 0)), (vp_updL s0.2.2.1 (Int32.toNatClampNeg x1) 0), s0.2.2.2.1, s0.2.2.2.2)) [0, 1, 2, 3, 4, 5, 6, 7, 8, 9, 10, 11, 12] (by decide) rfl) hS dX0_makeCell_56

def wp_X0_clear_L32 (post : Bd → Prop) (e50 : Bd → Int32 → Prop) : Nat → Bd → Int32 → Prop
  | 0, _, _ => False
  | n32 + 1, t0, z1 => ((40 ≤ z1 → e50 t0 z1) ∧ (¬ 40 ≤ z1 → wp_X0_makeCell (fun u_3 => wp_X0_clear_L32 post e50 n32 u_3 (z1 + 1)) t0 z1 (0 : Int32)))
def wp_X0_clear (post : Bd → Prop) (s0 : Bd) : Prop := (∃ n32, wp_X0_clear_L32 post (fun t0 z1 => post t0) n32 ((va_up (va_up (va_up (va_up (va_up (va_up s0.1 0 0) 1 0) 2 0) 3 0) 4 0) 5 0), s0.2.1, s0.2.2.1, s0.2.2.2.1, s0.2.2.2.2) 0)
set_option maxHeartbeats 4000000 in
set_option maxRecDepth 100000 in
theorem c2_X0_clear {l : Launch} {D : va_G} {q : Nat → ClassId} {sz : Nat} {a0 : Nat → Nat} {s0 : Bd} {post : Bd → Prop} (h : wp_X0_clear post s0) : Met l yX0_clear (Cond.code yX0_clear cX0_clear 2 none :: w_all) ({ frames := 1, cells := 0, slots := 0, locals := 22 } : Room) (mt_P D q [.ref (a0 0)] (bd_w a0 q s0) sz) (va_Qv (fun u : Bd => post u) (mt_B D (bd_w a0 q s0) sz (fun u : Bd => bd_w a0 q u)) (va_A (bd_w a0 q s0) sz)) 0 0 (va_A (bd_w a0 q s0) sz) := by
  refine mt_start (by decide) (Nat.le_of_ble_eq_true rfl) ?_
  intro p e s m below meth c ls hx hb hr hml hown ht hk hin hP hQ hD hA hS hV hl
  have hK := hQ.1
  have hown : s.vm.findClass RX0 = some m.cls := hown
  have hl : lv_has ls 2 [(0, .ref (a0 0))] := hl
  have hP : va_P D vwCl [((a0 0), .inr (0, [.int (s0.1 0), .int (s0.1 1), .int (s0.1 2), .int (s0.1 3), .int (s0.1 4), .int (s0.1 5), .ref (a0 1), .ref (a0 2), .ref (a0 3), .ref (a0 4), .ref (a0 5), .ref (a0 6), .ref (a0 7), .ref (a0 8), .ref (a0 9), .ref (a0 10), .ref (a0 11), .ref (a0 12)])), ((a0 1), .inl (q 0, 4, .inl (s0.2.1 0))), ((a0 2), .inl (q 0, 4, .inl (s0.2.1 1))), ((a0 3), .inl (q 0, 160, .inl (s0.2.1 2))), ((a0 4), .inl (q 0, 40, .inl (s0.2.1 3))), ((a0 5), .inl (q 0, 40, .inl (s0.2.1 4))), ((a0 6), .inl (q 0, 40, .inl (s0.2.1 5))), ((a0 7), .inl (q 0, 40, .inl (s0.2.1 6))), ((a0 8), .inl (q 0, 40, .inl (s0.2.1 7))), ((a0 9), .inl (q 0, 40, .inl (s0.2.1 8))), ((a0 10), .inl (q 0, 40, .inl (s0.2.1 9))), ((a0 11), .inl (q 1, 40, .inr (.inl s0.2.2.1))), ((a0 12), .inl (q 0, s0.2.2.2.1, .inl s0.2.2.2.2))] s.heap := hP
  have hD : va_D _ [((a0 0), .inr (0, [.int (s0.1 0), .int (s0.1 1), .int (s0.1 2), .int (s0.1 3), .int (s0.1 4), .int (s0.1 5), .ref (a0 1), .ref (a0 2), .ref (a0 3), .ref (a0 4), .ref (a0 5), .ref (a0 6), .ref (a0 7), .ref (a0 8), .ref (a0 9), .ref (a0 10), .ref (a0 11), .ref (a0 12)])), ((a0 1), .inl (q 0, 4, .inl (s0.2.1 0))), ((a0 2), .inl (q 0, 4, .inl (s0.2.1 1))), ((a0 3), .inl (q 0, 160, .inl (s0.2.1 2))), ((a0 4), .inl (q 0, 40, .inl (s0.2.1 3))), ((a0 5), .inl (q 0, 40, .inl (s0.2.1 4))), ((a0 6), .inl (q 0, 40, .inl (s0.2.1 5))), ((a0 7), .inl (q 0, 40, .inl (s0.2.1 6))), ((a0 8), .inl (q 0, 40, .inl (s0.2.1 7))), ((a0 9), .inl (q 0, 40, .inl (s0.2.1 8))), ((a0 10), .inl (q 0, 40, .inl (s0.2.1 9))), ((a0 11), .inl (q 1, 40, .inr (.inl s0.2.2.1))), ((a0 12), .inl (q 0, s0.2.2.2.1, .inl s0.2.2.2.2))] := hD
  unfold wp_X0_clear at h
  refine lv_aload_n hx hb dX0_clear_0 rfl (lv_at hl 0 rfl) ?_
  refine lv_iconst (v := 0) hx hb dX0_clear_1 (by decide) ?_
  refine fl_put (C := RX0) (T := TX0) (N := 18) (ci := 0) (v := .int 0) (ws2 := [((a0 0), .inr (0, [.int 0, .int (s0.1 1), .int (s0.1 2), .int (s0.1 3), .int (s0.1 4), .int (s0.1 5), .ref (a0 1), .ref (a0 2), .ref (a0 3), .ref (a0 4), .ref (a0 5), .ref (a0 6), .ref (a0 7), .ref (a0 8), .ref (a0 9), .ref (a0 10), .ref (a0 11), .ref (a0 12)])), ((a0 1), .inl (q 0, 4, .inl (s0.2.1 0))), ((a0 2), .inl (q 0, 4, .inl (s0.2.1 1))), ((a0 3), .inl (q 0, 160, .inl (s0.2.1 2))), ((a0 4), .inl (q 0, 40, .inl (s0.2.1 3))), ((a0 5), .inl (q 0, 40, .inl (s0.2.1 4))), ((a0 6), .inl (q 0, 40, .inl (s0.2.1 5))), ((a0 7), .inl (q 0, 40, .inl (s0.2.1 6))), ((a0 8), .inl (q 0, 40, .inl (s0.2.1 7))), ((a0 9), .inl (q 0, 40, .inl (s0.2.1 8))), ((a0 10), .inl (q 0, 40, .inl (s0.2.1 9))), ((a0 11), .inl (q 1, 40, .inr (.inl s0.2.2.1))), ((a0 12), .inl (q 0, s0.2.2.2.1, .inl s0.2.2.2.2))]) hx hb ht in_X0 tyX0_ok nmX0 hown hK hP hD hS 0 rfl rfl 0 (by decide) mw_167 rfl rfl rfl (Nat.le_of_ble_eq_true rfl) dX0_clear_2 rfl (fun H locs hP hD hS => ?_)
  refine lv_aload_n hx hb dX0_clear_5 rfl (lv_at hl 0 rfl) ?_
  refine lv_iconst (v := 0) hx hb dX0_clear_6 (by decide) ?_
  refine fl_put (C := RX0) (T := TX0) (N := 18) (ci := 0) (v := .int 0) (ws2 := [((a0 0), .inr (0, [.int 0, .int 0, .int (s0.1 2), .int (s0.1 3), .int (s0.1 4), .int (s0.1 5), .ref (a0 1), .ref (a0 2), .ref (a0 3), .ref (a0 4), .ref (a0 5), .ref (a0 6), .ref (a0 7), .ref (a0 8), .ref (a0 9), .ref (a0 10), .ref (a0 11), .ref (a0 12)])), ((a0 1), .inl (q 0, 4, .inl (s0.2.1 0))), ((a0 2), .inl (q 0, 4, .inl (s0.2.1 1))), ((a0 3), .inl (q 0, 160, .inl (s0.2.1 2))), ((a0 4), .inl (q 0, 40, .inl (s0.2.1 3))), ((a0 5), .inl (q 0, 40, .inl (s0.2.1 4))), ((a0 6), .inl (q 0, 40, .inl (s0.2.1 5))), ((a0 7), .inl (q 0, 40, .inl (s0.2.1 6))), ((a0 8), .inl (q 0, 40, .inl (s0.2.1 7))), ((a0 9), .inl (q 0, 40, .inl (s0.2.1 8))), ((a0 10), .inl (q 0, 40, .inl (s0.2.1 9))), ((a0 11), .inl (q 1, 40, .inr (.inl s0.2.2.1))), ((a0 12), .inl (q 0, s0.2.2.2.1, .inl s0.2.2.2.2))]) hx hb ht in_X0 tyX0_ok nmX0 hown hK hP hD hS 0 rfl rfl 1 (by decide) mw_171 rfl rfl rfl (Nat.le_of_ble_eq_true rfl) dX0_clear_7 rfl (fun H locs hP hD hS => ?_)
  refine lv_aload_n hx hb dX0_clear_10 rfl (lv_at hl 0 rfl) ?_
  refine lv_iconst (v := 0) hx hb dX0_clear_11 (by decide) ?_
  refine fl_put (C := RX0) (T := TX0) (N := 18) (ci := 0) (v := .int 0) (ws2 := [((a0 0), .inr (0, [.int 0, .int 0, .int 0, .int (s0.1 3), .int (s0.1 4), .int (s0.1 5), .ref (a0 1), .ref (a0 2), .ref (a0 3), .ref (a0 4), .ref (a0 5), .ref (a0 6), .ref (a0 7), .ref (a0 8), .ref (a0 9), .ref (a0 10), .ref (a0 11), .ref (a0 12)])), ((a0 1), .inl (q 0, 4, .inl (s0.2.1 0))), ((a0 2), .inl (q 0, 4, .inl (s0.2.1 1))), ((a0 3), .inl (q 0, 160, .inl (s0.2.1 2))), ((a0 4), .inl (q 0, 40, .inl (s0.2.1 3))), ((a0 5), .inl (q 0, 40, .inl (s0.2.1 4))), ((a0 6), .inl (q 0, 40, .inl (s0.2.1 5))), ((a0 7), .inl (q 0, 40, .inl (s0.2.1 6))), ((a0 8), .inl (q 0, 40, .inl (s0.2.1 7))), ((a0 9), .inl (q 0, 40, .inl (s0.2.1 8))), ((a0 10), .inl (q 0, 40, .inl (s0.2.1 9))), ((a0 11), .inl (q 1, 40, .inr (.inl s0.2.2.1))), ((a0 12), .inl (q 0, s0.2.2.2.1, .inl s0.2.2.2.2))]) hx hb ht in_X0 tyX0_ok nmX0 hown hK hP hD hS 0 rfl rfl 2 (by decide) mw_175 rfl rfl rfl (Nat.le_of_ble_eq_true rfl) dX0_clear_12 rfl (fun H locs hP hD hS => ?_)
  refine lv_aload_n hx hb dX0_clear_15 rfl (lv_at hl 0 rfl) ?_
  refine lv_iconst (v := 0) hx hb dX0_clear_16 (by decide) ?_
  refine fl_put (C := RX0) (T := TX0) (N := 18) (ci := 0) (v := .int 0) (ws2 := [((a0 0), .inr (0, [.int 0, .int 0, .int 0, .int 0, .int (s0.1 4), .int (s0.1 5), .ref (a0 1), .ref (a0 2), .ref (a0 3), .ref (a0 4), .ref (a0 5), .ref (a0 6), .ref (a0 7), .ref (a0 8), .ref (a0 9), .ref (a0 10), .ref (a0 11), .ref (a0 12)])), ((a0 1), .inl (q 0, 4, .inl (s0.2.1 0))), ((a0 2), .inl (q 0, 4, .inl (s0.2.1 1))), ((a0 3), .inl (q 0, 160, .inl (s0.2.1 2))), ((a0 4), .inl (q 0, 40, .inl (s0.2.1 3))), ((a0 5), .inl (q 0, 40, .inl (s0.2.1 4))), ((a0 6), .inl (q 0, 40, .inl (s0.2.1 5))), ((a0 7), .inl (q 0, 40, .inl (s0.2.1 6))), ((a0 8), .inl (q 0, 40, .inl (s0.2.1 7))), ((a0 9), .inl (q 0, 40, .inl (s0.2.1 8))), ((a0 10), .inl (q 0, 40, .inl (s0.2.1 9))), ((a0 11), .inl (q 1, 40, .inr (.inl s0.2.2.1))), ((a0 12), .inl (q 0, s0.2.2.2.1, .inl s0.2.2.2.2))]) hx hb ht in_X0 tyX0_ok nmX0 hown hK hP hD hS 0 rfl rfl 3 (by decide) mw_179 rfl rfl rfl (Nat.le_of_ble_eq_true rfl) dX0_clear_17 rfl (fun H locs hP hD hS => ?_)
  refine lv_aload_n hx hb dX0_clear_20 rfl (lv_at hl 0 rfl) ?_
  refine lv_iconst (v := 0) hx hb dX0_clear_21 (by decide) ?_
  refine fl_put (C := RX0) (T := TX0) (N := 18) (ci := 0) (v := .int 0) (ws2 := [((a0 0), .inr (0, [.int 0, .int 0, .int 0, .int 0, .int 0, .int (s0.1 5), .ref (a0 1), .ref (a0 2), .ref (a0 3), .ref (a0 4), .ref (a0 5), .ref (a0 6), .ref (a0 7), .ref (a0 8), .ref (a0 9), .ref (a0 10), .ref (a0 11), .ref (a0 12)])), ((a0 1), .inl (q 0, 4, .inl (s0.2.1 0))), ((a0 2), .inl (q 0, 4, .inl (s0.2.1 1))), ((a0 3), .inl (q 0, 160, .inl (s0.2.1 2))), ((a0 4), .inl (q 0, 40, .inl (s0.2.1 3))), ((a0 5), .inl (q 0, 40, .inl (s0.2.1 4))), ((a0 6), .inl (q 0, 40, .inl (s0.2.1 5))), ((a0 7), .inl (q 0, 40, .inl (s0.2.1 6))), ((a0 8), .inl (q 0, 40, .inl (s0.2.1 7))), ((a0 9), .inl (q 0, 40, .inl (s0.2.1 8))), ((a0 10), .inl (q 0, 40, .inl (s0.2.1 9))), ((a0 11), .inl (q 1, 40, .inr (.inl s0.2.2.1))), ((a0 12), .inl (q 0, s0.2.2.2.1, .inl s0.2.2.2.2))]) hx hb ht in_X0 tyX0_ok nmX0 hown hK hP hD hS 0 rfl rfl 4 (by decide) mw_182 rfl rfl rfl (Nat.le_of_ble_eq_true rfl) dX0_clear_22 rfl (fun H locs hP hD hS => ?_)
  refine lv_aload_n hx hb dX0_clear_25 rfl (lv_at hl 0 rfl) ?_
  refine lv_iconst (v := 0) hx hb dX0_clear_26 (by decide) ?_
  refine fl_put (C := RX0) (T := TX0) (N := 18) (ci := 0) (v := .int 0) (ws2 := [((a0 0), .inr (0, [.int 0, .int 0, .int 0, .int 0, .int 0, .int 0, .ref (a0 1), .ref (a0 2), .ref (a0 3), .ref (a0 4), .ref (a0 5), .ref (a0 6), .ref (a0 7), .ref (a0 8), .ref (a0 9), .ref (a0 10), .ref (a0 11), .ref (a0 12)])), ((a0 1), .inl (q 0, 4, .inl (s0.2.1 0))), ((a0 2), .inl (q 0, 4, .inl (s0.2.1 1))), ((a0 3), .inl (q 0, 160, .inl (s0.2.1 2))), ((a0 4), .inl (q 0, 40, .inl (s0.2.1 3))), ((a0 5), .inl (q 0, 40, .inl (s0.2.1 4))), ((a0 6), .inl (q 0, 40, .inl (s0.2.1 5))), ((a0 7), .inl (q 0, 40, .inl (s0.2.1 6))), ((a0 8), .inl (q 0, 40, .inl (s0.2.1 7))), ((a0 9), .inl (q 0, 40, .inl (s0.2.1 8))), ((a0 10), .inl (q 0, 40, .inl (s0.2.1 9))), ((a0 11), .inl (q 1, 40, .inr (.inl s0.2.2.1))), ((a0 12), .inl (q 0, s0.2.2.2.1, .inl s0.2.2.2.2))]) hx hb ht in_X0 tyX0_ok nmX0 hown hK hP hD hS 0 rfl rfl 5 (by decide) mw_185 rfl rfl rfl (Nat.le_of_ble_eq_true rfl) dX0_clear_27 rfl (fun H locs hP hD hS => ?_)
  refine lv_iconst (v := 0) hx hb dX0_clear_30 (by decide) ?_
  refine lv_istore_n (lv' := [(1, .int 0), (0, .ref (a0 0))]) hx hb dX0_clear_31 rfl hl (by decide) rfl (fun ls hl => ?_)
  have lp32 : ∀ (e50 : Bd → Int32 → Prop) (k50 : ∀ (t0 : Bd) (z1 : Int32) (H : Heap) (locs : List Loc) (ls : Array Slot), e50 t0 z1 → va_P D vwCl (bd_w a0 q t0) H → va_D (va_A (bd_w a0 q s0) sz) (bd_w a0 q t0) → va_S (va_A (bd_w a0 q s0) sz) s.heap H locs → lv_has ls 2 [(1, .int z1), (0, .ref (a0 0))] → W p l e ({ frames := 1, cells := 0, slots := 0, locals := 22 } : Room) s m [.ref (a0 0)].toArray below meth c H locs 0 0 (MQ below (va_Qv (fun u : Bd => post u) (mt_B D (bd_w a0 q s0) sz (fun u : Bd => bd_w a0 q u)) (va_A (bd_w a0 q s0) sz)) [.ref (a0 0)].toArray s 0 0 (va_A (bd_w a0 q s0) sz)) (F0 m 50 ls [])) (n : Nat) (t0 : Bd) (z1 : Int32) (H : Heap) (locs : List Loc) (ls : Array Slot), wp_X0_clear_L32 post e50 n t0 z1 → va_P D vwCl (bd_w a0 q t0) H → va_D (va_A (bd_w a0 q s0) sz) (bd_w a0 q t0) → va_S (va_A (bd_w a0 q s0) sz) s.heap H locs → lv_has ls 2 [(1, .int z1), (0, .ref (a0 0))] → W p l e ({ frames := 1, cells := 0, slots := 0, locals := 22 } : Room) s m [.ref (a0 0)].toArray below meth c H locs 0 0 (MQ below (va_Qv (fun u : Bd => post u) (mt_B D (bd_w a0 q s0) sz (fun u : Bd => bd_w a0 q u)) (va_A (bd_w a0 q s0) sz)) [.ref (a0 0)].toArray s 0 0 (va_A (bd_w a0 q s0) sz)) (F0 m 32 ls []) := by
    intro e50 k50 n
    induction n with
    | zero =>
      intro t0 z1 H locs ls h
      exact h.elim
    | succ n ih =>
      intro t0 z1 H locs ls h hP hD hS hl
      have hP : va_P D vwCl [((a0 0), .inr (0, [.int (t0.1 0), .int (t0.1 1), .int (t0.1 2), .int (t0.1 3), .int (t0.1 4), .int (t0.1 5), .ref (a0 1), .ref (a0 2), .ref (a0 3), .ref (a0 4), .ref (a0 5), .ref (a0 6), .ref (a0 7), .ref (a0 8), .ref (a0 9), .ref (a0 10), .ref (a0 11), .ref (a0 12)])), ((a0 1), .inl (q 0, 4, .inl (t0.2.1 0))), ((a0 2), .inl (q 0, 4, .inl (t0.2.1 1))), ((a0 3), .inl (q 0, 160, .inl (t0.2.1 2))), ((a0 4), .inl (q 0, 40, .inl (t0.2.1 3))), ((a0 5), .inl (q 0, 40, .inl (t0.2.1 4))), ((a0 6), .inl (q 0, 40, .inl (t0.2.1 5))), ((a0 7), .inl (q 0, 40, .inl (t0.2.1 6))), ((a0 8), .inl (q 0, 40, .inl (t0.2.1 7))), ((a0 9), .inl (q 0, 40, .inl (t0.2.1 8))), ((a0 10), .inl (q 0, 40, .inl (t0.2.1 9))), ((a0 11), .inl (q 1, 40, .inr (.inl t0.2.2.1))), ((a0 12), .inl (q 0, t0.2.2.2.1, .inl t0.2.2.2.2))] H := hP
      have hD : va_D _ [((a0 0), .inr (0, [.int (t0.1 0), .int (t0.1 1), .int (t0.1 2), .int (t0.1 3), .int (t0.1 4), .int (t0.1 5), .ref (a0 1), .ref (a0 2), .ref (a0 3), .ref (a0 4), .ref (a0 5), .ref (a0 6), .ref (a0 7), .ref (a0 8), .ref (a0 9), .ref (a0 10), .ref (a0 11), .ref (a0 12)])), ((a0 1), .inl (q 0, 4, .inl (t0.2.1 0))), ((a0 2), .inl (q 0, 4, .inl (t0.2.1 1))), ((a0 3), .inl (q 0, 160, .inl (t0.2.1 2))), ((a0 4), .inl (q 0, 40, .inl (t0.2.1 3))), ((a0 5), .inl (q 0, 40, .inl (t0.2.1 4))), ((a0 6), .inl (q 0, 40, .inl (t0.2.1 5))), ((a0 7), .inl (q 0, 40, .inl (t0.2.1 6))), ((a0 8), .inl (q 0, 40, .inl (t0.2.1 7))), ((a0 9), .inl (q 0, 40, .inl (t0.2.1 8))), ((a0 10), .inl (q 0, 40, .inl (t0.2.1 9))), ((a0 11), .inl (q 1, 40, .inr (.inl t0.2.2.1))), ((a0 12), .inl (q 0, t0.2.2.2.1, .inl t0.2.2.2.2))] := hD
      unfold wp_X0_clear_L32 at h
      refine lv_iload_n hx hb dX0_clear_32 rfl (lv_at hl 0 rfl) ?_
      refine lv_bipush (v := 40) hx hb dX0_clear_33 (by decide) ?_
      refine lv_icmp_ge (tgt := 50) hx hb dX0_clear_35 (by decide) (fun c_1 => ?_) (fun c_1 => ?_)
      · replace h := h.1 c_1
        exact k50 _ _ _ _ ls h (hP.sub (ws' := bd_w a0 q t0) [0, 1, 2, 3, 4, 5, 6, 7, 8, 9, 10, 11, 12] rfl) (hD.sub (ws' := bd_w a0 q t0) [0, 1, 2, 3, 4, 5, 6, 7, 8, 9, 10, 11, 12] (by decide) rfl) hS (lv_sub hl [0, 1] rfl)
      · replace h := h.2 c_1
        refine lv_aload_n hx hb dX0_clear_38 rfl (lv_at hl 1 rfl) ?_
        refine lv_iload_n hx hb dX0_clear_39 rfl (lv_at hl 0 rfl) ?_
        refine lv_iconst (v := 0) hx hb dX0_clear_40 (by decide) ?_
        refine mt_gov (mt_wV (wc := bd_w a0 q t0) (As := [.int z1, .int 0]) (rest := []) hx hb hml hown ht (c2_X0_makeCell h) wd_X0_makeCell mw_400 hQ hV hS hA (hP.sub [0, 1, 2, 3, 4, 5, 6, 7, 8, 9, 10, 11, 12] rfl) (hD.sub [0, 1, 2, 3, 4, 5, 6, 7, 8, 9, 10, 11, 12] (by decide) rfl) rfl rfl rfl hl.1 rfl (Nat.le_of_ble_eq_true rfl) dX0_clear_41 ⟨Nat.le_of_ble_eq_true rfl, Nat.le_of_ble_eq_true rfl, rfl, rfl⟩ ⟨Nat.le_of_ble_eq_true rfl, Nat.le_of_ble_eq_true rfl⟩) (wr := []) hP hD hS hA [0, 1, 2, 3, 4, 5, 6, 7, 8, 9, 10, 11, 12] [] rfl rfl (by decide) (by decide) (fun u_3 H locs h hP hD hS => ?_)
        try dsimp only at h
        have hP : va_P D vwCl [((a0 0), .inr (0, [.int (u_3.1 0), .int (u_3.1 1), .int (u_3.1 2), .int (u_3.1 3), .int (u_3.1 4), .int (u_3.1 5), .ref (a0 1), .ref (a0 2), .ref (a0 3), .ref (a0 4), .ref (a0 5), .ref (a0 6), .ref (a0 7), .ref (a0 8), .ref (a0 9), .ref (a0 10), .ref (a0 11), .ref (a0 12)])), ((a0 1), .inl (q 0, 4, .inl (u_3.2.1 0))), ((a0 2), .inl (q 0, 4, .inl (u_3.2.1 1))), ((a0 3), .inl (q 0, 160, .inl (u_3.2.1 2))), ((a0 4), .inl (q 0, 40, .inl (u_3.2.1 3))), ((a0 5), .inl (q 0, 40, .inl (u_3.2.1 4))), ((a0 6), .inl (q 0, 40, .inl (u_3.2.1 5))), ((a0 7), .inl (q 0, 40, .inl (u_3.2.1 6))), ((a0 8), .inl (q 0, 40, .inl (u_3.2.1 7))), ((a0 9), .inl (q 0, 40, .inl (u_3.2.1 8))), ((a0 10), .inl (q 0, 40, .inl (u_3.2.1 9))), ((a0 11), .inl (q 1, 40, .inr (.inl u_3.2.2.1))), ((a0 12), .inl (q 0, u_3.2.2.2.1, .inl u_3.2.2.2.2))] H := hP
        have hD : va_D _ [((a0 0), .inr (0, [.int (u_3.1 0), .int (u_3.1 1), .int (u_3.1 2), .int (u_3.1 3), .int (u_3.1 4), .int (u_3.1 5), .ref (a0 1), .ref (a0 2), .ref (a0 3), .ref (a0 4), .ref (a0 5), .ref (a0 6), .ref (a0 7), .ref (a0 8), .ref (a0 9), .ref (a0 10), .ref (a0 11), .ref (a0 12)])), ((a0 1), .inl (q 0, 4, .inl (u_3.2.1 0))), ((a0 2), .inl (q 0, 4, .inl (u_3.2.1 1))), ((a0 3), .inl (q 0, 160, .inl (u_3.2.1 2))), ((a0 4), .inl (q 0, 40, .inl (u_3.2.1 3))), ((a0 5), .inl (q 0, 40, .inl (u_3.2.1 4))), ((a0 6), .inl (q 0, 40, .inl (u_3.2.1 5))), ((a0 7), .inl (q 0, 40, .inl (u_3.2.1 6))), ((a0 8), .inl (q 0, 40, .inl (u_3.2.1 7))), ((a0 9), .inl (q 0, 40, .inl (u_3.2.1 8))), ((a0 10), .inl (q 0, 40, .inl (u_3.2.1 9))), ((a0 11), .inl (q 1, 40, .inr (.inl u_3.2.2.1))), ((a0 12), .inl (q 0, u_3.2.2.2.1, .inl u_3.2.2.2.2))] := hD
        refine lv_iinc (v := (z1 + 1)) (lv' := [(1, .int (z1 + 1)), (0, .ref (a0 0))]) hx hb dX0_clear_44 hl (k := 0) rfl rfl (by decide) rfl (fun ls hl => ?_)
        refine lv_goto (tgt := 32) hx hb dX0_clear_47 (by decide) ?_
        exact ih _ _ _ _ ls h (hP.sub (ws' := bd_w a0 q u_3) [0, 1, 2, 3, 4, 5, 6, 7, 8, 9, 10, 11, 12] rfl) (hD.sub (ws' := bd_w a0 q u_3) [0, 1, 2, 3, 4, 5, 6, 7, 8, 9, 10, 11, 12] (by decide) rfl) hS (lv_sub hl [0, 1] rfl)
  obtain ⟨n32, h⟩ := h
  refine lp32 _ ?_ n32 _ _ _ _ ls h (hP.sub (ws' := bd_w a0 q ((va_up (va_up (va_up (va_up (va_up (va_up s0.1 0 0) 1 0) 2 0) 3 0) 4 0) 5 0), s0.2.1, s0.2.2.1, s0.2.2.2.1, s0.2.2.2.2)) [0, 1, 2, 3, 4, 5, 6, 7, 8, 9, 10, 11, 12] rfl) (hD.sub (ws' := bd_w a0 q ((va_up (va_up (va_up (va_up (va_up (va_up s0.1 0 0) 1 0) 2 0) 3 0) 4 0) 5 0), s0.2.1, s0.2.2.1, s0.2.2.2.1, s0.2.2.2.2)) [0, 1, 2, 3, 4, 5, 6, 7, 8, 9, 10, 11, 12] (by decide) rfl) hS (lv_sub hl [0, 1] rfl)
  · intro t0 z1 H locs ls h hP hD hS hl
    try dsimp only at h
    have hP : va_P D vwCl [((a0 0), .inr (0, [.int (t0.1 0), .int (t0.1 1), .int (t0.1 2), .int (t0.1 3), .int (t0.1 4), .int (t0.1 5), .ref (a0 1), .ref (a0 2), .ref (a0 3), .ref (a0 4), .ref (a0 5), .ref (a0 6), .ref (a0 7), .ref (a0 8), .ref (a0 9), .ref (a0 10), .ref (a0 11), .ref (a0 12)])), ((a0 1), .inl (q 0, 4, .inl (t0.2.1 0))), ((a0 2), .inl (q 0, 4, .inl (t0.2.1 1))), ((a0 3), .inl (q 0, 160, .inl (t0.2.1 2))), ((a0 4), .inl (q 0, 40, .inl (t0.2.1 3))), ((a0 5), .inl (q 0, 40, .inl (t0.2.1 4))), ((a0 6), .inl (q 0, 40, .inl (t0.2.1 5))), ((a0 7), .inl (q 0, 40, .inl (t0.2.1 6))), ((a0 8), .inl (q 0, 40, .inl (t0.2.1 7))), ((a0 9), .inl (q 0, 40, .inl (t0.2.1 8))), ((a0 10), .inl (q 0, 40, .inl (t0.2.1 9))), ((a0 11), .inl (q 1, 40, .inr (.inl t0.2.2.1))), ((a0 12), .inl (q 0, t0.2.2.2.1, .inl t0.2.2.2.2))] H := hP
    have hD : va_D _ [((a0 0), .inr (0, [.int (t0.1 0), .int (t0.1 1), .int (t0.1 2), .int (t0.1 3), .int (t0.1 4), .int (t0.1 5), .ref (a0 1), .ref (a0 2), .ref (a0 3), .ref (a0 4), .ref (a0 5), .ref (a0 6), .ref (a0 7), .ref (a0 8), .ref (a0 9), .ref (a0 10), .ref (a0 11), .ref (a0 12)])), ((a0 1), .inl (q 0, 4, .inl (t0.2.1 0))), ((a0 2), .inl (q 0, 4, .inl (t0.2.1 1))), ((a0 3), .inl (q 0, 160, .inl (t0.2.1 2))), ((a0 4), .inl (q 0, 40, .inl (t0.2.1 3))), ((a0 5), .inl (q 0, 40, .inl (t0.2.1 4))), ((a0 6), .inl (q 0, 40, .inl (t0.2.1 5))), ((a0 7), .inl (q 0, 40, .inl (t0.2.1 6))), ((a0 8), .inl (q 0, 40, .inl (t0.2.1 7))), ((a0 9), .inl (q 0, 40, .inl (t0.2.1 8))), ((a0 10), .inl (q 0, 40, .inl (t0.2.1 9))), ((a0 11), .inl (q 1, 40, .inr (.inl t0.2.2.1))), ((a0 12), .inl (q 0, t0.2.2.2.1, .inl t0.2.2.2.2))] := hD
    exact mt_vret t0 hx hb hr hk h (hP.sub (ws' := bd_w a0 q t0) [0, 1, 2, 3, 4, 5, 6, 7, 8, 9, 10, 11, 12] rfl) (hD.sub (ws' := bd_w a0 q t0) [0, 1, 2, 3, 4, 5, 6, 7, 8, 9, 10, 11, 12] (by decide) rfl) hS dX0_clear_50

def wp_X0_cells (post : Int32 → Prop) (s0 : Bd) : Prop := post ((s0.1 0) * (s0.1 1))
set_option maxHeartbeats 4000000 in
set_option maxRecDepth 100000 in
theorem c2_X0_cells {l : Launch} {D : va_G} {q : Nat → ClassId} {a0 : Nat → Nat} {s0 : Bd} {post : Int32 → Prop} (h : wp_X0_cells post s0) : Met l yX0_cells (Cond.code yX0_cells cX0_cells 1 (some .int) :: w_all) ({ frames := 0, cells := 0, slots := 0, locals := 0 } : Room) (rd_P D q [.ref (a0 0)] (bd_w a0 q s0)) (vp_Si post) 0 0 (fun _ => False) := by
  refine rd_start (by decide) (Nat.le_of_ble_eq_true rfl) ?_
  intro p e s m below meth c ls hx hb hr hml hown ht hk hP hQ hV hl
  have hK := hQ.1
  have hown : s.vm.findClass RX0 = some m.cls := hown
  have hl : lv_has ls 1 [(0, .ref (a0 0))] := hl
  have hP : va_P D vwCl [((a0 0), .inr (0, [.int (s0.1 0), .int (s0.1 1), .int (s0.1 2), .int (s0.1 3), .int (s0.1 4), .int (s0.1 5), .ref (a0 1), .ref (a0 2), .ref (a0 3), .ref (a0 4), .ref (a0 5), .ref (a0 6), .ref (a0 7), .ref (a0 8), .ref (a0 9), .ref (a0 10), .ref (a0 11), .ref (a0 12)])), ((a0 1), .inl (q 0, 4, .inl (s0.2.1 0))), ((a0 2), .inl (q 0, 4, .inl (s0.2.1 1))), ((a0 3), .inl (q 0, 160, .inl (s0.2.1 2))), ((a0 4), .inl (q 0, 40, .inl (s0.2.1 3))), ((a0 5), .inl (q 0, 40, .inl (s0.2.1 4))), ((a0 6), .inl (q 0, 40, .inl (s0.2.1 5))), ((a0 7), .inl (q 0, 40, .inl (s0.2.1 6))), ((a0 8), .inl (q 0, 40, .inl (s0.2.1 7))), ((a0 9), .inl (q 0, 40, .inl (s0.2.1 8))), ((a0 10), .inl (q 0, 40, .inl (s0.2.1 9))), ((a0 11), .inl (q 1, 40, .inr (.inl s0.2.2.1))), ((a0 12), .inl (q 0, s0.2.2.2.1, .inl s0.2.2.2.2))] s.heap := hP
  unfold wp_X0_cells at h
  refine lv_aload_n hx hb dX0_cells_0 rfl (lv_at hl 0 rfl) ?_
  refine fl_get (C := RX0) (T := TX0) (N := 18) (ci := 0) (v := .int (s0.1 0)) hx hb ht in_X0 hown hK hP 0 rfl rfl 0 (by decide) mw_167 rfl dX0_cells_1 ?_
  refine lv_aload_n hx hb dX0_cells_4 rfl (lv_at hl 0 rfl) ?_
  refine fl_get (C := RX0) (T := TX0) (N := 18) (ci := 0) (v := .int (s0.1 1)) hx hb ht in_X0 hown hK hP 0 rfl rfl 1 (by decide) mw_171 rfl dX0_cells_5 ?_
  refine lv_imul hx hb dX0_cells_8 ?_
  exact rd_iret hx hb hr hk h dX0_cells_9

def wp_X0_hasCell (post : Int32 → Prop) (s0 : Bd) (x1 : Int32) : Prop := ((x1 < 0 → post 0) ∧ (¬ x1 < 0 → wp_X0_cells (fun r_2 => ((r_2 ≤ x1 → post 0) ∧ (¬ r_2 ≤ x1 → post 1))) s0))
set_option maxHeartbeats 4000000 in
set_option maxRecDepth 100000 in
theorem c2_X0_hasCell {l : Launch} {D : va_G} {q : Nat → ClassId} {a0 : Nat → Nat} {s0 : Bd} {x1 : Int32} {post : Int32 → Prop} (h : wp_X0_hasCell post s0 x1) : Met l yX0_hasCell (Cond.code yX0_hasCell cX0_hasCell 2 (some .boolean) :: w_all) ({ frames := 1, cells := 0, slots := 0, locals := 20 } : Room) (rd_P D q [.ref (a0 0), .int x1] (bd_w a0 q s0)) (vp_Si post) 0 0 (fun _ => False) := by
  refine rd_start (by decide) (Nat.le_of_ble_eq_true rfl) ?_
  intro p e s m below meth c ls hx hb hr hml hown ht hk hP hQ hV hl
  have hK := hQ.1
  have hown : s.vm.findClass RX0 = some m.cls := hown
  have hl : lv_has ls 2 [(0, .ref (a0 0)), (1, .int x1)] := hl
  have hP : va_P D vwCl [((a0 0), .inr (0, [.int (s0.1 0), .int (s0.1 1), .int (s0.1 2), .int (s0.1 3), .int (s0.1 4), .int (s0.1 5), .ref (a0 1), .ref (a0 2), .ref (a0 3), .ref (a0 4), .ref (a0 5), .ref (a0 6), .ref (a0 7), .ref (a0 8), .ref (a0 9), .ref (a0 10), .ref (a0 11), .ref (a0 12)])), ((a0 1), .inl (q 0, 4, .inl (s0.2.1 0))), ((a0 2), .inl (q 0, 4, .inl (s0.2.1 1))), ((a0 3), .inl (q 0, 160, .inl (s0.2.1 2))), ((a0 4), .inl (q 0, 40, .inl (s0.2.1 3))), ((a0 5), .inl (q 0, 40, .inl (s0.2.1 4))), ((a0 6), .inl (q 0, 40, .inl (s0.2.1 5))), ((a0 7), .inl (q 0, 40, .inl (s0.2.1 6))), ((a0 8), .inl (q 0, 40, .inl (s0.2.1 7))), ((a0 9), .inl (q 0, 40, .inl (s0.2.1 8))), ((a0 10), .inl (q 0, 40, .inl (s0.2.1 9))), ((a0 11), .inl (q 1, 40, .inr (.inl s0.2.2.1))), ((a0 12), .inl (q 0, s0.2.2.2.1, .inl s0.2.2.2.2))] s.heap := hP
  unfold wp_X0_hasCell at h
  refine lv_iload_n hx hb dX0_hasCell_0 rfl (lv_at hl 1 rfl) ?_
  refine lv_if_lt (tgt := 16) hx hb dX0_hasCell_1 (by decide) (fun c_1 => ?_) (fun c_1 => ?_)
  · replace h := h.1 c_1
    refine lv_iconst (v := 0) hx hb dX0_hasCell_16 (by decide) ?_
    exact rd_zret hx hb hr hk rfl h dX0_hasCell_17
  · replace h := h.2 c_1
    refine lv_iload_n hx hb dX0_hasCell_4 rfl (lv_at hl 1 rfl) ?_
    refine lv_aload_n hx hb dX0_hasCell_5 rfl (lv_at hl 0 rfl) ?_
    refine vp_callSi (rd_wV (wc := bd_w a0 q s0) (As := []) (rest := [.int x1]) hx hb hml hown ht (c2_X0_cells h) wd_X0_cells mw_588 hQ hV va_S.rf (hP.sub [0, 1, 2, 3, 4, 5, 6, 7, 8, 9, 10, 11, 12] rfl) rfl rfl rfl hl.1 rfl (Nat.le_of_ble_eq_true rfl) dX0_hasCell_6 ⟨Nat.le_of_ble_eq_true rfl, Nat.le_of_ble_eq_true rfl, rfl, rfl⟩ ⟨Nat.le_of_ble_eq_true rfl, Nat.le_of_ble_eq_true rfl⟩) (fun r_2 h => ?_)
    try dsimp only at h
    refine lv_icmp_ge (tgt := 16) hx hb dX0_hasCell_9 (by decide) (fun c_4 => ?_) (fun c_4 => ?_)
    · replace h := h.1 c_4
      refine lv_iconst (v := 0) hx hb dX0_hasCell_16 (by decide) ?_
      exact rd_zret hx hb hr hk rfl h dX0_hasCell_17
    · replace h := h.2 c_4
      refine lv_iconst (v := 1) hx hb dX0_hasCell_12 (by decide) ?_
      refine lv_goto (tgt := 17) hx hb dX0_hasCell_13 (by decide) ?_
      exact rd_zret hx hb hr hk rfl h dX0_hasCell_17

def wp_X0_setLost (post : Bd → Prop) (s0 : Bd) (x1 : Int32) (x2 : Int32) : Prop := wp_X0_hasCell (fun r_1 => ((r_1 = 0 → post s0) ∧ (¬ r_1 = 0 → vp_in x1 40 ∧ post (s0.1, (va_up s0.2.1 7 (upd (s0.2.1 7) (Int32.toNatClampNeg x1) x2)), s0.2.2.1, s0.2.2.2.1, s0.2.2.2.2)))) s0 x1
set_option maxHeartbeats 4000000 in
set_option maxRecDepth 100000 in
theorem c2_X0_setLost {l : Launch} {D : va_G} {q : Nat → ClassId} {sz : Nat} {a0 : Nat → Nat} {s0 : Bd} {x1 : Int32} {x2 : Int32} {post : Bd → Prop} (h : wp_X0_setLost post s0 x1 x2) : Met l yX0_setLost (Cond.code yX0_setLost cX0_setLost 3 none :: w_all) ({ frames := 2, cells := 0, slots := 0, locals := 41 } : Room) (mt_P D q [.ref (a0 0), .int x1, .int x2] (bd_w a0 q s0) sz) (va_Qv (fun u : Bd => post u) (mt_B D (bd_w a0 q s0) sz (fun u : Bd => bd_w a0 q u)) (va_A (bd_w a0 q s0) sz)) 0 0 (va_A (bd_w a0 q s0) sz) := by
  refine mt_start (by decide) (Nat.le_of_ble_eq_true rfl) ?_
  intro p e s m below meth c ls hx hb hr hml hown ht hk hin hP hQ hD hA hS hV hl
  have hK := hQ.1
  have hown : s.vm.findClass RX0 = some m.cls := hown
  have hl : lv_has ls 3 [(0, .ref (a0 0)), (1, .int x1), (2, .int x2)] := hl
  have hP : va_P D vwCl [((a0 0), .inr (0, [.int (s0.1 0), .int (s0.1 1), .int (s0.1 2), .int (s0.1 3), .int (s0.1 4), .int (s0.1 5), .ref (a0 1), .ref (a0 2), .ref (a0 3), .ref (a0 4), .ref (a0 5), .ref (a0 6), .ref (a0 7), .ref (a0 8), .ref (a0 9), .ref (a0 10), .ref (a0 11), .ref (a0 12)])), ((a0 1), .inl (q 0, 4, .inl (s0.2.1 0))), ((a0 2), .inl (q 0, 4, .inl (s0.2.1 1))), ((a0 3), .inl (q 0, 160, .inl (s0.2.1 2))), ((a0 4), .inl (q 0, 40, .inl (s0.2.1 3))), ((a0 5), .inl (q 0, 40, .inl (s0.2.1 4))), ((a0 6), .inl (q 0, 40, .inl (s0.2.1 5))), ((a0 7), .inl (q 0, 40, .inl (s0.2.1 6))), ((a0 8), .inl (q 0, 40, .inl (s0.2.1 7))), ((a0 9), .inl (q 0, 40, .inl (s0.2.1 8))), ((a0 10), .inl (q 0, 40, .inl (s0.2.1 9))), ((a0 11), .inl (q 1, 40, .inr (.inl s0.2.2.1))), ((a0 12), .inl (q 0, s0.2.2.2.1, .inl s0.2.2.2.2))] s.heap := hP
  have hD : va_D _ [((a0 0), .inr (0, [.int (s0.1 0), .int (s0.1 1), .int (s0.1 2), .int (s0.1 3), .int (s0.1 4), .int (s0.1 5), .ref (a0 1), .ref (a0 2), .ref (a0 3), .ref (a0 4), .ref (a0 5), .ref (a0 6), .ref (a0 7), .ref (a0 8), .ref (a0 9), .ref (a0 10), .ref (a0 11), .ref (a0 12)])), ((a0 1), .inl (q 0, 4, .inl (s0.2.1 0))), ((a0 2), .inl (q 0, 4, .inl (s0.2.1 1))), ((a0 3), .inl (q 0, 160, .inl (s0.2.1 2))), ((a0 4), .inl (q 0, 40, .inl (s0.2.1 3))), ((a0 5), .inl (q 0, 40, .inl (s0.2.1 4))), ((a0 6), .inl (q 0, 40, .inl (s0.2.1 5))), ((a0 7), .inl (q 0, 40, .inl (s0.2.1 6))), ((a0 8), .inl (q 0, 40, .inl (s0.2.1 7))), ((a0 9), .inl (q 0, 40, .inl (s0.2.1 8))), ((a0 10), .inl (q 0, 40, .inl (s0.2.1 9))), ((a0 11), .inl (q 1, 40, .inr (.inl s0.2.2.1))), ((a0 12), .inl (q 0, s0.2.2.2.1, .inl s0.2.2.2.2))] := hD
  unfold wp_X0_setLost at h
  refine lv_aload_n hx hb dX0_setLost_0 rfl (lv_at hl 0 rfl) ?_
  refine lv_iload_n hx hb dX0_setLost_1 rfl (lv_at hl 1 rfl) ?_
  refine vp_callSi (rd_wV (wc := bd_w a0 q s0) (As := [.int x1]) (rest := []) hx hb hml hown ht (c2_X0_hasCell h) wd_X0_hasCell mw_584 hQ hV hS (hP.sub [0, 1, 2, 3, 4, 5, 6, 7, 8, 9, 10, 11, 12] rfl) rfl rfl rfl hl.1 rfl (Nat.le_of_ble_eq_true rfl) dX0_setLost_2 ⟨Nat.le_of_ble_eq_true rfl, Nat.le_of_ble_eq_true rfl, rfl, rfl⟩ ⟨Nat.le_of_ble_eq_true rfl, Nat.le_of_ble_eq_true rfl⟩) (fun r_1 h => ?_)
  try dsimp only at h
  refine lv_if_eq (tgt := 15) hx hb dX0_setLost_5 (by decide) (fun c_3 => ?_) (fun c_3 => ?_)
  · replace h := h.1 c_3
    exact mt_vret s0 hx hb hr hk h (hP.sub (ws' := bd_w a0 q s0) [0, 1, 2, 3, 4, 5, 6, 7, 8, 9, 10, 11, 12] rfl) (hD.sub (ws' := bd_w a0 q s0) [0, 1, 2, 3, 4, 5, 6, 7, 8, 9, 10, 11, 12] (by decide) rfl) hS dX0_setLost_15
  · replace h := h.2 c_3
    refine lv_aload_n hx hb dX0_setLost_8 rfl (lv_at hl 0 rfl) ?_
    refine fl_get (C := RX0) (T := TX0) (N := 18) (ci := 0) (v := .ref (a0 8)) hx hb ht in_X0 hown hK hP 0 rfl rfl 13 (by decide) mw_200 rfl dX0_setLost_9 ?_
    refine lv_iload_n hx hb dX0_setLost_12 rfl (lv_at hl 1 rfl) ?_
    refine lv_iload_n hx hb dX0_setLost_13 rfl (lv_at hl 2 rfl) ?_
    obtain ⟨g_4, h⟩ := h
    refine va_iast hx hb hK hP hD hS 8 0 rfl rfl g_4 dX0_setLost_14 (fun H locs hP hD hS => ?_)
    have hP : va_P D vwCl [((a0 0), .inr (0, [.int (s0.1 0), .int (s0.1 1), .int (s0.1 2), .int (s0.1 3), .int (s0.1 4), .int (s0.1 5), .ref (a0 1), .ref (a0 2), .ref (a0 3), .ref (a0 4), .ref (a0 5), .ref (a0 6), .ref (a0 7), .ref (a0 8), .ref (a0 9), .ref (a0 10), .ref (a0 11), .ref (a0 12)])), ((a0 1), .inl (q 0, 4, .inl (s0.2.1 0))), ((a0 2), .inl (q 0, 4, .inl (s0.2.1 1))), ((a0 3), .inl (q 0, 160, .inl (s0.2.1 2))), ((a0 4), .inl (q 0, 40, .inl (s0.2.1 3))), ((a0 5), .inl (q 0, 40, .inl (s0.2.1 4))), ((a0 6), .inl (q 0, 40, .inl (s0.2.1 5))), ((a0 7), .inl (q 0, 40, .inl (s0.2.1 6))), ((a0 8), .inl (q 0, 40, .inl (upd (s0.2.1 7) (Int32.toNatClampNeg x1) x2))), ((a0 9), .inl (q 0, 40, .inl (s0.2.1 8))), ((a0 10), .inl (q 0, 40, .inl (s0.2.1 9))), ((a0 11), .inl (q 1, 40, .inr (.inl s0.2.2.1))), ((a0 12), .inl (q 0, s0.2.2.2.1, .inl s0.2.2.2.2))] H := hP
    have hD : va_D _ [((a0 0), .inr (0, [.int (s0.1 0), .int (s0.1 1), .int (s0.1 2), .int (s0.1 3), .int (s0.1 4), .int (s0.1 5), .ref (a0 1), .ref (a0 2), .ref (a0 3), .ref (a0 4), .ref (a0 5), .ref (a0 6), .ref (a0 7), .ref (a0 8), .ref (a0 9), .ref (a0 10), .ref (a0 11), .ref (a0 12)])), ((a0 1), .inl (q 0, 4, .inl (s0.2.1 0))), ((a0 2), .inl (q 0, 4, .inl (s0.2.1 1))), ((a0 3), .inl (q 0, 160, .inl (s0.2.1 2))), ((a0 4), .inl (q 0, 40, .inl (s0.2.1 3))), ((a0 5), .inl (q 0, 40, .inl (s0.2.1 4))), ((a0 6), .inl (q 0, 40, .inl (s0.2.1 5))), ((a0 7), .inl (q 0, 40, .inl (s0.2.1 6))), ((a0 8), .inl (q 0, 40, .inl (upd (s0.2.1 7) (Int32.toNatClampNeg x1) x2))), ((a0 9), .inl (q 0, 40, .inl (s0.2.1 8))), ((a0 10), .inl (q 0, 40, .inl (s0.2.1 9))), ((a0 11), .inl (q 1, 40, .inr (.inl s0.2.2.1))), ((a0 12), .inl (q 0, s0.2.2.2.1, .inl s0.2.2.2.2))] := hD
    exact mt_vret (s0.1, (va_up s0.2.1 7 (upd (s0.2.1 7) (Int32.toNatClampNeg x1) x2)), s0.2.2.1, s0.2.2.2.1, s0.2.2.2.2) hx hb hr hk h (hP.sub (ws' := bd_w a0 q (s0.1, (va_up s0.2.1 7 (upd (s0.2.1 7) (Int32.toNatClampNeg x1) x2)), s0.2.2.1, s0.2.2.2.1, s0.2.2.2.2)) [0, 1, 2, 3, 4, 5, 6, 7, 8, 9, 10, 11, 12] rfl) (hD.sub (ws' := bd_w a0 q (s0.1, (va_up s0.2.1 7 (upd (s0.2.1 7) (Int32.toNatClampNeg x1) x2)), s0.2.2.1, s0.2.2.2.1, s0.2.2.2.2)) [0, 1, 2, 3, 4, 5, 6, 7, 8, 9, 10, 11, 12] (by decide) rfl) hS dX0_setLost_15

def wp_X5_byteAt (post : Int32 → Prop) (s0 : Tp) (x1 : Int32) : Prop := ((x1 < 0 → post (-1)) ∧ (¬ x1 < 0 → (((s0.1 0) ≤ x1 → post (-1)) ∧ (¬ (s0.1 0) ≤ x1 → vp_in x1 400 ∧ post (s0.2 (Int32.toNatClampNeg x1))))))
set_option maxHeartbeats 4000000 in
set_option maxRecDepth 100000 in
theorem c2_X5_byteAt {l : Launch} {D : va_G} {q : Nat → ClassId} {a0 : Nat → Nat} {s0 : Tp} {x1 : Int32} {post : Int32 → Prop} (h : wp_X5_byteAt post s0 x1) : Met l yX5_byteAt (Cond.code yX5_byteAt cX5_byteAt 2 (some .int) :: w_all) ({ frames := 0, cells := 0, slots := 0, locals := 0 } : Room) (rd_P D q [.ref (a0 0), .int x1] (tp_w a0 q s0)) (vp_Si post) 0 0 (fun _ => False) := by
  refine rd_start (by decide) (Nat.le_of_ble_eq_true rfl) ?_
  intro p e s m below meth c ls hx hb hr hml hown ht hk hP hQ hV hl
  have hK := hQ.1
  have hown : s.vm.findClass RX5 = some m.cls := hown
  have hl : lv_has ls 2 [(0, .ref (a0 0)), (1, .int x1)] := hl
  have hP : va_P D vwCl [((a0 0), .inr (4, [.ref (a0 1), .int (s0.1 0), .int (s0.1 1), .int (s0.1 2), .int (s0.1 3), .int (s0.1 4), .int (s0.1 5)])), ((a0 1), .inl (q 0, 400, .inl s0.2))] s.heap := hP
  unfold wp_X5_byteAt at h
  refine lv_iload_n hx hb dX5_byteAt_0 rfl (lv_at hl 1 rfl) ?_
  refine lv_if_lt (tgt := 21) hx hb dX5_byteAt_1 (by decide) (fun c_1 => ?_) (fun c_1 => ?_)
  · replace h := h.1 c_1
    refine lv_iconst (v := (-1)) hx hb dX5_byteAt_21 (by decide) ?_
    exact rd_iret hx hb hr hk h dX5_byteAt_22
  · replace h := h.2 c_1
    refine lv_iload_n hx hb dX5_byteAt_4 rfl (lv_at hl 1 rfl) ?_
    refine lv_aload_n hx hb dX5_byteAt_5 rfl (lv_at hl 0 rfl) ?_
    refine fl_get (C := RX5) (T := TX5) (N := 7) (ci := 4) (v := .int (s0.1 0)) hx hb ht in_X5 hown hK hP 0 rfl rfl 1 (by decide) mw_130 rfl dX5_byteAt_6 ?_
    refine lv_icmp_ge (tgt := 21) hx hb dX5_byteAt_9 (by decide) (fun c_2 => ?_) (fun c_2 => ?_)
    · replace h := h.1 c_2
      refine lv_iconst (v := (-1)) hx hb dX5_byteAt_21 (by decide) ?_
      exact rd_iret hx hb hr hk h dX5_byteAt_22
    · replace h := h.2 c_2
      refine lv_aload_n hx hb dX5_byteAt_12 rfl (lv_at hl 0 rfl) ?_
      refine fl_get (C := RX5) (T := TX5) (N := 7) (ci := 4) (v := .ref (a0 1)) hx hb ht in_X5 hown hK hP 0 rfl rfl 0 (by decide) mw_128 rfl dX5_byteAt_13 ?_
      refine lv_iload_n hx hb dX5_byteAt_16 rfl (lv_at hl 1 rfl) ?_
      obtain ⟨g_3, h⟩ := h
      refine va_iald hx hb hK hP 1 0 rfl rfl g_3 dX5_byteAt_17 ?_
      refine lv_goto (tgt := 22) hx hb dX5_byteAt_18 (by decide) ?_
      exact rd_iret hx hb hr hk h dX5_byteAt_22

def wp_X0_addDrum_L40 (s1 : Tp) (post : Bd → Prop) (e76 : Bd → Int32 → Int32 → Int32 → Int32 → Prop) : Nat → Bd → Int32 → Int32 → Int32 → Int32 → Prop
  | 0, _, _, _, _, _ => False
  | n40 + 1, t0, z1, z3, z4, z5 => ((z4 ≤ z5 → e76 t0 z1 z3 z4 z5) ∧ (¬ z4 ≤ z5 → wp_X5_byteAt (fun r_6 => vp_in (((t0.1 3) * 40) + z5) 160 ∧ wp_X0_addDrum_L40 s1 post e76 n40 (t0.1, (va_up t0.2.1 2 (upd (t0.2.1 2) (Int32.toNatClampNeg (((t0.1 3) * 40) + z5)) r_6)), t0.2.2.1, t0.2.2.2.1, t0.2.2.2.2) z1 z3 z4 (z5 + 1)) s1 (z3 + z5)))
def wp_X0_addDrum (post : Bd → Prop) (s0 : Bd) (s1 : Tp) (x1 : Int32) (x3 : Int32) (x4 : Int32) : Prop := ((4 ≤ (s0.1 3) → post s0) ∧ (¬ 4 ≤ (s0.1 3) → ((x4 ≤ 40 → vp_in (s0.1 3) 4 ∧ vp_in (s0.1 3) 4 ∧ (∃ n40, wp_X0_addDrum_L40 s1 post (fun t0 z1 z3 z4 z5 => post ((va_up t0.1 3 ((t0.1 3) + 1)), t0.2.1, t0.2.2.1, t0.2.2.2.1, t0.2.2.2.2)) n40 (s0.1, (va_up (va_up s0.2.1 0 (upd (s0.2.1 0) (Int32.toNatClampNeg (s0.1 3)) x1)) 1 (upd (s0.2.1 1) (Int32.toNatClampNeg (s0.1 3)) x4)), s0.2.2.1, s0.2.2.2.1, s0.2.2.2.2) x1 x3 x4 0)) ∧ (¬ x4 ≤ 40 → post s0))))
set_option maxHeartbeats 4000000 in
set_option maxRecDepth 100000 in
theorem c2_X0_addDrum {l : Launch} {D : va_G} {q : Nat → ClassId} {sz : Nat} {a0 : Nat → Nat} {a1 : Nat → Nat} {s0 : Bd} {s1 : Tp} {x1 : Int32} {x3 : Int32} {x4 : Int32} {post : Bd → Prop} (h : wp_X0_addDrum post s0 s1 x1 x3 x4) : Met l yX0_addDrum (Cond.code yX0_addDrum cX0_addDrum 6 none :: w_all) ({ frames := 1, cells := 0, slots := 0, locals := 21 } : Room) (mt_P D q [.ref (a0 0), .int x1, .ref (a1 0), .int x3, .int x4] (bd_w a0 q s0 ++ tp_w a1 q s1) sz) (va_Qv (fun u : Bd => post u) (mt_B D (bd_w a0 q s0 ++ tp_w a1 q s1) sz (fun u : Bd => bd_w a0 q u ++ tp_w a1 q s1)) (va_A (bd_w a0 q s0 ++ tp_w a1 q s1) sz)) 0 0 (va_A (bd_w a0 q s0 ++ tp_w a1 q s1) sz) := by
  refine mt_start (by decide) (Nat.le_of_ble_eq_true rfl) ?_
  intro p e s m below meth c ls hx hb hr hml hown ht hk hin hP hQ hD hA hS hV hl
  have hK := hQ.1
  have hown : s.vm.findClass RX0 = some m.cls := hown
  have hl : lv_has ls 6 [(0, .ref (a0 0)), (1, .int x1), (2, .ref (a1 0)), (3, .int x3), (4, .int x4)] := hl
  have hP : va_P D vwCl [((a0 0), .inr (0, [.int (s0.1 0), .int (s0.1 1), .int (s0.1 2), .int (s0.1 3), .int (s0.1 4), .int (s0.1 5), .ref (a0 1), .ref (a0 2), .ref (a0 3), .ref (a0 4), .ref (a0 5), .ref (a0 6), .ref (a0 7), .ref (a0 8), .ref (a0 9), .ref (a0 10), .ref (a0 11), .ref (a0 12)])), ((a0 1), .inl (q 0, 4, .inl (s0.2.1 0))), ((a0 2), .inl (q 0, 4, .inl (s0.2.1 1))), ((a0 3), .inl (q 0, 160, .inl (s0.2.1 2))), ((a0 4), .inl (q 0, 40, .inl (s0.2.1 3))), ((a0 5), .inl (q 0, 40, .inl (s0.2.1 4))), ((a0 6), .inl (q 0, 40, .inl (s0.2.1 5))), ((a0 7), .inl (q 0, 40, .inl (s0.2.1 6))), ((a0 8), .inl (q 0, 40, .inl (s0.2.1 7))), ((a0 9), .inl (q 0, 40, .inl (s0.2.1 8))), ((a0 10), .inl (q 0, 40, .inl (s0.2.1 9))), ((a0 11), .inl (q 1, 40, .inr (.inl s0.2.2.1))), ((a0 12), .inl (q 0, s0.2.2.2.1, .inl s0.2.2.2.2)), ((a1 0), .inr (4, [.ref (a1 1), .int (s1.1 0), .int (s1.1 1), .int (s1.1 2), .int (s1.1 3), .int (s1.1 4), .int (s1.1 5)])), ((a1 1), .inl (q 0, 400, .inl s1.2))] s.heap := hP
  have hD : va_D _ [((a0 0), .inr (0, [.int (s0.1 0), .int (s0.1 1), .int (s0.1 2), .int (s0.1 3), .int (s0.1 4), .int (s0.1 5), .ref (a0 1), .ref (a0 2), .ref (a0 3), .ref (a0 4), .ref (a0 5), .ref (a0 6), .ref (a0 7), .ref (a0 8), .ref (a0 9), .ref (a0 10), .ref (a0 11), .ref (a0 12)])), ((a0 1), .inl (q 0, 4, .inl (s0.2.1 0))), ((a0 2), .inl (q 0, 4, .inl (s0.2.1 1))), ((a0 3), .inl (q 0, 160, .inl (s0.2.1 2))), ((a0 4), .inl (q 0, 40, .inl (s0.2.1 3))), ((a0 5), .inl (q 0, 40, .inl (s0.2.1 4))), ((a0 6), .inl (q 0, 40, .inl (s0.2.1 5))), ((a0 7), .inl (q 0, 40, .inl (s0.2.1 6))), ((a0 8), .inl (q 0, 40, .inl (s0.2.1 7))), ((a0 9), .inl (q 0, 40, .inl (s0.2.1 8))), ((a0 10), .inl (q 0, 40, .inl (s0.2.1 9))), ((a0 11), .inl (q 1, 40, .inr (.inl s0.2.2.1))), ((a0 12), .inl (q 0, s0.2.2.2.1, .inl s0.2.2.2.2)), ((a1 0), .inr (4, [.ref (a1 1), .int (s1.1 0), .int (s1.1 1), .int (s1.1 2), .int (s1.1 3), .int (s1.1 4), .int (s1.1 5)])), ((a1 1), .inl (q 0, 400, .inl s1.2))] := hD
  unfold wp_X0_addDrum at h
  refine lv_aload_n hx hb dX0_addDrum_0 rfl (lv_at hl 0 rfl) ?_
  refine fl_get (C := RX0) (T := TX0) (N := 18) (ci := 0) (v := .int (s0.1 3)) hx hb ht in_X0 hown hK hP 0 rfl rfl 3 (by decide) mw_179 rfl dX0_addDrum_1 ?_
  refine lv_iconst (v := 4) hx hb dX0_addDrum_4 (by decide) ?_
  refine lv_icmp_ge (tgt := 15) hx hb dX0_addDrum_5 (by decide) (fun c_1 => ?_) (fun c_1 => ?_)
  · replace h := h.1 c_1
    exact mt_vret s0 hx hb hr hk h (hP.sub (ws' := bd_w a0 q s0 ++ tp_w a1 q s1) [0, 1, 2, 3, 4, 5, 6, 7, 8, 9, 10, 11, 12, 13, 14] rfl) (hD.sub (ws' := bd_w a0 q s0 ++ tp_w a1 q s1) [0, 1, 2, 3, 4, 5, 6, 7, 8, 9, 10, 11, 12, 13, 14] (by decide) rfl) hS dX0_addDrum_15
  · replace h := h.2 c_1
    refine lv_iload hx hb dX0_addDrum_8 (lv_at hl 4 rfl) ?_
    refine lv_bipush (v := 40) hx hb dX0_addDrum_10 (by decide) ?_
    refine lv_icmp_le (tgt := 16) hx hb dX0_addDrum_12 (by decide) (fun c_2 => ?_) (fun c_2 => ?_)
    · replace h := h.1 c_2
      refine lv_aload_n hx hb dX0_addDrum_16 rfl (lv_at hl 0 rfl) ?_
      refine fl_get (C := RX0) (T := TX0) (N := 18) (ci := 0) (v := .ref (a0 1)) hx hb ht in_X0 hown hK hP 0 rfl rfl 6 (by decide) mw_188 rfl dX0_addDrum_17 ?_
      refine lv_aload_n hx hb dX0_addDrum_20 rfl (lv_at hl 0 rfl) ?_
      refine fl_get (C := RX0) (T := TX0) (N := 18) (ci := 0) (v := .int (s0.1 3)) hx hb ht in_X0 hown hK hP 0 rfl rfl 3 (by decide) mw_179 rfl dX0_addDrum_21 ?_
      refine lv_iload_n hx hb dX0_addDrum_24 rfl (lv_at hl 1 rfl) ?_
      obtain ⟨g_3, h⟩ := h
      refine va_iast hx hb hK hP hD hS 1 0 rfl rfl g_3 dX0_addDrum_25 (fun H locs hP hD hS => ?_)
      have hP : va_P D vwCl [((a0 0), .inr (0, [.int (s0.1 0), .int (s0.1 1), .int (s0.1 2), .int (s0.1 3), .int (s0.1 4), .int (s0.1 5), .ref (a0 1), .ref (a0 2), .ref (a0 3), .ref (a0 4), .ref (a0 5), .ref (a0 6), .ref (a0 7), .ref (a0 8), .ref (a0 9), .ref (a0 10), .ref (a0 11), .ref (a0 12)])), ((a0 1), .inl (q 0, 4, .inl (upd (s0.2.1 0) (Int32.toNatClampNeg (s0.1 3)) x1))), ((a0 2), .inl (q 0, 4, .inl (s0.2.1 1))), ((a0 3), .inl (q 0, 160, .inl (s0.2.1 2))), ((a0 4), .inl (q 0, 40, .inl (s0.2.1 3))), ((a0 5), .inl (q 0, 40, .inl (s0.2.1 4))), ((a0 6), .inl (q 0, 40, .inl (s0.2.1 5))), ((a0 7), .inl (q 0, 40, .inl (s0.2.1 6))), ((a0 8), .inl (q 0, 40, .inl (s0.2.1 7))), ((a0 9), .inl (q 0, 40, .inl (s0.2.1 8))), ((a0 10), .inl (q 0, 40, .inl (s0.2.1 9))), ((a0 11), .inl (q 1, 40, .inr (.inl s0.2.2.1))), ((a0 12), .inl (q 0, s0.2.2.2.1, .inl s0.2.2.2.2)), ((a1 0), .inr (4, [.ref (a1 1), .int (s1.1 0), .int (s1.1 1), .int (s1.1 2), .int (s1.1 3), .int (s1.1 4), .int (s1.1 5)])), ((a1 1), .inl (q 0, 400, .inl s1.2))] H := hP
      have hD : va_D _ [((a0 0), .inr (0, [.int (s0.1 0), .int (s0.1 1), .int (s0.1 2), .int (s0.1 3), .int (s0.1 4), .int (s0.1 5), .ref (a0 1), .ref (a0 2), .ref (a0 3), .ref (a0 4), .ref (a0 5), .ref (a0 6), .ref (a0 7), .ref (a0 8), .ref (a0 9), .ref (a0 10), .ref (a0 11), .ref (a0 12)])), ((a0 1), .inl (q 0, 4, .inl (upd (s0.2.1 0) (Int32.toNatClampNeg (s0.1 3)) x1))), ((a0 2), .inl (q 0, 4, .inl (s0.2.1 1))), ((a0 3), .inl (q 0, 160, .inl (s0.2.1 2))), ((a0 4), .inl (q 0, 40, .inl (s0.2.1 3))), ((a0 5), .inl (q 0, 40, .inl (s0.2.1 4))), ((a0 6), .inl (q 0, 40, .inl (s0.2.1 5))), ((a0 7), .inl (q 0, 40, .inl (s0.2.1 6))), ((a0 8), .inl (q 0, 40, .inl (s0.2.1 7))), ((a0 9), .inl (q 0, 40, .inl (s0.2.1 8))), ((a0 10), .inl (q 0, 40, .inl (s0.2.1 9))), ((a0 11), .inl (q 1, 40, .inr (.inl s0.2.2.1))), ((a0 12), .inl (q 0, s0.2.2.2.1, .inl s0.2.2.2.2)), ((a1 0), .inr (4, [.ref (a1 1), .int (s1.1 0), .int (s1.1 1), .int (s1.1 2), .int (s1.1 3), .int (s1.1 4), .int (s1.1 5)])), ((a1 1), .inl (q 0, 400, .inl s1.2))] := hD
      refine lv_aload_n hx hb dX0_addDrum_26 rfl (lv_at hl 0 rfl) ?_
      refine fl_get (C := RX0) (T := TX0) (N := 18) (ci := 0) (v := .ref (a0 2)) hx hb ht in_X0 hown hK hP 0 rfl rfl 7 (by decide) mw_190 rfl dX0_addDrum_27 ?_
      refine lv_aload_n hx hb dX0_addDrum_30 rfl (lv_at hl 0 rfl) ?_
      refine fl_get (C := RX0) (T := TX0) (N := 18) (ci := 0) (v := .int (s0.1 3)) hx hb ht in_X0 hown hK hP 0 rfl rfl 3 (by decide) mw_179 rfl dX0_addDrum_31 ?_
      refine lv_iload hx hb dX0_addDrum_34 (lv_at hl 4 rfl) ?_
      obtain ⟨g_4, h⟩ := h
      refine va_iast hx hb hK hP hD hS 2 0 rfl rfl g_4 dX0_addDrum_36 (fun H locs hP hD hS => ?_)
      have hP : va_P D vwCl [((a0 0), .inr (0, [.int (s0.1 0), .int (s0.1 1), .int (s0.1 2), .int (s0.1 3), .int (s0.1 4), .int (s0.1 5), .ref (a0 1), .ref (a0 2), .ref (a0 3), .ref (a0 4), .ref (a0 5), .ref (a0 6), .ref (a0 7), .ref (a0 8), .ref (a0 9), .ref (a0 10), .ref (a0 11), .ref (a0 12)])), ((a0 1), .inl (q 0, 4, .inl (upd (s0.2.1 0) (Int32.toNatClampNeg (s0.1 3)) x1))), ((a0 2), .inl (q 0, 4, .inl (upd (s0.2.1 1) (Int32.toNatClampNeg (s0.1 3)) x4))), ((a0 3), .inl (q 0, 160, .inl (s0.2.1 2))), ((a0 4), .inl (q 0, 40, .inl (s0.2.1 3))), ((a0 5), .inl (q 0, 40, .inl (s0.2.1 4))), ((a0 6), .inl (q 0, 40, .inl (s0.2.1 5))), ((a0 7), .inl (q 0, 40, .inl (s0.2.1 6))), ((a0 8), .inl (q 0, 40, .inl (s0.2.1 7))), ((a0 9), .inl (q 0, 40, .inl (s0.2.1 8))), ((a0 10), .inl (q 0, 40, .inl (s0.2.1 9))), ((a0 11), .inl (q 1, 40, .inr (.inl s0.2.2.1))), ((a0 12), .inl (q 0, s0.2.2.2.1, .inl s0.2.2.2.2)), ((a1 0), .inr (4, [.ref (a1 1), .int (s1.1 0), .int (s1.1 1), .int (s1.1 2), .int (s1.1 3), .int (s1.1 4), .int (s1.1 5)])), ((a1 1), .inl (q 0, 400, .inl s1.2))] H := hP
      have hD : va_D _ [((a0 0), .inr (0, [.int (s0.1 0), .int (s0.1 1), .int (s0.1 2), .int (s0.1 3), .int (s0.1 4), .int (s0.1 5), .ref (a0 1), .ref (a0 2), .ref (a0 3), .ref (a0 4), .ref (a0 5), .ref (a0 6), .ref (a0 7), .ref (a0 8), .ref (a0 9), .ref (a0 10), .ref (a0 11), .ref (a0 12)])), ((a0 1), .inl (q 0, 4, .inl (upd (s0.2.1 0) (Int32.toNatClampNeg (s0.1 3)) x1))), ((a0 2), .inl (q 0, 4, .inl (upd (s0.2.1 1) (Int32.toNatClampNeg (s0.1 3)) x4))), ((a0 3), .inl (q 0, 160, .inl (s0.2.1 2))), ((a0 4), .inl (q 0, 40, .inl (s0.2.1 3))), ((a0 5), .inl (q 0, 40, .inl (s0.2.1 4))), ((a0 6), .inl (q 0, 40, .inl (s0.2.1 5))), ((a0 7), .inl (q 0, 40, .inl (s0.2.1 6))), ((a0 8), .inl (q 0, 40, .inl (s0.2.1 7))), ((a0 9), .inl (q 0, 40, .inl (s0.2.1 8))), ((a0 10), .inl (q 0, 40, .inl (s0.2.1 9))), ((a0 11), .inl (q 1, 40, .inr (.inl s0.2.2.1))), ((a0 12), .inl (q 0, s0.2.2.2.1, .inl s0.2.2.2.2)), ((a1 0), .inr (4, [.ref (a1 1), .int (s1.1 0), .int (s1.1 1), .int (s1.1 2), .int (s1.1 3), .int (s1.1 4), .int (s1.1 5)])), ((a1 1), .inl (q 0, 400, .inl s1.2))] := hD
      refine lv_iconst (v := 0) hx hb dX0_addDrum_37 (by decide) ?_
      refine lv_istore (lv' := [(5, .int 0), (0, .ref (a0 0)), (1, .int x1), (2, .ref (a1 0)), (3, .int x3), (4, .int x4)]) hx hb dX0_addDrum_38 hl (by decide) rfl (fun ls hl => ?_)
      have lp40 : ∀ (e76 : Bd → Int32 → Int32 → Int32 → Int32 → Prop) (k76 : ∀ (t0 : Bd) (z1 : Int32) (z3 : Int32) (z4 : Int32) (z5 : Int32) (H : Heap) (locs : List Loc) (ls : Array Slot), e76 t0 z1 z3 z4 z5 → va_P D vwCl (bd_w a0 q t0 ++ tp_w a1 q s1) H → va_D (va_A (bd_w a0 q s0 ++ tp_w a1 q s1) sz) (bd_w a0 q t0 ++ tp_w a1 q s1) → va_S (va_A (bd_w a0 q s0 ++ tp_w a1 q s1) sz) s.heap H locs → lv_has ls 6 [(1, .int z1), (3, .int z3), (4, .int z4), (5, .int z5), (0, .ref (a0 0)), (2, .ref (a1 0))] → W p l e ({ frames := 1, cells := 0, slots := 0, locals := 21 } : Room) s m [.ref (a0 0), .int x1, .ref (a1 0), .int x3, .int x4].toArray below meth c H locs 0 0 (MQ below (va_Qv (fun u : Bd => post u) (mt_B D (bd_w a0 q s0 ++ tp_w a1 q s1) sz (fun u : Bd => bd_w a0 q u ++ tp_w a1 q s1)) (va_A (bd_w a0 q s0 ++ tp_w a1 q s1) sz)) [.ref (a0 0), .int x1, .ref (a1 0), .int x3, .int x4].toArray s 0 0 (va_A (bd_w a0 q s0 ++ tp_w a1 q s1) sz)) (F0 m 76 ls [])) (n : Nat) (t0 : Bd) (z1 : Int32) (z3 : Int32) (z4 : Int32) (z5 : Int32) (H : Heap) (locs : List Loc) (ls : Array Slot), wp_X0_addDrum_L40 s1 post e76 n t0 z1 z3 z4 z5 → va_P D vwCl (bd_w a0 q t0 ++ tp_w a1 q s1) H → va_D (va_A (bd_w a0 q s0 ++ tp_w a1 q s1) sz) (bd_w a0 q t0 ++ tp_w a1 q s1) → va_S (va_A (bd_w a0 q s0 ++ tp_w a1 q s1) sz) s.heap H locs → lv_has ls 6 [(1, .int z1), (3, .int z3), (4, .int z4), (5, .int z5), (0, .ref (a0 0)), (2, .ref (a1 0))] → W p l e ({ frames := 1, cells := 0, slots := 0, locals := 21 } : Room) s m [.ref (a0 0), .int x1, .ref (a1 0), .int x3, .int x4].toArray below meth c H locs 0 0 (MQ below (va_Qv (fun u : Bd => post u) (mt_B D (bd_w a0 q s0 ++ tp_w a1 q s1) sz (fun u : Bd => bd_w a0 q u ++ tp_w a1 q s1)) (va_A (bd_w a0 q s0 ++ tp_w a1 q s1) sz)) [.ref (a0 0), .int x1, .ref (a1 0), .int x3, .int x4].toArray s 0 0 (va_A (bd_w a0 q s0 ++ tp_w a1 q s1) sz)) (F0 m 40 ls []) := by
        intro e76 k76 n
        induction n with
        | zero =>
          intro t0 z1 z3 z4 z5 H locs ls h
          exact h.elim
        | succ n ih =>
          intro t0 z1 z3 z4 z5 H locs ls h hP hD hS hl
          have hP : va_P D vwCl [((a0 0), .inr (0, [.int (t0.1 0), .int (t0.1 1), .int (t0.1 2), .int (t0.1 3), .int (t0.1 4), .int (t0.1 5), .ref (a0 1), .ref (a0 2), .ref (a0 3), .ref (a0 4), .ref (a0 5), .ref (a0 6), .ref (a0 7), .ref (a0 8), .ref (a0 9), .ref (a0 10), .ref (a0 11), .ref (a0 12)])), ((a0 1), .inl (q 0, 4, .inl (t0.2.1 0))), ((a0 2), .inl (q 0, 4, .inl (t0.2.1 1))), ((a0 3), .inl (q 0, 160, .inl (t0.2.1 2))), ((a0 4), .inl (q 0, 40, .inl (t0.2.1 3))), ((a0 5), .inl (q 0, 40, .inl (t0.2.1 4))), ((a0 6), .inl (q 0, 40, .inl (t0.2.1 5))), ((a0 7), .inl (q 0, 40, .inl (t0.2.1 6))), ((a0 8), .inl (q 0, 40, .inl (t0.2.1 7))), ((a0 9), .inl (q 0, 40, .inl (t0.2.1 8))), ((a0 10), .inl (q 0, 40, .inl (t0.2.1 9))), ((a0 11), .inl (q 1, 40, .inr (.inl t0.2.2.1))), ((a0 12), .inl (q 0, t0.2.2.2.1, .inl t0.2.2.2.2)), ((a1 0), .inr (4, [.ref (a1 1), .int (s1.1 0), .int (s1.1 1), .int (s1.1 2), .int (s1.1 3), .int (s1.1 4), .int (s1.1 5)])), ((a1 1), .inl (q 0, 400, .inl s1.2))] H := hP
          have hD : va_D _ [((a0 0), .inr (0, [.int (t0.1 0), .int (t0.1 1), .int (t0.1 2), .int (t0.1 3), .int (t0.1 4), .int (t0.1 5), .ref (a0 1), .ref (a0 2), .ref (a0 3), .ref (a0 4), .ref (a0 5), .ref (a0 6), .ref (a0 7), .ref (a0 8), .ref (a0 9), .ref (a0 10), .ref (a0 11), .ref (a0 12)])), ((a0 1), .inl (q 0, 4, .inl (t0.2.1 0))), ((a0 2), .inl (q 0, 4, .inl (t0.2.1 1))), ((a0 3), .inl (q 0, 160, .inl (t0.2.1 2))), ((a0 4), .inl (q 0, 40, .inl (t0.2.1 3))), ((a0 5), .inl (q 0, 40, .inl (t0.2.1 4))), ((a0 6), .inl (q 0, 40, .inl (t0.2.1 5))), ((a0 7), .inl (q 0, 40, .inl (t0.2.1 6))), ((a0 8), .inl (q 0, 40, .inl (t0.2.1 7))), ((a0 9), .inl (q 0, 40, .inl (t0.2.1 8))), ((a0 10), .inl (q 0, 40, .inl (t0.2.1 9))), ((a0 11), .inl (q 1, 40, .inr (.inl t0.2.2.1))), ((a0 12), .inl (q 0, t0.2.2.2.1, .inl t0.2.2.2.2)), ((a1 0), .inr (4, [.ref (a1 1), .int (s1.1 0), .int (s1.1 1), .int (s1.1 2), .int (s1.1 3), .int (s1.1 4), .int (s1.1 5)])), ((a1 1), .inl (q 0, 400, .inl s1.2))] := hD
          unfold wp_X0_addDrum_L40 at h
          refine lv_iload hx hb dX0_addDrum_40 (lv_at hl 3 rfl) ?_
          refine lv_iload hx hb dX0_addDrum_42 (lv_at hl 2 rfl) ?_
          refine lv_icmp_ge (tgt := 76) hx hb dX0_addDrum_44 (by decide) (fun c_5 => ?_) (fun c_5 => ?_)
          · replace h := h.1 c_5
            exact k76 _ _ _ _ _ _ _ ls h (hP.sub (ws' := bd_w a0 q t0 ++ tp_w a1 q s1) [0, 1, 2, 3, 4, 5, 6, 7, 8, 9, 10, 11, 12, 13, 14] rfl) (hD.sub (ws' := bd_w a0 q t0 ++ tp_w a1 q s1) [0, 1, 2, 3, 4, 5, 6, 7, 8, 9, 10, 11, 12, 13, 14] (by decide) rfl) hS (lv_sub hl [0, 1, 2, 3, 4, 5] rfl)
          · replace h := h.2 c_5
            refine lv_aload_n hx hb dX0_addDrum_47 rfl (lv_at hl 4 rfl) ?_
            refine fl_get (C := RX0) (T := TX0) (N := 18) (ci := 0) (v := .ref (a0 3)) hx hb ht in_X0 hown hK hP 0 rfl rfl 8 (by decide) mw_191 rfl dX0_addDrum_48 ?_
            refine lv_aload_n hx hb dX0_addDrum_51 rfl (lv_at hl 4 rfl) ?_
            refine fl_get (C := RX0) (T := TX0) (N := 18) (ci := 0) (v := .int (t0.1 3)) hx hb ht in_X0 hown hK hP 0 rfl rfl 3 (by decide) mw_179 rfl dX0_addDrum_52 ?_
            refine lv_bipush (v := 40) hx hb dX0_addDrum_55 (by decide) ?_
            refine lv_imul hx hb dX0_addDrum_57 ?_
            refine lv_iload hx hb dX0_addDrum_58 (lv_at hl 3 rfl) ?_
            refine lv_iadd hx hb dX0_addDrum_60 ?_
            refine lv_aload_n hx hb dX0_addDrum_61 rfl (lv_at hl 5 rfl) ?_
            refine lv_iload_n hx hb dX0_addDrum_62 rfl (lv_at hl 1 rfl) ?_
            refine lv_iload hx hb dX0_addDrum_63 (lv_at hl 3 rfl) ?_
            refine lv_iadd hx hb dX0_addDrum_65 ?_
            refine vp_callSi (rd_wV (wc := tp_w a1 q s1) (As := [.int (z3 + z5)]) (rest := [.int (((t0.1 3) * 40) + z5), .ref (a0 3)]) hx hb hml hown ht (c2_X5_byteAt h) wd_X5_byteAt mw_537 hQ hV hS (hP.sub [13, 14] rfl) rfl rfl rfl hl.1 rfl (Nat.le_of_ble_eq_true rfl) dX0_addDrum_66 ⟨Nat.le_of_ble_eq_true rfl, Nat.le_of_ble_eq_true rfl, rfl, rfl⟩ ⟨Nat.le_of_ble_eq_true rfl, Nat.le_of_ble_eq_true rfl⟩) (fun r_6 h => ?_)
            try dsimp only at h
            obtain ⟨g_8, h⟩ := h
            refine va_iast hx hb hK hP hD hS 3 0 rfl rfl g_8 dX0_addDrum_69 (fun H locs hP hD hS => ?_)
            have hP : va_P D vwCl [((a0 0), .inr (0, [.int (t0.1 0), .int (t0.1 1), .int (t0.1 2), .int (t0.1 3), .int (t0.1 4), .int (t0.1 5), .ref (a0 1), .ref (a0 2), .ref (a0 3), .ref (a0 4), .ref (a0 5), .ref (a0 6), .ref (a0 7), .ref (a0 8), .ref (a0 9), .ref (a0 10), .ref (a0 11), .ref (a0 12)])), ((a0 1), .inl (q 0, 4, .inl (t0.2.1 0))), ((a0 2), .inl (q 0, 4, .inl (t0.2.1 1))), ((a0 3), .inl (q 0, 160, .inl (upd (t0.2.1 2) (Int32.toNatClampNeg (((t0.1 3) * 40) + z5)) r_6))), ((a0 4), .inl (q 0, 40, .inl (t0.2.1 3))), ((a0 5), .inl (q 0, 40, .inl (t0.2.1 4))), ((a0 6), .inl (q 0, 40, .inl (t0.2.1 5))), ((a0 7), .inl (q 0, 40, .inl (t0.2.1 6))), ((a0 8), .inl (q 0, 40, .inl (t0.2.1 7))), ((a0 9), .inl (q 0, 40, .inl (t0.2.1 8))), ((a0 10), .inl (q 0, 40, .inl (t0.2.1 9))), ((a0 11), .inl (q 1, 40, .inr (.inl t0.2.2.1))), ((a0 12), .inl (q 0, t0.2.2.2.1, .inl t0.2.2.2.2)), ((a1 0), .inr (4, [.ref (a1 1), .int (s1.1 0), .int (s1.1 1), .int (s1.1 2), .int (s1.1 3), .int (s1.1 4), .int (s1.1 5)])), ((a1 1), .inl (q 0, 400, .inl s1.2))] H := hP
            have hD : va_D _ [((a0 0), .inr (0, [.int (t0.1 0), .int (t0.1 1), .int (t0.1 2), .int (t0.1 3), .int (t0.1 4), .int (t0.1 5), .ref (a0 1), .ref (a0 2), .ref (a0 3), .ref (a0 4), .ref (a0 5), .ref (a0 6), .ref (a0 7), .ref (a0 8), .ref (a0 9), .ref (a0 10), .ref (a0 11), .ref (a0 12)])), ((a0 1), .inl (q 0, 4, .inl (t0.2.1 0))), ((a0 2), .inl (q 0, 4, .inl (t0.2.1 1))), ((a0 3), .inl (q 0, 160, .inl (upd (t0.2.1 2) (Int32.toNatClampNeg (((t0.1 3) * 40) + z5)) r_6))), ((a0 4), .inl (q 0, 40, .inl (t0.2.1 3))), ((a0 5), .inl (q 0, 40, .inl (t0.2.1 4))), ((a0 6), .inl (q 0, 40, .inl (t0.2.1 5))), ((a0 7), .inl (q 0, 40, .inl (t0.2.1 6))), ((a0 8), .inl (q 0, 40, .inl (t0.2.1 7))), ((a0 9), .inl (q 0, 40, .inl (t0.2.1 8))), ((a0 10), .inl (q 0, 40, .inl (t0.2.1 9))), ((a0 11), .inl (q 1, 40, .inr (.inl t0.2.2.1))), ((a0 12), .inl (q 0, t0.2.2.2.1, .inl t0.2.2.2.2)), ((a1 0), .inr (4, [.ref (a1 1), .int (s1.1 0), .int (s1.1 1), .int (s1.1 2), .int (s1.1 3), .int (s1.1 4), .int (s1.1 5)])), ((a1 1), .inl (q 0, 400, .inl s1.2))] := hD
            refine lv_iinc (v := (z5 + 1)) (lv' := [(5, .int (z5 + 1)), (1, .int z1), (3, .int z3), (4, .int z4), (0, .ref (a0 0)), (2, .ref (a1 0))]) hx hb dX0_addDrum_70 hl (k := 3) rfl rfl (by decide) rfl (fun ls hl => ?_)
            refine lv_goto (tgt := 40) hx hb dX0_addDrum_73 (by decide) ?_
            exact ih _ _ _ _ _ _ _ ls h (hP.sub (ws' := bd_w a0 q (t0.1, (va_up t0.2.1 2 (upd (t0.2.1 2) (Int32.toNatClampNeg (((t0.1 3) * 40) + z5)) r_6)), t0.2.2.1, t0.2.2.2.1, t0.2.2.2.2) ++ tp_w a1 q s1) [0, 1, 2, 3, 4, 5, 6, 7, 8, 9, 10, 11, 12, 13, 14] rfl) (hD.sub (ws' := bd_w a0 q (t0.1, (va_up t0.2.1 2 (upd (t0.2.1 2) (Int32.toNatClampNeg (((t0.1 3) * 40) + z5)) r_6)), t0.2.2.1, t0.2.2.2.1, t0.2.2.2.2) ++ tp_w a1 q s1) [0, 1, 2, 3, 4, 5, 6, 7, 8, 9, 10, 11, 12, 13, 14] (by decide) rfl) hS (lv_sub hl [1, 2, 3, 0, 4, 5] rfl)
      obtain ⟨n40, h⟩ := h
      refine lp40 _ ?_ n40 _ _ _ _ _ _ _ ls h (hP.sub (ws' := bd_w a0 q (s0.1, (va_up (va_up s0.2.1 0 (upd (s0.2.1 0) (Int32.toNatClampNeg (s0.1 3)) x1)) 1 (upd (s0.2.1 1) (Int32.toNatClampNeg (s0.1 3)) x4)), s0.2.2.1, s0.2.2.2.1, s0.2.2.2.2) ++ tp_w a1 q s1) [0, 1, 2, 3, 4, 5, 6, 7, 8, 9, 10, 11, 12, 13, 14] rfl) (hD.sub (ws' := bd_w a0 q (s0.1, (va_up (va_up s0.2.1 0 (upd (s0.2.1 0) (Int32.toNatClampNeg (s0.1 3)) x1)) 1 (upd (s0.2.1 1) (Int32.toNatClampNeg (s0.1 3)) x4)), s0.2.2.1, s0.2.2.2.1, s0.2.2.2.2) ++ tp_w a1 q s1) [0, 1, 2, 3, 4, 5, 6, 7, 8, 9, 10, 11, 12, 13, 14] (by decide) rfl) hS (lv_sub hl [2, 4, 5, 0, 1, 3] rfl)
      · intro t0 z1 z3 z4 z5 H locs ls h hP hD hS hl
        try dsimp only at h
        have hP : va_P D vwCl [((a0 0), .inr (0, [.int (t0.1 0), .int (t0.1 1), .int (t0.1 2), .int (t0.1 3), .int (t0.1 4), .int (t0.1 5), .ref (a0 1), .ref (a0 2), .ref (a0 3), .ref (a0 4), .ref (a0 5), .ref (a0 6), .ref (a0 7), .ref (a0 8), .ref (a0 9), .ref (a0 10), .ref (a0 11), .ref (a0 12)])), ((a0 1), .inl (q 0, 4, .inl (t0.2.1 0))), ((a0 2), .inl (q 0, 4, .inl (t0.2.1 1))), ((a0 3), .inl (q 0, 160, .inl (t0.2.1 2))), ((a0 4), .inl (q 0, 40, .inl (t0.2.1 3))), ((a0 5), .inl (q 0, 40, .inl (t0.2.1 4))), ((a0 6), .inl (q 0, 40, .inl (t0.2.1 5))), ((a0 7), .inl (q 0, 40, .inl (t0.2.1 6))), ((a0 8), .inl (q 0, 40, .inl (t0.2.1 7))), ((a0 9), .inl (q 0, 40, .inl (t0.2.1 8))), ((a0 10), .inl (q 0, 40, .inl (t0.2.1 9))), ((a0 11), .inl (q 1, 40, .inr (.inl t0.2.2.1))), ((a0 12), .inl (q 0, t0.2.2.2.1, .inl t0.2.2.2.2)), ((a1 0), .inr (4, [.ref (a1 1), .int (s1.1 0), .int (s1.1 1), .int (s1.1 2), .int (s1.1 3), .int (s1.1 4), .int (s1.1 5)])), ((a1 1), .inl (q 0, 400, .inl s1.2))] H := hP
        have hD : va_D _ [((a0 0), .inr (0, [.int (t0.1 0), .int (t0.1 1), .int (t0.1 2), .int (t0.1 3), .int (t0.1 4), .int (t0.1 5), .ref (a0 1), .ref (a0 2), .ref (a0 3), .ref (a0 4), .ref (a0 5), .ref (a0 6), .ref (a0 7), .ref (a0 8), .ref (a0 9), .ref (a0 10), .ref (a0 11), .ref (a0 12)])), ((a0 1), .inl (q 0, 4, .inl (t0.2.1 0))), ((a0 2), .inl (q 0, 4, .inl (t0.2.1 1))), ((a0 3), .inl (q 0, 160, .inl (t0.2.1 2))), ((a0 4), .inl (q 0, 40, .inl (t0.2.1 3))), ((a0 5), .inl (q 0, 40, .inl (t0.2.1 4))), ((a0 6), .inl (q 0, 40, .inl (t0.2.1 5))), ((a0 7), .inl (q 0, 40, .inl (t0.2.1 6))), ((a0 8), .inl (q 0, 40, .inl (t0.2.1 7))), ((a0 9), .inl (q 0, 40, .inl (t0.2.1 8))), ((a0 10), .inl (q 0, 40, .inl (t0.2.1 9))), ((a0 11), .inl (q 1, 40, .inr (.inl t0.2.2.1))), ((a0 12), .inl (q 0, t0.2.2.2.1, .inl t0.2.2.2.2)), ((a1 0), .inr (4, [.ref (a1 1), .int (s1.1 0), .int (s1.1 1), .int (s1.1 2), .int (s1.1 3), .int (s1.1 4), .int (s1.1 5)])), ((a1 1), .inl (q 0, 400, .inl s1.2))] := hD
        refine lv_aload_n hx hb dX0_addDrum_76 rfl (lv_at hl 4 rfl) ?_
        refine lv_dup hx hb dX0_addDrum_77 rfl ?_
        refine fl_get (C := RX0) (T := TX0) (N := 18) (ci := 0) (v := .int (t0.1 3)) hx hb ht in_X0 hown hK hP 0 rfl rfl 3 (by decide) mw_179 rfl dX0_addDrum_78 ?_
        refine lv_iconst (v := 1) hx hb dX0_addDrum_81 (by decide) ?_
        refine lv_iadd hx hb dX0_addDrum_82 ?_
        refine fl_put (C := RX0) (T := TX0) (N := 18) (ci := 0) (v := .int ((t0.1 3) + 1)) (ws2 := [((a0 0), .inr (0, [.int (t0.1 0), .int (t0.1 1), .int (t0.1 2), .int ((t0.1 3) + 1), .int (t0.1 4), .int (t0.1 5), .ref (a0 1), .ref (a0 2), .ref (a0 3), .ref (a0 4), .ref (a0 5), .ref (a0 6), .ref (a0 7), .ref (a0 8), .ref (a0 9), .ref (a0 10), .ref (a0 11), .ref (a0 12)])), ((a0 1), .inl (q 0, 4, .inl (t0.2.1 0))), ((a0 2), .inl (q 0, 4, .inl (t0.2.1 1))), ((a0 3), .inl (q 0, 160, .inl (t0.2.1 2))), ((a0 4), .inl (q 0, 40, .inl (t0.2.1 3))), ((a0 5), .inl (q 0, 40, .inl (t0.2.1 4))), ((a0 6), .inl (q 0, 40, .inl (t0.2.1 5))), ((a0 7), .inl (q 0, 40, .inl (t0.2.1 6))), ((a0 8), .inl (q 0, 40, .inl (t0.2.1 7))), ((a0 9), .inl (q 0, 40, .inl (t0.2.1 8))), ((a0 10), .inl (q 0, 40, .inl (t0.2.1 9))), ((a0 11), .inl (q 1, 40, .inr (.inl t0.2.2.1))), ((a0 12), .inl (q 0, t0.2.2.2.1, .inl t0.2.2.2.2)), ((a1 0), .inr (4, [.ref (a1 1), .int (s1.1 0), .int (s1.1 1), .int (s1.1 2), .int (s1.1 3), .int (s1.1 4), .int (s1.1 5)])), ((a1 1), .inl (q 0, 400, .inl s1.2))]) hx hb ht in_X0 tyX0_ok nmX0 hown hK hP hD hS 0 rfl rfl 3 (by decide) mw_179 rfl rfl rfl (Nat.le_of_ble_eq_true rfl) dX0_addDrum_83 rfl (fun H locs hP hD hS => ?_)
        exact mt_vret ((va_up t0.1 3 ((t0.1 3) + 1)), t0.2.1, t0.2.2.1, t0.2.2.2.1, t0.2.2.2.2) hx hb hr hk h (hP.sub (ws' := bd_w a0 q ((va_up t0.1 3 ((t0.1 3) + 1)), t0.2.1, t0.2.2.1, t0.2.2.2.1, t0.2.2.2.2) ++ tp_w a1 q s1) [0, 1, 2, 3, 4, 5, 6, 7, 8, 9, 10, 11, 12, 13, 14] rfl) (hD.sub (ws' := bd_w a0 q ((va_up t0.1 3 ((t0.1 3) + 1)), t0.2.1, t0.2.2.1, t0.2.2.2.1, t0.2.2.2.2) ++ tp_w a1 q s1) [0, 1, 2, 3, 4, 5, 6, 7, 8, 9, 10, 11, 12, 13, 14] (by decide) rfl) hS dX0_addDrum_86
    · replace h := h.2 c_2
      exact mt_vret s0 hx hb hr hk h (hP.sub (ws' := bd_w a0 q s0 ++ tp_w a1 q s1) [0, 1, 2, 3, 4, 5, 6, 7, 8, 9, 10, 11, 12, 13, 14] rfl) (hD.sub (ws' := bd_w a0 q s0 ++ tp_w a1 q s1) [0, 1, 2, 3, 4, 5, 6, 7, 8, 9, 10, 11, 12, 13, 14] (by decide) rfl) hS dX0_addDrum_15

def wp_X0_copyAllButLog (post : Bd → Prop) (s0 : Bd) (s1 : Bd) : Prop := wp_X0_cells (fun r_1 => ¬ r_1 < 0 ∧ Int32.toNatClampNeg 0 + Int32.toNatClampNeg r_1 ≤ 40 ∧ Int32.toNatClampNeg 0 + Int32.toNatClampNeg r_1 ≤ 40 ∧ ¬ r_1 < 0 ∧ Int32.toNatClampNeg 0 + Int32.toNatClampNeg r_1 ≤ 40 ∧ Int32.toNatClampNeg 0 + Int32.toNatClampNeg r_1 ≤ 40 ∧ ¬ r_1 < 0 ∧ Int32.toNatClampNeg 0 + Int32.toNatClampNeg r_1 ≤ 40 ∧ Int32.toNatClampNeg 0 + Int32.toNatClampNeg r_1 ≤ 40 ∧ ¬ r_1 < 0 ∧ Int32.toNatClampNeg 0 + Int32.toNatClampNeg r_1 ≤ 40 ∧ Int32.toNatClampNeg 0 + Int32.toNatClampNeg r_1 ≤ 40 ∧ ¬ r_1 < 0 ∧ Int32.toNatClampNeg 0 + Int32.toNatClampNeg r_1 ≤ 40 ∧ Int32.toNatClampNeg 0 + Int32.toNatClampNeg r_1 ≤ 40 ∧ ¬ r_1 < 0 ∧ Int32.toNatClampNeg 0 + Int32.toNatClampNeg r_1 ≤ 40 ∧ Int32.toNatClampNeg 0 + Int32.toNatClampNeg r_1 ≤ 40 ∧ ¬ r_1 < 0 ∧ Int32.toNatClampNeg 0 + Int32.toNatClampNeg r_1 ≤ 40 ∧ Int32.toNatClampNeg 0 + Int32.toNatClampNeg r_1 ≤ 40 ∧ ¬ r_1 < 0 ∧ Int32.toNatClampNeg 0 + Int32.toNatClampNeg r_1 ≤ 40 ∧ Int32.toNatClampNeg 0 + Int32.toNatClampNeg r_1 ≤ 40 ∧ post ((va_up (va_up (va_up (va_up (va_up (va_up s0.1 0 (s1.1 0)) 1 (s1.1 1)) 2 (s1.1 2)) 3 (s1.1 3)) 4 (s1.1 4)) 5 (s1.1 5)), (va_up (va_up (va_up (va_up (va_up (va_up (va_up (va_up (va_up (va_up s0.2.1 0 (va_cpy (s1.2.1 0) (s0.2.1 0) (Int32.toNatClampNeg 0) (Int32.toNatClampNeg 0) (Int32.toNatClampNeg 4))) 1 (va_cpy (s1.2.1 1) (s0.2.1 1) (Int32.toNatClampNeg 0) (Int32.toNatClampNeg 0) (Int32.toNatClampNeg 4))) 2 (va_cpy (s1.2.1 2) (s0.2.1 2) (Int32.toNatClampNeg 0) (Int32.toNatClampNeg 0) (Int32.toNatClampNeg 160))) 3 (va_cpy (s1.2.1 3) (s0.2.1 3) (Int32.toNatClampNeg 0) (Int32.toNatClampNeg 0) (Int32.toNatClampNeg r_1))) 4 (va_cpy (s1.2.1 4) (s0.2.1 4) (Int32.toNatClampNeg 0) (Int32.toNatClampNeg 0) (Int32.toNatClampNeg r_1))) 5 (va_cpy (s1.2.1 5) (s0.2.1 5) (Int32.toNatClampNeg 0) (Int32.toNatClampNeg 0) (Int32.toNatClampNeg r_1))) 6 (va_cpy (s1.2.1 6) (s0.2.1 6) (Int32.toNatClampNeg 0) (Int32.toNatClampNeg 0) (Int32.toNatClampNeg r_1))) 7 (va_cpy (s1.2.1 7) (s0.2.1 7) (Int32.toNatClampNeg 0) (Int32.toNatClampNeg 0) (Int32.toNatClampNeg r_1))) 8 (va_cpy (s1.2.1 8) (s0.2.1 8) (Int32.toNatClampNeg 0) (Int32.toNatClampNeg 0) (Int32.toNatClampNeg r_1))) 9 (va_cpy (s1.2.1 9) (s0.2.1 9) (Int32.toNatClampNeg 0) (Int32.toNatClampNeg 0) (Int32.toNatClampNeg r_1))), (va_cpy s1.2.2.1 s0.2.2.1 (Int32.toNatClampNeg 0) (Int32.toNatClampNeg 0) (Int32.toNatClampNeg r_1)), s0.2.2.2.1, s0.2.2.2.2)) s1
set_option maxHeartbeats 4000000 in
set_option maxRecDepth 100000 in
theorem c2_X0_copyAllButLog {l : Launch} {D : va_G} {q : Nat → ClassId} {sz : Nat} {a0 : Nat → Nat} {a1 : Nat → Nat} {s0 : Bd} {s1 : Bd} {post : Bd → Prop} (h : wp_X0_copyAllButLog post s0 s1) : Met l yX0_copyAllButLog (Cond.code yX0_copyAllButLog cX0_copyAllButLog 3 none :: w_all) ({ frames := 1, cells := 0, slots := 0, locals := 80 } : Room) (mt_P D q [.ref (a0 0), .ref (a1 0)] (bd_w a0 q s0 ++ bd_w a1 q s1) sz) (va_Qv (fun u : Bd => post u) (mt_B D (bd_w a0 q s0 ++ bd_w a1 q s1) sz (fun u : Bd => bd_w a0 q u ++ bd_w a1 q s1)) (va_A (bd_w a0 q s0 ++ bd_w a1 q s1) sz)) 0 0 (va_A (bd_w a0 q s0 ++ bd_w a1 q s1) sz) := by
  refine mt_start (by decide) (Nat.le_of_ble_eq_true rfl) ?_
  intro p e s m below meth c ls hx hb hr hml hown ht hk hin hP hQ hD hA hS hV hl
  have hK := hQ.1
  have hown : s.vm.findClass RX0 = some m.cls := hown
  have hl : lv_has ls 3 [(0, .ref (a0 0)), (1, .ref (a1 0))] := hl
  have hP : va_P D vwCl [((a0 0), .inr (0, [.int (s0.1 0), .int (s0.1 1), .int (s0.1 2), .int (s0.1 3), .int (s0.1 4), .int (s0.1 5), .ref (a0 1), .ref (a0 2), .ref (a0 3), .ref (a0 4), .ref (a0 5), .ref (a0 6), .ref (a0 7), .ref (a0 8), .ref (a0 9), .ref (a0 10), .ref (a0 11), .ref (a0 12)])), ((a0 1), .inl (q 0, 4, .inl (s0.2.1 0))), ((a0 2), .inl (q 0, 4, .inl (s0.2.1 1))), ((a0 3), .inl (q 0, 160, .inl (s0.2.1 2))), ((a0 4), .inl (q 0, 40, .inl (s0.2.1 3))), ((a0 5), .inl (q 0, 40, .inl (s0.2.1 4))), ((a0 6), .inl (q 0, 40, .inl (s0.2.1 5))), ((a0 7), .inl (q 0, 40, .inl (s0.2.1 6))), ((a0 8), .inl (q 0, 40, .inl (s0.2.1 7))), ((a0 9), .inl (q 0, 40, .inl (s0.2.1 8))), ((a0 10), .inl (q 0, 40, .inl (s0.2.1 9))), ((a0 11), .inl (q 1, 40, .inr (.inl s0.2.2.1))), ((a0 12), .inl (q 0, s0.2.2.2.1, .inl s0.2.2.2.2)), ((a1 0), .inr (0, [.int (s1.1 0), .int (s1.1 1), .int (s1.1 2), .int (s1.1 3), .int (s1.1 4), .int (s1.1 5), .ref (a1 1), .ref (a1 2), .ref (a1 3), .ref (a1 4), .ref (a1 5), .ref (a1 6), .ref (a1 7), .ref (a1 8), .ref (a1 9), .ref (a1 10), .ref (a1 11), .ref (a1 12)])), ((a1 1), .inl (q 0, 4, .inl (s1.2.1 0))), ((a1 2), .inl (q 0, 4, .inl (s1.2.1 1))), ((a1 3), .inl (q 0, 160, .inl (s1.2.1 2))), ((a1 4), .inl (q 0, 40, .inl (s1.2.1 3))), ((a1 5), .inl (q 0, 40, .inl (s1.2.1 4))), ((a1 6), .inl (q 0, 40, .inl (s1.2.1 5))), ((a1 7), .inl (q 0, 40, .inl (s1.2.1 6))), ((a1 8), .inl (q 0, 40, .inl (s1.2.1 7))), ((a1 9), .inl (q 0, 40, .inl (s1.2.1 8))), ((a1 10), .inl (q 0, 40, .inl (s1.2.1 9))), ((a1 11), .inl (q 1, 40, .inr (.inl s1.2.2.1))), ((a1 12), .inl (q 0, s1.2.2.2.1, .inl s1.2.2.2.2))] s.heap := hP
  have hD : va_D _ [((a0 0), .inr (0, [.int (s0.1 0), .int (s0.1 1), .int (s0.1 2), .int (s0.1 3), .int (s0.1 4), .int (s0.1 5), .ref (a0 1), .ref (a0 2), .ref (a0 3), .ref (a0 4), .ref (a0 5), .ref (a0 6), .ref (a0 7), .ref (a0 8), .ref (a0 9), .ref (a0 10), .ref (a0 11), .ref (a0 12)])), ((a0 1), .inl (q 0, 4, .inl (s0.2.1 0))), ((a0 2), .inl (q 0, 4, .inl (s0.2.1 1))), ((a0 3), .inl (q 0, 160, .inl (s0.2.1 2))), ((a0 4), .inl (q 0, 40, .inl (s0.2.1 3))), ((a0 5), .inl (q 0, 40, .inl (s0.2.1 4))), ((a0 6), .inl (q 0, 40, .inl (s0.2.1 5))), ((a0 7), .inl (q 0, 40, .inl (s0.2.1 6))), ((a0 8), .inl (q 0, 40, .inl (s0.2.1 7))), ((a0 9), .inl (q 0, 40, .inl (s0.2.1 8))), ((a0 10), .inl (q 0, 40, .inl (s0.2.1 9))), ((a0 11), .inl (q 1, 40, .inr (.inl s0.2.2.1))), ((a0 12), .inl (q 0, s0.2.2.2.1, .inl s0.2.2.2.2)), ((a1 0), .inr (0, [.int (s1.1 0), .int (s1.1 1), .int (s1.1 2), .int (s1.1 3), .int (s1.1 4), .int (s1.1 5), .ref (a1 1), .ref (a1 2), .ref (a1 3), .ref (a1 4), .ref (a1 5), .ref (a1 6), .ref (a1 7), .ref (a1 8), .ref (a1 9), .ref (a1 10), .ref (a1 11), .ref (a1 12)])), ((a1 1), .inl (q 0, 4, .inl (s1.2.1 0))), ((a1 2), .inl (q 0, 4, .inl (s1.2.1 1))), ((a1 3), .inl (q 0, 160, .inl (s1.2.1 2))), ((a1 4), .inl (q 0, 40, .inl (s1.2.1 3))), ((a1 5), .inl (q 0, 40, .inl (s1.2.1 4))), ((a1 6), .inl (q 0, 40, .inl (s1.2.1 5))), ((a1 7), .inl (q 0, 40, .inl (s1.2.1 6))), ((a1 8), .inl (q 0, 40, .inl (s1.2.1 7))), ((a1 9), .inl (q 0, 40, .inl (s1.2.1 8))), ((a1 10), .inl (q 0, 40, .inl (s1.2.1 9))), ((a1 11), .inl (q 1, 40, .inr (.inl s1.2.2.1))), ((a1 12), .inl (q 0, s1.2.2.2.1, .inl s1.2.2.2.2))] := hD
  unfold wp_X0_copyAllButLog at h
  refine lv_aload_n hx hb dX0_copyAllButLog_0 rfl (lv_at hl 0 rfl) ?_
  refine lv_aload_n hx hb dX0_copyAllButLog_1 rfl (lv_at hl 1 rfl) ?_
  refine fl_get (C := RX0) (T := TX0) (N := 18) (ci := 0) (v := .int (s1.1 0)) hx hb ht in_X0 hown hK hP 13 rfl rfl 0 (by decide) mw_167 rfl dX0_copyAllButLog_2 ?_
  refine fl_put (C := RX0) (T := TX0) (N := 18) (ci := 0) (v := .int (s1.1 0)) (ws2 := [((a0 0), .inr (0, [.int (s1.1 0), .int (s0.1 1), .int (s0.1 2), .int (s0.1 3), .int (s0.1 4), .int (s0.1 5), .ref (a0 1), .ref (a0 2), .ref (a0 3), .ref (a0 4), .ref (a0 5), .ref (a0 6), .ref (a0 7), .ref (a0 8), .ref (a0 9), .ref (a0 10), .ref (a0 11), .ref (a0 12)])), ((a0 1), .inl (q 0, 4, .inl (s0.2.1 0))), ((a0 2), .inl (q 0, 4, .inl (s0.2.1 1))), ((a0 3), .inl (q 0, 160, .inl (s0.2.1 2))), ((a0 4), .inl (q 0, 40, .inl (s0.2.1 3))), ((a0 5), .inl (q 0, 40, .inl (s0.2.1 4))), ((a0 6), .inl (q 0, 40, .inl (s0.2.1 5))), ((a0 7), .inl (q 0, 40, .inl (s0.2.1 6))), ((a0 8), .inl (q 0, 40, .inl (s0.2.1 7))), ((a0 9), .inl (q 0, 40, .inl (s0.2.1 8))), ((a0 10), .inl (q 0, 40, .inl (s0.2.1 9))), ((a0 11), .inl (q 1, 40, .inr (.inl s0.2.2.1))), ((a0 12), .inl (q 0, s0.2.2.2.1, .inl s0.2.2.2.2)), ((a1 0), .inr (0, [.int (s1.1 0), .int (s1.1 1), .int (s1.1 2), .int (s1.1 3), .int (s1.1 4), .int (s1.1 5), .ref (a1 1), .ref (a1 2), .ref (a1 3), .ref (a1 4), .ref (a1 5), .ref (a1 6), .ref (a1 7), .ref (a1 8), .ref (a1 9), .ref (a1 10), .ref (a1 11), .ref (a1 12)])), ((a1 1), .inl (q 0, 4, .inl (s1.2.1 0))), ((a1 2), .inl (q 0, 4, .inl (s1.2.1 1))), ((a1 3), .inl (q 0, 160, .inl (s1.2.1 2))), ((a1 4), .inl (q 0, 40, .inl (s1.2.1 3))), ((a1 5), .inl (q 0, 40, .inl (s1.2.1 4))), ((a1 6), .inl (q 0, 40, .inl (s1.2.1 5))), ((a1 7), .inl (q 0, 40, .inl (s1.2.1 6))), ((a1 8), .inl (q 0, 40, .inl (s1.2.1 7))), ((a1 9), .inl (q 0, 40, .inl (s1.2.1 8))), ((a1 10), .inl (q 0, 40, .inl (s1.2.1 9))), ((a1 11), .inl (q 1, 40, .inr (.inl s1.2.2.1))), ((a1 12), .inl (q 0, s1.2.2.2.1, .inl s1.2.2.2.2))]) hx hb ht in_X0 tyX0_ok nmX0 hown hK hP hD hS 0 rfl rfl 0 (by decide) mw_167 rfl rfl rfl (Nat.le_of_ble_eq_true rfl) dX0_copyAllButLog_5 rfl (fun H locs hP hD hS => ?_)
  refine lv_aload_n hx hb dX0_copyAllButLog_8 rfl (lv_at hl 0 rfl) ?_
  refine lv_aload_n hx hb dX0_copyAllButLog_9 rfl (lv_at hl 1 rfl) ?_
  refine fl_get (C := RX0) (T := TX0) (N := 18) (ci := 0) (v := .int (s1.1 1)) hx hb ht in_X0 hown hK hP 13 rfl rfl 1 (by decide) mw_171 rfl dX0_copyAllButLog_10 ?_
  refine fl_put (C := RX0) (T := TX0) (N := 18) (ci := 0) (v := .int (s1.1 1)) (ws2 := [((a0 0), .inr (0, [.int (s1.1 0), .int (s1.1 1), .int (s0.1 2), .int (s0.1 3), .int (s0.1 4), .int (s0.1 5), .ref (a0 1), .ref (a0 2), .ref (a0 3), .ref (a0 4), .ref (a0 5), .ref (a0 6), .ref (a0 7), .ref (a0 8), .ref (a0 9), .ref (a0 10), .ref (a0 11), .ref (a0 12)])), ((a0 1), .inl (q 0, 4, .inl (s0.2.1 0))), ((a0 2), .inl (q 0, 4, .inl (s0.2.1 1))), ((a0 3), .inl (q 0, 160, .inl (s0.2.1 2))), ((a0 4), .inl (q 0, 40, .inl (s0.2.1 3))), ((a0 5), .inl (q 0, 40, .inl (s0.2.1 4))), ((a0 6), .inl (q 0, 40, .inl (s0.2.1 5))), ((a0 7), .inl (q 0, 40, .inl (s0.2.1 6))), ((a0 8), .inl (q 0, 40, .inl (s0.2.1 7))), ((a0 9), .inl (q 0, 40, .inl (s0.2.1 8))), ((a0 10), .inl (q 0, 40, .inl (s0.2.1 9))), ((a0 11), .inl (q 1, 40, .inr (.inl s0.2.2.1))), ((a0 12), .inl (q 0, s0.2.2.2.1, .inl s0.2.2.2.2)), ((a1 0), .inr (0, [.int (s1.1 0), .int (s1.1 1), .int (s1.1 2), .int (s1.1 3), .int (s1.1 4), .int (s1.1 5), .ref (a1 1), .ref (a1 2), .ref (a1 3), .ref (a1 4), .ref (a1 5), .ref (a1 6), .ref (a1 7), .ref (a1 8), .ref (a1 9), .ref (a1 10), .ref (a1 11), .ref (a1 12)])), ((a1 1), .inl (q 0, 4, .inl (s1.2.1 0))), ((a1 2), .inl (q 0, 4, .inl (s1.2.1 1))), ((a1 3), .inl (q 0, 160, .inl (s1.2.1 2))), ((a1 4), .inl (q 0, 40, .inl (s1.2.1 3))), ((a1 5), .inl (q 0, 40, .inl (s1.2.1 4))), ((a1 6), .inl (q 0, 40, .inl (s1.2.1 5))), ((a1 7), .inl (q 0, 40, .inl (s1.2.1 6))), ((a1 8), .inl (q 0, 40, .inl (s1.2.1 7))), ((a1 9), .inl (q 0, 40, .inl (s1.2.1 8))), ((a1 10), .inl (q 0, 40, .inl (s1.2.1 9))), ((a1 11), .inl (q 1, 40, .inr (.inl s1.2.2.1))), ((a1 12), .inl (q 0, s1.2.2.2.1, .inl s1.2.2.2.2))]) hx hb ht in_X0 tyX0_ok nmX0 hown hK hP hD hS 0 rfl rfl 1 (by decide) mw_171 rfl rfl rfl (Nat.le_of_ble_eq_true rfl) dX0_copyAllButLog_13 rfl (fun H locs hP hD hS => ?_)
  refine lv_aload_n hx hb dX0_copyAllButLog_16 rfl (lv_at hl 0 rfl) ?_
  refine lv_aload_n hx hb dX0_copyAllButLog_17 rfl (lv_at hl 1 rfl) ?_
  refine fl_get (C := RX0) (T := TX0) (N := 18) (ci := 0) (v := .int (s1.1 2)) hx hb ht in_X0 hown hK hP 13 rfl rfl 2 (by decide) mw_175 rfl dX0_copyAllButLog_18 ?_
  refine fl_put (C := RX0) (T := TX0) (N := 18) (ci := 0) (v := .int (s1.1 2)) (ws2 := [((a0 0), .inr (0, [.int (s1.1 0), .int (s1.1 1), .int (s1.1 2), .int (s0.1 3), .int (s0.1 4), .int (s0.1 5), .ref (a0 1), .ref (a0 2), .ref (a0 3), .ref (a0 4), .ref (a0 5), .ref (a0 6), .ref (a0 7), .ref (a0 8), .ref (a0 9), .ref (a0 10), .ref (a0 11), .ref (a0 12)])), ((a0 1), .inl (q 0, 4, .inl (s0.2.1 0))), ((a0 2), .inl (q 0, 4, .inl (s0.2.1 1))), ((a0 3), .inl (q 0, 160, .inl (s0.2.1 2))), ((a0 4), .inl (q 0, 40, .inl (s0.2.1 3))), ((a0 5), .inl (q 0, 40, .inl (s0.2.1 4))), ((a0 6), .inl (q 0, 40, .inl (s0.2.1 5))), ((a0 7), .inl (q 0, 40, .inl (s0.2.1 6))), ((a0 8), .inl (q 0, 40, .inl (s0.2.1 7))), ((a0 9), .inl (q 0, 40, .inl (s0.2.1 8))), ((a0 10), .inl (q 0, 40, .inl (s0.2.1 9))), ((a0 11), .inl (q 1, 40, .inr (.inl s0.2.2.1))), ((a0 12), .inl (q 0, s0.2.2.2.1, .inl s0.2.2.2.2)), ((a1 0), .inr (0, [.int (s1.1 0), .int (s1.1 1), .int (s1.1 2), .int (s1.1 3), .int (s1.1 4), .int (s1.1 5), .ref (a1 1), .ref (a1 2), .ref (a1 3), .ref (a1 4), .ref (a1 5), .ref (a1 6), .ref (a1 7), .ref (a1 8), .ref (a1 9), .ref (a1 10), .ref (a1 11), .ref (a1 12)])), ((a1 1), .inl (q 0, 4, .inl (s1.2.1 0))), ((a1 2), .inl (q 0, 4, .inl (s1.2.1 1))), ((a1 3), .inl (q 0, 160, .inl (s1.2.1 2))), ((a1 4), .inl (q 0, 40, .inl (s1.2.1 3))), ((a1 5), .inl (q 0, 40, .inl (s1.2.1 4))), ((a1 6), .inl (q 0, 40, .inl (s1.2.1 5))), ((a1 7), .inl (q 0, 40, .inl (s1.2.1 6))), ((a1 8), .inl (q 0, 40, .inl (s1.2.1 7))), ((a1 9), .inl (q 0, 40, .inl (s1.2.1 8))), ((a1 10), .inl (q 0, 40, .inl (s1.2.1 9))), ((a1 11), .inl (q 1, 40, .inr (.inl s1.2.2.1))), ((a1 12), .inl (q 0, s1.2.2.2.1, .inl s1.2.2.2.2))]) hx hb ht in_X0 tyX0_ok nmX0 hown hK hP hD hS 0 rfl rfl 2 (by decide) mw_175 rfl rfl rfl (Nat.le_of_ble_eq_true rfl) dX0_copyAllButLog_21 rfl (fun H locs hP hD hS => ?_)
  refine lv_aload_n hx hb dX0_copyAllButLog_24 rfl (lv_at hl 0 rfl) ?_
  refine lv_aload_n hx hb dX0_copyAllButLog_25 rfl (lv_at hl 1 rfl) ?_
  refine fl_get (C := RX0) (T := TX0) (N := 18) (ci := 0) (v := .int (s1.1 3)) hx hb ht in_X0 hown hK hP 13 rfl rfl 3 (by decide) mw_179 rfl dX0_copyAllButLog_26 ?_
  refine fl_put (C := RX0) (T := TX0) (N := 18) (ci := 0) (v := .int (s1.1 3)) (ws2 := [((a0 0), .inr (0, [.int (s1.1 0), .int (s1.1 1), .int (s1.1 2), .int (s1.1 3), .int (s0.1 4), .int (s0.1 5), .ref (a0 1), .ref (a0 2), .ref (a0 3), .ref (a0 4), .ref (a0 5), .ref (a0 6), .ref (a0 7), .ref (a0 8), .ref (a0 9), .ref (a0 10), .ref (a0 11), .ref (a0 12)])), ((a0 1), .inl (q 0, 4, .inl (s0.2.1 0))), ((a0 2), .inl (q 0, 4, .inl (s0.2.1 1))), ((a0 3), .inl (q 0, 160, .inl (s0.2.1 2))), ((a0 4), .inl (q 0, 40, .inl (s0.2.1 3))), ((a0 5), .inl (q 0, 40, .inl (s0.2.1 4))), ((a0 6), .inl (q 0, 40, .inl (s0.2.1 5))), ((a0 7), .inl (q 0, 40, .inl (s0.2.1 6))), ((a0 8), .inl (q 0, 40, .inl (s0.2.1 7))), ((a0 9), .inl (q 0, 40, .inl (s0.2.1 8))), ((a0 10), .inl (q 0, 40, .inl (s0.2.1 9))), ((a0 11), .inl (q 1, 40, .inr (.inl s0.2.2.1))), ((a0 12), .inl (q 0, s0.2.2.2.1, .inl s0.2.2.2.2)), ((a1 0), .inr (0, [.int (s1.1 0), .int (s1.1 1), .int (s1.1 2), .int (s1.1 3), .int (s1.1 4), .int (s1.1 5), .ref (a1 1), .ref (a1 2), .ref (a1 3), .ref (a1 4), .ref (a1 5), .ref (a1 6), .ref (a1 7), .ref (a1 8), .ref (a1 9), .ref (a1 10), .ref (a1 11), .ref (a1 12)])), ((a1 1), .inl (q 0, 4, .inl (s1.2.1 0))), ((a1 2), .inl (q 0, 4, .inl (s1.2.1 1))), ((a1 3), .inl (q 0, 160, .inl (s1.2.1 2))), ((a1 4), .inl (q 0, 40, .inl (s1.2.1 3))), ((a1 5), .inl (q 0, 40, .inl (s1.2.1 4))), ((a1 6), .inl (q 0, 40, .inl (s1.2.1 5))), ((a1 7), .inl (q 0, 40, .inl (s1.2.1 6))), ((a1 8), .inl (q 0, 40, .inl (s1.2.1 7))), ((a1 9), .inl (q 0, 40, .inl (s1.2.1 8))), ((a1 10), .inl (q 0, 40, .inl (s1.2.1 9))), ((a1 11), .inl (q 1, 40, .inr (.inl s1.2.2.1))), ((a1 12), .inl (q 0, s1.2.2.2.1, .inl s1.2.2.2.2))]) hx hb ht in_X0 tyX0_ok nmX0 hown hK hP hD hS 0 rfl rfl 3 (by decide) mw_179 rfl rfl rfl (Nat.le_of_ble_eq_true rfl) dX0_copyAllButLog_29 rfl (fun H locs hP hD hS => ?_)
  refine lv_aload_n hx hb dX0_copyAllButLog_32 rfl (lv_at hl 0 rfl) ?_
  refine lv_aload_n hx hb dX0_copyAllButLog_33 rfl (lv_at hl 1 rfl) ?_
  refine fl_get (C := RX0) (T := TX0) (N := 18) (ci := 0) (v := .int (s1.1 4)) hx hb ht in_X0 hown hK hP 13 rfl rfl 4 (by decide) mw_182 rfl dX0_copyAllButLog_34 ?_
  refine fl_put (C := RX0) (T := TX0) (N := 18) (ci := 0) (v := .int (s1.1 4)) (ws2 := [((a0 0), .inr (0, [.int (s1.1 0), .int (s1.1 1), .int (s1.1 2), .int (s1.1 3), .int (s1.1 4), .int (s0.1 5), .ref (a0 1), .ref (a0 2), .ref (a0 3), .ref (a0 4), .ref (a0 5), .ref (a0 6), .ref (a0 7), .ref (a0 8), .ref (a0 9), .ref (a0 10), .ref (a0 11), .ref (a0 12)])), ((a0 1), .inl (q 0, 4, .inl (s0.2.1 0))), ((a0 2), .inl (q 0, 4, .inl (s0.2.1 1))), ((a0 3), .inl (q 0, 160, .inl (s0.2.1 2))), ((a0 4), .inl (q 0, 40, .inl (s0.2.1 3))), ((a0 5), .inl (q 0, 40, .inl (s0.2.1 4))), ((a0 6), .inl (q 0, 40, .inl (s0.2.1 5))), ((a0 7), .inl (q 0, 40, .inl (s0.2.1 6))), ((a0 8), .inl (q 0, 40, .inl (s0.2.1 7))), ((a0 9), .inl (q 0, 40, .inl (s0.2.1 8))), ((a0 10), .inl (q 0, 40, .inl (s0.2.1 9))), ((a0 11), .inl (q 1, 40, .inr (.inl s0.2.2.1))), ((a0 12), .inl (q 0, s0.2.2.2.1, .inl s0.2.2.2.2)), ((a1 0), .inr (0, [.int (s1.1 0), .int (s1.1 1), .int (s1.1 2), .int (s1.1 3), .int (s1.1 4), .int (s1.1 5), .ref (a1 1), .ref (a1 2), .ref (a1 3), .ref (a1 4), .ref (a1 5), .ref (a1 6), .ref (a1 7), .ref (a1 8), .ref (a1 9), .ref (a1 10), .ref (a1 11), .ref (a1 12)])), ((a1 1), .inl (q 0, 4, .inl (s1.2.1 0))), ((a1 2), .inl (q 0, 4, .inl (s1.2.1 1))), ((a1 3), .inl (q 0, 160, .inl (s1.2.1 2))), ((a1 4), .inl (q 0, 40, .inl (s1.2.1 3))), ((a1 5), .inl (q 0, 40, .inl (s1.2.1 4))), ((a1 6), .inl (q 0, 40, .inl (s1.2.1 5))), ((a1 7), .inl (q 0, 40, .inl (s1.2.1 6))), ((a1 8), .inl (q 0, 40, .inl (s1.2.1 7))), ((a1 9), .inl (q 0, 40, .inl (s1.2.1 8))), ((a1 10), .inl (q 0, 40, .inl (s1.2.1 9))), ((a1 11), .inl (q 1, 40, .inr (.inl s1.2.2.1))), ((a1 12), .inl (q 0, s1.2.2.2.1, .inl s1.2.2.2.2))]) hx hb ht in_X0 tyX0_ok nmX0 hown hK hP hD hS 0 rfl rfl 4 (by decide) mw_182 rfl rfl rfl (Nat.le_of_ble_eq_true rfl) dX0_copyAllButLog_37 rfl (fun H locs hP hD hS => ?_)
  refine lv_aload_n hx hb dX0_copyAllButLog_40 rfl (lv_at hl 0 rfl) ?_
  refine lv_aload_n hx hb dX0_copyAllButLog_41 rfl (lv_at hl 1 rfl) ?_
  refine fl_get (C := RX0) (T := TX0) (N := 18) (ci := 0) (v := .int (s1.1 5)) hx hb ht in_X0 hown hK hP 13 rfl rfl 5 (by decide) mw_185 rfl dX0_copyAllButLog_42 ?_
  refine fl_put (C := RX0) (T := TX0) (N := 18) (ci := 0) (v := .int (s1.1 5)) (ws2 := [((a0 0), .inr (0, [.int (s1.1 0), .int (s1.1 1), .int (s1.1 2), .int (s1.1 3), .int (s1.1 4), .int (s1.1 5), .ref (a0 1), .ref (a0 2), .ref (a0 3), .ref (a0 4), .ref (a0 5), .ref (a0 6), .ref (a0 7), .ref (a0 8), .ref (a0 9), .ref (a0 10), .ref (a0 11), .ref (a0 12)])), ((a0 1), .inl (q 0, 4, .inl (s0.2.1 0))), ((a0 2), .inl (q 0, 4, .inl (s0.2.1 1))), ((a0 3), .inl (q 0, 160, .inl (s0.2.1 2))), ((a0 4), .inl (q 0, 40, .inl (s0.2.1 3))), ((a0 5), .inl (q 0, 40, .inl (s0.2.1 4))), ((a0 6), .inl (q 0, 40, .inl (s0.2.1 5))), ((a0 7), .inl (q 0, 40, .inl (s0.2.1 6))), ((a0 8), .inl (q 0, 40, .inl (s0.2.1 7))), ((a0 9), .inl (q 0, 40, .inl (s0.2.1 8))), ((a0 10), .inl (q 0, 40, .inl (s0.2.1 9))), ((a0 11), .inl (q 1, 40, .inr (.inl s0.2.2.1))), ((a0 12), .inl (q 0, s0.2.2.2.1, .inl s0.2.2.2.2)), ((a1 0), .inr (0, [.int (s1.1 0), .int (s1.1 1), .int (s1.1 2), .int (s1.1 3), .int (s1.1 4), .int (s1.1 5), .ref (a1 1), .ref (a1 2), .ref (a1 3), .ref (a1 4), .ref (a1 5), .ref (a1 6), .ref (a1 7), .ref (a1 8), .ref (a1 9), .ref (a1 10), .ref (a1 11), .ref (a1 12)])), ((a1 1), .inl (q 0, 4, .inl (s1.2.1 0))), ((a1 2), .inl (q 0, 4, .inl (s1.2.1 1))), ((a1 3), .inl (q 0, 160, .inl (s1.2.1 2))), ((a1 4), .inl (q 0, 40, .inl (s1.2.1 3))), ((a1 5), .inl (q 0, 40, .inl (s1.2.1 4))), ((a1 6), .inl (q 0, 40, .inl (s1.2.1 5))), ((a1 7), .inl (q 0, 40, .inl (s1.2.1 6))), ((a1 8), .inl (q 0, 40, .inl (s1.2.1 7))), ((a1 9), .inl (q 0, 40, .inl (s1.2.1 8))), ((a1 10), .inl (q 0, 40, .inl (s1.2.1 9))), ((a1 11), .inl (q 1, 40, .inr (.inl s1.2.2.1))), ((a1 12), .inl (q 0, s1.2.2.2.1, .inl s1.2.2.2.2))]) hx hb ht in_X0 tyX0_ok nmX0 hown hK hP hD hS 0 rfl rfl 5 (by decide) mw_185 rfl rfl rfl (Nat.le_of_ble_eq_true rfl) dX0_copyAllButLog_45 rfl (fun H locs hP hD hS => ?_)
  refine lv_aload_n hx hb dX0_copyAllButLog_48 rfl (lv_at hl 1 rfl) ?_
  refine fl_get (C := RX0) (T := TX0) (N := 18) (ci := 0) (v := .ref (a1 1)) hx hb ht in_X0 hown hK hP 13 rfl rfl 6 (by decide) mw_188 rfl dX0_copyAllButLog_49 ?_
  refine lv_iconst (v := 0) hx hb dX0_copyAllButLog_52 (by decide) ?_
  refine lv_aload_n hx hb dX0_copyAllButLog_53 rfl (lv_at hl 0 rfl) ?_
  refine fl_get (C := RX0) (T := TX0) (N := 18) (ci := 0) (v := .ref (a0 1)) hx hb ht in_X0 hown hK hP 0 rfl rfl 6 (by decide) mw_188 rfl dX0_copyAllButLog_54 ?_
  refine lv_iconst (v := 0) hx hb dX0_copyAllButLog_57 (by decide) ?_
  refine lv_iconst (v := 4) hx hb dX0_copyAllButLog_58 (by decide) ?_
  refine va_copyi (ty := .int) hx hb (hml.trans hl.1.symm) hown (ht _ mw_594) (ht _ mw_596) (ht _ mw_595) (ht _ mw_111) hK hP hD hS 14 1 0 0 rfl rfl rfl rfl rfl (by decide) (by decide) (by decide) (Nat.le_of_ble_eq_true rfl) (Nat.le_of_ble_eq_true rfl) (fun _ _ => rfl) (Nat.le_of_ble_eq_true rfl) (by decide) dX0_copyAllButLog_59 (fun H locs hP hD hS => ?_)
  have hP : va_P D vwCl [((a0 0), .inr (0, [.int (s1.1 0), .int (s1.1 1), .int (s1.1 2), .int (s1.1 3), .int (s1.1 4), .int (s1.1 5), .ref (a0 1), .ref (a0 2), .ref (a0 3), .ref (a0 4), .ref (a0 5), .ref (a0 6), .ref (a0 7), .ref (a0 8), .ref (a0 9), .ref (a0 10), .ref (a0 11), .ref (a0 12)])), ((a0 1), .inl (q 0, 4, .inl (va_cpy (s1.2.1 0) (s0.2.1 0) (Int32.toNatClampNeg 0) (Int32.toNatClampNeg 0) (Int32.toNatClampNeg 4)))), ((a0 2), .inl (q 0, 4, .inl (s0.2.1 1))), ((a0 3), .inl (q 0, 160, .inl (s0.2.1 2))), ((a0 4), .inl (q 0, 40, .inl (s0.2.1 3))), ((a0 5), .inl (q 0, 40, .inl (s0.2.1 4))), ((a0 6), .inl (q 0, 40, .inl (s0.2.1 5))), ((a0 7), .inl (q 0, 40, .inl (s0.2.1 6))), ((a0 8), .inl (q 0, 40, .inl (s0.2.1 7))), ((a0 9), .inl (q 0, 40, .inl (s0.2.1 8))), ((a0 10), .inl (q 0, 40, .inl (s0.2.1 9))), ((a0 11), .inl (q 1, 40, .inr (.inl s0.2.2.1))), ((a0 12), .inl (q 0, s0.2.2.2.1, .inl s0.2.2.2.2)), ((a1 0), .inr (0, [.int (s1.1 0), .int (s1.1 1), .int (s1.1 2), .int (s1.1 3), .int (s1.1 4), .int (s1.1 5), .ref (a1 1), .ref (a1 2), .ref (a1 3), .ref (a1 4), .ref (a1 5), .ref (a1 6), .ref (a1 7), .ref (a1 8), .ref (a1 9), .ref (a1 10), .ref (a1 11), .ref (a1 12)])), ((a1 1), .inl (q 0, 4, .inl (s1.2.1 0))), ((a1 2), .inl (q 0, 4, .inl (s1.2.1 1))), ((a1 3), .inl (q 0, 160, .inl (s1.2.1 2))), ((a1 4), .inl (q 0, 40, .inl (s1.2.1 3))), ((a1 5), .inl (q 0, 40, .inl (s1.2.1 4))), ((a1 6), .inl (q 0, 40, .inl (s1.2.1 5))), ((a1 7), .inl (q 0, 40, .inl (s1.2.1 6))), ((a1 8), .inl (q 0, 40, .inl (s1.2.1 7))), ((a1 9), .inl (q 0, 40, .inl (s1.2.1 8))), ((a1 10), .inl (q 0, 40, .inl (s1.2.1 9))), ((a1 11), .inl (q 1, 40, .inr (.inl s1.2.2.1))), ((a1 12), .inl (q 0, s1.2.2.2.1, .inl s1.2.2.2.2))] H := hP
  have hD : va_D _ [((a0 0), .inr (0, [.int (s1.1 0), .int (s1.1 1), .int (s1.1 2), .int (s1.1 3), .int (s1.1 4), .int (s1.1 5), .ref (a0 1), .ref (a0 2), .ref (a0 3), .ref (a0 4), .ref (a0 5), .ref (a0 6), .ref (a0 7), .ref (a0 8), .ref (a0 9), .ref (a0 10), .ref (a0 11), .ref (a0 12)])), ((a0 1), .inl (q 0, 4, .inl (va_cpy (s1.2.1 0) (s0.2.1 0) (Int32.toNatClampNeg 0) (Int32.toNatClampNeg 0) (Int32.toNatClampNeg 4)))), ((a0 2), .inl (q 0, 4, .inl (s0.2.1 1))), ((a0 3), .inl (q 0, 160, .inl (s0.2.1 2))), ((a0 4), .inl (q 0, 40, .inl (s0.2.1 3))), ((a0 5), .inl (q 0, 40, .inl (s0.2.1 4))), ((a0 6), .inl (q 0, 40, .inl (s0.2.1 5))), ((a0 7), .inl (q 0, 40, .inl (s0.2.1 6))), ((a0 8), .inl (q 0, 40, .inl (s0.2.1 7))), ((a0 9), .inl (q 0, 40, .inl (s0.2.1 8))), ((a0 10), .inl (q 0, 40, .inl (s0.2.1 9))), ((a0 11), .inl (q 1, 40, .inr (.inl s0.2.2.1))), ((a0 12), .inl (q 0, s0.2.2.2.1, .inl s0.2.2.2.2)), ((a1 0), .inr (0, [.int (s1.1 0), .int (s1.1 1), .int (s1.1 2), .int (s1.1 3), .int (s1.1 4), .int (s1.1 5), .ref (a1 1), .ref (a1 2), .ref (a1 3), .ref (a1 4), .ref (a1 5), .ref (a1 6), .ref (a1 7), .ref (a1 8), .ref (a1 9), .ref (a1 10), .ref (a1 11), .ref (a1 12)])), ((a1 1), .inl (q 0, 4, .inl (s1.2.1 0))), ((a1 2), .inl (q 0, 4, .inl (s1.2.1 1))), ((a1 3), .inl (q 0, 160, .inl (s1.2.1 2))), ((a1 4), .inl (q 0, 40, .inl (s1.2.1 3))), ((a1 5), .inl (q 0, 40, .inl (s1.2.1 4))), ((a1 6), .inl (q 0, 40, .inl (s1.2.1 5))), ((a1 7), .inl (q 0, 40, .inl (s1.2.1 6))), ((a1 8), .inl (q 0, 40, .inl (s1.2.1 7))), ((a1 9), .inl (q 0, 40, .inl (s1.2.1 8))), ((a1 10), .inl (q 0, 40, .inl (s1.2.1 9))), ((a1 11), .inl (q 1, 40, .inr (.inl s1.2.2.1))), ((a1 12), .inl (q 0, s1.2.2.2.1, .inl s1.2.2.2.2))] := hD
  refine lv_aload_n hx hb dX0_copyAllButLog_62 rfl (lv_at hl 1 rfl) ?_
  refine fl_get (C := RX0) (T := TX0) (N := 18) (ci := 0) (v := .ref (a1 2)) hx hb ht in_X0 hown hK hP 13 rfl rfl 7 (by decide) mw_190 rfl dX0_copyAllButLog_63 ?_
  refine lv_iconst (v := 0) hx hb dX0_copyAllButLog_66 (by decide) ?_
  refine lv_aload_n hx hb dX0_copyAllButLog_67 rfl (lv_at hl 0 rfl) ?_
  refine fl_get (C := RX0) (T := TX0) (N := 18) (ci := 0) (v := .ref (a0 2)) hx hb ht in_X0 hown hK hP 0 rfl rfl 7 (by decide) mw_190 rfl dX0_copyAllButLog_68 ?_
  refine lv_iconst (v := 0) hx hb dX0_copyAllButLog_71 (by decide) ?_
  refine lv_iconst (v := 4) hx hb dX0_copyAllButLog_72 (by decide) ?_
  refine va_copyi (ty := .int) hx hb (hml.trans hl.1.symm) hown (ht _ mw_594) (ht _ mw_596) (ht _ mw_595) (ht _ mw_111) hK hP hD hS 15 2 0 0 rfl rfl rfl rfl rfl (by decide) (by decide) (by decide) (Nat.le_of_ble_eq_true rfl) (Nat.le_of_ble_eq_true rfl) (fun _ _ => rfl) (Nat.le_of_ble_eq_true rfl) (by decide) dX0_copyAllButLog_73 (fun H locs hP hD hS => ?_)
  have hP : va_P D vwCl [((a0 0), .inr (0, [.int (s1.1 0), .int (s1.1 1), .int (s1.1 2), .int (s1.1 3), .int (s1.1 4), .int (s1.1 5), .ref (a0 1), .ref (a0 2), .ref (a0 3), .ref (a0 4), .ref (a0 5), .ref (a0 6), .ref (a0 7), .ref (a0 8), .ref (a0 9), .ref (a0 10), .ref (a0 11), .ref (a0 12)])), ((a0 1), .inl (q 0, 4, .inl (va_cpy (s1.2.1 0) (s0.2.1 0) (Int32.toNatClampNeg 0) (Int32.toNatClampNeg 0) (Int32.toNatClampNeg 4)))), ((a0 2), .inl (q 0, 4, .inl (va_cpy (s1.2.1 1) (s0.2.1 1) (Int32.toNatClampNeg 0) (Int32.toNatClampNeg 0) (Int32.toNatClampNeg 4)))), ((a0 3), .inl (q 0, 160, .inl (s0.2.1 2))), ((a0 4), .inl (q 0, 40, .inl (s0.2.1 3))), ((a0 5), .inl (q 0, 40, .inl (s0.2.1 4))), ((a0 6), .inl (q 0, 40, .inl (s0.2.1 5))), ((a0 7), .inl (q 0, 40, .inl (s0.2.1 6))), ((a0 8), .inl (q 0, 40, .inl (s0.2.1 7))), ((a0 9), .inl (q 0, 40, .inl (s0.2.1 8))), ((a0 10), .inl (q 0, 40, .inl (s0.2.1 9))), ((a0 11), .inl (q 1, 40, .inr (.inl s0.2.2.1))), ((a0 12), .inl (q 0, s0.2.2.2.1, .inl s0.2.2.2.2)), ((a1 0), .inr (0, [.int (s1.1 0), .int (s1.1 1), .int (s1.1 2), .int (s1.1 3), .int (s1.1 4), .int (s1.1 5), .ref (a1 1), .ref (a1 2), .ref (a1 3), .ref (a1 4), .ref (a1 5), .ref (a1 6), .ref (a1 7), .ref (a1 8), .ref (a1 9), .ref (a1 10), .ref (a1 11), .ref (a1 12)])), ((a1 1), .inl (q 0, 4, .inl (s1.2.1 0))), ((a1 2), .inl (q 0, 4, .inl (s1.2.1 1))), ((a1 3), .inl (q 0, 160, .inl (s1.2.1 2))), ((a1 4), .inl (q 0, 40, .inl (s1.2.1 3))), ((a1 5), .inl (q 0, 40, .inl (s1.2.1 4))), ((a1 6), .inl (q 0, 40, .inl (s1.2.1 5))), ((a1 7), .inl (q 0, 40, .inl (s1.2.1 6))), ((a1 8), .inl (q 0, 40, .inl (s1.2.1 7))), ((a1 9), .inl (q 0, 40, .inl (s1.2.1 8))), ((a1 10), .inl (q 0, 40, .inl (s1.2.1 9))), ((a1 11), .inl (q 1, 40, .inr (.inl s1.2.2.1))), ((a1 12), .inl (q 0, s1.2.2.2.1, .inl s1.2.2.2.2))] H := hP
  have hD : va_D _ [((a0 0), .inr (0, [.int (s1.1 0), .int (s1.1 1), .int (s1.1 2), .int (s1.1 3), .int (s1.1 4), .int (s1.1 5), .ref (a0 1), .ref (a0 2), .ref (a0 3), .ref (a0 4), .ref (a0 5), .ref (a0 6), .ref (a0 7), .ref (a0 8), .ref (a0 9), .ref (a0 10), .ref (a0 11), .ref (a0 12)])), ((a0 1), .inl (q 0, 4, .inl (va_cpy (s1.2.1 0) (s0.2.1 0) (Int32.toNatClampNeg 0) (Int32.toNatClampNeg 0) (Int32.toNatClampNeg 4)))), ((a0 2), .inl (q 0, 4, .inl (va_cpy (s1.2.1 1) (s0.2.1 1) (Int32.toNatClampNeg 0) (Int32.toNatClampNeg 0) (Int32.toNatClampNeg 4)))), ((a0 3), .inl (q 0, 160, .inl (s0.2.1 2))), ((a0 4), .inl (q 0, 40, .inl (s0.2.1 3))), ((a0 5), .inl (q 0, 40, .inl (s0.2.1 4))), ((a0 6), .inl (q 0, 40, .inl (s0.2.1 5))), ((a0 7), .inl (q 0, 40, .inl (s0.2.1 6))), ((a0 8), .inl (q 0, 40, .inl (s0.2.1 7))), ((a0 9), .inl (q 0, 40, .inl (s0.2.1 8))), ((a0 10), .inl (q 0, 40, .inl (s0.2.1 9))), ((a0 11), .inl (q 1, 40, .inr (.inl s0.2.2.1))), ((a0 12), .inl (q 0, s0.2.2.2.1, .inl s0.2.2.2.2)), ((a1 0), .inr (0, [.int (s1.1 0), .int (s1.1 1), .int (s1.1 2), .int (s1.1 3), .int (s1.1 4), .int (s1.1 5), .ref (a1 1), .ref (a1 2), .ref (a1 3), .ref (a1 4), .ref (a1 5), .ref (a1 6), .ref (a1 7), .ref (a1 8), .ref (a1 9), .ref (a1 10), .ref (a1 11), .ref (a1 12)])), ((a1 1), .inl (q 0, 4, .inl (s1.2.1 0))), ((a1 2), .inl (q 0, 4, .inl (s1.2.1 1))), ((a1 3), .inl (q 0, 160, .inl (s1.2.1 2))), ((a1 4), .inl (q 0, 40, .inl (s1.2.1 3))), ((a1 5), .inl (q 0, 40, .inl (s1.2.1 4))), ((a1 6), .inl (q 0, 40, .inl (s1.2.1 5))), ((a1 7), .inl (q 0, 40, .inl (s1.2.1 6))), ((a1 8), .inl (q 0, 40, .inl (s1.2.1 7))), ((a1 9), .inl (q 0, 40, .inl (s1.2.1 8))), ((a1 10), .inl (q 0, 40, .inl (s1.2.1 9))), ((a1 11), .inl (q 1, 40, .inr (.inl s1.2.2.1))), ((a1 12), .inl (q 0, s1.2.2.2.1, .inl s1.2.2.2.2))] := hD
  refine lv_aload_n hx hb dX0_copyAllButLog_76 rfl (lv_at hl 1 rfl) ?_
  refine fl_get (C := RX0) (T := TX0) (N := 18) (ci := 0) (v := .ref (a1 3)) hx hb ht in_X0 hown hK hP 13 rfl rfl 8 (by decide) mw_191 rfl dX0_copyAllButLog_77 ?_
  refine lv_iconst (v := 0) hx hb dX0_copyAllButLog_80 (by decide) ?_
  refine lv_aload_n hx hb dX0_copyAllButLog_81 rfl (lv_at hl 0 rfl) ?_
  refine fl_get (C := RX0) (T := TX0) (N := 18) (ci := 0) (v := .ref (a0 3)) hx hb ht in_X0 hown hK hP 0 rfl rfl 8 (by decide) mw_191 rfl dX0_copyAllButLog_82 ?_
  refine lv_iconst (v := 0) hx hb dX0_copyAllButLog_85 (by decide) ?_
  refine lv_sipush (v := 160) hx hb dX0_copyAllButLog_86 (by decide) ?_
  refine va_copyi (ty := .int) hx hb (hml.trans hl.1.symm) hown (ht _ mw_594) (ht _ mw_596) (ht _ mw_595) (ht _ mw_111) hK hP hD hS 16 3 0 0 rfl rfl rfl rfl rfl (by decide) (by decide) (by decide) (Nat.le_of_ble_eq_true rfl) (Nat.le_of_ble_eq_true rfl) (fun _ _ => rfl) (Nat.le_of_ble_eq_true rfl) (by decide) dX0_copyAllButLog_89 (fun H locs hP hD hS => ?_)
  have hP : va_P D vwCl [((a0 0), .inr (0, [.int (s1.1 0), .int (s1.1 1), .int (s1.1 2), .int (s1.1 3), .int (s1.1 4), .int (s1.1 5), .ref (a0 1), .ref (a0 2), .ref (a0 3), .ref (a0 4), .ref (a0 5), .ref (a0 6), .ref (a0 7), .ref (a0 8), .ref (a0 9), .ref (a0 10), .ref (a0 11), .ref (a0 12)])), ((a0 1), .inl (q 0, 4, .inl (va_cpy (s1.2.1 0) (s0.2.1 0) (Int32.toNatClampNeg 0) (Int32.toNatClampNeg 0) (Int32.toNatClampNeg 4)))), ((a0 2), .inl (q 0, 4, .inl (va_cpy (s1.2.1 1) (s0.2.1 1) (Int32.toNatClampNeg 0) (Int32.toNatClampNeg 0) (Int32.toNatClampNeg 4)))), ((a0 3), .inl (q 0, 160, .inl (va_cpy (s1.2.1 2) (s0.2.1 2) (Int32.toNatClampNeg 0) (Int32.toNatClampNeg 0) (Int32.toNatClampNeg 160)))), ((a0 4), .inl (q 0, 40, .inl (s0.2.1 3))), ((a0 5), .inl (q 0, 40, .inl (s0.2.1 4))), ((a0 6), .inl (q 0, 40, .inl (s0.2.1 5))), ((a0 7), .inl (q 0, 40, .inl (s0.2.1 6))), ((a0 8), .inl (q 0, 40, .inl (s0.2.1 7))), ((a0 9), .inl (q 0, 40, .inl (s0.2.1 8))), ((a0 10), .inl (q 0, 40, .inl (s0.2.1 9))), ((a0 11), .inl (q 1, 40, .inr (.inl s0.2.2.1))), ((a0 12), .inl (q 0, s0.2.2.2.1, .inl s0.2.2.2.2)), ((a1 0), .inr (0, [.int (s1.1 0), .int (s1.1 1), .int (s1.1 2), .int (s1.1 3), .int (s1.1 4), .int (s1.1 5), .ref (a1 1), .ref (a1 2), .ref (a1 3), .ref (a1 4), .ref (a1 5), .ref (a1 6), .ref (a1 7), .ref (a1 8), .ref (a1 9), .ref (a1 10), .ref (a1 11), .ref (a1 12)])), ((a1 1), .inl (q 0, 4, .inl (s1.2.1 0))), ((a1 2), .inl (q 0, 4, .inl (s1.2.1 1))), ((a1 3), .inl (q 0, 160, .inl (s1.2.1 2))), ((a1 4), .inl (q 0, 40, .inl (s1.2.1 3))), ((a1 5), .inl (q 0, 40, .inl (s1.2.1 4))), ((a1 6), .inl (q 0, 40, .inl (s1.2.1 5))), ((a1 7), .inl (q 0, 40, .inl (s1.2.1 6))), ((a1 8), .inl (q 0, 40, .inl (s1.2.1 7))), ((a1 9), .inl (q 0, 40, .inl (s1.2.1 8))), ((a1 10), .inl (q 0, 40, .inl (s1.2.1 9))), ((a1 11), .inl (q 1, 40, .inr (.inl s1.2.2.1))), ((a1 12), .inl (q 0, s1.2.2.2.1, .inl s1.2.2.2.2))] H := hP
  have hD : va_D _ [((a0 0), .inr (0, [.int (s1.1 0), .int (s1.1 1), .int (s1.1 2), .int (s1.1 3), .int (s1.1 4), .int (s1.1 5), .ref (a0 1), .ref (a0 2), .ref (a0 3), .ref (a0 4), .ref (a0 5), .ref (a0 6), .ref (a0 7), .ref (a0 8), .ref (a0 9), .ref (a0 10), .ref (a0 11), .ref (a0 12)])), ((a0 1), .inl (q 0, 4, .inl (va_cpy (s1.2.1 0) (s0.2.1 0) (Int32.toNatClampNeg 0) (Int32.toNatClampNeg 0) (Int32.toNatClampNeg 4)))), ((a0 2), .inl (q 0, 4, .inl (va_cpy (s1.2.1 1) (s0.2.1 1) (Int32.toNatClampNeg 0) (Int32.toNatClampNeg 0) (Int32.toNatClampNeg 4)))), ((a0 3), .inl (q 0, 160, .inl (va_cpy (s1.2.1 2) (s0.2.1 2) (Int32.toNatClampNeg 0) (Int32.toNatClampNeg 0) (Int32.toNatClampNeg 160)))), ((a0 4), .inl (q 0, 40, .inl (s0.2.1 3))), ((a0 5), .inl (q 0, 40, .inl (s0.2.1 4))), ((a0 6), .inl (q 0, 40, .inl (s0.2.1 5))), ((a0 7), .inl (q 0, 40, .inl (s0.2.1 6))), ((a0 8), .inl (q 0, 40, .inl (s0.2.1 7))), ((a0 9), .inl (q 0, 40, .inl (s0.2.1 8))), ((a0 10), .inl (q 0, 40, .inl (s0.2.1 9))), ((a0 11), .inl (q 1, 40, .inr (.inl s0.2.2.1))), ((a0 12), .inl (q 0, s0.2.2.2.1, .inl s0.2.2.2.2)), ((a1 0), .inr (0, [.int (s1.1 0), .int (s1.1 1), .int (s1.1 2), .int (s1.1 3), .int (s1.1 4), .int (s1.1 5), .ref (a1 1), .ref (a1 2), .ref (a1 3), .ref (a1 4), .ref (a1 5), .ref (a1 6), .ref (a1 7), .ref (a1 8), .ref (a1 9), .ref (a1 10), .ref (a1 11), .ref (a1 12)])), ((a1 1), .inl (q 0, 4, .inl (s1.2.1 0))), ((a1 2), .inl (q 0, 4, .inl (s1.2.1 1))), ((a1 3), .inl (q 0, 160, .inl (s1.2.1 2))), ((a1 4), .inl (q 0, 40, .inl (s1.2.1 3))), ((a1 5), .inl (q 0, 40, .inl (s1.2.1 4))), ((a1 6), .inl (q 0, 40, .inl (s1.2.1 5))), ((a1 7), .inl (q 0, 40, .inl (s1.2.1 6))), ((a1 8), .inl (q 0, 40, .inl (s1.2.1 7))), ((a1 9), .inl (q 0, 40, .inl (s1.2.1 8))), ((a1 10), .inl (q 0, 40, .inl (s1.2.1 9))), ((a1 11), .inl (q 1, 40, .inr (.inl s1.2.2.1))), ((a1 12), .inl (q 0, s1.2.2.2.1, .inl s1.2.2.2.2))] := hD
  refine lv_aload_n hx hb dX0_copyAllButLog_92 rfl (lv_at hl 1 rfl) ?_
  refine vp_callSi (rd_wV (wc := bd_w a1 q s1) (As := []) (rest := []) hx hb hml hown ht (c2_X0_cells h) wd_X0_cells mw_588 hQ hV hS (hP.sub [13, 14, 15, 16, 17, 18, 19, 20, 21, 22, 23, 24, 25] rfl) rfl rfl rfl hl.1 rfl (Nat.le_of_ble_eq_true rfl) dX0_copyAllButLog_93 ⟨Nat.le_of_ble_eq_true rfl, Nat.le_of_ble_eq_true rfl, rfl, rfl⟩ ⟨Nat.le_of_ble_eq_true rfl, Nat.le_of_ble_eq_true rfl⟩) (fun r_1 h => ?_)
  try dsimp only at h
  refine lv_istore_n (lv' := [(2, .int r_1), (0, .ref (a0 0)), (1, .ref (a1 0))]) hx hb dX0_copyAllButLog_96 rfl hl (by decide) rfl (fun ls hl => ?_)
  refine lv_aload_n hx hb dX0_copyAllButLog_97 rfl (lv_at hl 2 rfl) ?_
  refine fl_get (C := RX0) (T := TX0) (N := 18) (ci := 0) (v := .ref (a1 4)) hx hb ht in_X0 hown hK hP 13 rfl rfl 9 (by decide) mw_192 rfl dX0_copyAllButLog_98 ?_
  refine lv_iconst (v := 0) hx hb dX0_copyAllButLog_101 (by decide) ?_
  refine lv_aload_n hx hb dX0_copyAllButLog_102 rfl (lv_at hl 1 rfl) ?_
  refine fl_get (C := RX0) (T := TX0) (N := 18) (ci := 0) (v := .ref (a0 4)) hx hb ht in_X0 hown hK hP 0 rfl rfl 9 (by decide) mw_192 rfl dX0_copyAllButLog_103 ?_
  refine lv_iconst (v := 0) hx hb dX0_copyAllButLog_106 (by decide) ?_
  refine lv_iload_n hx hb dX0_copyAllButLog_107 rfl (lv_at hl 0 rfl) ?_
  obtain ⟨g_3, h⟩ := h
  obtain ⟨g_4, h⟩ := h
  obtain ⟨g_5, h⟩ := h
  refine va_copyi (ty := .int) hx hb (hml.trans hl.1.symm) hown (ht _ mw_594) (ht _ mw_596) (ht _ mw_595) (ht _ mw_111) hK hP hD hS 17 4 0 0 rfl rfl rfl rfl rfl (by decide) (by decide) g_3 g_4 g_5 (fun _ _ => rfl) (Nat.le_of_ble_eq_true rfl) (by decide) dX0_copyAllButLog_108 (fun H locs hP hD hS => ?_)
  have hP : va_P D vwCl [((a0 0), .inr (0, [.int (s1.1 0), .int (s1.1 1), .int (s1.1 2), .int (s1.1 3), .int (s1.1 4), .int (s1.1 5), .ref (a0 1), .ref (a0 2), .ref (a0 3), .ref (a0 4), .ref (a0 5), .ref (a0 6), .ref (a0 7), .ref (a0 8), .ref (a0 9), .ref (a0 10), .ref (a0 11), .ref (a0 12)])), ((a0 1), .inl (q 0, 4, .inl (va_cpy (s1.2.1 0) (s0.2.1 0) (Int32.toNatClampNeg 0) (Int32.toNatClampNeg 0) (Int32.toNatClampNeg 4)))), ((a0 2), .inl (q 0, 4, .inl (va_cpy (s1.2.1 1) (s0.2.1 1) (Int32.toNatClampNeg 0) (Int32.toNatClampNeg 0) (Int32.toNatClampNeg 4)))), ((a0 3), .inl (q 0, 160, .inl (va_cpy (s1.2.1 2) (s0.2.1 2) (Int32.toNatClampNeg 0) (Int32.toNatClampNeg 0) (Int32.toNatClampNeg 160)))), ((a0 4), .inl (q 0, 40, .inl (va_cpy (s1.2.1 3) (s0.2.1 3) (Int32.toNatClampNeg 0) (Int32.toNatClampNeg 0) (Int32.toNatClampNeg r_1)))), ((a0 5), .inl (q 0, 40, .inl (s0.2.1 4))), ((a0 6), .inl (q 0, 40, .inl (s0.2.1 5))), ((a0 7), .inl (q 0, 40, .inl (s0.2.1 6))), ((a0 8), .inl (q 0, 40, .inl (s0.2.1 7))), ((a0 9), .inl (q 0, 40, .inl (s0.2.1 8))), ((a0 10), .inl (q 0, 40, .inl (s0.2.1 9))), ((a0 11), .inl (q 1, 40, .inr (.inl s0.2.2.1))), ((a0 12), .inl (q 0, s0.2.2.2.1, .inl s0.2.2.2.2)), ((a1 0), .inr (0, [.int (s1.1 0), .int (s1.1 1), .int (s1.1 2), .int (s1.1 3), .int (s1.1 4), .int (s1.1 5), .ref (a1 1), .ref (a1 2), .ref (a1 3), .ref (a1 4), .ref (a1 5), .ref (a1 6), .ref (a1 7), .ref (a1 8), .ref (a1 9), .ref (a1 10), .ref (a1 11), .ref (a1 12)])), ((a1 1), .inl (q 0, 4, .inl (s1.2.1 0))), ((a1 2), .inl (q 0, 4, .inl (s1.2.1 1))), ((a1 3), .inl (q 0, 160, .inl (s1.2.1 2))), ((a1 4), .inl (q 0, 40, .inl (s1.2.1 3))), ((a1 5), .inl (q 0, 40, .inl (s1.2.1 4))), ((a1 6), .inl (q 0, 40, .inl (s1.2.1 5))), ((a1 7), .inl (q 0, 40, .inl (s1.2.1 6))), ((a1 8), .inl (q 0, 40, .inl (s1.2.1 7))), ((a1 9), .inl (q 0, 40, .inl (s1.2.1 8))), ((a1 10), .inl (q 0, 40, .inl (s1.2.1 9))), ((a1 11), .inl (q 1, 40, .inr (.inl s1.2.2.1))), ((a1 12), .inl (q 0, s1.2.2.2.1, .inl s1.2.2.2.2))] H := hP
  have hD : va_D _ [((a0 0), .inr (0, [.int (s1.1 0), .int (s1.1 1), .int (s1.1 2), .int (s1.1 3), .int (s1.1 4), .int (s1.1 5), .ref (a0 1), .ref (a0 2), .ref (a0 3), .ref (a0 4), .ref (a0 5), .ref (a0 6), .ref (a0 7), .ref (a0 8), .ref (a0 9), .ref (a0 10), .ref (a0 11), .ref (a0 12)])), ((a0 1), .inl (q 0, 4, .inl (va_cpy (s1.2.1 0) (s0.2.1 0) (Int32.toNatClampNeg 0) (Int32.toNatClampNeg 0) (Int32.toNatClampNeg 4)))), ((a0 2), .inl (q 0, 4, .inl (va_cpy (s1.2.1 1) (s0.2.1 1) (Int32.toNatClampNeg 0) (Int32.toNatClampNeg 0) (Int32.toNatClampNeg 4)))), ((a0 3), .inl (q 0, 160, .inl (va_cpy (s1.2.1 2) (s0.2.1 2) (Int32.toNatClampNeg 0) (Int32.toNatClampNeg 0) (Int32.toNatClampNeg 160)))), ((a0 4), .inl (q 0, 40, .inl (va_cpy (s1.2.1 3) (s0.2.1 3) (Int32.toNatClampNeg 0) (Int32.toNatClampNeg 0) (Int32.toNatClampNeg r_1)))), ((a0 5), .inl (q 0, 40, .inl (s0.2.1 4))), ((a0 6), .inl (q 0, 40, .inl (s0.2.1 5))), ((a0 7), .inl (q 0, 40, .inl (s0.2.1 6))), ((a0 8), .inl (q 0, 40, .inl (s0.2.1 7))), ((a0 9), .inl (q 0, 40, .inl (s0.2.1 8))), ((a0 10), .inl (q 0, 40, .inl (s0.2.1 9))), ((a0 11), .inl (q 1, 40, .inr (.inl s0.2.2.1))), ((a0 12), .inl (q 0, s0.2.2.2.1, .inl s0.2.2.2.2)), ((a1 0), .inr (0, [.int (s1.1 0), .int (s1.1 1), .int (s1.1 2), .int (s1.1 3), .int (s1.1 4), .int (s1.1 5), .ref (a1 1), .ref (a1 2), .ref (a1 3), .ref (a1 4), .ref (a1 5), .ref (a1 6), .ref (a1 7), .ref (a1 8), .ref (a1 9), .ref (a1 10), .ref (a1 11), .ref (a1 12)])), ((a1 1), .inl (q 0, 4, .inl (s1.2.1 0))), ((a1 2), .inl (q 0, 4, .inl (s1.2.1 1))), ((a1 3), .inl (q 0, 160, .inl (s1.2.1 2))), ((a1 4), .inl (q 0, 40, .inl (s1.2.1 3))), ((a1 5), .inl (q 0, 40, .inl (s1.2.1 4))), ((a1 6), .inl (q 0, 40, .inl (s1.2.1 5))), ((a1 7), .inl (q 0, 40, .inl (s1.2.1 6))), ((a1 8), .inl (q 0, 40, .inl (s1.2.1 7))), ((a1 9), .inl (q 0, 40, .inl (s1.2.1 8))), ((a1 10), .inl (q 0, 40, .inl (s1.2.1 9))), ((a1 11), .inl (q 1, 40, .inr (.inl s1.2.2.1))), ((a1 12), .inl (q 0, s1.2.2.2.1, .inl s1.2.2.2.2))] := hD
  refine lv_aload_n hx hb dX0_copyAllButLog_111 rfl (lv_at hl 2 rfl) ?_
  refine fl_get (C := RX0) (T := TX0) (N := 18) (ci := 0) (v := .ref (a1 5)) hx hb ht in_X0 hown hK hP 13 rfl rfl 10 (by decide) mw_194 rfl dX0_copyAllButLog_112 ?_
  refine lv_iconst (v := 0) hx hb dX0_copyAllButLog_115 (by decide) ?_
  refine lv_aload_n hx hb dX0_copyAllButLog_116 rfl (lv_at hl 1 rfl) ?_
  refine fl_get (C := RX0) (T := TX0) (N := 18) (ci := 0) (v := .ref (a0 5)) hx hb ht in_X0 hown hK hP 0 rfl rfl 10 (by decide) mw_194 rfl dX0_copyAllButLog_117 ?_
  refine lv_iconst (v := 0) hx hb dX0_copyAllButLog_120 (by decide) ?_
  refine lv_iload_n hx hb dX0_copyAllButLog_121 rfl (lv_at hl 0 rfl) ?_
  obtain ⟨g_6, h⟩ := h
  obtain ⟨g_7, h⟩ := h
  obtain ⟨g_8, h⟩ := h
  refine va_copyi (ty := .int) hx hb (hml.trans hl.1.symm) hown (ht _ mw_594) (ht _ mw_596) (ht _ mw_595) (ht _ mw_111) hK hP hD hS 18 5 0 0 rfl rfl rfl rfl rfl (by decide) (by decide) g_6 g_7 g_8 (fun _ _ => rfl) (Nat.le_of_ble_eq_true rfl) (by decide) dX0_copyAllButLog_122 (fun H locs hP hD hS => ?_)
  have hP : va_P D vwCl [((a0 0), .inr (0, [.int (s1.1 0), .int (s1.1 1), .int (s1.1 2), .int (s1.1 3), .int (s1.1 4), .int (s1.1 5), .ref (a0 1), .ref (a0 2), .ref (a0 3), .ref (a0 4), .ref (a0 5), .ref (a0 6), .ref (a0 7), .ref (a0 8), .ref (a0 9), .ref (a0 10), .ref (a0 11), .ref (a0 12)])), ((a0 1), .inl (q 0, 4, .inl (va_cpy (s1.2.1 0) (s0.2.1 0) (Int32.toNatClampNeg 0) (Int32.toNatClampNeg 0) (Int32.toNatClampNeg 4)))), ((a0 2), .inl (q 0, 4, .inl (va_cpy (s1.2.1 1) (s0.2.1 1) (Int32.toNatClampNeg 0) (Int32.toNatClampNeg 0) (Int32.toNatClampNeg 4)))), ((a0 3), .inl (q 0, 160, .inl (va_cpy (s1.2.1 2) (s0.2.1 2) (Int32.toNatClampNeg 0) (Int32.toNatClampNeg 0) (Int32.toNatClampNeg 160)))), ((a0 4), .inl (q 0, 40, .inl (va_cpy (s1.2.1 3) (s0.2.1 3) (Int32.toNatClampNeg 0) (Int32.toNatClampNeg 0) (Int32.toNatClampNeg r_1)))), ((a0 5), .inl (q 0, 40, .inl (va_cpy (s1.2.1 4) (s0.2.1 4) (Int32.toNatClampNeg 0) (Int32.toNatClampNeg 0) (Int32.toNatClampNeg r_1)))), ((a0 6), .inl (q 0, 40, .inl (s0.2.1 5))), ((a0 7), .inl (q 0, 40, .inl (s0.2.1 6))), ((a0 8), .inl (q 0, 40, .inl (s0.2.1 7))), ((a0 9), .inl (q 0, 40, .inl (s0.2.1 8))), ((a0 10), .inl (q 0, 40, .inl (s0.2.1 9))), ((a0 11), .inl (q 1, 40, .inr (.inl s0.2.2.1))), ((a0 12), .inl (q 0, s0.2.2.2.1, .inl s0.2.2.2.2)), ((a1 0), .inr (0, [.int (s1.1 0), .int (s1.1 1), .int (s1.1 2), .int (s1.1 3), .int (s1.1 4), .int (s1.1 5), .ref (a1 1), .ref (a1 2), .ref (a1 3), .ref (a1 4), .ref (a1 5), .ref (a1 6), .ref (a1 7), .ref (a1 8), .ref (a1 9), .ref (a1 10), .ref (a1 11), .ref (a1 12)])), ((a1 1), .inl (q 0, 4, .inl (s1.2.1 0))), ((a1 2), .inl (q 0, 4, .inl (s1.2.1 1))), ((a1 3), .inl (q 0, 160, .inl (s1.2.1 2))), ((a1 4), .inl (q 0, 40, .inl (s1.2.1 3))), ((a1 5), .inl (q 0, 40, .inl (s1.2.1 4))), ((a1 6), .inl (q 0, 40, .inl (s1.2.1 5))), ((a1 7), .inl (q 0, 40, .inl (s1.2.1 6))), ((a1 8), .inl (q 0, 40, .inl (s1.2.1 7))), ((a1 9), .inl (q 0, 40, .inl (s1.2.1 8))), ((a1 10), .inl (q 0, 40, .inl (s1.2.1 9))), ((a1 11), .inl (q 1, 40, .inr (.inl s1.2.2.1))), ((a1 12), .inl (q 0, s1.2.2.2.1, .inl s1.2.2.2.2))] H := hP
  have hD : va_D _ [((a0 0), .inr (0, [.int (s1.1 0), .int (s1.1 1), .int (s1.1 2), .int (s1.1 3), .int (s1.1 4), .int (s1.1 5), .ref (a0 1), .ref (a0 2), .ref (a0 3), .ref (a0 4), .ref (a0 5), .ref (a0 6), .ref (a0 7), .ref (a0 8), .ref (a0 9), .ref (a0 10), .ref (a0 11), .ref (a0 12)])), ((a0 1), .inl (q 0, 4, .inl (va_cpy (s1.2.1 0) (s0.2.1 0) (Int32.toNatClampNeg 0) (Int32.toNatClampNeg 0) (Int32.toNatClampNeg 4)))), ((a0 2), .inl (q 0, 4, .inl (va_cpy (s1.2.1 1) (s0.2.1 1) (Int32.toNatClampNeg 0) (Int32.toNatClampNeg 0) (Int32.toNatClampNeg 4)))), ((a0 3), .inl (q 0, 160, .inl (va_cpy (s1.2.1 2) (s0.2.1 2) (Int32.toNatClampNeg 0) (Int32.toNatClampNeg 0) (Int32.toNatClampNeg 160)))), ((a0 4), .inl (q 0, 40, .inl (va_cpy (s1.2.1 3) (s0.2.1 3) (Int32.toNatClampNeg 0) (Int32.toNatClampNeg 0) (Int32.toNatClampNeg r_1)))), ((a0 5), .inl (q 0, 40, .inl (va_cpy (s1.2.1 4) (s0.2.1 4) (Int32.toNatClampNeg 0) (Int32.toNatClampNeg 0) (Int32.toNatClampNeg r_1)))), ((a0 6), .inl (q 0, 40, .inl (s0.2.1 5))), ((a0 7), .inl (q 0, 40, .inl (s0.2.1 6))), ((a0 8), .inl (q 0, 40, .inl (s0.2.1 7))), ((a0 9), .inl (q 0, 40, .inl (s0.2.1 8))), ((a0 10), .inl (q 0, 40, .inl (s0.2.1 9))), ((a0 11), .inl (q 1, 40, .inr (.inl s0.2.2.1))), ((a0 12), .inl (q 0, s0.2.2.2.1, .inl s0.2.2.2.2)), ((a1 0), .inr (0, [.int (s1.1 0), .int (s1.1 1), .int (s1.1 2), .int (s1.1 3), .int (s1.1 4), .int (s1.1 5), .ref (a1 1), .ref (a1 2), .ref (a1 3), .ref (a1 4), .ref (a1 5), .ref (a1 6), .ref (a1 7), .ref (a1 8), .ref (a1 9), .ref (a1 10), .ref (a1 11), .ref (a1 12)])), ((a1 1), .inl (q 0, 4, .inl (s1.2.1 0))), ((a1 2), .inl (q 0, 4, .inl (s1.2.1 1))), ((a1 3), .inl (q 0, 160, .inl (s1.2.1 2))), ((a1 4), .inl (q 0, 40, .inl (s1.2.1 3))), ((a1 5), .inl (q 0, 40, .inl (s1.2.1 4))), ((a1 6), .inl (q 0, 40, .inl (s1.2.1 5))), ((a1 7), .inl (q 0, 40, .inl (s1.2.1 6))), ((a1 8), .inl (q 0, 40, .inl (s1.2.1 7))), ((a1 9), .inl (q 0, 40, .inl (s1.2.1 8))), ((a1 10), .inl (q 0, 40, .inl (s1.2.1 9))), ((a1 11), .inl (q 1, 40, .inr (.inl s1.2.2.1))), ((a1 12), .inl (q 0, s1.2.2.2.1, .inl s1.2.2.2.2))] := hD
  refine lv_aload_n hx hb dX0_copyAllButLog_125 rfl (lv_at hl 2 rfl) ?_
  refine fl_get (C := RX0) (T := TX0) (N := 18) (ci := 0) (v := .ref (a1 6)) hx hb ht in_X0 hown hK hP 13 rfl rfl 11 (by decide) mw_196 rfl dX0_copyAllButLog_126 ?_
  refine lv_iconst (v := 0) hx hb dX0_copyAllButLog_129 (by decide) ?_
  refine lv_aload_n hx hb dX0_copyAllButLog_130 rfl (lv_at hl 1 rfl) ?_
  refine fl_get (C := RX0) (T := TX0) (N := 18) (ci := 0) (v := .ref (a0 6)) hx hb ht in_X0 hown hK hP 0 rfl rfl 11 (by decide) mw_196 rfl dX0_copyAllButLog_131 ?_
  refine lv_iconst (v := 0) hx hb dX0_copyAllButLog_134 (by decide) ?_
  refine lv_iload_n hx hb dX0_copyAllButLog_135 rfl (lv_at hl 0 rfl) ?_
  obtain ⟨g_9, h⟩ := h
  obtain ⟨g_10, h⟩ := h
  obtain ⟨g_11, h⟩ := h
  refine va_copyi (ty := .int) hx hb (hml.trans hl.1.symm) hown (ht _ mw_594) (ht _ mw_596) (ht _ mw_595) (ht _ mw_111) hK hP hD hS 19 6 0 0 rfl rfl rfl rfl rfl (by decide) (by decide) g_9 g_10 g_11 (fun _ _ => rfl) (Nat.le_of_ble_eq_true rfl) (by decide) dX0_copyAllButLog_136 (fun H locs hP hD hS => ?_)
  have hP : va_P D vwCl [((a0 0), .inr (0, [.int (s1.1 0), .int (s1.1 1), .int (s1.1 2), .int (s1.1 3), .int (s1.1 4), .int (s1.1 5), .ref (a0 1), .ref (a0 2), .ref (a0 3), .ref (a0 4), .ref (a0 5), .ref (a0 6), .ref (a0 7), .ref (a0 8), .ref (a0 9), .ref (a0 10), .ref (a0 11), .ref (a0 12)])), ((a0 1), .inl (q 0, 4, .inl (va_cpy (s1.2.1 0) (s0.2.1 0) (Int32.toNatClampNeg 0) (Int32.toNatClampNeg 0) (Int32.toNatClampNeg 4)))), ((a0 2), .inl (q 0, 4, .inl (va_cpy (s1.2.1 1) (s0.2.1 1) (Int32.toNatClampNeg 0) (Int32.toNatClampNeg 0) (Int32.toNatClampNeg 4)))), ((a0 3), .inl (q 0, 160, .inl (va_cpy (s1.2.1 2) (s0.2.1 2) (Int32.toNatClampNeg 0) (Int32.toNatClampNeg 0) (Int32.toNatClampNeg 160)))), ((a0 4), .inl (q 0, 40, .inl (va_cpy (s1.2.1 3) (s0.2.1 3) (Int32.toNatClampNeg 0) (Int32.toNatClampNeg 0) (Int32.toNatClampNeg r_1)))), ((a0 5), .inl (q 0, 40, .inl (va_cpy (s1.2.1 4) (s0.2.1 4) (Int32.toNatClampNeg 0) (Int32.toNatClampNeg 0) (Int32.toNatClampNeg r_1)))), ((a0 6), .inl (q 0, 40, .inl (va_cpy (s1.2.1 5) (s0.2.1 5) (Int32.toNatClampNeg 0) (Int32.toNatClampNeg 0) (Int32.toNatClampNeg r_1)))), ((a0 7), .inl (q 0, 40, .inl (s0.2.1 6))), ((a0 8), .inl (q 0, 40, .inl (s0.2.1 7))), ((a0 9), .inl (q 0, 40, .inl (s0.2.1 8))), ((a0 10), .inl (q 0, 40, .inl (s0.2.1 9))), ((a0 11), .inl (q 1, 40, .inr (.inl s0.2.2.1))), ((a0 12), .inl (q 0, s0.2.2.2.1, .inl s0.2.2.2.2)), ((a1 0), .inr (0, [.int (s1.1 0), .int (s1.1 1), .int (s1.1 2), .int (s1.1 3), .int (s1.1 4), .int (s1.1 5), .ref (a1 1), .ref (a1 2), .ref (a1 3), .ref (a1 4), .ref (a1 5), .ref (a1 6), .ref (a1 7), .ref (a1 8), .ref (a1 9), .ref (a1 10), .ref (a1 11), .ref (a1 12)])), ((a1 1), .inl (q 0, 4, .inl (s1.2.1 0))), ((a1 2), .inl (q 0, 4, .inl (s1.2.1 1))), ((a1 3), .inl (q 0, 160, .inl (s1.2.1 2))), ((a1 4), .inl (q 0, 40, .inl (s1.2.1 3))), ((a1 5), .inl (q 0, 40, .inl (s1.2.1 4))), ((a1 6), .inl (q 0, 40, .inl (s1.2.1 5))), ((a1 7), .inl (q 0, 40, .inl (s1.2.1 6))), ((a1 8), .inl (q 0, 40, .inl (s1.2.1 7))), ((a1 9), .inl (q 0, 40, .inl (s1.2.1 8))), ((a1 10), .inl (q 0, 40, .inl (s1.2.1 9))), ((a1 11), .inl (q 1, 40, .inr (.inl s1.2.2.1))), ((a1 12), .inl (q 0, s1.2.2.2.1, .inl s1.2.2.2.2))] H := hP
  have hD : va_D _ [((a0 0), .inr (0, [.int (s1.1 0), .int (s1.1 1), .int (s1.1 2), .int (s1.1 3), .int (s1.1 4), .int (s1.1 5), .ref (a0 1), .ref (a0 2), .ref (a0 3), .ref (a0 4), .ref (a0 5), .ref (a0 6), .ref (a0 7), .ref (a0 8), .ref (a0 9), .ref (a0 10), .ref (a0 11), .ref (a0 12)])), ((a0 1), .inl (q 0, 4, .inl (va_cpy (s1.2.1 0) (s0.2.1 0) (Int32.toNatClampNeg 0) (Int32.toNatClampNeg 0) (Int32.toNatClampNeg 4)))), ((a0 2), .inl (q 0, 4, .inl (va_cpy (s1.2.1 1) (s0.2.1 1) (Int32.toNatClampNeg 0) (Int32.toNatClampNeg 0) (Int32.toNatClampNeg 4)))), ((a0 3), .inl (q 0, 160, .inl (va_cpy (s1.2.1 2) (s0.2.1 2) (Int32.toNatClampNeg 0) (Int32.toNatClampNeg 0) (Int32.toNatClampNeg 160)))), ((a0 4), .inl (q 0, 40, .inl (va_cpy (s1.2.1 3) (s0.2.1 3) (Int32.toNatClampNeg 0) (Int32.toNatClampNeg 0) (Int32.toNatClampNeg r_1)))), ((a0 5), .inl (q 0, 40, .inl (va_cpy (s1.2.1 4) (s0.2.1 4) (Int32.toNatClampNeg 0) (Int32.toNatClampNeg 0) (Int32.toNatClampNeg r_1)))), ((a0 6), .inl (q 0, 40, .inl (va_cpy (s1.2.1 5) (s0.2.1 5) (Int32.toNatClampNeg 0) (Int32.toNatClampNeg 0) (Int32.toNatClampNeg r_1)))), ((a0 7), .inl (q 0, 40, .inl (s0.2.1 6))), ((a0 8), .inl (q 0, 40, .inl (s0.2.1 7))), ((a0 9), .inl (q 0, 40, .inl (s0.2.1 8))), ((a0 10), .inl (q 0, 40, .inl (s0.2.1 9))), ((a0 11), .inl (q 1, 40, .inr (.inl s0.2.2.1))), ((a0 12), .inl (q 0, s0.2.2.2.1, .inl s0.2.2.2.2)), ((a1 0), .inr (0, [.int (s1.1 0), .int (s1.1 1), .int (s1.1 2), .int (s1.1 3), .int (s1.1 4), .int (s1.1 5), .ref (a1 1), .ref (a1 2), .ref (a1 3), .ref (a1 4), .ref (a1 5), .ref (a1 6), .ref (a1 7), .ref (a1 8), .ref (a1 9), .ref (a1 10), .ref (a1 11), .ref (a1 12)])), ((a1 1), .inl (q 0, 4, .inl (s1.2.1 0))), ((a1 2), .inl (q 0, 4, .inl (s1.2.1 1))), ((a1 3), .inl (q 0, 160, .inl (s1.2.1 2))), ((a1 4), .inl (q 0, 40, .inl (s1.2.1 3))), ((a1 5), .inl (q 0, 40, .inl (s1.2.1 4))), ((a1 6), .inl (q 0, 40, .inl (s1.2.1 5))), ((a1 7), .inl (q 0, 40, .inl (s1.2.1 6))), ((a1 8), .inl (q 0, 40, .inl (s1.2.1 7))), ((a1 9), .inl (q 0, 40, .inl (s1.2.1 8))), ((a1 10), .inl (q 0, 40, .inl (s1.2.1 9))), ((a1 11), .inl (q 1, 40, .inr (.inl s1.2.2.1))), ((a1 12), .inl (q 0, s1.2.2.2.1, .inl s1.2.2.2.2))] := hD
  refine lv_aload_n hx hb dX0_copyAllButLog_139 rfl (lv_at hl 2 rfl) ?_
  refine fl_get (C := RX0) (T := TX0) (N := 18) (ci := 0) (v := .ref (a1 7)) hx hb ht in_X0 hown hK hP 13 rfl rfl 12 (by decide) mw_198 rfl dX0_copyAllButLog_140 ?_
  refine lv_iconst (v := 0) hx hb dX0_copyAllButLog_143 (by decide) ?_
  refine lv_aload_n hx hb dX0_copyAllButLog_144 rfl (lv_at hl 1 rfl) ?_
  refine fl_get (C := RX0) (T := TX0) (N := 18) (ci := 0) (v := .ref (a0 7)) hx hb ht in_X0 hown hK hP 0 rfl rfl 12 (by decide) mw_198 rfl dX0_copyAllButLog_145 ?_
  refine lv_iconst (v := 0) hx hb dX0_copyAllButLog_148 (by decide) ?_
  refine lv_iload_n hx hb dX0_copyAllButLog_149 rfl (lv_at hl 0 rfl) ?_
  obtain ⟨g_12, h⟩ := h
  obtain ⟨g_13, h⟩ := h
  obtain ⟨g_14, h⟩ := h
  refine va_copyi (ty := .int) hx hb (hml.trans hl.1.symm) hown (ht _ mw_594) (ht _ mw_596) (ht _ mw_595) (ht _ mw_111) hK hP hD hS 20 7 0 0 rfl rfl rfl rfl rfl (by decide) (by decide) g_12 g_13 g_14 (fun _ _ => rfl) (Nat.le_of_ble_eq_true rfl) (by decide) dX0_copyAllButLog_150 (fun H locs hP hD hS => ?_)
  have hP : va_P D vwCl [((a0 0), .inr (0, [.int (s1.1 0), .int (s1.1 1), .int (s1.1 2), .int (s1.1 3), .int (s1.1 4), .int (s1.1 5), .ref (a0 1), .ref (a0 2), .ref (a0 3), .ref (a0 4), .ref (a0 5), .ref (a0 6), .ref (a0 7), .ref (a0 8), .ref (a0 9), .ref (a0 10), .ref (a0 11), .ref (a0 12)])), ((a0 1), .inl (q 0, 4, .inl (va_cpy (s1.2.1 0) (s0.2.1 0) (Int32.toNatClampNeg 0) (Int32.toNatClampNeg 0) (Int32.toNatClampNeg 4)))), ((a0 2), .inl (q 0, 4, .inl (va_cpy (s1.2.1 1) (s0.2.1 1) (Int32.toNatClampNeg 0) (Int32.toNatClampNeg 0) (Int32.toNatClampNeg 4)))), ((a0 3), .inl (q 0, 160, .inl (va_cpy (s1.2.1 2) (s0.2.1 2) (Int32.toNatClampNeg 0) (Int32.toNatClampNeg 0) (Int32.toNatClampNeg 160)))), ((a0 4), .inl (q 0, 40, .inl (va_cpy (s1.2.1 3) (s0.2.1 3) (Int32.toNatClampNeg 0) (Int32.toNatClampNeg 0) (Int32.toNatClampNeg r_1)))), ((a0 5), .inl (q 0, 40, .inl (va_cpy (s1.2.1 4) (s0.2.1 4) (Int32.toNatClampNeg 0) (Int32.toNatClampNeg 0) (Int32.toNatClampNeg r_1)))), ((a0 6), .inl (q 0, 40, .inl (va_cpy (s1.2.1 5) (s0.2.1 5) (Int32.toNatClampNeg 0) (Int32.toNatClampNeg 0) (Int32.toNatClampNeg r_1)))), ((a0 7), .inl (q 0, 40, .inl (va_cpy (s1.2.1 6) (s0.2.1 6) (Int32.toNatClampNeg 0) (Int32.toNatClampNeg 0) (Int32.toNatClampNeg r_1)))), ((a0 8), .inl (q 0, 40, .inl (s0.2.1 7))), ((a0 9), .inl (q 0, 40, .inl (s0.2.1 8))), ((a0 10), .inl (q 0, 40, .inl (s0.2.1 9))), ((a0 11), .inl (q 1, 40, .inr (.inl s0.2.2.1))), ((a0 12), .inl (q 0, s0.2.2.2.1, .inl s0.2.2.2.2)), ((a1 0), .inr (0, [.int (s1.1 0), .int (s1.1 1), .int (s1.1 2), .int (s1.1 3), .int (s1.1 4), .int (s1.1 5), .ref (a1 1), .ref (a1 2), .ref (a1 3), .ref (a1 4), .ref (a1 5), .ref (a1 6), .ref (a1 7), .ref (a1 8), .ref (a1 9), .ref (a1 10), .ref (a1 11), .ref (a1 12)])), ((a1 1), .inl (q 0, 4, .inl (s1.2.1 0))), ((a1 2), .inl (q 0, 4, .inl (s1.2.1 1))), ((a1 3), .inl (q 0, 160, .inl (s1.2.1 2))), ((a1 4), .inl (q 0, 40, .inl (s1.2.1 3))), ((a1 5), .inl (q 0, 40, .inl (s1.2.1 4))), ((a1 6), .inl (q 0, 40, .inl (s1.2.1 5))), ((a1 7), .inl (q 0, 40, .inl (s1.2.1 6))), ((a1 8), .inl (q 0, 40, .inl (s1.2.1 7))), ((a1 9), .inl (q 0, 40, .inl (s1.2.1 8))), ((a1 10), .inl (q 0, 40, .inl (s1.2.1 9))), ((a1 11), .inl (q 1, 40, .inr (.inl s1.2.2.1))), ((a1 12), .inl (q 0, s1.2.2.2.1, .inl s1.2.2.2.2))] H := hP
  have hD : va_D _ [((a0 0), .inr (0, [.int (s1.1 0), .int (s1.1 1), .int (s1.1 2), .int (s1.1 3), .int (s1.1 4), .int (s1.1 5), .ref (a0 1), .ref (a0 2), .ref (a0 3), .ref (a0 4), .ref (a0 5), .ref (a0 6), .ref (a0 7), .ref (a0 8), .ref (a0 9), .ref (a0 10), .ref (a0 11), .ref (a0 12)])), ((a0 1), .inl (q 0, 4, .inl (va_cpy (s1.2.1 0) (s0.2.1 0) (Int32.toNatClampNeg 0) (Int32.toNatClampNeg 0) (Int32.toNatClampNeg 4)))), ((a0 2), .inl (q 0, 4, .inl (va_cpy (s1.2.1 1) (s0.2.1 1) (Int32.toNatClampNeg 0) (Int32.toNatClampNeg 0) (Int32.toNatClampNeg 4)))), ((a0 3), .inl (q 0, 160, .inl (va_cpy (s1.2.1 2) (s0.2.1 2) (Int32.toNatClampNeg 0) (Int32.toNatClampNeg 0) (Int32.toNatClampNeg 160)))), ((a0 4), .inl (q 0, 40, .inl (va_cpy (s1.2.1 3) (s0.2.1 3) (Int32.toNatClampNeg 0) (Int32.toNatClampNeg 0) (Int32.toNatClampNeg r_1)))), ((a0 5), .inl (q 0, 40, .inl (va_cpy (s1.2.1 4) (s0.2.1 4) (Int32.toNatClampNeg 0) (Int32.toNatClampNeg 0) (Int32.toNatClampNeg r_1)))), ((a0 6), .inl (q 0, 40, .inl (va_cpy (s1.2.1 5) (s0.2.1 5) (Int32.toNatClampNeg 0) (Int32.toNatClampNeg 0) (Int32.toNatClampNeg r_1)))), ((a0 7), .inl (q 0, 40, .inl (va_cpy (s1.2.1 6) (s0.2.1 6) (Int32.toNatClampNeg 0) (Int32.toNatClampNeg 0) (Int32.toNatClampNeg r_1)))), ((a0 8), .inl (q 0, 40, .inl (s0.2.1 7))), ((a0 9), .inl (q 0, 40, .inl (s0.2.1 8))), ((a0 10), .inl (q 0, 40, .inl (s0.2.1 9))), ((a0 11), .inl (q 1, 40, .inr (.inl s0.2.2.1))), ((a0 12), .inl (q 0, s0.2.2.2.1, .inl s0.2.2.2.2)), ((a1 0), .inr (0, [.int (s1.1 0), .int (s1.1 1), .int (s1.1 2), .int (s1.1 3), .int (s1.1 4), .int (s1.1 5), .ref (a1 1), .ref (a1 2), .ref (a1 3), .ref (a1 4), .ref (a1 5), .ref (a1 6), .ref (a1 7), .ref (a1 8), .ref (a1 9), .ref (a1 10), .ref (a1 11), .ref (a1 12)])), ((a1 1), .inl (q 0, 4, .inl (s1.2.1 0))), ((a1 2), .inl (q 0, 4, .inl (s1.2.1 1))), ((a1 3), .inl (q 0, 160, .inl (s1.2.1 2))), ((a1 4), .inl (q 0, 40, .inl (s1.2.1 3))), ((a1 5), .inl (q 0, 40, .inl (s1.2.1 4))), ((a1 6), .inl (q 0, 40, .inl (s1.2.1 5))), ((a1 7), .inl (q 0, 40, .inl (s1.2.1 6))), ((a1 8), .inl (q 0, 40, .inl (s1.2.1 7))), ((a1 9), .inl (q 0, 40, .inl (s1.2.1 8))), ((a1 10), .inl (q 0, 40, .inl (s1.2.1 9))), ((a1 11), .inl (q 1, 40, .inr (.inl s1.2.2.1))), ((a1 12), .inl (q 0, s1.2.2.2.1, .inl s1.2.2.2.2))] := hD
  refine lv_aload_n hx hb dX0_copyAllButLog_153 rfl (lv_at hl 2 rfl) ?_
  refine fl_get (C := RX0) (T := TX0) (N := 18) (ci := 0) (v := .ref (a1 8)) hx hb ht in_X0 hown hK hP 13 rfl rfl 13 (by decide) mw_200 rfl dX0_copyAllButLog_154 ?_
  refine lv_iconst (v := 0) hx hb dX0_copyAllButLog_157 (by decide) ?_
  refine lv_aload_n hx hb dX0_copyAllButLog_158 rfl (lv_at hl 1 rfl) ?_
  refine fl_get (C := RX0) (T := TX0) (N := 18) (ci := 0) (v := .ref (a0 8)) hx hb ht in_X0 hown hK hP 0 rfl rfl 13 (by decide) mw_200 rfl dX0_copyAllButLog_159 ?_
  refine lv_iconst (v := 0) hx hb dX0_copyAllButLog_162 (by decide) ?_
  refine lv_iload_n hx hb dX0_copyAllButLog_163 rfl (lv_at hl 0 rfl) ?_
  obtain ⟨g_15, h⟩ := h
  obtain ⟨g_16, h⟩ := h
  obtain ⟨g_17, h⟩ := h
  refine va_copyi (ty := .int) hx hb (hml.trans hl.1.symm) hown (ht _ mw_594) (ht _ mw_596) (ht _ mw_595) (ht _ mw_111) hK hP hD hS 21 8 0 0 rfl rfl rfl rfl rfl (by decide) (by decide) g_15 g_16 g_17 (fun _ _ => rfl) (Nat.le_of_ble_eq_true rfl) (by decide) dX0_copyAllButLog_164 (fun H locs hP hD hS => ?_)
  have hP : va_P D vwCl [((a0 0), .inr (0, [.int (s1.1 0), .int (s1.1 1), .int (s1.1 2), .int (s1.1 3), .int (s1.1 4), .int (s1.1 5), .ref (a0 1), .ref (a0 2), .ref (a0 3), .ref (a0 4), .ref (a0 5), .ref (a0 6), .ref (a0 7), .ref (a0 8), .ref (a0 9), .ref (a0 10), .ref (a0 11), .ref (a0 12)])), ((a0 1), .inl (q 0, 4, .inl (va_cpy (s1.2.1 0) (s0.2.1 0) (Int32.toNatClampNeg 0) (Int32.toNatClampNeg 0) (Int32.toNatClampNeg 4)))), ((a0 2), .inl (q 0, 4, .inl (va_cpy (s1.2.1 1) (s0.2.1 1) (Int32.toNatClampNeg 0) (Int32.toNatClampNeg 0) (Int32.toNatClampNeg 4)))), ((a0 3), .inl (q 0, 160, .inl (va_cpy (s1.2.1 2) (s0.2.1 2) (Int32.toNatClampNeg 0) (Int32.toNatClampNeg 0) (Int32.toNatClampNeg 160)))), ((a0 4), .inl (q 0, 40, .inl (va_cpy (s1.2.1 3) (s0.2.1 3) (Int32.toNatClampNeg 0) (Int32.toNatClampNeg 0) (Int32.toNatClampNeg r_1)))), ((a0 5), .inl (q 0, 40, .inl (va_cpy (s1.2.1 4) (s0.2.1 4) (Int32.toNatClampNeg 0) (Int32.toNatClampNeg 0) (Int32.toNatClampNeg r_1)))), ((a0 6), .inl (q 0, 40, .inl (va_cpy (s1.2.1 5) (s0.2.1 5) (Int32.toNatClampNeg 0) (Int32.toNatClampNeg 0) (Int32.toNatClampNeg r_1)))), ((a0 7), .inl (q 0, 40, .inl (va_cpy (s1.2.1 6) (s0.2.1 6) (Int32.toNatClampNeg 0) (Int32.toNatClampNeg 0) (Int32.toNatClampNeg r_1)))), ((a0 8), .inl (q 0, 40, .inl (va_cpy (s1.2.1 7) (s0.2.1 7) (Int32.toNatClampNeg 0) (Int32.toNatClampNeg 0) (Int32.toNatClampNeg r_1)))), ((a0 9), .inl (q 0, 40, .inl (s0.2.1 8))), ((a0 10), .inl (q 0, 40, .inl (s0.2.1 9))), ((a0 11), .inl (q 1, 40, .inr (.inl s0.2.2.1))), ((a0 12), .inl (q 0, s0.2.2.2.1, .inl s0.2.2.2.2)), ((a1 0), .inr (0, [.int (s1.1 0), .int (s1.1 1), .int (s1.1 2), .int (s1.1 3), .int (s1.1 4), .int (s1.1 5), .ref (a1 1), .ref (a1 2), .ref (a1 3), .ref (a1 4), .ref (a1 5), .ref (a1 6), .ref (a1 7), .ref (a1 8), .ref (a1 9), .ref (a1 10), .ref (a1 11), .ref (a1 12)])), ((a1 1), .inl (q 0, 4, .inl (s1.2.1 0))), ((a1 2), .inl (q 0, 4, .inl (s1.2.1 1))), ((a1 3), .inl (q 0, 160, .inl (s1.2.1 2))), ((a1 4), .inl (q 0, 40, .inl (s1.2.1 3))), ((a1 5), .inl (q 0, 40, .inl (s1.2.1 4))), ((a1 6), .inl (q 0, 40, .inl (s1.2.1 5))), ((a1 7), .inl (q 0, 40, .inl (s1.2.1 6))), ((a1 8), .inl (q 0, 40, .inl (s1.2.1 7))), ((a1 9), .inl (q 0, 40, .inl (s1.2.1 8))), ((a1 10), .inl (q 0, 40, .inl (s1.2.1 9))), ((a1 11), .inl (q 1, 40, .inr (.inl s1.2.2.1))), ((a1 12), .inl (q 0, s1.2.2.2.1, .inl s1.2.2.2.2))] H := hP
  have hD : va_D _ [((a0 0), .inr (0, [.int (s1.1 0), .int (s1.1 1), .int (s1.1 2), .int (s1.1 3), .int (s1.1 4), .int (s1.1 5), .ref (a0 1), .ref (a0 2), .ref (a0 3), .ref (a0 4), .ref (a0 5), .ref (a0 6), .ref (a0 7), .ref (a0 8), .ref (a0 9), .ref (a0 10), .ref (a0 11), .ref (a0 12)])), ((a0 1), .inl (q 0, 4, .inl (va_cpy (s1.2.1 0) (s0.2.1 0) (Int32.toNatClampNeg 0) (Int32.toNatClampNeg 0) (Int32.toNatClampNeg 4)))), ((a0 2), .inl (q 0, 4, .inl (va_cpy (s1.2.1 1) (s0.2.1 1) (Int32.toNatClampNeg 0) (Int32.toNatClampNeg 0) (Int32.toNatClampNeg 4)))), ((a0 3), .inl (q 0, 160, .inl (va_cpy (s1.2.1 2) (s0.2.1 2) (Int32.toNatClampNeg 0) (Int32.toNatClampNeg 0) (Int32.toNatClampNeg 160)))), ((a0 4), .inl (q 0, 40, .inl (va_cpy (s1.2.1 3) (s0.2.1 3) (Int32.toNatClampNeg 0) (Int32.toNatClampNeg 0) (Int32.toNatClampNeg r_1)))), ((a0 5), .inl (q 0, 40, .inl (va_cpy (s1.2.1 4) (s0.2.1 4) (Int32.toNatClampNeg 0) (Int32.toNatClampNeg 0) (Int32.toNatClampNeg r_1)))), ((a0 6), .inl (q 0, 40, .inl (va_cpy (s1.2.1 5) (s0.2.1 5) (Int32.toNatClampNeg 0) (Int32.toNatClampNeg 0) (Int32.toNatClampNeg r_1)))), ((a0 7), .inl (q 0, 40, .inl (va_cpy (s1.2.1 6) (s0.2.1 6) (Int32.toNatClampNeg 0) (Int32.toNatClampNeg 0) (Int32.toNatClampNeg r_1)))), ((a0 8), .inl (q 0, 40, .inl (va_cpy (s1.2.1 7) (s0.2.1 7) (Int32.toNatClampNeg 0) (Int32.toNatClampNeg 0) (Int32.toNatClampNeg r_1)))), ((a0 9), .inl (q 0, 40, .inl (s0.2.1 8))), ((a0 10), .inl (q 0, 40, .inl (s0.2.1 9))), ((a0 11), .inl (q 1, 40, .inr (.inl s0.2.2.1))), ((a0 12), .inl (q 0, s0.2.2.2.1, .inl s0.2.2.2.2)), ((a1 0), .inr (0, [.int (s1.1 0), .int (s1.1 1), .int (s1.1 2), .int (s1.1 3), .int (s1.1 4), .int (s1.1 5), .ref (a1 1), .ref (a1 2), .ref (a1 3), .ref (a1 4), .ref (a1 5), .ref (a1 6), .ref (a1 7), .ref (a1 8), .ref (a1 9), .ref (a1 10), .ref (a1 11), .ref (a1 12)])), ((a1 1), .inl (q 0, 4, .inl (s1.2.1 0))), ((a1 2), .inl (q 0, 4, .inl (s1.2.1 1))), ((a1 3), .inl (q 0, 160, .inl (s1.2.1 2))), ((a1 4), .inl (q 0, 40, .inl (s1.2.1 3))), ((a1 5), .inl (q 0, 40, .inl (s1.2.1 4))), ((a1 6), .inl (q 0, 40, .inl (s1.2.1 5))), ((a1 7), .inl (q 0, 40, .inl (s1.2.1 6))), ((a1 8), .inl (q 0, 40, .inl (s1.2.1 7))), ((a1 9), .inl (q 0, 40, .inl (s1.2.1 8))), ((a1 10), .inl (q 0, 40, .inl (s1.2.1 9))), ((a1 11), .inl (q 1, 40, .inr (.inl s1.2.2.1))), ((a1 12), .inl (q 0, s1.2.2.2.1, .inl s1.2.2.2.2))] := hD
  refine lv_aload_n hx hb dX0_copyAllButLog_167 rfl (lv_at hl 2 rfl) ?_
  refine fl_get (C := RX0) (T := TX0) (N := 18) (ci := 0) (v := .ref (a1 9)) hx hb ht in_X0 hown hK hP 13 rfl rfl 14 (by decide) mw_202 rfl dX0_copyAllButLog_168 ?_
  refine lv_iconst (v := 0) hx hb dX0_copyAllButLog_171 (by decide) ?_
  refine lv_aload_n hx hb dX0_copyAllButLog_172 rfl (lv_at hl 1 rfl) ?_
  refine fl_get (C := RX0) (T := TX0) (N := 18) (ci := 0) (v := .ref (a0 9)) hx hb ht in_X0 hown hK hP 0 rfl rfl 14 (by decide) mw_202 rfl dX0_copyAllButLog_173 ?_
  refine lv_iconst (v := 0) hx hb dX0_copyAllButLog_176 (by decide) ?_
  refine lv_iload_n hx hb dX0_copyAllButLog_177 rfl (lv_at hl 0 rfl) ?_
  obtain ⟨g_18, h⟩ := h
  obtain ⟨g_19, h⟩ := h
  obtain ⟨g_20, h⟩ := h
  refine va_copyi (ty := .int) hx hb (hml.trans hl.1.symm) hown (ht _ mw_594) (ht _ mw_596) (ht _ mw_595) (ht _ mw_111) hK hP hD hS 22 9 0 0 rfl rfl rfl rfl rfl (by decide) (by decide) g_18 g_19 g_20 (fun _ _ => rfl) (Nat.le_of_ble_eq_true rfl) (by decide) dX0_copyAllButLog_178 (fun H locs hP hD hS => ?_)
  have hP : va_P D vwCl [((a0 0), .inr (0, [.int (s1.1 0), .int (s1.1 1), .int (s1.1 2), .int (s1.1 3), .int (s1.1 4), .int (s1.1 5), .ref (a0 1), .ref (a0 2), .ref (a0 3), .ref (a0 4), .ref (a0 5), .ref (a0 6), .ref (a0 7), .ref (a0 8), .ref (a0 9), .ref (a0 10), .ref (a0 11), .ref (a0 12)])), ((a0 1), .inl (q 0, 4, .inl (va_cpy (s1.2.1 0) (s0.2.1 0) (Int32.toNatClampNeg 0) (Int32.toNatClampNeg 0) (Int32.toNatClampNeg 4)))), ((a0 2), .inl (q 0, 4, .inl (va_cpy (s1.2.1 1) (s0.2.1 1) (Int32.toNatClampNeg 0) (Int32.toNatClampNeg 0) (Int32.toNatClampNeg 4)))), ((a0 3), .inl (q 0, 160, .inl (va_cpy (s1.2.1 2) (s0.2.1 2) (Int32.toNatClampNeg 0) (Int32.toNatClampNeg 0) (Int32.toNatClampNeg 160)))), ((a0 4), .inl (q 0, 40, .inl (va_cpy (s1.2.1 3) (s0.2.1 3) (Int32.toNatClampNeg 0) (Int32.toNatClampNeg 0) (Int32.toNatClampNeg r_1)))), ((a0 5), .inl (q 0, 40, .inl (va_cpy (s1.2.1 4) (s0.2.1 4) (Int32.toNatClampNeg 0) (Int32.toNatClampNeg 0) (Int32.toNatClampNeg r_1)))), ((a0 6), .inl (q 0, 40, .inl (va_cpy (s1.2.1 5) (s0.2.1 5) (Int32.toNatClampNeg 0) (Int32.toNatClampNeg 0) (Int32.toNatClampNeg r_1)))), ((a0 7), .inl (q 0, 40, .inl (va_cpy (s1.2.1 6) (s0.2.1 6) (Int32.toNatClampNeg 0) (Int32.toNatClampNeg 0) (Int32.toNatClampNeg r_1)))), ((a0 8), .inl (q 0, 40, .inl (va_cpy (s1.2.1 7) (s0.2.1 7) (Int32.toNatClampNeg 0) (Int32.toNatClampNeg 0) (Int32.toNatClampNeg r_1)))), ((a0 9), .inl (q 0, 40, .inl (va_cpy (s1.2.1 8) (s0.2.1 8) (Int32.toNatClampNeg 0) (Int32.toNatClampNeg 0) (Int32.toNatClampNeg r_1)))), ((a0 10), .inl (q 0, 40, .inl (s0.2.1 9))), ((a0 11), .inl (q 1, 40, .inr (.inl s0.2.2.1))), ((a0 12), .inl (q 0, s0.2.2.2.1, .inl s0.2.2.2.2)), ((a1 0), .inr (0, [.int (s1.1 0), .int (s1.1 1), .int (s1.1 2), .int (s1.1 3), .int (s1.1 4), .int (s1.1 5), .ref (a1 1), .ref (a1 2), .ref (a1 3), .ref (a1 4), .ref (a1 5), .ref (a1 6), .ref (a1 7), .ref (a1 8), .ref (a1 9), .ref (a1 10), .ref (a1 11), .ref (a1 12)])), ((a1 1), .inl (q 0, 4, .inl (s1.2.1 0))), ((a1 2), .inl (q 0, 4, .inl (s1.2.1 1))), ((a1 3), .inl (q 0, 160, .inl (s1.2.1 2))), ((a1 4), .inl (q 0, 40, .inl (s1.2.1 3))), ((a1 5), .inl (q 0, 40, .inl (s1.2.1 4))), ((a1 6), .inl (q 0, 40, .inl (s1.2.1 5))), ((a1 7), .inl (q 0, 40, .inl (s1.2.1 6))), ((a1 8), .inl (q 0, 40, .inl (s1.2.1 7))), ((a1 9), .inl (q 0, 40, .inl (s1.2.1 8))), ((a1 10), .inl (q 0, 40, .inl (s1.2.1 9))), ((a1 11), .inl (q 1, 40, .inr (.inl s1.2.2.1))), ((a1 12), .inl (q 0, s1.2.2.2.1, .inl s1.2.2.2.2))] H := hP
  have hD : va_D _ [((a0 0), .inr (0, [.int (s1.1 0), .int (s1.1 1), .int (s1.1 2), .int (s1.1 3), .int (s1.1 4), .int (s1.1 5), .ref (a0 1), .ref (a0 2), .ref (a0 3), .ref (a0 4), .ref (a0 5), .ref (a0 6), .ref (a0 7), .ref (a0 8), .ref (a0 9), .ref (a0 10), .ref (a0 11), .ref (a0 12)])), ((a0 1), .inl (q 0, 4, .inl (va_cpy (s1.2.1 0) (s0.2.1 0) (Int32.toNatClampNeg 0) (Int32.toNatClampNeg 0) (Int32.toNatClampNeg 4)))), ((a0 2), .inl (q 0, 4, .inl (va_cpy (s1.2.1 1) (s0.2.1 1) (Int32.toNatClampNeg 0) (Int32.toNatClampNeg 0) (Int32.toNatClampNeg 4)))), ((a0 3), .inl (q 0, 160, .inl (va_cpy (s1.2.1 2) (s0.2.1 2) (Int32.toNatClampNeg 0) (Int32.toNatClampNeg 0) (Int32.toNatClampNeg 160)))), ((a0 4), .inl (q 0, 40, .inl (va_cpy (s1.2.1 3) (s0.2.1 3) (Int32.toNatClampNeg 0) (Int32.toNatClampNeg 0) (Int32.toNatClampNeg r_1)))), ((a0 5), .inl (q 0, 40, .inl (va_cpy (s1.2.1 4) (s0.2.1 4) (Int32.toNatClampNeg 0) (Int32.toNatClampNeg 0) (Int32.toNatClampNeg r_1)))), ((a0 6), .inl (q 0, 40, .inl (va_cpy (s1.2.1 5) (s0.2.1 5) (Int32.toNatClampNeg 0) (Int32.toNatClampNeg 0) (Int32.toNatClampNeg r_1)))), ((a0 7), .inl (q 0, 40, .inl (va_cpy (s1.2.1 6) (s0.2.1 6) (Int32.toNatClampNeg 0) (Int32.toNatClampNeg 0) (Int32.toNatClampNeg r_1)))), ((a0 8), .inl (q 0, 40, .inl (va_cpy (s1.2.1 7) (s0.2.1 7) (Int32.toNatClampNeg 0) (Int32.toNatClampNeg 0) (Int32.toNatClampNeg r_1)))), ((a0 9), .inl (q 0, 40, .inl (va_cpy (s1.2.1 8) (s0.2.1 8) (Int32.toNatClampNeg 0) (Int32.toNatClampNeg 0) (Int32.toNatClampNeg r_1)))), ((a0 10), .inl (q 0, 40, .inl (s0.2.1 9))), ((a0 11), .inl (q 1, 40, .inr (.inl s0.2.2.1))), ((a0 12), .inl (q 0, s0.2.2.2.1, .inl s0.2.2.2.2)), ((a1 0), .inr (0, [.int (s1.1 0), .int (s1.1 1), .int (s1.1 2), .int (s1.1 3), .int (s1.1 4), .int (s1.1 5), .ref (a1 1), .ref (a1 2), .ref (a1 3), .ref (a1 4), .ref (a1 5), .ref (a1 6), .ref (a1 7), .ref (a1 8), .ref (a1 9), .ref (a1 10), .ref (a1 11), .ref (a1 12)])), ((a1 1), .inl (q 0, 4, .inl (s1.2.1 0))), ((a1 2), .inl (q 0, 4, .inl (s1.2.1 1))), ((a1 3), .inl (q 0, 160, .inl (s1.2.1 2))), ((a1 4), .inl (q 0, 40, .inl (s1.2.1 3))), ((a1 5), .inl (q 0, 40, .inl (s1.2.1 4))), ((a1 6), .inl (q 0, 40, .inl (s1.2.1 5))), ((a1 7), .inl (q 0, 40, .inl (s1.2.1 6))), ((a1 8), .inl (q 0, 40, .inl (s1.2.1 7))), ((a1 9), .inl (q 0, 40, .inl (s1.2.1 8))), ((a1 10), .inl (q 0, 40, .inl (s1.2.1 9))), ((a1 11), .inl (q 1, 40, .inr (.inl s1.2.2.1))), ((a1 12), .inl (q 0, s1.2.2.2.1, .inl s1.2.2.2.2))] := hD
  refine lv_aload_n hx hb dX0_copyAllButLog_181 rfl (lv_at hl 2 rfl) ?_
  refine fl_get (C := RX0) (T := TX0) (N := 18) (ci := 0) (v := .ref (a1 10)) hx hb ht in_X0 hown hK hP 13 rfl rfl 15 (by decide) mw_204 rfl dX0_copyAllButLog_182 ?_
  refine lv_iconst (v := 0) hx hb dX0_copyAllButLog_185 (by decide) ?_
  refine lv_aload_n hx hb dX0_copyAllButLog_186 rfl (lv_at hl 1 rfl) ?_
  refine fl_get (C := RX0) (T := TX0) (N := 18) (ci := 0) (v := .ref (a0 10)) hx hb ht in_X0 hown hK hP 0 rfl rfl 15 (by decide) mw_204 rfl dX0_copyAllButLog_187 ?_
  refine lv_iconst (v := 0) hx hb dX0_copyAllButLog_190 (by decide) ?_
  refine lv_iload_n hx hb dX0_copyAllButLog_191 rfl (lv_at hl 0 rfl) ?_
  obtain ⟨g_21, h⟩ := h
  obtain ⟨g_22, h⟩ := h
  obtain ⟨g_23, h⟩ := h
  refine va_copyi (ty := .int) hx hb (hml.trans hl.1.symm) hown (ht _ mw_594) (ht _ mw_596) (ht _ mw_595) (ht _ mw_111) hK hP hD hS 23 10 0 0 rfl rfl rfl rfl rfl (by decide) (by decide) g_21 g_22 g_23 (fun _ _ => rfl) (Nat.le_of_ble_eq_true rfl) (by decide) dX0_copyAllButLog_192 (fun H locs hP hD hS => ?_)
  have hP : va_P D vwCl [((a0 0), .inr (0, [.int (s1.1 0), .int (s1.1 1), .int (s1.1 2), .int (s1.1 3), .int (s1.1 4), .int (s1.1 5), .ref (a0 1), .ref (a0 2), .ref (a0 3), .ref (a0 4), .ref (a0 5), .ref (a0 6), .ref (a0 7), .ref (a0 8), .ref (a0 9), .ref (a0 10), .ref (a0 11), .ref (a0 12)])), ((a0 1), .inl (q 0, 4, .inl (va_cpy (s1.2.1 0) (s0.2.1 0) (Int32.toNatClampNeg 0) (Int32.toNatClampNeg 0) (Int32.toNatClampNeg 4)))), ((a0 2), .inl (q 0, 4, .inl (va_cpy (s1.2.1 1) (s0.2.1 1) (Int32.toNatClampNeg 0) (Int32.toNatClampNeg 0) (Int32.toNatClampNeg 4)))), ((a0 3), .inl (q 0, 160, .inl (va_cpy (s1.2.1 2) (s0.2.1 2) (Int32.toNatClampNeg 0) (Int32.toNatClampNeg 0) (Int32.toNatClampNeg 160)))), ((a0 4), .inl (q 0, 40, .inl (va_cpy (s1.2.1 3) (s0.2.1 3) (Int32.toNatClampNeg 0) (Int32.toNatClampNeg 0) (Int32.toNatClampNeg r_1)))), ((a0 5), .inl (q 0, 40, .inl (va_cpy (s1.2.1 4) (s0.2.1 4) (Int32.toNatClampNeg 0) (Int32.toNatClampNeg 0) (Int32.toNatClampNeg r_1)))), ((a0 6), .inl (q 0, 40, .inl (va_cpy (s1.2.1 5) (s0.2.1 5) (Int32.toNatClampNeg 0) (Int32.toNatClampNeg 0) (Int32.toNatClampNeg r_1)))), ((a0 7), .inl (q 0, 40, .inl (va_cpy (s1.2.1 6) (s0.2.1 6) (Int32.toNatClampNeg 0) (Int32.toNatClampNeg 0) (Int32.toNatClampNeg r_1)))), ((a0 8), .inl (q 0, 40, .inl (va_cpy (s1.2.1 7) (s0.2.1 7) (Int32.toNatClampNeg 0) (Int32.toNatClampNeg 0) (Int32.toNatClampNeg r_1)))), ((a0 9), .inl (q 0, 40, .inl (va_cpy (s1.2.1 8) (s0.2.1 8) (Int32.toNatClampNeg 0) (Int32.toNatClampNeg 0) (Int32.toNatClampNeg r_1)))), ((a0 10), .inl (q 0, 40, .inl (va_cpy (s1.2.1 9) (s0.2.1 9) (Int32.toNatClampNeg 0) (Int32.toNatClampNeg 0) (Int32.toNatClampNeg r_1)))), ((a0 11), .inl (q 1, 40, .inr (.inl s0.2.2.1))), ((a0 12), .inl (q 0, s0.2.2.2.1, .inl s0.2.2.2.2)), ((a1 0), .inr (0, [.int (s1.1 0), .int (s1.1 1), .int (s1.1 2), .int (s1.1 3), .int (s1.1 4), .int (s1.1 5), .ref (a1 1), .ref (a1 2), .ref (a1 3), .ref (a1 4), .ref (a1 5), .ref (a1 6), .ref (a1 7), .ref (a1 8), .ref (a1 9), .ref (a1 10), .ref (a1 11), .ref (a1 12)])), ((a1 1), .inl (q 0, 4, .inl (s1.2.1 0))), ((a1 2), .inl (q 0, 4, .inl (s1.2.1 1))), ((a1 3), .inl (q 0, 160, .inl (s1.2.1 2))), ((a1 4), .inl (q 0, 40, .inl (s1.2.1 3))), ((a1 5), .inl (q 0, 40, .inl (s1.2.1 4))), ((a1 6), .inl (q 0, 40, .inl (s1.2.1 5))), ((a1 7), .inl (q 0, 40, .inl (s1.2.1 6))), ((a1 8), .inl (q 0, 40, .inl (s1.2.1 7))), ((a1 9), .inl (q 0, 40, .inl (s1.2.1 8))), ((a1 10), .inl (q 0, 40, .inl (s1.2.1 9))), ((a1 11), .inl (q 1, 40, .inr (.inl s1.2.2.1))), ((a1 12), .inl (q 0, s1.2.2.2.1, .inl s1.2.2.2.2))] H := hP
  have hD : va_D _ [((a0 0), .inr (0, [.int (s1.1 0), .int (s1.1 1), .int (s1.1 2), .int (s1.1 3), .int (s1.1 4), .int (s1.1 5), .ref (a0 1), .ref (a0 2), .ref (a0 3), .ref (a0 4), .ref (a0 5), .ref (a0 6), .ref (a0 7), .ref (a0 8), .ref (a0 9), .ref (a0 10), .ref (a0 11), .ref (a0 12)])), ((a0 1), .inl (q 0, 4, .inl (va_cpy (s1.2.1 0) (s0.2.1 0) (Int32.toNatClampNeg 0) (Int32.toNatClampNeg 0) (Int32.toNatClampNeg 4)))), ((a0 2), .inl (q 0, 4, .inl (va_cpy (s1.2.1 1) (s0.2.1 1) (Int32.toNatClampNeg 0) (Int32.toNatClampNeg 0) (Int32.toNatClampNeg 4)))), ((a0 3), .inl (q 0, 160, .inl (va_cpy (s1.2.1 2) (s0.2.1 2) (Int32.toNatClampNeg 0) (Int32.toNatClampNeg 0) (Int32.toNatClampNeg 160)))), ((a0 4), .inl (q 0, 40, .inl (va_cpy (s1.2.1 3) (s0.2.1 3) (Int32.toNatClampNeg 0) (Int32.toNatClampNeg 0) (Int32.toNatClampNeg r_1)))), ((a0 5), .inl (q 0, 40, .inl (va_cpy (s1.2.1 4) (s0.2.1 4) (Int32.toNatClampNeg 0) (Int32.toNatClampNeg 0) (Int32.toNatClampNeg r_1)))), ((a0 6), .inl (q 0, 40, .inl (va_cpy (s1.2.1 5) (s0.2.1 5) (Int32.toNatClampNeg 0) (Int32.toNatClampNeg 0) (Int32.toNatClampNeg r_1)))), ((a0 7), .inl (q 0, 40, .inl (va_cpy (s1.2.1 6) (s0.2.1 6) (Int32.toNatClampNeg 0) (Int32.toNatClampNeg 0) (Int32.toNatClampNeg r_1)))), ((a0 8), .inl (q 0, 40, .inl (va_cpy (s1.2.1 7) (s0.2.1 7) (Int32.toNatClampNeg 0) (Int32.toNatClampNeg 0) (Int32.toNatClampNeg r_1)))), ((a0 9), .inl (q 0, 40, .inl (va_cpy (s1.2.1 8) (s0.2.1 8) (Int32.toNatClampNeg 0) (Int32.toNatClampNeg 0) (Int32.toNatClampNeg r_1)))), ((a0 10), .inl (q 0, 40, .inl (va_cpy (s1.2.1 9) (s0.2.1 9) (Int32.toNatClampNeg 0) (Int32.toNatClampNeg 0) (Int32.toNatClampNeg r_1)))), ((a0 11), .inl (q 1, 40, .inr (.inl s0.2.2.1))), ((a0 12), .inl (q 0, s0.2.2.2.1, .inl s0.2.2.2.2)), ((a1 0), .inr (0, [.int (s1.1 0), .int (s1.1 1), .int (s1.1 2), .int (s1.1 3), .int (s1.1 4), .int (s1.1 5), .ref (a1 1), .ref (a1 2), .ref (a1 3), .ref (a1 4), .ref (a1 5), .ref (a1 6), .ref (a1 7), .ref (a1 8), .ref (a1 9), .ref (a1 10), .ref (a1 11), .ref (a1 12)])), ((a1 1), .inl (q 0, 4, .inl (s1.2.1 0))), ((a1 2), .inl (q 0, 4, .inl (s1.2.1 1))), ((a1 3), .inl (q 0, 160, .inl (s1.2.1 2))), ((a1 4), .inl (q 0, 40, .inl (s1.2.1 3))), ((a1 5), .inl (q 0, 40, .inl (s1.2.1 4))), ((a1 6), .inl (q 0, 40, .inl (s1.2.1 5))), ((a1 7), .inl (q 0, 40, .inl (s1.2.1 6))), ((a1 8), .inl (q 0, 40, .inl (s1.2.1 7))), ((a1 9), .inl (q 0, 40, .inl (s1.2.1 8))), ((a1 10), .inl (q 0, 40, .inl (s1.2.1 9))), ((a1 11), .inl (q 1, 40, .inr (.inl s1.2.2.1))), ((a1 12), .inl (q 0, s1.2.2.2.1, .inl s1.2.2.2.2))] := hD
  refine lv_aload_n hx hb dX0_copyAllButLog_195 rfl (lv_at hl 2 rfl) ?_
  refine fl_get (C := RX0) (T := TX0) (N := 18) (ci := 0) (v := .ref (a1 11)) hx hb ht in_X0 hown hK hP 13 rfl rfl 16 (by decide) mw_206 rfl dX0_copyAllButLog_196 ?_
  refine lv_iconst (v := 0) hx hb dX0_copyAllButLog_199 (by decide) ?_
  refine lv_aload_n hx hb dX0_copyAllButLog_200 rfl (lv_at hl 1 rfl) ?_
  refine fl_get (C := RX0) (T := TX0) (N := 18) (ci := 0) (v := .ref (a0 11)) hx hb ht in_X0 hown hK hP 0 rfl rfl 16 (by decide) mw_206 rfl dX0_copyAllButLog_201 ?_
  refine lv_iconst (v := 0) hx hb dX0_copyAllButLog_204 (by decide) ?_
  refine lv_iload_n hx hb dX0_copyAllButLog_205 rfl (lv_at hl 0 rfl) ?_
  obtain ⟨g_24, h⟩ := h
  obtain ⟨g_25, h⟩ := h
  obtain ⟨g_26, h⟩ := h
  refine va_copyl (ty := .long) hx hb (hml.trans hl.1.symm) hown (ht _ mw_594) (ht _ mw_596) (ht _ mw_595) (ht _ mw_111) hK hP hD hS 24 11 1 1 rfl rfl rfl rfl rfl (by decide) (by decide) g_24 g_25 g_26 (fun _ _ => rfl) (Nat.le_of_ble_eq_true rfl) (by decide) dX0_copyAllButLog_206 (fun H locs hP hD hS => ?_)
  have hP : va_P D vwCl [((a0 0), .inr (0, [.int (s1.1 0), .int (s1.1 1), .int (s1.1 2), .int (s1.1 3), .int (s1.1 4), .int (s1.1 5), .ref (a0 1), .ref (a0 2), .ref (a0 3), .ref (a0 4), .ref (a0 5), .ref (a0 6), .ref (a0 7), .ref (a0 8), .ref (a0 9), .ref (a0 10), .ref (a0 11), .ref (a0 12)])), ((a0 1), .inl (q 0, 4, .inl (va_cpy (s1.2.1 0) (s0.2.1 0) (Int32.toNatClampNeg 0) (Int32.toNatClampNeg 0) (Int32.toNatClampNeg 4)))), ((a0 2), .inl (q 0, 4, .inl (va_cpy (s1.2.1 1) (s0.2.1 1) (Int32.toNatClampNeg 0) (Int32.toNatClampNeg 0) (Int32.toNatClampNeg 4)))), ((a0 3), .inl (q 0, 160, .inl (va_cpy (s1.2.1 2) (s0.2.1 2) (Int32.toNatClampNeg 0) (Int32.toNatClampNeg 0) (Int32.toNatClampNeg 160)))), ((a0 4), .inl (q 0, 40, .inl (va_cpy (s1.2.1 3) (s0.2.1 3) (Int32.toNatClampNeg 0) (Int32.toNatClampNeg 0) (Int32.toNatClampNeg r_1)))), ((a0 5), .inl (q 0, 40, .inl (va_cpy (s1.2.1 4) (s0.2.1 4) (Int32.toNatClampNeg 0) (Int32.toNatClampNeg 0) (Int32.toNatClampNeg r_1)))), ((a0 6), .inl (q 0, 40, .inl (va_cpy (s1.2.1 5) (s0.2.1 5) (Int32.toNatClampNeg 0) (Int32.toNatClampNeg 0) (Int32.toNatClampNeg r_1)))), ((a0 7), .inl (q 0, 40, .inl (va_cpy (s1.2.1 6) (s0.2.1 6) (Int32.toNatClampNeg 0) (Int32.toNatClampNeg 0) (Int32.toNatClampNeg r_1)))), ((a0 8), .inl (q 0, 40, .inl (va_cpy (s1.2.1 7) (s0.2.1 7) (Int32.toNatClampNeg 0) (Int32.toNatClampNeg 0) (Int32.toNatClampNeg r_1)))), ((a0 9), .inl (q 0, 40, .inl (va_cpy (s1.2.1 8) (s0.2.1 8) (Int32.toNatClampNeg 0) (Int32.toNatClampNeg 0) (Int32.toNatClampNeg r_1)))), ((a0 10), .inl (q 0, 40, .inl (va_cpy (s1.2.1 9) (s0.2.1 9) (Int32.toNatClampNeg 0) (Int32.toNatClampNeg 0) (Int32.toNatClampNeg r_1)))), ((a0 11), .inl (q 1, 40, .inr (.inl (va_cpy s1.2.2.1 s0.2.2.1 (Int32.toNatClampNeg 0) (Int32.toNatClampNeg 0) (Int32.toNatClampNeg r_1))))), ((a0 12), .inl (q 0, s0.2.2.2.1, .inl s0.2.2.2.2)), ((a1 0), .inr (0, [.int (s1.1 0), .int (s1.1 1), .int (s1.1 2), .int (s1.1 3), .int (s1.1 4), .int (s1.1 5), .ref (a1 1), .ref (a1 2), .ref (a1 3), .ref (a1 4), .ref (a1 5), .ref (a1 6), .ref (a1 7), .ref (a1 8), .ref (a1 9), .ref (a1 10), .ref (a1 11), .ref (a1 12)])), ((a1 1), .inl (q 0, 4, .inl (s1.2.1 0))), ((a1 2), .inl (q 0, 4, .inl (s1.2.1 1))), ((a1 3), .inl (q 0, 160, .inl (s1.2.1 2))), ((a1 4), .inl (q 0, 40, .inl (s1.2.1 3))), ((a1 5), .inl (q 0, 40, .inl (s1.2.1 4))), ((a1 6), .inl (q 0, 40, .inl (s1.2.1 5))), ((a1 7), .inl (q 0, 40, .inl (s1.2.1 6))), ((a1 8), .inl (q 0, 40, .inl (s1.2.1 7))), ((a1 9), .inl (q 0, 40, .inl (s1.2.1 8))), ((a1 10), .inl (q 0, 40, .inl (s1.2.1 9))), ((a1 11), .inl (q 1, 40, .inr (.inl s1.2.2.1))), ((a1 12), .inl (q 0, s1.2.2.2.1, .inl s1.2.2.2.2))] H := hP
  have hD : va_D _ [((a0 0), .inr (0, [.int (s1.1 0), .int (s1.1 1), .int (s1.1 2), .int (s1.1 3), .int (s1.1 4), .int (s1.1 5), .ref (a0 1), .ref (a0 2), .ref (a0 3), .ref (a0 4), .ref (a0 5), .ref (a0 6), .ref (a0 7), .ref (a0 8), .ref (a0 9), .ref (a0 10), .ref (a0 11), .ref (a0 12)])), ((a0 1), .inl (q 0, 4, .inl (va_cpy (s1.2.1 0) (s0.2.1 0) (Int32.toNatClampNeg 0) (Int32.toNatClampNeg 0) (Int32.toNatClampNeg 4)))), ((a0 2), .inl (q 0, 4, .inl (va_cpy (s1.2.1 1) (s0.2.1 1) (Int32.toNatClampNeg 0) (Int32.toNatClampNeg 0) (Int32.toNatClampNeg 4)))), ((a0 3), .inl (q 0, 160, .inl (va_cpy (s1.2.1 2) (s0.2.1 2) (Int32.toNatClampNeg 0) (Int32.toNatClampNeg 0) (Int32.toNatClampNeg 160)))), ((a0 4), .inl (q 0, 40, .inl (va_cpy (s1.2.1 3) (s0.2.1 3) (Int32.toNatClampNeg 0) (Int32.toNatClampNeg 0) (Int32.toNatClampNeg r_1)))), ((a0 5), .inl (q 0, 40, .inl (va_cpy (s1.2.1 4) (s0.2.1 4) (Int32.toNatClampNeg 0) (Int32.toNatClampNeg 0) (Int32.toNatClampNeg r_1)))), ((a0 6), .inl (q 0, 40, .inl (va_cpy (s1.2.1 5) (s0.2.1 5) (Int32.toNatClampNeg 0) (Int32.toNatClampNeg 0) (Int32.toNatClampNeg r_1)))), ((a0 7), .inl (q 0, 40, .inl (va_cpy (s1.2.1 6) (s0.2.1 6) (Int32.toNatClampNeg 0) (Int32.toNatClampNeg 0) (Int32.toNatClampNeg r_1)))), ((a0 8), .inl (q 0, 40, .inl (va_cpy (s1.2.1 7) (s0.2.1 7) (Int32.toNatClampNeg 0) (Int32.toNatClampNeg 0) (Int32.toNatClampNeg r_1)))), ((a0 9), .inl (q 0, 40, .inl (va_cpy (s1.2.1 8) (s0.2.1 8) (Int32.toNatClampNeg 0) (Int32.toNatClampNeg 0) (Int32.toNatClampNeg r_1)))), ((a0 10), .inl (q 0, 40, .inl (va_cpy (s1.2.1 9) (s0.2.1 9) (Int32.toNatClampNeg 0) (Int32.toNatClampNeg 0) (Int32.toNatClampNeg r_1)))), ((a0 11), .inl (q 1, 40, .inr (.inl (va_cpy s1.2.2.1 s0.2.2.1 (Int32.toNatClampNeg 0) (Int32.toNatClampNeg 0) (Int32.toNatClampNeg r_1))))), ((a0 12), .inl (q 0, s0.2.2.2.1, .inl s0.2.2.2.2)), ((a1 0), .inr (0, [.int (s1.1 0), .int (s1.1 1), .int (s1.1 2), .int (s1.1 3), .int (s1.1 4), .int (s1.1 5), .ref (a1 1), .ref (a1 2), .ref (a1 3), .ref (a1 4), .ref (a1 5), .ref (a1 6), .ref (a1 7), .ref (a1 8), .ref (a1 9), .ref (a1 10), .ref (a1 11), .ref (a1 12)])), ((a1 1), .inl (q 0, 4, .inl (s1.2.1 0))), ((a1 2), .inl (q 0, 4, .inl (s1.2.1 1))), ((a1 3), .inl (q 0, 160, .inl (s1.2.1 2))), ((a1 4), .inl (q 0, 40, .inl (s1.2.1 3))), ((a1 5), .inl (q 0, 40, .inl (s1.2.1 4))), ((a1 6), .inl (q 0, 40, .inl (s1.2.1 5))), ((a1 7), .inl (q 0, 40, .inl (s1.2.1 6))), ((a1 8), .inl (q 0, 40, .inl (s1.2.1 7))), ((a1 9), .inl (q 0, 40, .inl (s1.2.1 8))), ((a1 10), .inl (q 0, 40, .inl (s1.2.1 9))), ((a1 11), .inl (q 1, 40, .inr (.inl s1.2.2.1))), ((a1 12), .inl (q 0, s1.2.2.2.1, .inl s1.2.2.2.2))] := hD
  exact mt_vret ((va_up (va_up (va_up (va_up (va_up (va_up s0.1 0 (s1.1 0)) 1 (s1.1 1)) 2 (s1.1 2)) 3 (s1.1 3)) 4 (s1.1 4)) 5 (s1.1 5)), (va_up (va_up (va_up (va_up (va_up (va_up (va_up (va_up (va_up (va_up s0.2.1 0 (va_cpy (s1.2.1 0) (s0.2.1 0) (Int32.toNatClampNeg 0) (Int32.toNatClampNeg 0) (Int32.toNatClampNeg 4))) 1 (va_cpy (s1.2.1 1) (s0.2.1 1) (Int32.toNatClampNeg 0) (Int32.toNatClampNeg 0) (Int32.toNatClampNeg 4))) 2 (va_cpy (s1.2.1 2) (s0.2.1 2) (Int32.toNatClampNeg 0) (Int32.toNatClampNeg 0) (Int32.toNatClampNeg 160))) 3 (va_cpy (s1.2.1 3) (s0.2.1 3) (Int32.toNatClampNeg 0) (Int32.toNatClampNeg 0) (Int32.toNatClampNeg r_1))) 4 (va_cpy (s1.2.1 4) (s0.2.1 4) (Int32.toNatClampNeg 0) (Int32.toNatClampNeg 0) (Int32.toNatClampNeg r_1))) 5 (va_cpy (s1.2.1 5) (s0.2.1 5) (Int32.toNatClampNeg 0) (Int32.toNatClampNeg 0) (Int32.toNatClampNeg r_1))) 6 (va_cpy (s1.2.1 6) (s0.2.1 6) (Int32.toNatClampNeg 0) (Int32.toNatClampNeg 0) (Int32.toNatClampNeg r_1))) 7 (va_cpy (s1.2.1 7) (s0.2.1 7) (Int32.toNatClampNeg 0) (Int32.toNatClampNeg 0) (Int32.toNatClampNeg r_1))) 8 (va_cpy (s1.2.1 8) (s0.2.1 8) (Int32.toNatClampNeg 0) (Int32.toNatClampNeg 0) (Int32.toNatClampNeg r_1))) 9 (va_cpy (s1.2.1 9) (s0.2.1 9) (Int32.toNatClampNeg 0) (Int32.toNatClampNeg 0) (Int32.toNatClampNeg r_1))), (va_cpy s1.2.2.1 s0.2.2.1 (Int32.toNatClampNeg 0) (Int32.toNatClampNeg 0) (Int32.toNatClampNeg r_1)), s0.2.2.2.1, s0.2.2.2.2) hx hb hr hk h (hP.sub (ws' := bd_w a0 q ((va_up (va_up (va_up (va_up (va_up (va_up s0.1 0 (s1.1 0)) 1 (s1.1 1)) 2 (s1.1 2)) 3 (s1.1 3)) 4 (s1.1 4)) 5 (s1.1 5)), (va_up (va_up (va_up (va_up (va_up (va_up (va_up (va_up (va_up (va_up s0.2.1 0 (va_cpy (s1.2.1 0) (s0.2.1 0) (Int32.toNatClampNeg 0) (Int32.toNatClampNeg 0) (Int32.toNatClampNeg 4))) 1 (va_cpy (s1.2.1 1) (s0.2.1 1) (Int32.toNatClampNeg 0) (Int32.toNatClampNeg 0) (Int32.toNatClampNeg 4))) 2 (va_cpy (s1.2.1 2) (s0.2.1 2) (Int32.toNatClampNeg 0) (Int32.toNatClampNeg 0) (Int32.toNatClampNeg 160))) 3 (va_cpy (s1.2.1 3) (s0.2.1 3) (Int32.toNatClampNeg 0) (Int32.toNatClampNeg 0) (Int32.toNatClampNeg r_1))) 4 (va_cpy (s1.2.1 4) (s0.2.1 4) (Int32.toNatClampNeg 0) (Int32.toNatClampNeg 0) (Int32.toNatClampNeg r_1))) 5 (va_cpy (s1.2.1 5) (s0.2.1 5) (Int32.toNatClampNeg 0) (Int32.toNatClampNeg 0) (Int32.toNatClampNeg r_1))) 6 (va_cpy (s1.2.1 6) (s0.2.1 6) (Int32.toNatClampNeg 0) (Int32.toNatClampNeg 0) (Int32.toNatClampNeg r_1))) 7 (va_cpy (s1.2.1 7) (s0.2.1 7) (Int32.toNatClampNeg 0) (Int32.toNatClampNeg 0) (Int32.toNatClampNeg r_1))) 8 (va_cpy (s1.2.1 8) (s0.2.1 8) (Int32.toNatClampNeg 0) (Int32.toNatClampNeg 0) (Int32.toNatClampNeg r_1))) 9 (va_cpy (s1.2.1 9) (s0.2.1 9) (Int32.toNatClampNeg 0) (Int32.toNatClampNeg 0) (Int32.toNatClampNeg r_1))), (va_cpy s1.2.2.1 s0.2.2.1 (Int32.toNatClampNeg 0) (Int32.toNatClampNeg 0) (Int32.toNatClampNeg r_1)), s0.2.2.2.1, s0.2.2.2.2) ++ bd_w a1 q s1) [0, 1, 2, 3, 4, 5, 6, 7, 8, 9, 10, 11, 12, 13, 14, 15, 16, 17, 18, 19, 20, 21, 22, 23, 24, 25] rfl) (hD.sub (ws' := bd_w a0 q ((va_up (va_up (va_up (va_up (va_up (va_up s0.1 0 (s1.1 0)) 1 (s1.1 1)) 2 (s1.1 2)) 3 (s1.1 3)) 4 (s1.1 4)) 5 (s1.1 5)), (va_up (va_up (va_up (va_up (va_up (va_up (va_up (va_up (va_up (va_up s0.2.1 0 (va_cpy (s1.2.1 0) (s0.2.1 0) (Int32.toNatClampNeg 0) (Int32.toNatClampNeg 0) (Int32.toNatClampNeg 4))) 1 (va_cpy (s1.2.1 1) (s0.2.1 1) (Int32.toNatClampNeg 0) (Int32.toNatClampNeg 0) (Int32.toNatClampNeg 4))) 2 (va_cpy (s1.2.1 2) (s0.2.1 2) (Int32.toNatClampNeg 0) (Int32.toNatClampNeg 0) (Int32.toNatClampNeg 160))) 3 (va_cpy (s1.2.1 3) (s0.2.1 3) (Int32.toNatClampNeg 0) (Int32.toNatClampNeg 0) (Int32.toNatClampNeg r_1))) 4 (va_cpy (s1.2.1 4) (s0.2.1 4) (Int32.toNatClampNeg 0) (Int32.toNatClampNeg 0) (Int32.toNatClampNeg r_1))) 5 (va_cpy (s1.2.1 5) (s0.2.1 5) (Int32.toNatClampNeg 0) (Int32.toNatClampNeg 0) (Int32.toNatClampNeg r_1))) 6 (va_cpy (s1.2.1 6) (s0.2.1 6) (Int32.toNatClampNeg 0) (Int32.toNatClampNeg 0) (Int32.toNatClampNeg r_1))) 7 (va_cpy (s1.2.1 7) (s0.2.1 7) (Int32.toNatClampNeg 0) (Int32.toNatClampNeg 0) (Int32.toNatClampNeg r_1))) 8 (va_cpy (s1.2.1 8) (s0.2.1 8) (Int32.toNatClampNeg 0) (Int32.toNatClampNeg 0) (Int32.toNatClampNeg r_1))) 9 (va_cpy (s1.2.1 9) (s0.2.1 9) (Int32.toNatClampNeg 0) (Int32.toNatClampNeg 0) (Int32.toNatClampNeg r_1))), (va_cpy s1.2.2.1 s0.2.2.1 (Int32.toNatClampNeg 0) (Int32.toNatClampNeg 0) (Int32.toNatClampNeg r_1)), s0.2.2.2.1, s0.2.2.2.2) ++ bd_w a1 q s1) [0, 1, 2, 3, 4, 5, 6, 7, 8, 9, 10, 11, 12, 13, 14, 15, 16, 17, 18, 19, 20, 21, 22, 23, 24, 25] (by decide) rfl) hS dX0_copyAllButLog_209

def wp_X0_entryStart_L4 (s0 : Bd) (post : Int32 → Prop) (e39 : Int32 → Int32 → Int32 → Prop) : Nat → Int32 → Int32 → Int32 → Prop
  | 0, _, _, _ => False
  | n4 + 1, z1, z2, z3 => ((z1 ≤ z3 → e39 z1 z2 z3) ∧ (¬ z1 ≤ z3 → (((s0.1 3) ≤ z3 → e39 z1 z2 z3) ∧ (¬ (s0.1 3) ≤ z3 → vp_in z3 4 ∧ vp_in z3 4 ∧ wp_X0_entryStart_L4 s0 post e39 n4 z1 (z2 + (((s0.2.1 1) (Int32.toNatClampNeg z3)) * ((s0.2.1 1) (Int32.toNatClampNeg z3)))) (z3 + 1)))))
def wp_X0_entryStart (post : Int32 → Prop) (s0 : Bd) (x1 : Int32) : Prop := (∃ n4, wp_X0_entryStart_L4 s0 post (fun z1 z2 z3 => post z2) n4 x1 0 0)
set_option maxHeartbeats 4000000 in
set_option maxRecDepth 100000 in
theorem c2_X0_entryStart {l : Launch} {D : va_G} {q : Nat → ClassId} {a0 : Nat → Nat} {s0 : Bd} {x1 : Int32} {post : Int32 → Prop} (h : wp_X0_entryStart post s0 x1) : Met l yX0_entryStart (Cond.code yX0_entryStart cX0_entryStart 4 (some .int) :: w_all) ({ frames := 0, cells := 0, slots := 0, locals := 0 } : Room) (rd_P D q [.ref (a0 0), .int x1] (bd_w a0 q s0)) (vp_Si post) 0 0 (fun _ => False) := by
  refine rd_start (by decide) (Nat.le_of_ble_eq_true rfl) ?_
  intro p e s m below meth c ls hx hb hr hml hown ht hk hP hQ hV hl
  have hK := hQ.1
  have hown : s.vm.findClass RX0 = some m.cls := hown
  have hl : lv_has ls 4 [(0, .ref (a0 0)), (1, .int x1)] := hl
  have hP : va_P D vwCl [((a0 0), .inr (0, [.int (s0.1 0), .int (s0.1 1), .int (s0.1 2), .int (s0.1 3), .int (s0.1 4), .int (s0.1 5), .ref (a0 1), .ref (a0 2), .ref (a0 3), .ref (a0 4), .ref (a0 5), .ref (a0 6), .ref (a0 7), .ref (a0 8), .ref (a0 9), .ref (a0 10), .ref (a0 11), .ref (a0 12)])), ((a0 1), .inl (q 0, 4, .inl (s0.2.1 0))), ((a0 2), .inl (q 0, 4, .inl (s0.2.1 1))), ((a0 3), .inl (q 0, 160, .inl (s0.2.1 2))), ((a0 4), .inl (q 0, 40, .inl (s0.2.1 3))), ((a0 5), .inl (q 0, 40, .inl (s0.2.1 4))), ((a0 6), .inl (q 0, 40, .inl (s0.2.1 5))), ((a0 7), .inl (q 0, 40, .inl (s0.2.1 6))), ((a0 8), .inl (q 0, 40, .inl (s0.2.1 7))), ((a0 9), .inl (q 0, 40, .inl (s0.2.1 8))), ((a0 10), .inl (q 0, 40, .inl (s0.2.1 9))), ((a0 11), .inl (q 1, 40, .inr (.inl s0.2.2.1))), ((a0 12), .inl (q 0, s0.2.2.2.1, .inl s0.2.2.2.2))] s.heap := hP
  unfold wp_X0_entryStart at h
  refine lv_iconst (v := 0) hx hb dX0_entryStart_0 (by decide) ?_
  refine lv_istore_n (lv' := [(2, .int 0), (0, .ref (a0 0)), (1, .int x1)]) hx hb dX0_entryStart_1 rfl hl (by decide) rfl (fun ls hl => ?_)
  refine lv_iconst (v := 0) hx hb dX0_entryStart_2 (by decide) ?_
  refine lv_istore_n (lv' := [(3, .int 0), (2, .int 0), (0, .ref (a0 0)), (1, .int x1)]) hx hb dX0_entryStart_3 rfl hl (by decide) rfl (fun ls hl => ?_)
  have lp4 : ∀ (e39 : Int32 → Int32 → Int32 → Prop) (k39 : ∀ (z1 : Int32) (z2 : Int32) (z3 : Int32) (ls : Array Slot), e39 z1 z2 z3 → lv_has ls 4 [(1, .int z1), (2, .int z2), (3, .int z3), (0, .ref (a0 0))] → W p l e ({ frames := 0, cells := 0, slots := 0, locals := 0 } : Room) s m [.ref (a0 0), .int x1].toArray below meth c s.heap [] 0 0 (MQ below (vp_Si post) [.ref (a0 0), .int x1].toArray s 0 0 (fun _ => False)) (F0 m 39 ls [])) (n : Nat) (z1 : Int32) (z2 : Int32) (z3 : Int32) (ls : Array Slot), wp_X0_entryStart_L4 s0 post e39 n z1 z2 z3 → lv_has ls 4 [(1, .int z1), (2, .int z2), (3, .int z3), (0, .ref (a0 0))] → W p l e ({ frames := 0, cells := 0, slots := 0, locals := 0 } : Room) s m [.ref (a0 0), .int x1].toArray below meth c s.heap [] 0 0 (MQ below (vp_Si post) [.ref (a0 0), .int x1].toArray s 0 0 (fun _ => False)) (F0 m 4 ls []) := by
    intro e39 k39 n
    induction n with
    | zero =>
      intro z1 z2 z3 ls h
      exact h.elim
    | succ n ih =>
      intro z1 z2 z3 ls h hl
      unfold wp_X0_entryStart_L4 at h
      refine lv_iload_n hx hb dX0_entryStart_4 rfl (lv_at hl 2 rfl) ?_
      refine lv_iload_n hx hb dX0_entryStart_5 rfl (lv_at hl 0 rfl) ?_
      refine lv_icmp_ge (tgt := 39) hx hb dX0_entryStart_6 (by decide) (fun c_1 => ?_) (fun c_1 => ?_)
      · replace h := h.1 c_1
        exact k39 _ _ _ ls h (lv_sub hl [0, 1, 2, 3] rfl)
      · replace h := h.2 c_1
        refine lv_iload_n hx hb dX0_entryStart_9 rfl (lv_at hl 2 rfl) ?_
        refine lv_aload_n hx hb dX0_entryStart_10 rfl (lv_at hl 3 rfl) ?_
        refine fl_get (C := RX0) (T := TX0) (N := 18) (ci := 0) (v := .int (s0.1 3)) hx hb ht in_X0 hown hK hP 0 rfl rfl 3 (by decide) mw_179 rfl dX0_entryStart_11 ?_
        refine lv_icmp_ge (tgt := 39) hx hb dX0_entryStart_14 (by decide) (fun c_2 => ?_) (fun c_2 => ?_)
        · replace h := h.1 c_2
          exact k39 _ _ _ ls h (lv_sub hl [0, 1, 2, 3] rfl)
        · replace h := h.2 c_2
          refine lv_iload_n hx hb dX0_entryStart_17 rfl (lv_at hl 1 rfl) ?_
          refine lv_aload_n hx hb dX0_entryStart_18 rfl (lv_at hl 3 rfl) ?_
          refine fl_get (C := RX0) (T := TX0) (N := 18) (ci := 0) (v := .ref (a0 2)) hx hb ht in_X0 hown hK hP 0 rfl rfl 7 (by decide) mw_190 rfl dX0_entryStart_19 ?_
          refine lv_iload_n hx hb dX0_entryStart_22 rfl (lv_at hl 2 rfl) ?_
          obtain ⟨g_3, h⟩ := h
          refine va_iald hx hb hK hP 2 0 rfl rfl g_3 dX0_entryStart_23 ?_
          refine lv_aload_n hx hb dX0_entryStart_24 rfl (lv_at hl 3 rfl) ?_
          refine fl_get (C := RX0) (T := TX0) (N := 18) (ci := 0) (v := .ref (a0 2)) hx hb ht in_X0 hown hK hP 0 rfl rfl 7 (by decide) mw_190 rfl dX0_entryStart_25 ?_
          refine lv_iload_n hx hb dX0_entryStart_28 rfl (lv_at hl 2 rfl) ?_
          obtain ⟨g_4, h⟩ := h
          refine va_iald hx hb hK hP 2 0 rfl rfl g_4 dX0_entryStart_29 ?_
          refine lv_imul hx hb dX0_entryStart_30 ?_
          refine lv_iadd hx hb dX0_entryStart_31 ?_
          refine lv_istore_n (lv' := [(2, .int (z2 + (((s0.2.1 1) (Int32.toNatClampNeg z3)) * ((s0.2.1 1) (Int32.toNatClampNeg z3))))), (1, .int z1), (3, .int z3), (0, .ref (a0 0))]) hx hb dX0_entryStart_32 rfl hl (by decide) rfl (fun ls hl => ?_)
          refine lv_iinc (v := (z3 + 1)) (lv' := [(3, .int (z3 + 1)), (2, .int (z2 + (((s0.2.1 1) (Int32.toNatClampNeg z3)) * ((s0.2.1 1) (Int32.toNatClampNeg z3))))), (1, .int z1), (0, .ref (a0 0))]) hx hb dX0_entryStart_33 hl (k := 2) rfl rfl (by decide) rfl (fun ls hl => ?_)
          refine lv_goto (tgt := 4) hx hb dX0_entryStart_36 (by decide) ?_
          exact ih _ _ _ ls h (lv_sub hl [2, 1, 0, 3] rfl)
  obtain ⟨n4, h⟩ := h
  refine lp4 _ ?_ n4 _ _ _ ls h (lv_sub hl [3, 1, 0, 2] rfl)
  · intro z1 z2 z3 ls h hl
    try dsimp only at h
    refine lv_iload_n hx hb dX0_entryStart_39 rfl (lv_at hl 1 rfl) ?_
    exact rd_iret hx hb hr hk h dX0_entryStart_40

def wp_X0_entryCount (post : Int32 → Prop) (s0 : Bd) : Prop := wp_X0_entryStart (fun r_1 => post r_1) s0 (s0.1 3)
set_option maxHeartbeats 4000000 in
set_option maxRecDepth 100000 in
theorem c2_X0_entryCount {l : Launch} {D : va_G} {q : Nat → ClassId} {a0 : Nat → Nat} {s0 : Bd} {post : Int32 → Prop} (h : wp_X0_entryCount post s0) : Met l yX0_entryCount (Cond.code yX0_entryCount cX0_entryCount 1 (some .int) :: w_all) ({ frames := 1, cells := 0, slots := 0, locals := 23 } : Room) (rd_P D q [.ref (a0 0)] (bd_w a0 q s0)) (vp_Si post) 0 0 (fun _ => False) := by
  refine rd_start (by decide) (Nat.le_of_ble_eq_true rfl) ?_
  intro p e s m below meth c ls hx hb hr hml hown ht hk hP hQ hV hl
  have hK := hQ.1
  have hown : s.vm.findClass RX0 = some m.cls := hown
  have hl : lv_has ls 1 [(0, .ref (a0 0))] := hl
  have hP : va_P D vwCl [((a0 0), .inr (0, [.int (s0.1 0), .int (s0.1 1), .int (s0.1 2), .int (s0.1 3), .int (s0.1 4), .int (s0.1 5), .ref (a0 1), .ref (a0 2), .ref (a0 3), .ref (a0 4), .ref (a0 5), .ref (a0 6), .ref (a0 7), .ref (a0 8), .ref (a0 9), .ref (a0 10), .ref (a0 11), .ref (a0 12)])), ((a0 1), .inl (q 0, 4, .inl (s0.2.1 0))), ((a0 2), .inl (q 0, 4, .inl (s0.2.1 1))), ((a0 3), .inl (q 0, 160, .inl (s0.2.1 2))), ((a0 4), .inl (q 0, 40, .inl (s0.2.1 3))), ((a0 5), .inl (q 0, 40, .inl (s0.2.1 4))), ((a0 6), .inl (q 0, 40, .inl (s0.2.1 5))), ((a0 7), .inl (q 0, 40, .inl (s0.2.1 6))), ((a0 8), .inl (q 0, 40, .inl (s0.2.1 7))), ((a0 9), .inl (q 0, 40, .inl (s0.2.1 8))), ((a0 10), .inl (q 0, 40, .inl (s0.2.1 9))), ((a0 11), .inl (q 1, 40, .inr (.inl s0.2.2.1))), ((a0 12), .inl (q 0, s0.2.2.2.1, .inl s0.2.2.2.2))] s.heap := hP
  unfold wp_X0_entryCount at h
  refine lv_aload_n hx hb dX0_entryCount_0 rfl (lv_at hl 0 rfl) ?_
  refine lv_aload_n hx hb dX0_entryCount_1 rfl (lv_at hl 0 rfl) ?_
  refine fl_get (C := RX0) (T := TX0) (N := 18) (ci := 0) (v := .int (s0.1 3)) hx hb ht in_X0 hown hK hP 0 rfl rfl 3 (by decide) mw_179 rfl dX0_entryCount_2 ?_
  refine vp_callSi (rd_wV (wc := bd_w a0 q s0) (As := [.int (s0.1 3)]) (rest := []) hx hb hml hown ht (c2_X0_entryStart h) wd_X0_entryStart mw_605 hQ hV va_S.rf (hP.sub [0, 1, 2, 3, 4, 5, 6, 7, 8, 9, 10, 11, 12] rfl) rfl rfl rfl hl.1 rfl (Nat.le_of_ble_eq_true rfl) dX0_entryCount_5 ⟨Nat.le_of_ble_eq_true rfl, Nat.le_of_ble_eq_true rfl, rfl, rfl⟩ ⟨Nat.le_of_ble_eq_true rfl, Nat.le_of_ble_eq_true rfl⟩) (fun r_1 h => ?_)
  try dsimp only at h
  exact rd_iret hx hb hr hk h dX0_entryCount_8

def wp_X0_copyAll (post : Bd → Prop) (s0 : Bd) (s1 : Bd) : Prop := wp_X0_copyAllButLog (fun u_2 => wp_X0_entryCount (fun r_3 => ((r_3 ≤ (Int32.ofNat u_2.2.2.2.1) → ¬ (if (Int32.ofNat s1.2.2.2.1) < r_3 then (Int32.ofNat s1.2.2.2.1) else r_3) < 0 ∧ Int32.toNatClampNeg 0 + Int32.toNatClampNeg (if (Int32.ofNat s1.2.2.2.1) < r_3 then (Int32.ofNat s1.2.2.2.1) else r_3) ≤ s1.2.2.2.1 ∧ Int32.toNatClampNeg 0 + Int32.toNatClampNeg (if (Int32.ofNat s1.2.2.2.1) < r_3 then (Int32.ofNat s1.2.2.2.1) else r_3) ≤ u_2.2.2.2.1 ∧ post (u_2.1, u_2.2.1, u_2.2.2.1, u_2.2.2.2.1, (va_cpy s1.2.2.2.2 u_2.2.2.2.2 (Int32.toNatClampNeg 0) (Int32.toNatClampNeg 0) (Int32.toNatClampNeg (if (Int32.ofNat s1.2.2.2.1) < r_3 then (Int32.ofNat s1.2.2.2.1) else r_3))))) ∧ (¬ r_3 ≤ (Int32.ofNat u_2.2.2.2.1) → ¬ r_3 < 0 ∧ Int32.toNatClampNeg r_3 ≤ 6400 ∧ ¬ (if (Int32.ofNat s1.2.2.2.1) < r_3 then (Int32.ofNat s1.2.2.2.1) else r_3) < 0 ∧ Int32.toNatClampNeg 0 + Int32.toNatClampNeg (if (Int32.ofNat s1.2.2.2.1) < r_3 then (Int32.ofNat s1.2.2.2.1) else r_3) ≤ s1.2.2.2.1 ∧ Int32.toNatClampNeg 0 + Int32.toNatClampNeg (if (Int32.ofNat s1.2.2.2.1) < r_3 then (Int32.ofNat s1.2.2.2.1) else r_3) ≤ (Int32.toNatClampNeg r_3) ∧ post (u_2.1, u_2.2.1, u_2.2.2.1, (Int32.toNatClampNeg r_3), (va_cpy s1.2.2.2.2 (fun _ => 0) (Int32.toNatClampNeg 0) (Int32.toNatClampNeg 0) (Int32.toNatClampNeg (if (Int32.ofNat s1.2.2.2.1) < r_3 then (Int32.ofNat s1.2.2.2.1) else r_3))))))) s1) s0 s1
set_option maxHeartbeats 4000000 in
set_option maxRecDepth 100000 in
theorem c2_X0_copyAll {l : Launch} {D : va_G} {q : Nat → ClassId} {sz : Nat} {a0 : Nat → Nat} {a1 : Nat → Nat} {s0 : Bd} {s1 : Bd} {post : Bd → Prop} (h : wp_X0_copyAll post s0 s1) : Met l yX0_copyAll (Cond.code yX0_copyAll cX0_copyAll 3 none :: w_all) ({ frames := 2, cells := 1, slots := 6400, locals := 102 } : Room) (mt_P D q [.ref (a0 0), .ref (a1 0)] (bd_w a0 q s0 ++ bd_w a1 q s1) sz) (va_Qv (fun u : Nat × Bd => post u.2) (mt_B D (bd_w a0 q s0 ++ bd_w a1 q s1) sz (fun u : Nat × Bd => bd_w (va_up a0 12 u.1) q u.2 ++ bd_w a1 q s1)) (va_A (bd_w a0 q s0 ++ bd_w a1 q s1) sz)) 1 6400 (va_A (bd_w a0 q s0 ++ bd_w a1 q s1) sz) := by
  refine mt_start (by decide) (Nat.le_of_ble_eq_true rfl) ?_
  intro p e s m below meth c ls hx hb hr hml hown ht hk hin hP hQ hD hA hS hV hl
  have hK := hQ.1
  have hown : s.vm.findClass RX0 = some m.cls := hown
  have hl : lv_has ls 3 [(0, .ref (a0 0)), (1, .ref (a1 0))] := hl
  have hP : va_P D vwCl [((a0 0), .inr (0, [.int (s0.1 0), .int (s0.1 1), .int (s0.1 2), .int (s0.1 3), .int (s0.1 4), .int (s0.1 5), .ref (a0 1), .ref (a0 2), .ref (a0 3), .ref (a0 4), .ref (a0 5), .ref (a0 6), .ref (a0 7), .ref (a0 8), .ref (a0 9), .ref (a0 10), .ref (a0 11), .ref (a0 12)])), ((a0 1), .inl (q 0, 4, .inl (s0.2.1 0))), ((a0 2), .inl (q 0, 4, .inl (s0.2.1 1))), ((a0 3), .inl (q 0, 160, .inl (s0.2.1 2))), ((a0 4), .inl (q 0, 40, .inl (s0.2.1 3))), ((a0 5), .inl (q 0, 40, .inl (s0.2.1 4))), ((a0 6), .inl (q 0, 40, .inl (s0.2.1 5))), ((a0 7), .inl (q 0, 40, .inl (s0.2.1 6))), ((a0 8), .inl (q 0, 40, .inl (s0.2.1 7))), ((a0 9), .inl (q 0, 40, .inl (s0.2.1 8))), ((a0 10), .inl (q 0, 40, .inl (s0.2.1 9))), ((a0 11), .inl (q 1, 40, .inr (.inl s0.2.2.1))), ((a0 12), .inl (q 0, s0.2.2.2.1, .inl s0.2.2.2.2)), ((a1 0), .inr (0, [.int (s1.1 0), .int (s1.1 1), .int (s1.1 2), .int (s1.1 3), .int (s1.1 4), .int (s1.1 5), .ref (a1 1), .ref (a1 2), .ref (a1 3), .ref (a1 4), .ref (a1 5), .ref (a1 6), .ref (a1 7), .ref (a1 8), .ref (a1 9), .ref (a1 10), .ref (a1 11), .ref (a1 12)])), ((a1 1), .inl (q 0, 4, .inl (s1.2.1 0))), ((a1 2), .inl (q 0, 4, .inl (s1.2.1 1))), ((a1 3), .inl (q 0, 160, .inl (s1.2.1 2))), ((a1 4), .inl (q 0, 40, .inl (s1.2.1 3))), ((a1 5), .inl (q 0, 40, .inl (s1.2.1 4))), ((a1 6), .inl (q 0, 40, .inl (s1.2.1 5))), ((a1 7), .inl (q 0, 40, .inl (s1.2.1 6))), ((a1 8), .inl (q 0, 40, .inl (s1.2.1 7))), ((a1 9), .inl (q 0, 40, .inl (s1.2.1 8))), ((a1 10), .inl (q 0, 40, .inl (s1.2.1 9))), ((a1 11), .inl (q 1, 40, .inr (.inl s1.2.2.1))), ((a1 12), .inl (q 0, s1.2.2.2.1, .inl s1.2.2.2.2))] s.heap := hP
  have hD : va_D _ [((a0 0), .inr (0, [.int (s0.1 0), .int (s0.1 1), .int (s0.1 2), .int (s0.1 3), .int (s0.1 4), .int (s0.1 5), .ref (a0 1), .ref (a0 2), .ref (a0 3), .ref (a0 4), .ref (a0 5), .ref (a0 6), .ref (a0 7), .ref (a0 8), .ref (a0 9), .ref (a0 10), .ref (a0 11), .ref (a0 12)])), ((a0 1), .inl (q 0, 4, .inl (s0.2.1 0))), ((a0 2), .inl (q 0, 4, .inl (s0.2.1 1))), ((a0 3), .inl (q 0, 160, .inl (s0.2.1 2))), ((a0 4), .inl (q 0, 40, .inl (s0.2.1 3))), ((a0 5), .inl (q 0, 40, .inl (s0.2.1 4))), ((a0 6), .inl (q 0, 40, .inl (s0.2.1 5))), ((a0 7), .inl (q 0, 40, .inl (s0.2.1 6))), ((a0 8), .inl (q 0, 40, .inl (s0.2.1 7))), ((a0 9), .inl (q 0, 40, .inl (s0.2.1 8))), ((a0 10), .inl (q 0, 40, .inl (s0.2.1 9))), ((a0 11), .inl (q 1, 40, .inr (.inl s0.2.2.1))), ((a0 12), .inl (q 0, s0.2.2.2.1, .inl s0.2.2.2.2)), ((a1 0), .inr (0, [.int (s1.1 0), .int (s1.1 1), .int (s1.1 2), .int (s1.1 3), .int (s1.1 4), .int (s1.1 5), .ref (a1 1), .ref (a1 2), .ref (a1 3), .ref (a1 4), .ref (a1 5), .ref (a1 6), .ref (a1 7), .ref (a1 8), .ref (a1 9), .ref (a1 10), .ref (a1 11), .ref (a1 12)])), ((a1 1), .inl (q 0, 4, .inl (s1.2.1 0))), ((a1 2), .inl (q 0, 4, .inl (s1.2.1 1))), ((a1 3), .inl (q 0, 160, .inl (s1.2.1 2))), ((a1 4), .inl (q 0, 40, .inl (s1.2.1 3))), ((a1 5), .inl (q 0, 40, .inl (s1.2.1 4))), ((a1 6), .inl (q 0, 40, .inl (s1.2.1 5))), ((a1 7), .inl (q 0, 40, .inl (s1.2.1 6))), ((a1 8), .inl (q 0, 40, .inl (s1.2.1 7))), ((a1 9), .inl (q 0, 40, .inl (s1.2.1 8))), ((a1 10), .inl (q 0, 40, .inl (s1.2.1 9))), ((a1 11), .inl (q 1, 40, .inr (.inl s1.2.2.1))), ((a1 12), .inl (q 0, s1.2.2.2.1, .inl s1.2.2.2.2))] := hD
  unfold wp_X0_copyAll at h
  refine lv_aload_n hx hb dX0_copyAll_0 rfl (lv_at hl 0 rfl) ?_
  refine lv_aload_n hx hb dX0_copyAll_1 rfl (lv_at hl 1 rfl) ?_
  refine mt_gov (mt_wV (wc := bd_w a0 q s0 ++ bd_w a1 q s1) (As := [.ref (a1 0)]) (rest := []) hx hb hml hown ht (c2_X0_copyAllButLog h) wd_X0_copyAllButLog mw_640 hQ hV hS hA (hP.sub [0, 1, 2, 3, 4, 5, 6, 7, 8, 9, 10, 11, 12, 13, 14, 15, 16, 17, 18, 19, 20, 21, 22, 23, 24, 25] rfl) (hD.sub [0, 1, 2, 3, 4, 5, 6, 7, 8, 9, 10, 11, 12, 13, 14, 15, 16, 17, 18, 19, 20, 21, 22, 23, 24, 25] (by decide) rfl) rfl rfl rfl hl.1 rfl (Nat.le_of_ble_eq_true rfl) dX0_copyAll_2 ⟨Nat.le_of_ble_eq_true rfl, Nat.le_of_ble_eq_true rfl, rfl, rfl⟩ ⟨Nat.le_of_ble_eq_true rfl, Nat.le_of_ble_eq_true rfl⟩) (wr := []) hP hD hS hA [0, 1, 2, 3, 4, 5, 6, 7, 8, 9, 10, 11, 12, 13, 14, 15, 16, 17, 18, 19, 20, 21, 22, 23, 24, 25] [] rfl rfl (by decide) (by decide) (fun u_2 H locs h hP hD hS => ?_)
  try dsimp only at h
  have hP : va_P D vwCl [((a0 0), .inr (0, [.int (u_2.1 0), .int (u_2.1 1), .int (u_2.1 2), .int (u_2.1 3), .int (u_2.1 4), .int (u_2.1 5), .ref (a0 1), .ref (a0 2), .ref (a0 3), .ref (a0 4), .ref (a0 5), .ref (a0 6), .ref (a0 7), .ref (a0 8), .ref (a0 9), .ref (a0 10), .ref (a0 11), .ref (a0 12)])), ((a0 1), .inl (q 0, 4, .inl (u_2.2.1 0))), ((a0 2), .inl (q 0, 4, .inl (u_2.2.1 1))), ((a0 3), .inl (q 0, 160, .inl (u_2.2.1 2))), ((a0 4), .inl (q 0, 40, .inl (u_2.2.1 3))), ((a0 5), .inl (q 0, 40, .inl (u_2.2.1 4))), ((a0 6), .inl (q 0, 40, .inl (u_2.2.1 5))), ((a0 7), .inl (q 0, 40, .inl (u_2.2.1 6))), ((a0 8), .inl (q 0, 40, .inl (u_2.2.1 7))), ((a0 9), .inl (q 0, 40, .inl (u_2.2.1 8))), ((a0 10), .inl (q 0, 40, .inl (u_2.2.1 9))), ((a0 11), .inl (q 1, 40, .inr (.inl u_2.2.2.1))), ((a0 12), .inl (q 0, u_2.2.2.2.1, .inl u_2.2.2.2.2)), ((a1 0), .inr (0, [.int (s1.1 0), .int (s1.1 1), .int (s1.1 2), .int (s1.1 3), .int (s1.1 4), .int (s1.1 5), .ref (a1 1), .ref (a1 2), .ref (a1 3), .ref (a1 4), .ref (a1 5), .ref (a1 6), .ref (a1 7), .ref (a1 8), .ref (a1 9), .ref (a1 10), .ref (a1 11), .ref (a1 12)])), ((a1 1), .inl (q 0, 4, .inl (s1.2.1 0))), ((a1 2), .inl (q 0, 4, .inl (s1.2.1 1))), ((a1 3), .inl (q 0, 160, .inl (s1.2.1 2))), ((a1 4), .inl (q 0, 40, .inl (s1.2.1 3))), ((a1 5), .inl (q 0, 40, .inl (s1.2.1 4))), ((a1 6), .inl (q 0, 40, .inl (s1.2.1 5))), ((a1 7), .inl (q 0, 40, .inl (s1.2.1 6))), ((a1 8), .inl (q 0, 40, .inl (s1.2.1 7))), ((a1 9), .inl (q 0, 40, .inl (s1.2.1 8))), ((a1 10), .inl (q 0, 40, .inl (s1.2.1 9))), ((a1 11), .inl (q 1, 40, .inr (.inl s1.2.2.1))), ((a1 12), .inl (q 0, s1.2.2.2.1, .inl s1.2.2.2.2))] H := hP
  have hD : va_D _ [((a0 0), .inr (0, [.int (u_2.1 0), .int (u_2.1 1), .int (u_2.1 2), .int (u_2.1 3), .int (u_2.1 4), .int (u_2.1 5), .ref (a0 1), .ref (a0 2), .ref (a0 3), .ref (a0 4), .ref (a0 5), .ref (a0 6), .ref (a0 7), .ref (a0 8), .ref (a0 9), .ref (a0 10), .ref (a0 11), .ref (a0 12)])), ((a0 1), .inl (q 0, 4, .inl (u_2.2.1 0))), ((a0 2), .inl (q 0, 4, .inl (u_2.2.1 1))), ((a0 3), .inl (q 0, 160, .inl (u_2.2.1 2))), ((a0 4), .inl (q 0, 40, .inl (u_2.2.1 3))), ((a0 5), .inl (q 0, 40, .inl (u_2.2.1 4))), ((a0 6), .inl (q 0, 40, .inl (u_2.2.1 5))), ((a0 7), .inl (q 0, 40, .inl (u_2.2.1 6))), ((a0 8), .inl (q 0, 40, .inl (u_2.2.1 7))), ((a0 9), .inl (q 0, 40, .inl (u_2.2.1 8))), ((a0 10), .inl (q 0, 40, .inl (u_2.2.1 9))), ((a0 11), .inl (q 1, 40, .inr (.inl u_2.2.2.1))), ((a0 12), .inl (q 0, u_2.2.2.2.1, .inl u_2.2.2.2.2)), ((a1 0), .inr (0, [.int (s1.1 0), .int (s1.1 1), .int (s1.1 2), .int (s1.1 3), .int (s1.1 4), .int (s1.1 5), .ref (a1 1), .ref (a1 2), .ref (a1 3), .ref (a1 4), .ref (a1 5), .ref (a1 6), .ref (a1 7), .ref (a1 8), .ref (a1 9), .ref (a1 10), .ref (a1 11), .ref (a1 12)])), ((a1 1), .inl (q 0, 4, .inl (s1.2.1 0))), ((a1 2), .inl (q 0, 4, .inl (s1.2.1 1))), ((a1 3), .inl (q 0, 160, .inl (s1.2.1 2))), ((a1 4), .inl (q 0, 40, .inl (s1.2.1 3))), ((a1 5), .inl (q 0, 40, .inl (s1.2.1 4))), ((a1 6), .inl (q 0, 40, .inl (s1.2.1 5))), ((a1 7), .inl (q 0, 40, .inl (s1.2.1 6))), ((a1 8), .inl (q 0, 40, .inl (s1.2.1 7))), ((a1 9), .inl (q 0, 40, .inl (s1.2.1 8))), ((a1 10), .inl (q 0, 40, .inl (s1.2.1 9))), ((a1 11), .inl (q 1, 40, .inr (.inl s1.2.2.1))), ((a1 12), .inl (q 0, s1.2.2.2.1, .inl s1.2.2.2.2))] := hD
  refine lv_aload_n hx hb dX0_copyAll_5 rfl (lv_at hl 1 rfl) ?_
  refine vp_callSi (rd_wV (wc := bd_w a1 q s1) (As := []) (rest := []) hx hb hml hown ht (c2_X0_entryCount h) wd_X0_entryCount mw_601 hQ hV hS (hP.sub [13, 14, 15, 16, 17, 18, 19, 20, 21, 22, 23, 24, 25] rfl) rfl rfl rfl hl.1 rfl (Nat.le_of_ble_eq_true rfl) dX0_copyAll_6 ⟨Nat.le_of_ble_eq_true rfl, Nat.le_of_ble_eq_true rfl, rfl, rfl⟩ ⟨Nat.le_of_ble_eq_true rfl, Nat.le_of_ble_eq_true rfl⟩) (fun r_3 h => ?_)
  try dsimp only at h
  refine lv_istore_n (lv' := [(2, .int r_3), (0, .ref (a0 0)), (1, .ref (a1 0))]) hx hb dX0_copyAll_9 rfl hl (by decide) rfl (fun ls hl => ?_)
  refine lv_aload_n hx hb dX0_copyAll_10 rfl (lv_at hl 1 rfl) ?_
  refine fl_get (C := RX0) (T := TX0) (N := 18) (ci := 0) (v := .ref (a0 12)) hx hb ht in_X0 hown hK hP 0 rfl rfl 17 (by decide) mw_208 rfl dX0_copyAll_11 ?_
  refine va_alen (v := (Int32.ofNat u_2.2.2.2.1)) hx hb hK hP 12 0 rfl rfl rfl dX0_copyAll_14 ?_
  refine lv_iload_n hx hb dX0_copyAll_15 rfl (lv_at hl 0 rfl) ?_
  refine lv_icmp_ge (tgt := 26) hx hb dX0_copyAll_16 (by decide) (fun c_5 => ?_) (fun c_5 => ?_)
  · replace h := h.1 c_5
    refine lv_aload_n hx hb dX0_copyAll_26 rfl (lv_at hl 2 rfl) ?_
    refine fl_get (C := RX0) (T := TX0) (N := 18) (ci := 0) (v := .ref (a1 12)) hx hb ht in_X0 hown hK hP 13 rfl rfl 17 (by decide) mw_208 rfl dX0_copyAll_27 ?_
    refine lv_iconst (v := 0) hx hb dX0_copyAll_30 (by decide) ?_
    refine lv_aload_n hx hb dX0_copyAll_31 rfl (lv_at hl 1 rfl) ?_
    refine fl_get (C := RX0) (T := TX0) (N := 18) (ci := 0) (v := .ref (a0 12)) hx hb ht in_X0 hown hK hP 0 rfl rfl 17 (by decide) mw_208 rfl dX0_copyAll_32 ?_
    refine lv_iconst (v := 0) hx hb dX0_copyAll_35 (by decide) ?_
    refine lv_iload_n hx hb dX0_copyAll_36 rfl (lv_at hl 0 rfl) ?_
    refine lv_aload_n hx hb dX0_copyAll_37 rfl (lv_at hl 2 rfl) ?_
    refine fl_get (C := RX0) (T := TX0) (N := 18) (ci := 0) (v := .ref (a1 12)) hx hb ht in_X0 hown hK hP 13 rfl rfl 17 (by decide) mw_208 rfl dX0_copyAll_38 ?_
    refine va_alen (v := (Int32.ofNat s1.2.2.2.1)) hx hb hK hP 25 0 rfl rfl rfl dX0_copyAll_41 ?_
    refine va_mmin hx hb (hml.trans hl.1.symm) hown (ht _ mw_641) (ht _ mw_504) (ht _ mw_110) (ht _ mw_505) (Nat.le_of_ble_eq_true rfl) (Nat.le_of_ble_eq_true rfl) (Nat.le_of_ble_eq_true rfl) (Nat.le_of_ble_eq_true rfl) dX0_copyAll_42 ?_
    obtain ⟨g_6, h⟩ := h
    obtain ⟨g_7, h⟩ := h
    obtain ⟨g_8, h⟩ := h
    refine va_copyi (ty := .int) hx hb (hml.trans hl.1.symm) hown (ht _ mw_594) (ht _ mw_596) (ht _ mw_595) (ht _ mw_111) hK hP hD hS 25 12 0 0 rfl rfl rfl rfl rfl (by decide) (by decide) g_6 g_7 g_8 (fun _ _ => rfl) (Nat.le_of_ble_eq_true rfl) (by decide) dX0_copyAll_45 (fun H locs hP hD hS => ?_)
    have hP : va_P D vwCl [((a0 0), .inr (0, [.int (u_2.1 0), .int (u_2.1 1), .int (u_2.1 2), .int (u_2.1 3), .int (u_2.1 4), .int (u_2.1 5), .ref (a0 1), .ref (a0 2), .ref (a0 3), .ref (a0 4), .ref (a0 5), .ref (a0 6), .ref (a0 7), .ref (a0 8), .ref (a0 9), .ref (a0 10), .ref (a0 11), .ref (a0 12)])), ((a0 1), .inl (q 0, 4, .inl (u_2.2.1 0))), ((a0 2), .inl (q 0, 4, .inl (u_2.2.1 1))), ((a0 3), .inl (q 0, 160, .inl (u_2.2.1 2))), ((a0 4), .inl (q 0, 40, .inl (u_2.2.1 3))), ((a0 5), .inl (q 0, 40, .inl (u_2.2.1 4))), ((a0 6), .inl (q 0, 40, .inl (u_2.2.1 5))), ((a0 7), .inl (q 0, 40, .inl (u_2.2.1 6))), ((a0 8), .inl (q 0, 40, .inl (u_2.2.1 7))), ((a0 9), .inl (q 0, 40, .inl (u_2.2.1 8))), ((a0 10), .inl (q 0, 40, .inl (u_2.2.1 9))), ((a0 11), .inl (q 1, 40, .inr (.inl u_2.2.2.1))), ((a0 12), .inl (q 0, u_2.2.2.2.1, .inl (va_cpy s1.2.2.2.2 u_2.2.2.2.2 (Int32.toNatClampNeg 0) (Int32.toNatClampNeg 0) (Int32.toNatClampNeg (if (Int32.ofNat s1.2.2.2.1) < r_3 then (Int32.ofNat s1.2.2.2.1) else r_3))))), ((a1 0), .inr (0, [.int (s1.1 0), .int (s1.1 1), .int (s1.1 2), .int (s1.1 3), .int (s1.1 4), .int (s1.1 5), .ref (a1 1), .ref (a1 2), .ref (a1 3), .ref (a1 4), .ref (a1 5), .ref (a1 6), .ref (a1 7), .ref (a1 8), .ref (a1 9), .ref (a1 10), .ref (a1 11), .ref (a1 12)])), ((a1 1), .inl (q 0, 4, .inl (s1.2.1 0))), ((a1 2), .inl (q 0, 4, .inl (s1.2.1 1))), ((a1 3), .inl (q 0, 160, .inl (s1.2.1 2))), ((a1 4), .inl (q 0, 40, .inl (s1.2.1 3))), ((a1 5), .inl (q 0, 40, .inl (s1.2.1 4))), ((a1 6), .inl (q 0, 40, .inl (s1.2.1 5))), ((a1 7), .inl (q 0, 40, .inl (s1.2.1 6))), ((a1 8), .inl (q 0, 40, .inl (s1.2.1 7))), ((a1 9), .inl (q 0, 40, .inl (s1.2.1 8))), ((a1 10), .inl (q 0, 40, .inl (s1.2.1 9))), ((a1 11), .inl (q 1, 40, .inr (.inl s1.2.2.1))), ((a1 12), .inl (q 0, s1.2.2.2.1, .inl s1.2.2.2.2))] H := hP
    have hD : va_D _ [((a0 0), .inr (0, [.int (u_2.1 0), .int (u_2.1 1), .int (u_2.1 2), .int (u_2.1 3), .int (u_2.1 4), .int (u_2.1 5), .ref (a0 1), .ref (a0 2), .ref (a0 3), .ref (a0 4), .ref (a0 5), .ref (a0 6), .ref (a0 7), .ref (a0 8), .ref (a0 9), .ref (a0 10), .ref (a0 11), .ref (a0 12)])), ((a0 1), .inl (q 0, 4, .inl (u_2.2.1 0))), ((a0 2), .inl (q 0, 4, .inl (u_2.2.1 1))), ((a0 3), .inl (q 0, 160, .inl (u_2.2.1 2))), ((a0 4), .inl (q 0, 40, .inl (u_2.2.1 3))), ((a0 5), .inl (q 0, 40, .inl (u_2.2.1 4))), ((a0 6), .inl (q 0, 40, .inl (u_2.2.1 5))), ((a0 7), .inl (q 0, 40, .inl (u_2.2.1 6))), ((a0 8), .inl (q 0, 40, .inl (u_2.2.1 7))), ((a0 9), .inl (q 0, 40, .inl (u_2.2.1 8))), ((a0 10), .inl (q 0, 40, .inl (u_2.2.1 9))), ((a0 11), .inl (q 1, 40, .inr (.inl u_2.2.2.1))), ((a0 12), .inl (q 0, u_2.2.2.2.1, .inl (va_cpy s1.2.2.2.2 u_2.2.2.2.2 (Int32.toNatClampNeg 0) (Int32.toNatClampNeg 0) (Int32.toNatClampNeg (if (Int32.ofNat s1.2.2.2.1) < r_3 then (Int32.ofNat s1.2.2.2.1) else r_3))))), ((a1 0), .inr (0, [.int (s1.1 0), .int (s1.1 1), .int (s1.1 2), .int (s1.1 3), .int (s1.1 4), .int (s1.1 5), .ref (a1 1), .ref (a1 2), .ref (a1 3), .ref (a1 4), .ref (a1 5), .ref (a1 6), .ref (a1 7), .ref (a1 8), .ref (a1 9), .ref (a1 10), .ref (a1 11), .ref (a1 12)])), ((a1 1), .inl (q 0, 4, .inl (s1.2.1 0))), ((a1 2), .inl (q 0, 4, .inl (s1.2.1 1))), ((a1 3), .inl (q 0, 160, .inl (s1.2.1 2))), ((a1 4), .inl (q 0, 40, .inl (s1.2.1 3))), ((a1 5), .inl (q 0, 40, .inl (s1.2.1 4))), ((a1 6), .inl (q 0, 40, .inl (s1.2.1 5))), ((a1 7), .inl (q 0, 40, .inl (s1.2.1 6))), ((a1 8), .inl (q 0, 40, .inl (s1.2.1 7))), ((a1 9), .inl (q 0, 40, .inl (s1.2.1 8))), ((a1 10), .inl (q 0, 40, .inl (s1.2.1 9))), ((a1 11), .inl (q 1, 40, .inr (.inl s1.2.2.1))), ((a1 12), .inl (q 0, s1.2.2.2.1, .inl s1.2.2.2.2))] := hD
    refine W.widen (k := 1) (n := 6400) (Nat.le_of_ble_eq_true rfl) (Nat.le_of_ble_eq_true rfl) ?_
    exact mt_vret ((a0 12), (u_2.1, u_2.2.1, u_2.2.2.1, u_2.2.2.2.1, (va_cpy s1.2.2.2.2 u_2.2.2.2.2 (Int32.toNatClampNeg 0) (Int32.toNatClampNeg 0) (Int32.toNatClampNeg (if (Int32.ofNat s1.2.2.2.1) < r_3 then (Int32.ofNat s1.2.2.2.1) else r_3))))) hx hb hr hk h (hP.sub (ws' := bd_w (va_up a0 12 (a0 12)) q (u_2.1, u_2.2.1, u_2.2.2.1, u_2.2.2.2.1, (va_cpy s1.2.2.2.2 u_2.2.2.2.2 (Int32.toNatClampNeg 0) (Int32.toNatClampNeg 0) (Int32.toNatClampNeg (if (Int32.ofNat s1.2.2.2.1) < r_3 then (Int32.ofNat s1.2.2.2.1) else r_3)))) ++ bd_w a1 q s1) [0, 1, 2, 3, 4, 5, 6, 7, 8, 9, 10, 11, 12, 13, 14, 15, 16, 17, 18, 19, 20, 21, 22, 23, 24, 25] rfl) (hD.sub (ws' := bd_w (va_up a0 12 (a0 12)) q (u_2.1, u_2.2.1, u_2.2.2.1, u_2.2.2.2.1, (va_cpy s1.2.2.2.2 u_2.2.2.2.2 (Int32.toNatClampNeg 0) (Int32.toNatClampNeg 0) (Int32.toNatClampNeg (if (Int32.ofNat s1.2.2.2.1) < r_3 then (Int32.ofNat s1.2.2.2.1) else r_3)))) ++ bd_w a1 q s1) [0, 1, 2, 3, 4, 5, 6, 7, 8, 9, 10, 11, 12, 13, 14, 15, 16, 17, 18, 19, 20, 21, 22, 23, 24, 25] (by decide) rfl) hS dX0_copyAll_48
  · replace h := h.2 c_5
    refine lv_aload_n hx hb dX0_copyAll_19 rfl (lv_at hl 1 rfl) ?_
    refine lv_iload_n hx hb dX0_copyAll_20 rfl (lv_at hl 0 rfl) ?_
    obtain ⟨g_10, h⟩ := h
    obtain ⟨g_11, h⟩ := h
    refine nw_i (N := (Int32.toNatClampNeg r_3)) hx hb ht mw_160 hK hP hD hS hA g_10 rfl (Nat.le_trans (Nat.mul_le_mul_right _ g_11) (by decide)) ⟨Nat.le_of_ble_eq_true rfl, by show 0 + _ ≤ 6400; omega⟩ dX0_copyAll_21 (fun e_9 H hP hD hS => ?_)
    have hP : va_P D vwCl [((a0 0), .inr (0, [.int (u_2.1 0), .int (u_2.1 1), .int (u_2.1 2), .int (u_2.1 3), .int (u_2.1 4), .int (u_2.1 5), .ref (a0 1), .ref (a0 2), .ref (a0 3), .ref (a0 4), .ref (a0 5), .ref (a0 6), .ref (a0 7), .ref (a0 8), .ref (a0 9), .ref (a0 10), .ref (a0 11), .ref (a0 12)])), ((a0 1), .inl (q 0, 4, .inl (u_2.2.1 0))), ((a0 2), .inl (q 0, 4, .inl (u_2.2.1 1))), ((a0 3), .inl (q 0, 160, .inl (u_2.2.1 2))), ((a0 4), .inl (q 0, 40, .inl (u_2.2.1 3))), ((a0 5), .inl (q 0, 40, .inl (u_2.2.1 4))), ((a0 6), .inl (q 0, 40, .inl (u_2.2.1 5))), ((a0 7), .inl (q 0, 40, .inl (u_2.2.1 6))), ((a0 8), .inl (q 0, 40, .inl (u_2.2.1 7))), ((a0 9), .inl (q 0, 40, .inl (u_2.2.1 8))), ((a0 10), .inl (q 0, 40, .inl (u_2.2.1 9))), ((a0 11), .inl (q 1, 40, .inr (.inl u_2.2.2.1))), ((a0 12), .inl (q 0, u_2.2.2.2.1, .inl u_2.2.2.2.2)), ((a1 0), .inr (0, [.int (s1.1 0), .int (s1.1 1), .int (s1.1 2), .int (s1.1 3), .int (s1.1 4), .int (s1.1 5), .ref (a1 1), .ref (a1 2), .ref (a1 3), .ref (a1 4), .ref (a1 5), .ref (a1 6), .ref (a1 7), .ref (a1 8), .ref (a1 9), .ref (a1 10), .ref (a1 11), .ref (a1 12)])), ((a1 1), .inl (q 0, 4, .inl (s1.2.1 0))), ((a1 2), .inl (q 0, 4, .inl (s1.2.1 1))), ((a1 3), .inl (q 0, 160, .inl (s1.2.1 2))), ((a1 4), .inl (q 0, 40, .inl (s1.2.1 3))), ((a1 5), .inl (q 0, 40, .inl (s1.2.1 4))), ((a1 6), .inl (q 0, 40, .inl (s1.2.1 5))), ((a1 7), .inl (q 0, 40, .inl (s1.2.1 6))), ((a1 8), .inl (q 0, 40, .inl (s1.2.1 7))), ((a1 9), .inl (q 0, 40, .inl (s1.2.1 8))), ((a1 10), .inl (q 0, 40, .inl (s1.2.1 9))), ((a1 11), .inl (q 1, 40, .inr (.inl s1.2.2.1))), ((a1 12), .inl (q 0, s1.2.2.2.1, .inl s1.2.2.2.2)), (e_9, .inl (q 0, (Int32.toNatClampNeg r_3), .inl (fun _ => 0)))] H := hP
    have hD : va_D _ [((a0 0), .inr (0, [.int (u_2.1 0), .int (u_2.1 1), .int (u_2.1 2), .int (u_2.1 3), .int (u_2.1 4), .int (u_2.1 5), .ref (a0 1), .ref (a0 2), .ref (a0 3), .ref (a0 4), .ref (a0 5), .ref (a0 6), .ref (a0 7), .ref (a0 8), .ref (a0 9), .ref (a0 10), .ref (a0 11), .ref (a0 12)])), ((a0 1), .inl (q 0, 4, .inl (u_2.2.1 0))), ((a0 2), .inl (q 0, 4, .inl (u_2.2.1 1))), ((a0 3), .inl (q 0, 160, .inl (u_2.2.1 2))), ((a0 4), .inl (q 0, 40, .inl (u_2.2.1 3))), ((a0 5), .inl (q 0, 40, .inl (u_2.2.1 4))), ((a0 6), .inl (q 0, 40, .inl (u_2.2.1 5))), ((a0 7), .inl (q 0, 40, .inl (u_2.2.1 6))), ((a0 8), .inl (q 0, 40, .inl (u_2.2.1 7))), ((a0 9), .inl (q 0, 40, .inl (u_2.2.1 8))), ((a0 10), .inl (q 0, 40, .inl (u_2.2.1 9))), ((a0 11), .inl (q 1, 40, .inr (.inl u_2.2.2.1))), ((a0 12), .inl (q 0, u_2.2.2.2.1, .inl u_2.2.2.2.2)), ((a1 0), .inr (0, [.int (s1.1 0), .int (s1.1 1), .int (s1.1 2), .int (s1.1 3), .int (s1.1 4), .int (s1.1 5), .ref (a1 1), .ref (a1 2), .ref (a1 3), .ref (a1 4), .ref (a1 5), .ref (a1 6), .ref (a1 7), .ref (a1 8), .ref (a1 9), .ref (a1 10), .ref (a1 11), .ref (a1 12)])), ((a1 1), .inl (q 0, 4, .inl (s1.2.1 0))), ((a1 2), .inl (q 0, 4, .inl (s1.2.1 1))), ((a1 3), .inl (q 0, 160, .inl (s1.2.1 2))), ((a1 4), .inl (q 0, 40, .inl (s1.2.1 3))), ((a1 5), .inl (q 0, 40, .inl (s1.2.1 4))), ((a1 6), .inl (q 0, 40, .inl (s1.2.1 5))), ((a1 7), .inl (q 0, 40, .inl (s1.2.1 6))), ((a1 8), .inl (q 0, 40, .inl (s1.2.1 7))), ((a1 9), .inl (q 0, 40, .inl (s1.2.1 8))), ((a1 10), .inl (q 0, 40, .inl (s1.2.1 9))), ((a1 11), .inl (q 1, 40, .inr (.inl s1.2.2.1))), ((a1 12), .inl (q 0, s1.2.2.2.1, .inl s1.2.2.2.2)), (e_9, .inl (q 0, (Int32.toNatClampNeg r_3), .inl (fun _ => 0)))] := hD
    refine W.widen (k := 1) (n := 6400) (Nat.le_refl _) (by omega) ?_
    refine fl_put (C := RX0) (T := TX0) (N := 18) (ci := 0) (v := .ref e_9) (ws2 := [((a0 0), .inr (0, [.int (u_2.1 0), .int (u_2.1 1), .int (u_2.1 2), .int (u_2.1 3), .int (u_2.1 4), .int (u_2.1 5), .ref (a0 1), .ref (a0 2), .ref (a0 3), .ref (a0 4), .ref (a0 5), .ref (a0 6), .ref (a0 7), .ref (a0 8), .ref (a0 9), .ref (a0 10), .ref (a0 11), .ref e_9])), ((a0 1), .inl (q 0, 4, .inl (u_2.2.1 0))), ((a0 2), .inl (q 0, 4, .inl (u_2.2.1 1))), ((a0 3), .inl (q 0, 160, .inl (u_2.2.1 2))), ((a0 4), .inl (q 0, 40, .inl (u_2.2.1 3))), ((a0 5), .inl (q 0, 40, .inl (u_2.2.1 4))), ((a0 6), .inl (q 0, 40, .inl (u_2.2.1 5))), ((a0 7), .inl (q 0, 40, .inl (u_2.2.1 6))), ((a0 8), .inl (q 0, 40, .inl (u_2.2.1 7))), ((a0 9), .inl (q 0, 40, .inl (u_2.2.1 8))), ((a0 10), .inl (q 0, 40, .inl (u_2.2.1 9))), ((a0 11), .inl (q 1, 40, .inr (.inl u_2.2.2.1))), ((a0 12), .inl (q 0, u_2.2.2.2.1, .inl u_2.2.2.2.2)), ((a1 0), .inr (0, [.int (s1.1 0), .int (s1.1 1), .int (s1.1 2), .int (s1.1 3), .int (s1.1 4), .int (s1.1 5), .ref (a1 1), .ref (a1 2), .ref (a1 3), .ref (a1 4), .ref (a1 5), .ref (a1 6), .ref (a1 7), .ref (a1 8), .ref (a1 9), .ref (a1 10), .ref (a1 11), .ref (a1 12)])), ((a1 1), .inl (q 0, 4, .inl (s1.2.1 0))), ((a1 2), .inl (q 0, 4, .inl (s1.2.1 1))), ((a1 3), .inl (q 0, 160, .inl (s1.2.1 2))), ((a1 4), .inl (q 0, 40, .inl (s1.2.1 3))), ((a1 5), .inl (q 0, 40, .inl (s1.2.1 4))), ((a1 6), .inl (q 0, 40, .inl (s1.2.1 5))), ((a1 7), .inl (q 0, 40, .inl (s1.2.1 6))), ((a1 8), .inl (q 0, 40, .inl (s1.2.1 7))), ((a1 9), .inl (q 0, 40, .inl (s1.2.1 8))), ((a1 10), .inl (q 0, 40, .inl (s1.2.1 9))), ((a1 11), .inl (q 1, 40, .inr (.inl s1.2.2.1))), ((a1 12), .inl (q 0, s1.2.2.2.1, .inl s1.2.2.2.2)), (e_9, .inl (q 0, (Int32.toNatClampNeg r_3), .inl (fun _ => 0)))]) hx hb ht in_X0 tyX0_ok nmX0 hown hK hP hD hS 0 rfl rfl 17 (by decide) mw_208 rfl rfl rfl (Nat.le_of_ble_eq_true rfl) dX0_copyAll_23 rfl (fun H locs hP hD hS => ?_)
    refine lv_aload_n hx hb dX0_copyAll_26 rfl (lv_at hl 2 rfl) ?_
    refine fl_get (C := RX0) (T := TX0) (N := 18) (ci := 0) (v := .ref (a1 12)) hx hb ht in_X0 hown hK hP 13 rfl rfl 17 (by decide) mw_208 rfl dX0_copyAll_27 ?_
    refine lv_iconst (v := 0) hx hb dX0_copyAll_30 (by decide) ?_
    refine lv_aload_n hx hb dX0_copyAll_31 rfl (lv_at hl 1 rfl) ?_
    refine fl_get (C := RX0) (T := TX0) (N := 18) (ci := 0) (v := .ref e_9) hx hb ht in_X0 hown hK hP 0 rfl rfl 17 (by decide) mw_208 rfl dX0_copyAll_32 ?_
    refine lv_iconst (v := 0) hx hb dX0_copyAll_35 (by decide) ?_
    refine lv_iload_n hx hb dX0_copyAll_36 rfl (lv_at hl 0 rfl) ?_
    refine lv_aload_n hx hb dX0_copyAll_37 rfl (lv_at hl 2 rfl) ?_
    refine fl_get (C := RX0) (T := TX0) (N := 18) (ci := 0) (v := .ref (a1 12)) hx hb ht in_X0 hown hK hP 13 rfl rfl 17 (by decide) mw_208 rfl dX0_copyAll_38 ?_
    refine va_alen (v := (Int32.ofNat s1.2.2.2.1)) hx hb hK hP 25 0 rfl rfl rfl dX0_copyAll_41 ?_
    refine va_mmin hx hb (hml.trans hl.1.symm) hown (ht _ mw_641) (ht _ mw_504) (ht _ mw_110) (ht _ mw_505) (Nat.le_of_ble_eq_true rfl) (Nat.le_of_ble_eq_true rfl) (Nat.le_of_ble_eq_true rfl) (Nat.le_of_ble_eq_true rfl) dX0_copyAll_42 ?_
    obtain ⟨g_12, h⟩ := h
    obtain ⟨g_13, h⟩ := h
    obtain ⟨g_14, h⟩ := h
    refine va_copyi (ty := .int) hx hb (hml.trans hl.1.symm) hown (ht _ mw_594) (ht _ mw_596) (ht _ mw_595) (ht _ mw_111) hK hP hD hS 25 26 0 0 rfl rfl rfl rfl rfl (by decide) (by decide) g_12 g_13 g_14 (fun _ _ => rfl) (Nat.le_of_ble_eq_true rfl) (by decide) dX0_copyAll_45 (fun H locs hP hD hS => ?_)
    have hP : va_P D vwCl [((a0 0), .inr (0, [.int (u_2.1 0), .int (u_2.1 1), .int (u_2.1 2), .int (u_2.1 3), .int (u_2.1 4), .int (u_2.1 5), .ref (a0 1), .ref (a0 2), .ref (a0 3), .ref (a0 4), .ref (a0 5), .ref (a0 6), .ref (a0 7), .ref (a0 8), .ref (a0 9), .ref (a0 10), .ref (a0 11), .ref e_9])), ((a0 1), .inl (q 0, 4, .inl (u_2.2.1 0))), ((a0 2), .inl (q 0, 4, .inl (u_2.2.1 1))), ((a0 3), .inl (q 0, 160, .inl (u_2.2.1 2))), ((a0 4), .inl (q 0, 40, .inl (u_2.2.1 3))), ((a0 5), .inl (q 0, 40, .inl (u_2.2.1 4))), ((a0 6), .inl (q 0, 40, .inl (u_2.2.1 5))), ((a0 7), .inl (q 0, 40, .inl (u_2.2.1 6))), ((a0 8), .inl (q 0, 40, .inl (u_2.2.1 7))), ((a0 9), .inl (q 0, 40, .inl (u_2.2.1 8))), ((a0 10), .inl (q 0, 40, .inl (u_2.2.1 9))), ((a0 11), .inl (q 1, 40, .inr (.inl u_2.2.2.1))), ((a0 12), .inl (q 0, u_2.2.2.2.1, .inl u_2.2.2.2.2)), ((a1 0), .inr (0, [.int (s1.1 0), .int (s1.1 1), .int (s1.1 2), .int (s1.1 3), .int (s1.1 4), .int (s1.1 5), .ref (a1 1), .ref (a1 2), .ref (a1 3), .ref (a1 4), .ref (a1 5), .ref (a1 6), .ref (a1 7), .ref (a1 8), .ref (a1 9), .ref (a1 10), .ref (a1 11), .ref (a1 12)])), ((a1 1), .inl (q 0, 4, .inl (s1.2.1 0))), ((a1 2), .inl (q 0, 4, .inl (s1.2.1 1))), ((a1 3), .inl (q 0, 160, .inl (s1.2.1 2))), ((a1 4), .inl (q 0, 40, .inl (s1.2.1 3))), ((a1 5), .inl (q 0, 40, .inl (s1.2.1 4))), ((a1 6), .inl (q 0, 40, .inl (s1.2.1 5))), ((a1 7), .inl (q 0, 40, .inl (s1.2.1 6))), ((a1 8), .inl (q 0, 40, .inl (s1.2.1 7))), ((a1 9), .inl (q 0, 40, .inl (s1.2.1 8))), ((a1 10), .inl (q 0, 40, .inl (s1.2.1 9))), ((a1 11), .inl (q 1, 40, .inr (.inl s1.2.2.1))), ((a1 12), .inl (q 0, s1.2.2.2.1, .inl s1.2.2.2.2)), (e_9, .inl (q 0, (Int32.toNatClampNeg r_3), .inl (va_cpy s1.2.2.2.2 (fun _ => 0) (Int32.toNatClampNeg 0) (Int32.toNatClampNeg 0) (Int32.toNatClampNeg (if (Int32.ofNat s1.2.2.2.1) < r_3 then (Int32.ofNat s1.2.2.2.1) else r_3)))))] H := hP
    have hD : va_D _ [((a0 0), .inr (0, [.int (u_2.1 0), .int (u_2.1 1), .int (u_2.1 2), .int (u_2.1 3), .int (u_2.1 4), .int (u_2.1 5), .ref (a0 1), .ref (a0 2), .ref (a0 3), .ref (a0 4), .ref (a0 5), .ref (a0 6), .ref (a0 7), .ref (a0 8), .ref (a0 9), .ref (a0 10), .ref (a0 11), .ref e_9])), ((a0 1), .inl (q 0, 4, .inl (u_2.2.1 0))), ((a0 2), .inl (q 0, 4, .inl (u_2.2.1 1))), ((a0 3), .inl (q 0, 160, .inl (u_2.2.1 2))), ((a0 4), .inl (q 0, 40, .inl (u_2.2.1 3))), ((a0 5), .inl (q 0, 40, .inl (u_2.2.1 4))), ((a0 6), .inl (q 0, 40, .inl (u_2.2.1 5))), ((a0 7), .inl (q 0, 40, .inl (u_2.2.1 6))), ((a0 8), .inl (q 0, 40, .inl (u_2.2.1 7))), ((a0 9), .inl (q 0, 40, .inl (u_2.2.1 8))), ((a0 10), .inl (q 0, 40, .inl (u_2.2.1 9))), ((a0 11), .inl (q 1, 40, .inr (.inl u_2.2.2.1))), ((a0 12), .inl (q 0, u_2.2.2.2.1, .inl u_2.2.2.2.2)), ((a1 0), .inr (0, [.int (s1.1 0), .int (s1.1 1), .int (s1.1 2), .int (s1.1 3), .int (s1.1 4), .int (s1.1 5), .ref (a1 1), .ref (a1 2), .ref (a1 3), .ref (a1 4), .ref (a1 5), .ref (a1 6), .ref (a1 7), .ref (a1 8), .ref (a1 9), .ref (a1 10), .ref (a1 11), .ref (a1 12)])), ((a1 1), .inl (q 0, 4, .inl (s1.2.1 0))), ((a1 2), .inl (q 0, 4, .inl (s1.2.1 1))), ((a1 3), .inl (q 0, 160, .inl (s1.2.1 2))), ((a1 4), .inl (q 0, 40, .inl (s1.2.1 3))), ((a1 5), .inl (q 0, 40, .inl (s1.2.1 4))), ((a1 6), .inl (q 0, 40, .inl (s1.2.1 5))), ((a1 7), .inl (q 0, 40, .inl (s1.2.1 6))), ((a1 8), .inl (q 0, 40, .inl (s1.2.1 7))), ((a1 9), .inl (q 0, 40, .inl (s1.2.1 8))), ((a1 10), .inl (q 0, 40, .inl (s1.2.1 9))), ((a1 11), .inl (q 1, 40, .inr (.inl s1.2.2.1))), ((a1 12), .inl (q 0, s1.2.2.2.1, .inl s1.2.2.2.2)), (e_9, .inl (q 0, (Int32.toNatClampNeg r_3), .inl (va_cpy s1.2.2.2.2 (fun _ => 0) (Int32.toNatClampNeg 0) (Int32.toNatClampNeg 0) (Int32.toNatClampNeg (if (Int32.ofNat s1.2.2.2.1) < r_3 then (Int32.ofNat s1.2.2.2.1) else r_3)))))] := hD
    exact mt_vret (e_9, (u_2.1, u_2.2.1, u_2.2.2.1, (Int32.toNatClampNeg r_3), (va_cpy s1.2.2.2.2 (fun _ => 0) (Int32.toNatClampNeg 0) (Int32.toNatClampNeg 0) (Int32.toNatClampNeg (if (Int32.ofNat s1.2.2.2.1) < r_3 then (Int32.ofNat s1.2.2.2.1) else r_3))))) hx hb hr hk h (hP.sub (ws' := bd_w (va_up a0 12 e_9) q (u_2.1, u_2.2.1, u_2.2.2.1, (Int32.toNatClampNeg r_3), (va_cpy s1.2.2.2.2 (fun _ => 0) (Int32.toNatClampNeg 0) (Int32.toNatClampNeg 0) (Int32.toNatClampNeg (if (Int32.ofNat s1.2.2.2.1) < r_3 then (Int32.ofNat s1.2.2.2.1) else r_3)))) ++ bd_w a1 q s1) [0, 1, 2, 3, 4, 5, 6, 7, 8, 9, 10, 11, 26, 13, 14, 15, 16, 17, 18, 19, 20, 21, 22, 23, 24, 25] rfl) (hD.sub (ws' := bd_w (va_up a0 12 e_9) q (u_2.1, u_2.2.1, u_2.2.2.1, (Int32.toNatClampNeg r_3), (va_cpy s1.2.2.2.2 (fun _ => 0) (Int32.toNatClampNeg 0) (Int32.toNatClampNeg 0) (Int32.toNatClampNeg (if (Int32.ofNat s1.2.2.2.1) < r_3 then (Int32.ofNat s1.2.2.2.1) else r_3)))) ++ bd_w a1 q s1) [0, 1, 2, 3, 4, 5, 6, 7, 8, 9, 10, 11, 26, 13, 14, 15, 16, 17, 18, 19, 20, 21, 22, 23, 24, 25] (by decide) rfl) hS dX0_copyAll_48

def wp_X0_isThere (post : Int32 → Prop) (s0 : Bd) : Prop := (((s0.1 0) ≤ 0 → post 0) ∧ (¬ (s0.1 0) ≤ 0 → post 1))
set_option maxHeartbeats 4000000 in
set_option maxRecDepth 100000 in
theorem c2_X0_isThere {l : Launch} {D : va_G} {q : Nat → ClassId} {a0 : Nat → Nat} {s0 : Bd} {post : Int32 → Prop} (h : wp_X0_isThere post s0) : Met l yX0_isThere (Cond.code yX0_isThere cX0_isThere 1 (some .boolean) :: w_all) ({ frames := 0, cells := 0, slots := 0, locals := 0 } : Room) (rd_P D q [.ref (a0 0)] (bd_w a0 q s0)) (vp_Si post) 0 0 (fun _ => False) := by
  refine rd_start (by decide) (Nat.le_of_ble_eq_true rfl) ?_
  intro p e s m below meth c ls hx hb hr hml hown ht hk hP hQ hV hl
  have hK := hQ.1
  have hown : s.vm.findClass RX0 = some m.cls := hown
  have hl : lv_has ls 1 [(0, .ref (a0 0))] := hl
  have hP : va_P D vwCl [((a0 0), .inr (0, [.int (s0.1 0), .int (s0.1 1), .int (s0.1 2), .int (s0.1 3), .int (s0.1 4), .int (s0.1 5), .ref (a0 1), .ref (a0 2), .ref (a0 3), .ref (a0 4), .ref (a0 5), .ref (a0 6), .ref (a0 7), .ref (a0 8), .ref (a0 9), .ref (a0 10), .ref (a0 11), .ref (a0 12)])), ((a0 1), .inl (q 0, 4, .inl (s0.2.1 0))), ((a0 2), .inl (q 0, 4, .inl (s0.2.1 1))), ((a0 3), .inl (q 0, 160, .inl (s0.2.1 2))), ((a0 4), .inl (q 0, 40, .inl (s0.2.1 3))), ((a0 5), .inl (q 0, 40, .inl (s0.2.1 4))), ((a0 6), .inl (q 0, 40, .inl (s0.2.1 5))), ((a0 7), .inl (q 0, 40, .inl (s0.2.1 6))), ((a0 8), .inl (q 0, 40, .inl (s0.2.1 7))), ((a0 9), .inl (q 0, 40, .inl (s0.2.1 8))), ((a0 10), .inl (q 0, 40, .inl (s0.2.1 9))), ((a0 11), .inl (q 1, 40, .inr (.inl s0.2.2.1))), ((a0 12), .inl (q 0, s0.2.2.2.1, .inl s0.2.2.2.2))] s.heap := hP
  unfold wp_X0_isThere at h
  refine lv_aload_n hx hb dX0_isThere_0 rfl (lv_at hl 0 rfl) ?_
  refine fl_get (C := RX0) (T := TX0) (N := 18) (ci := 0) (v := .int (s0.1 0)) hx hb ht in_X0 hown hK hP 0 rfl rfl 0 (by decide) mw_167 rfl dX0_isThere_1 ?_
  refine lv_if_le (tgt := 11) hx hb dX0_isThere_4 (by decide) (fun c_1 => ?_) (fun c_1 => ?_)
  · replace h := h.1 c_1
    refine lv_iconst (v := 0) hx hb dX0_isThere_11 (by decide) ?_
    exact rd_zret hx hb hr hk rfl h dX0_isThere_12
  · replace h := h.2 c_1
    refine lv_iconst (v := 1) hx hb dX0_isThere_7 (by decide) ?_
    refine lv_goto (tgt := 12) hx hb dX0_isThere_8 (by decide) ?_
    exact rd_zret hx hb hr hk rfl h dX0_isThere_12

def wp_X0_hasRow (post : Int32 → Prop) (s0 : Bd) (x1 : Int32) : Prop := ((x1 < 0 → post 0) ∧ (¬ x1 < 0 → (((s0.1 0) ≤ x1 → post 0) ∧ (¬ (s0.1 0) ≤ x1 → post 1))))
set_option maxHeartbeats 4000000 in
set_option maxRecDepth 100000 in
theorem c2_X0_hasRow {l : Launch} {D : va_G} {q : Nat → ClassId} {a0 : Nat → Nat} {s0 : Bd} {x1 : Int32} {post : Int32 → Prop} (h : wp_X0_hasRow post s0 x1) : Met l yX0_hasRow (Cond.code yX0_hasRow cX0_hasRow 2 (some .boolean) :: w_all) ({ frames := 0, cells := 0, slots := 0, locals := 0 } : Room) (rd_P D q [.ref (a0 0), .int x1] (bd_w a0 q s0)) (vp_Si post) 0 0 (fun _ => False) := by
  refine rd_start (by decide) (Nat.le_of_ble_eq_true rfl) ?_
  intro p e s m below meth c ls hx hb hr hml hown ht hk hP hQ hV hl
  have hK := hQ.1
  have hown : s.vm.findClass RX0 = some m.cls := hown
  have hl : lv_has ls 2 [(0, .ref (a0 0)), (1, .int x1)] := hl
  have hP : va_P D vwCl [((a0 0), .inr (0, [.int (s0.1 0), .int (s0.1 1), .int (s0.1 2), .int (s0.1 3), .int (s0.1 4), .int (s0.1 5), .ref (a0 1), .ref (a0 2), .ref (a0 3), .ref (a0 4), .ref (a0 5), .ref (a0 6), .ref (a0 7), .ref (a0 8), .ref (a0 9), .ref (a0 10), .ref (a0 11), .ref (a0 12)])), ((a0 1), .inl (q 0, 4, .inl (s0.2.1 0))), ((a0 2), .inl (q 0, 4, .inl (s0.2.1 1))), ((a0 3), .inl (q 0, 160, .inl (s0.2.1 2))), ((a0 4), .inl (q 0, 40, .inl (s0.2.1 3))), ((a0 5), .inl (q 0, 40, .inl (s0.2.1 4))), ((a0 6), .inl (q 0, 40, .inl (s0.2.1 5))), ((a0 7), .inl (q 0, 40, .inl (s0.2.1 6))), ((a0 8), .inl (q 0, 40, .inl (s0.2.1 7))), ((a0 9), .inl (q 0, 40, .inl (s0.2.1 8))), ((a0 10), .inl (q 0, 40, .inl (s0.2.1 9))), ((a0 11), .inl (q 1, 40, .inr (.inl s0.2.2.1))), ((a0 12), .inl (q 0, s0.2.2.2.1, .inl s0.2.2.2.2))] s.heap := hP
  unfold wp_X0_hasRow at h
  refine lv_iload_n hx hb dX0_hasRow_0 rfl (lv_at hl 1 rfl) ?_
  refine lv_if_lt (tgt := 16) hx hb dX0_hasRow_1 (by decide) (fun c_1 => ?_) (fun c_1 => ?_)
  · replace h := h.1 c_1
    refine lv_iconst (v := 0) hx hb dX0_hasRow_16 (by decide) ?_
    exact rd_zret hx hb hr hk rfl h dX0_hasRow_17
  · replace h := h.2 c_1
    refine lv_iload_n hx hb dX0_hasRow_4 rfl (lv_at hl 1 rfl) ?_
    refine lv_aload_n hx hb dX0_hasRow_5 rfl (lv_at hl 0 rfl) ?_
    refine fl_get (C := RX0) (T := TX0) (N := 18) (ci := 0) (v := .int (s0.1 0)) hx hb ht in_X0 hown hK hP 0 rfl rfl 0 (by decide) mw_167 rfl dX0_hasRow_6 ?_
    refine lv_icmp_ge (tgt := 16) hx hb dX0_hasRow_9 (by decide) (fun c_2 => ?_) (fun c_2 => ?_)
    · replace h := h.1 c_2
      refine lv_iconst (v := 0) hx hb dX0_hasRow_16 (by decide) ?_
      exact rd_zret hx hb hr hk rfl h dX0_hasRow_17
    · replace h := h.2 c_2
      refine lv_iconst (v := 1) hx hb dX0_hasRow_12 (by decide) ?_
      refine lv_goto (tgt := 17) hx hb dX0_hasRow_13 (by decide) ?_
      exact rd_zret hx hb hr hk rfl h dX0_hasRow_17

def wp_X0_hasDrum (post : Int32 → Prop) (s0 : Bd) (x1 : Int32) : Prop := ((x1 < 0 → post 0) ∧ (¬ x1 < 0 → (((s0.1 3) ≤ x1 → post 0) ∧ (¬ (s0.1 3) ≤ x1 → post 1))))
set_option maxHeartbeats 4000000 in
set_option maxRecDepth 100000 in
theorem c2_X0_hasDrum {l : Launch} {D : va_G} {q : Nat → ClassId} {a0 : Nat → Nat} {s0 : Bd} {x1 : Int32} {post : Int32 → Prop} (h : wp_X0_hasDrum post s0 x1) : Met l yX0_hasDrum (Cond.code yX0_hasDrum cX0_hasDrum 2 (some .boolean) :: w_all) ({ frames := 0, cells := 0, slots := 0, locals := 0 } : Room) (rd_P D q [.ref (a0 0), .int x1] (bd_w a0 q s0)) (vp_Si post) 0 0 (fun _ => False) := by
  refine rd_start (by decide) (Nat.le_of_ble_eq_true rfl) ?_
  intro p e s m below meth c ls hx hb hr hml hown ht hk hP hQ hV hl
  have hK := hQ.1
  have hown : s.vm.findClass RX0 = some m.cls := hown
  have hl : lv_has ls 2 [(0, .ref (a0 0)), (1, .int x1)] := hl
  have hP : va_P D vwCl [((a0 0), .inr (0, [.int (s0.1 0), .int (s0.1 1), .int (s0.1 2), .int (s0.1 3), .int (s0.1 4), .int (s0.1 5), .ref (a0 1), .ref (a0 2), .ref (a0 3), .ref (a0 4), .ref (a0 5), .ref (a0 6), .ref (a0 7), .ref (a0 8), .ref (a0 9), .ref (a0 10), .ref (a0 11), .ref (a0 12)])), ((a0 1), .inl (q 0, 4, .inl (s0.2.1 0))), ((a0 2), .inl (q 0, 4, .inl (s0.2.1 1))), ((a0 3), .inl (q 0, 160, .inl (s0.2.1 2))), ((a0 4), .inl (q 0, 40, .inl (s0.2.1 3))), ((a0 5), .inl (q 0, 40, .inl (s0.2.1 4))), ((a0 6), .inl (q 0, 40, .inl (s0.2.1 5))), ((a0 7), .inl (q 0, 40, .inl (s0.2.1 6))), ((a0 8), .inl (q 0, 40, .inl (s0.2.1 7))), ((a0 9), .inl (q 0, 40, .inl (s0.2.1 8))), ((a0 10), .inl (q 0, 40, .inl (s0.2.1 9))), ((a0 11), .inl (q 1, 40, .inr (.inl s0.2.2.1))), ((a0 12), .inl (q 0, s0.2.2.2.1, .inl s0.2.2.2.2))] s.heap := hP
  unfold wp_X0_hasDrum at h
  refine lv_iload_n hx hb dX0_hasDrum_0 rfl (lv_at hl 1 rfl) ?_
  refine lv_if_lt (tgt := 16) hx hb dX0_hasDrum_1 (by decide) (fun c_1 => ?_) (fun c_1 => ?_)
  · replace h := h.1 c_1
    refine lv_iconst (v := 0) hx hb dX0_hasDrum_16 (by decide) ?_
    exact rd_zret hx hb hr hk rfl h dX0_hasDrum_17
  · replace h := h.2 c_1
    refine lv_iload_n hx hb dX0_hasDrum_4 rfl (lv_at hl 1 rfl) ?_
    refine lv_aload_n hx hb dX0_hasDrum_5 rfl (lv_at hl 0 rfl) ?_
    refine fl_get (C := RX0) (T := TX0) (N := 18) (ci := 0) (v := .int (s0.1 3)) hx hb ht in_X0 hown hK hP 0 rfl rfl 3 (by decide) mw_179 rfl dX0_hasDrum_6 ?_
    refine lv_icmp_ge (tgt := 16) hx hb dX0_hasDrum_9 (by decide) (fun c_2 => ?_) (fun c_2 => ?_)
    · replace h := h.1 c_2
      refine lv_iconst (v := 0) hx hb dX0_hasDrum_16 (by decide) ?_
      exact rd_zret hx hb hr hk rfl h dX0_hasDrum_17
    · replace h := h.2 c_2
      refine lv_iconst (v := 1) hx hb dX0_hasDrum_12 (by decide) ?_
      refine lv_goto (tgt := 17) hx hb dX0_hasDrum_13 (by decide) ?_
      exact rd_zret hx hb hr hk rfl h dX0_hasDrum_17

def wp_X0_flapsOf (post : Int32 → Prop) (s0 : Bd) (x1 : Int32) : Prop := vp_in x1 40 ∧ ((((s0.2.1 3) (Int32.toNatClampNeg x1)) < 0 → post 0) ∧ (¬ ((s0.2.1 3) (Int32.toNatClampNeg x1)) < 0 → (((s0.1 3) ≤ ((s0.2.1 3) (Int32.toNatClampNeg x1)) → post 0) ∧ (¬ (s0.1 3) ≤ ((s0.2.1 3) (Int32.toNatClampNeg x1)) → vp_in ((s0.2.1 3) (Int32.toNatClampNeg x1)) 4 ∧ post ((s0.2.1 1) (Int32.toNatClampNeg ((s0.2.1 3) (Int32.toNatClampNeg x1))))))))
set_option maxHeartbeats 4000000 in
set_option maxRecDepth 100000 in
theorem c2_X0_flapsOf {l : Launch} {D : va_G} {q : Nat → ClassId} {a0 : Nat → Nat} {s0 : Bd} {x1 : Int32} {post : Int32 → Prop} (h : wp_X0_flapsOf post s0 x1) : Met l yX0_flapsOf (Cond.code yX0_flapsOf cX0_flapsOf 3 (some .int) :: w_all) ({ frames := 0, cells := 0, slots := 0, locals := 0 } : Room) (rd_P D q [.ref (a0 0), .int x1] (bd_w a0 q s0)) (vp_Si post) 0 0 (fun _ => False) := by
  refine rd_start (by decide) (Nat.le_of_ble_eq_true rfl) ?_
  intro p e s m below meth c ls hx hb hr hml hown ht hk hP hQ hV hl
  have hK := hQ.1
  have hown : s.vm.findClass RX0 = some m.cls := hown
  have hl : lv_has ls 3 [(0, .ref (a0 0)), (1, .int x1)] := hl
  have hP : va_P D vwCl [((a0 0), .inr (0, [.int (s0.1 0), .int (s0.1 1), .int (s0.1 2), .int (s0.1 3), .int (s0.1 4), .int (s0.1 5), .ref (a0 1), .ref (a0 2), .ref (a0 3), .ref (a0 4), .ref (a0 5), .ref (a0 6), .ref (a0 7), .ref (a0 8), .ref (a0 9), .ref (a0 10), .ref (a0 11), .ref (a0 12)])), ((a0 1), .inl (q 0, 4, .inl (s0.2.1 0))), ((a0 2), .inl (q 0, 4, .inl (s0.2.1 1))), ((a0 3), .inl (q 0, 160, .inl (s0.2.1 2))), ((a0 4), .inl (q 0, 40, .inl (s0.2.1 3))), ((a0 5), .inl (q 0, 40, .inl (s0.2.1 4))), ((a0 6), .inl (q 0, 40, .inl (s0.2.1 5))), ((a0 7), .inl (q 0, 40, .inl (s0.2.1 6))), ((a0 8), .inl (q 0, 40, .inl (s0.2.1 7))), ((a0 9), .inl (q 0, 40, .inl (s0.2.1 8))), ((a0 10), .inl (q 0, 40, .inl (s0.2.1 9))), ((a0 11), .inl (q 1, 40, .inr (.inl s0.2.2.1))), ((a0 12), .inl (q 0, s0.2.2.2.1, .inl s0.2.2.2.2))] s.heap := hP
  unfold wp_X0_flapsOf at h
  refine lv_aload_n hx hb dX0_flapsOf_0 rfl (lv_at hl 0 rfl) ?_
  refine fl_get (C := RX0) (T := TX0) (N := 18) (ci := 0) (v := .ref (a0 4)) hx hb ht in_X0 hown hK hP 0 rfl rfl 9 (by decide) mw_192 rfl dX0_flapsOf_1 ?_
  refine lv_iload_n hx hb dX0_flapsOf_4 rfl (lv_at hl 1 rfl) ?_
  obtain ⟨g_1, h⟩ := h
  refine va_iald hx hb hK hP 4 0 rfl rfl g_1 dX0_flapsOf_5 ?_
  refine lv_istore_n (lv' := [(2, .int ((s0.2.1 3) (Int32.toNatClampNeg x1))), (0, .ref (a0 0)), (1, .int x1)]) hx hb dX0_flapsOf_6 rfl hl (by decide) rfl (fun ls hl => ?_)
  refine lv_iload_n hx hb dX0_flapsOf_7 rfl (lv_at hl 0 rfl) ?_
  refine lv_if_lt (tgt := 28) hx hb dX0_flapsOf_8 (by decide) (fun c_2 => ?_) (fun c_2 => ?_)
  · replace h := h.1 c_2
    refine lv_iconst (v := 0) hx hb dX0_flapsOf_28 (by decide) ?_
    exact rd_iret hx hb hr hk h dX0_flapsOf_29
  · replace h := h.2 c_2
    refine lv_iload_n hx hb dX0_flapsOf_11 rfl (lv_at hl 0 rfl) ?_
    refine lv_aload_n hx hb dX0_flapsOf_12 rfl (lv_at hl 1 rfl) ?_
    refine fl_get (C := RX0) (T := TX0) (N := 18) (ci := 0) (v := .int (s0.1 3)) hx hb ht in_X0 hown hK hP 0 rfl rfl 3 (by decide) mw_179 rfl dX0_flapsOf_13 ?_
    refine lv_icmp_ge (tgt := 28) hx hb dX0_flapsOf_16 (by decide) (fun c_3 => ?_) (fun c_3 => ?_)
    · replace h := h.1 c_3
      refine lv_iconst (v := 0) hx hb dX0_flapsOf_28 (by decide) ?_
      exact rd_iret hx hb hr hk h dX0_flapsOf_29
    · replace h := h.2 c_3
      refine lv_aload_n hx hb dX0_flapsOf_19 rfl (lv_at hl 1 rfl) ?_
      refine fl_get (C := RX0) (T := TX0) (N := 18) (ci := 0) (v := .ref (a0 2)) hx hb ht in_X0 hown hK hP 0 rfl rfl 7 (by decide) mw_190 rfl dX0_flapsOf_20 ?_
      refine lv_iload_n hx hb dX0_flapsOf_23 rfl (lv_at hl 0 rfl) ?_
      obtain ⟨g_4, h⟩ := h
      refine va_iald hx hb hK hP 2 0 rfl rfl g_4 dX0_flapsOf_24 ?_
      refine lv_goto (tgt := 29) hx hb dX0_flapsOf_25 (by decide) ?_
      exact rd_iret hx hb hr hk h dX0_flapsOf_29

def wp_X0_hasFlap (post : Int32 → Prop) (s0 : Bd) (x1 : Int32) (x2 : Int32) : Prop := wp_X0_hasCell (fun r_1 => ((r_1 = 0 → post 0) ∧ (¬ r_1 = 0 → ((x2 < 0 → post 0) ∧ (¬ x2 < 0 → wp_X0_flapsOf (fun r_5 => ((r_5 ≤ x2 → post 0) ∧ (¬ r_5 ≤ x2 → post 1))) s0 x1))))) s0 x1
set_option maxHeartbeats 4000000 in
set_option maxRecDepth 100000 in
theorem c2_X0_hasFlap {l : Launch} {D : va_G} {q : Nat → ClassId} {a0 : Nat → Nat} {s0 : Bd} {x1 : Int32} {x2 : Int32} {post : Int32 → Prop} (h : wp_X0_hasFlap post s0 x1 x2) : Met l yX0_hasFlap (Cond.code yX0_hasFlap cX0_hasFlap 3 (some .boolean) :: w_all) ({ frames := 2, cells := 0, slots := 0, locals := 41 } : Room) (rd_P D q [.ref (a0 0), .int x1, .int x2] (bd_w a0 q s0)) (vp_Si post) 0 0 (fun _ => False) := by
  refine rd_start (by decide) (Nat.le_of_ble_eq_true rfl) ?_
  intro p e s m below meth c ls hx hb hr hml hown ht hk hP hQ hV hl
  have hK := hQ.1
  have hown : s.vm.findClass RX0 = some m.cls := hown
  have hl : lv_has ls 3 [(0, .ref (a0 0)), (1, .int x1), (2, .int x2)] := hl
  have hP : va_P D vwCl [((a0 0), .inr (0, [.int (s0.1 0), .int (s0.1 1), .int (s0.1 2), .int (s0.1 3), .int (s0.1 4), .int (s0.1 5), .ref (a0 1), .ref (a0 2), .ref (a0 3), .ref (a0 4), .ref (a0 5), .ref (a0 6), .ref (a0 7), .ref (a0 8), .ref (a0 9), .ref (a0 10), .ref (a0 11), .ref (a0 12)])), ((a0 1), .inl (q 0, 4, .inl (s0.2.1 0))), ((a0 2), .inl (q 0, 4, .inl (s0.2.1 1))), ((a0 3), .inl (q 0, 160, .inl (s0.2.1 2))), ((a0 4), .inl (q 0, 40, .inl (s0.2.1 3))), ((a0 5), .inl (q 0, 40, .inl (s0.2.1 4))), ((a0 6), .inl (q 0, 40, .inl (s0.2.1 5))), ((a0 7), .inl (q 0, 40, .inl (s0.2.1 6))), ((a0 8), .inl (q 0, 40, .inl (s0.2.1 7))), ((a0 9), .inl (q 0, 40, .inl (s0.2.1 8))), ((a0 10), .inl (q 0, 40, .inl (s0.2.1 9))), ((a0 11), .inl (q 1, 40, .inr (.inl s0.2.2.1))), ((a0 12), .inl (q 0, s0.2.2.2.1, .inl s0.2.2.2.2))] s.heap := hP
  unfold wp_X0_hasFlap at h
  refine lv_aload_n hx hb dX0_hasFlap_0 rfl (lv_at hl 0 rfl) ?_
  refine lv_iload_n hx hb dX0_hasFlap_1 rfl (lv_at hl 1 rfl) ?_
  refine vp_callSi (rd_wV (wc := bd_w a0 q s0) (As := [.int x1]) (rest := []) hx hb hml hown ht (c2_X0_hasCell h) wd_X0_hasCell mw_584 hQ hV va_S.rf (hP.sub [0, 1, 2, 3, 4, 5, 6, 7, 8, 9, 10, 11, 12] rfl) rfl rfl rfl hl.1 rfl (Nat.le_of_ble_eq_true rfl) dX0_hasFlap_2 ⟨Nat.le_of_ble_eq_true rfl, Nat.le_of_ble_eq_true rfl, rfl, rfl⟩ ⟨Nat.le_of_ble_eq_true rfl, Nat.le_of_ble_eq_true rfl⟩) (fun r_1 h => ?_)
  try dsimp only at h
  refine lv_if_eq (tgt := 25) hx hb dX0_hasFlap_5 (by decide) (fun c_3 => ?_) (fun c_3 => ?_)
  · replace h := h.1 c_3
    refine lv_iconst (v := 0) hx hb dX0_hasFlap_25 (by decide) ?_
    exact rd_zret hx hb hr hk rfl h dX0_hasFlap_26
  · replace h := h.2 c_3
    refine lv_iload_n hx hb dX0_hasFlap_8 rfl (lv_at hl 2 rfl) ?_
    refine lv_if_lt (tgt := 25) hx hb dX0_hasFlap_9 (by decide) (fun c_4 => ?_) (fun c_4 => ?_)
    · replace h := h.1 c_4
      refine lv_iconst (v := 0) hx hb dX0_hasFlap_25 (by decide) ?_
      exact rd_zret hx hb hr hk rfl h dX0_hasFlap_26
    · replace h := h.2 c_4
      refine lv_iload_n hx hb dX0_hasFlap_12 rfl (lv_at hl 2 rfl) ?_
      refine lv_aload_n hx hb dX0_hasFlap_13 rfl (lv_at hl 0 rfl) ?_
      refine lv_iload_n hx hb dX0_hasFlap_14 rfl (lv_at hl 1 rfl) ?_
      refine vp_callSi (rd_wV (wc := bd_w a0 q s0) (As := [.int x1]) (rest := [.int x2]) hx hb hml hown ht (c2_X0_flapsOf h) wd_X0_flapsOf mw_651 hQ hV va_S.rf (hP.sub [0, 1, 2, 3, 4, 5, 6, 7, 8, 9, 10, 11, 12] rfl) rfl rfl rfl hl.1 rfl (Nat.le_of_ble_eq_true rfl) dX0_hasFlap_15 ⟨Nat.le_of_ble_eq_true rfl, Nat.le_of_ble_eq_true rfl, rfl, rfl⟩ ⟨Nat.le_of_ble_eq_true rfl, Nat.le_of_ble_eq_true rfl⟩) (fun r_5 h => ?_)
      try dsimp only at h
      refine lv_icmp_ge (tgt := 25) hx hb dX0_hasFlap_18 (by decide) (fun c_7 => ?_) (fun c_7 => ?_)
      · replace h := h.1 c_7
        refine lv_iconst (v := 0) hx hb dX0_hasFlap_25 (by decide) ?_
        exact rd_zret hx hb hr hk rfl h dX0_hasFlap_26
      · replace h := h.2 c_7
        refine lv_iconst (v := 1) hx hb dX0_hasFlap_21 (by decide) ?_
        refine lv_goto (tgt := 26) hx hb dX0_hasFlap_22 (by decide) ?_
        exact rd_zret hx hb hr hk rfl h dX0_hasFlap_26

def wp_X0_flapsOn (post : Int32 → Prop) (s0 : Bd) (x1 : Int32) : Prop := ((x1 < 0 → post 0) ∧ (¬ x1 < 0 → (((s0.1 3) ≤ x1 → post 0) ∧ (¬ (s0.1 3) ≤ x1 → vp_in x1 4 ∧ post ((s0.2.1 1) (Int32.toNatClampNeg x1))))))
set_option maxHeartbeats 4000000 in
set_option maxRecDepth 100000 in
theorem c2_X0_flapsOn {l : Launch} {D : va_G} {q : Nat → ClassId} {a0 : Nat → Nat} {s0 : Bd} {x1 : Int32} {post : Int32 → Prop} (h : wp_X0_flapsOn post s0 x1) : Met l yX0_flapsOn (Cond.code yX0_flapsOn cX0_flapsOn 2 (some .int) :: w_all) ({ frames := 0, cells := 0, slots := 0, locals := 0 } : Room) (rd_P D q [.ref (a0 0), .int x1] (bd_w a0 q s0)) (vp_Si post) 0 0 (fun _ => False) := by
  refine rd_start (by decide) (Nat.le_of_ble_eq_true rfl) ?_
  intro p e s m below meth c ls hx hb hr hml hown ht hk hP hQ hV hl
  have hK := hQ.1
  have hown : s.vm.findClass RX0 = some m.cls := hown
  have hl : lv_has ls 2 [(0, .ref (a0 0)), (1, .int x1)] := hl
  have hP : va_P D vwCl [((a0 0), .inr (0, [.int (s0.1 0), .int (s0.1 1), .int (s0.1 2), .int (s0.1 3), .int (s0.1 4), .int (s0.1 5), .ref (a0 1), .ref (a0 2), .ref (a0 3), .ref (a0 4), .ref (a0 5), .ref (a0 6), .ref (a0 7), .ref (a0 8), .ref (a0 9), .ref (a0 10), .ref (a0 11), .ref (a0 12)])), ((a0 1), .inl (q 0, 4, .inl (s0.2.1 0))), ((a0 2), .inl (q 0, 4, .inl (s0.2.1 1))), ((a0 3), .inl (q 0, 160, .inl (s0.2.1 2))), ((a0 4), .inl (q 0, 40, .inl (s0.2.1 3))), ((a0 5), .inl (q 0, 40, .inl (s0.2.1 4))), ((a0 6), .inl (q 0, 40, .inl (s0.2.1 5))), ((a0 7), .inl (q 0, 40, .inl (s0.2.1 6))), ((a0 8), .inl (q 0, 40, .inl (s0.2.1 7))), ((a0 9), .inl (q 0, 40, .inl (s0.2.1 8))), ((a0 10), .inl (q 0, 40, .inl (s0.2.1 9))), ((a0 11), .inl (q 1, 40, .inr (.inl s0.2.2.1))), ((a0 12), .inl (q 0, s0.2.2.2.1, .inl s0.2.2.2.2))] s.heap := hP
  unfold wp_X0_flapsOn at h
  refine lv_iload_n hx hb dX0_flapsOn_0 rfl (lv_at hl 1 rfl) ?_
  refine lv_if_lt (tgt := 21) hx hb dX0_flapsOn_1 (by decide) (fun c_1 => ?_) (fun c_1 => ?_)
  · replace h := h.1 c_1
    refine lv_iconst (v := 0) hx hb dX0_flapsOn_21 (by decide) ?_
    exact rd_iret hx hb hr hk h dX0_flapsOn_22
  · replace h := h.2 c_1
    refine lv_iload_n hx hb dX0_flapsOn_4 rfl (lv_at hl 1 rfl) ?_
    refine lv_aload_n hx hb dX0_flapsOn_5 rfl (lv_at hl 0 rfl) ?_
    refine fl_get (C := RX0) (T := TX0) (N := 18) (ci := 0) (v := .int (s0.1 3)) hx hb ht in_X0 hown hK hP 0 rfl rfl 3 (by decide) mw_179 rfl dX0_flapsOn_6 ?_
    refine lv_icmp_ge (tgt := 21) hx hb dX0_flapsOn_9 (by decide) (fun c_2 => ?_) (fun c_2 => ?_)
    · replace h := h.1 c_2
      refine lv_iconst (v := 0) hx hb dX0_flapsOn_21 (by decide) ?_
      exact rd_iret hx hb hr hk h dX0_flapsOn_22
    · replace h := h.2 c_2
      refine lv_aload_n hx hb dX0_flapsOn_12 rfl (lv_at hl 0 rfl) ?_
      refine fl_get (C := RX0) (T := TX0) (N := 18) (ci := 0) (v := .ref (a0 2)) hx hb ht in_X0 hown hK hP 0 rfl rfl 7 (by decide) mw_190 rfl dX0_flapsOn_13 ?_
      refine lv_iload_n hx hb dX0_flapsOn_16 rfl (lv_at hl 1 rfl) ?_
      obtain ⟨g_3, h⟩ := h
      refine va_iald hx hb hK hP 2 0 rfl rfl g_3 dX0_flapsOn_17 ?_
      refine lv_goto (tgt := 22) hx hb dX0_flapsOn_18 (by decide) ?_
      exact rd_iret hx hb hr hk h dX0_flapsOn_22

def wp_X0_isMovable (post : Int32 → Prop) (s0 : Bd) (x1 : Int32) (x2 : Int32) : Prop := ((x2 ≤ 0 → post 0) ∧ (¬ x2 ≤ 0 → wp_X0_flapsOn (fun r_2 => ((r_2 ≤ x2 → post 0) ∧ (¬ r_2 ≤ x2 → post 1))) s0 x1))
set_option maxHeartbeats 4000000 in
set_option maxRecDepth 100000 in
theorem c2_X0_isMovable {l : Launch} {D : va_G} {q : Nat → ClassId} {a0 : Nat → Nat} {s0 : Bd} {x1 : Int32} {x2 : Int32} {post : Int32 → Prop} (h : wp_X0_isMovable post s0 x1 x2) : Met l yX0_isMovable (Cond.code yX0_isMovable cX0_isMovable 3 (some .boolean) :: w_all) ({ frames := 1, cells := 0, slots := 0, locals := 21 } : Room) (rd_P D q [.ref (a0 0), .int x1, .int x2] (bd_w a0 q s0)) (vp_Si post) 0 0 (fun _ => False) := by
  refine rd_start (by decide) (Nat.le_of_ble_eq_true rfl) ?_
  intro p e s m below meth c ls hx hb hr hml hown ht hk hP hQ hV hl
  have hK := hQ.1
  have hown : s.vm.findClass RX0 = some m.cls := hown
  have hl : lv_has ls 3 [(0, .ref (a0 0)), (1, .int x1), (2, .int x2)] := hl
  have hP : va_P D vwCl [((a0 0), .inr (0, [.int (s0.1 0), .int (s0.1 1), .int (s0.1 2), .int (s0.1 3), .int (s0.1 4), .int (s0.1 5), .ref (a0 1), .ref (a0 2), .ref (a0 3), .ref (a0 4), .ref (a0 5), .ref (a0 6), .ref (a0 7), .ref (a0 8), .ref (a0 9), .ref (a0 10), .ref (a0 11), .ref (a0 12)])), ((a0 1), .inl (q 0, 4, .inl (s0.2.1 0))), ((a0 2), .inl (q 0, 4, .inl (s0.2.1 1))), ((a0 3), .inl (q 0, 160, .inl (s0.2.1 2))), ((a0 4), .inl (q 0, 40, .inl (s0.2.1 3))), ((a0 5), .inl (q 0, 40, .inl (s0.2.1 4))), ((a0 6), .inl (q 0, 40, .inl (s0.2.1 5))), ((a0 7), .inl (q 0, 40, .inl (s0.2.1 6))), ((a0 8), .inl (q 0, 40, .inl (s0.2.1 7))), ((a0 9), .inl (q 0, 40, .inl (s0.2.1 8))), ((a0 10), .inl (q 0, 40, .inl (s0.2.1 9))), ((a0 11), .inl (q 1, 40, .inr (.inl s0.2.2.1))), ((a0 12), .inl (q 0, s0.2.2.2.1, .inl s0.2.2.2.2))] s.heap := hP
  unfold wp_X0_isMovable at h
  refine lv_iload_n hx hb dX0_isMovable_0 rfl (lv_at hl 2 rfl) ?_
  refine lv_if_le (tgt := 17) hx hb dX0_isMovable_1 (by decide) (fun c_1 => ?_) (fun c_1 => ?_)
  · replace h := h.1 c_1
    refine lv_iconst (v := 0) hx hb dX0_isMovable_17 (by decide) ?_
    exact rd_zret hx hb hr hk rfl h dX0_isMovable_18
  · replace h := h.2 c_1
    refine lv_iload_n hx hb dX0_isMovable_4 rfl (lv_at hl 2 rfl) ?_
    refine lv_aload_n hx hb dX0_isMovable_5 rfl (lv_at hl 0 rfl) ?_
    refine lv_iload_n hx hb dX0_isMovable_6 rfl (lv_at hl 1 rfl) ?_
    refine vp_callSi (rd_wV (wc := bd_w a0 q s0) (As := [.int x1]) (rest := [.int x2]) hx hb hml hown ht (c2_X0_flapsOn h) wd_X0_flapsOn mw_772 hQ hV va_S.rf (hP.sub [0, 1, 2, 3, 4, 5, 6, 7, 8, 9, 10, 11, 12] rfl) rfl rfl rfl hl.1 rfl (Nat.le_of_ble_eq_true rfl) dX0_isMovable_7 ⟨Nat.le_of_ble_eq_true rfl, Nat.le_of_ble_eq_true rfl, rfl, rfl⟩ ⟨Nat.le_of_ble_eq_true rfl, Nat.le_of_ble_eq_true rfl⟩) (fun r_2 h => ?_)
    try dsimp only at h
    refine lv_icmp_ge (tgt := 17) hx hb dX0_isMovable_10 (by decide) (fun c_4 => ?_) (fun c_4 => ?_)
    · replace h := h.1 c_4
      refine lv_iconst (v := 0) hx hb dX0_isMovable_17 (by decide) ?_
      exact rd_zret hx hb hr hk rfl h dX0_isMovable_18
    · replace h := h.2 c_4
      refine lv_iconst (v := 1) hx hb dX0_isMovable_13 (by decide) ?_
      refine lv_goto (tgt := 18) hx hb dX0_isMovable_14 (by decide) ?_
      exact rd_zret hx hb hr hk rfl h dX0_isMovable_18

def wp_X0_currentOf (post : Int32 → Prop) (s0 : Bd) (x1 : Int32) : Prop := vp_in x1 40 ∧ ((((s0.2.1 3) (Int32.toNatClampNeg x1)) < 0 → post 0) ∧ (¬ ((s0.2.1 3) (Int32.toNatClampNeg x1)) < 0 → (((s0.1 3) ≤ ((s0.2.1 3) (Int32.toNatClampNeg x1)) → post 0) ∧ (¬ (s0.1 3) ≤ ((s0.2.1 3) (Int32.toNatClampNeg x1)) → vp_in ((s0.2.1 3) (Int32.toNatClampNeg x1)) 4 ∧ post ((s0.2.1 0) (Int32.toNatClampNeg ((s0.2.1 3) (Int32.toNatClampNeg x1))))))))
set_option maxHeartbeats 4000000 in
set_option maxRecDepth 100000 in
theorem c2_X0_currentOf {l : Launch} {D : va_G} {q : Nat → ClassId} {a0 : Nat → Nat} {s0 : Bd} {x1 : Int32} {post : Int32 → Prop} (h : wp_X0_currentOf post s0 x1) : Met l yX0_currentOf (Cond.code yX0_currentOf cX0_currentOf 3 (some .int) :: w_all) ({ frames := 0, cells := 0, slots := 0, locals := 0 } : Room) (rd_P D q [.ref (a0 0), .int x1] (bd_w a0 q s0)) (vp_Si post) 0 0 (fun _ => False) := by
  refine rd_start (by decide) (Nat.le_of_ble_eq_true rfl) ?_
  intro p e s m below meth c ls hx hb hr hml hown ht hk hP hQ hV hl
  have hK := hQ.1
  have hown : s.vm.findClass RX0 = some m.cls := hown
  have hl : lv_has ls 3 [(0, .ref (a0 0)), (1, .int x1)] := hl
  have hP : va_P D vwCl [((a0 0), .inr (0, [.int (s0.1 0), .int (s0.1 1), .int (s0.1 2), .int (s0.1 3), .int (s0.1 4), .int (s0.1 5), .ref (a0 1), .ref (a0 2), .ref (a0 3), .ref (a0 4), .ref (a0 5), .ref (a0 6), .ref (a0 7), .ref (a0 8), .ref (a0 9), .ref (a0 10), .ref (a0 11), .ref (a0 12)])), ((a0 1), .inl (q 0, 4, .inl (s0.2.1 0))), ((a0 2), .inl (q 0, 4, .inl (s0.2.1 1))), ((a0 3), .inl (q 0, 160, .inl (s0.2.1 2))), ((a0 4), .inl (q 0, 40, .inl (s0.2.1 3))), ((a0 5), .inl (q 0, 40, .inl (s0.2.1 4))), ((a0 6), .inl (q 0, 40, .inl (s0.2.1 5))), ((a0 7), .inl (q 0, 40, .inl (s0.2.1 6))), ((a0 8), .inl (q 0, 40, .inl (s0.2.1 7))), ((a0 9), .inl (q 0, 40, .inl (s0.2.1 8))), ((a0 10), .inl (q 0, 40, .inl (s0.2.1 9))), ((a0 11), .inl (q 1, 40, .inr (.inl s0.2.2.1))), ((a0 12), .inl (q 0, s0.2.2.2.1, .inl s0.2.2.2.2))] s.heap := hP
  unfold wp_X0_currentOf at h
  refine lv_aload_n hx hb dX0_currentOf_0 rfl (lv_at hl 0 rfl) ?_
  refine fl_get (C := RX0) (T := TX0) (N := 18) (ci := 0) (v := .ref (a0 4)) hx hb ht in_X0 hown hK hP 0 rfl rfl 9 (by decide) mw_192 rfl dX0_currentOf_1 ?_
  refine lv_iload_n hx hb dX0_currentOf_4 rfl (lv_at hl 1 rfl) ?_
  obtain ⟨g_1, h⟩ := h
  refine va_iald hx hb hK hP 4 0 rfl rfl g_1 dX0_currentOf_5 ?_
  refine lv_istore_n (lv' := [(2, .int ((s0.2.1 3) (Int32.toNatClampNeg x1))), (0, .ref (a0 0)), (1, .int x1)]) hx hb dX0_currentOf_6 rfl hl (by decide) rfl (fun ls hl => ?_)
  refine lv_iload_n hx hb dX0_currentOf_7 rfl (lv_at hl 0 rfl) ?_
  refine lv_if_lt (tgt := 28) hx hb dX0_currentOf_8 (by decide) (fun c_2 => ?_) (fun c_2 => ?_)
  · replace h := h.1 c_2
    refine lv_iconst (v := 0) hx hb dX0_currentOf_28 (by decide) ?_
    exact rd_iret hx hb hr hk h dX0_currentOf_29
  · replace h := h.2 c_2
    refine lv_iload_n hx hb dX0_currentOf_11 rfl (lv_at hl 0 rfl) ?_
    refine lv_aload_n hx hb dX0_currentOf_12 rfl (lv_at hl 1 rfl) ?_
    refine fl_get (C := RX0) (T := TX0) (N := 18) (ci := 0) (v := .int (s0.1 3)) hx hb ht in_X0 hown hK hP 0 rfl rfl 3 (by decide) mw_179 rfl dX0_currentOf_13 ?_
    refine lv_icmp_ge (tgt := 28) hx hb dX0_currentOf_16 (by decide) (fun c_3 => ?_) (fun c_3 => ?_)
    · replace h := h.1 c_3
      refine lv_iconst (v := 0) hx hb dX0_currentOf_28 (by decide) ?_
      exact rd_iret hx hb hr hk h dX0_currentOf_29
    · replace h := h.2 c_3
      refine lv_aload_n hx hb dX0_currentOf_19 rfl (lv_at hl 1 rfl) ?_
      refine fl_get (C := RX0) (T := TX0) (N := 18) (ci := 0) (v := .ref (a0 1)) hx hb ht in_X0 hown hK hP 0 rfl rfl 6 (by decide) mw_188 rfl dX0_currentOf_20 ?_
      refine lv_iload_n hx hb dX0_currentOf_23 rfl (lv_at hl 0 rfl) ?_
      obtain ⟨g_4, h⟩ := h
      refine va_iald hx hb hK hP 1 0 rfl rfl g_4 dX0_currentOf_24 ?_
      refine lv_goto (tgt := 29) hx hb dX0_currentOf_25 (by decide) ?_
      exact rd_iret hx hb hr hk h dX0_currentOf_29

def wp_X0_signOf (post : Int32 → Prop) (s0 : Bd) (x1 : Int32) (x2 : Int32) : Prop := ((x1 < 0 → post (-1)) ∧ (¬ x1 < 0 → (((s0.1 3) ≤ x1 → post (-1)) ∧ (¬ (s0.1 3) ≤ x1 → ((x2 < 0 → post (-1)) ∧ (¬ x2 < 0 → vp_in x1 4 ∧ ((x2 < ((s0.2.1 1) (Int32.toNatClampNeg x1)) → vp_in ((x1 * 40) + x2) 160 ∧ post ((s0.2.1 2) (Int32.toNatClampNeg ((x1 * 40) + x2)))) ∧ (¬ x2 < ((s0.2.1 1) (Int32.toNatClampNeg x1)) → post (-1)))))))))
set_option maxHeartbeats 4000000 in
set_option maxRecDepth 100000 in
theorem c2_X0_signOf {l : Launch} {D : va_G} {q : Nat → ClassId} {a0 : Nat → Nat} {s0 : Bd} {x1 : Int32} {x2 : Int32} {post : Int32 → Prop} (h : wp_X0_signOf post s0 x1 x2) : Met l yX0_signOf (Cond.code yX0_signOf cX0_signOf 3 (some .int) :: w_all) ({ frames := 0, cells := 0, slots := 0, locals := 0 } : Room) (rd_P D q [.ref (a0 0), .int x1, .int x2] (bd_w a0 q s0)) (vp_Si post) 0 0 (fun _ => False) := by
  refine rd_start (by decide) (Nat.le_of_ble_eq_true rfl) ?_
  intro p e s m below meth c ls hx hb hr hml hown ht hk hP hQ hV hl
  have hK := hQ.1
  have hown : s.vm.findClass RX0 = some m.cls := hown
  have hl : lv_has ls 3 [(0, .ref (a0 0)), (1, .int x1), (2, .int x2)] := hl
  have hP : va_P D vwCl [((a0 0), .inr (0, [.int (s0.1 0), .int (s0.1 1), .int (s0.1 2), .int (s0.1 3), .int (s0.1 4), .int (s0.1 5), .ref (a0 1), .ref (a0 2), .ref (a0 3), .ref (a0 4), .ref (a0 5), .ref (a0 6), .ref (a0 7), .ref (a0 8), .ref (a0 9), .ref (a0 10), .ref (a0 11), .ref (a0 12)])), ((a0 1), .inl (q 0, 4, .inl (s0.2.1 0))), ((a0 2), .inl (q 0, 4, .inl (s0.2.1 1))), ((a0 3), .inl (q 0, 160, .inl (s0.2.1 2))), ((a0 4), .inl (q 0, 40, .inl (s0.2.1 3))), ((a0 5), .inl (q 0, 40, .inl (s0.2.1 4))), ((a0 6), .inl (q 0, 40, .inl (s0.2.1 5))), ((a0 7), .inl (q 0, 40, .inl (s0.2.1 6))), ((a0 8), .inl (q 0, 40, .inl (s0.2.1 7))), ((a0 9), .inl (q 0, 40, .inl (s0.2.1 8))), ((a0 10), .inl (q 0, 40, .inl (s0.2.1 9))), ((a0 11), .inl (q 1, 40, .inr (.inl s0.2.2.1))), ((a0 12), .inl (q 0, s0.2.2.2.1, .inl s0.2.2.2.2))] s.heap := hP
  unfold wp_X0_signOf at h
  refine lv_iload_n hx hb dX0_signOf_0 rfl (lv_at hl 1 rfl) ?_
  refine lv_if_lt (tgt := 26) hx hb dX0_signOf_1 (by decide) (fun c_1 => ?_) (fun c_1 => ?_)
  · replace h := h.1 c_1
    refine lv_iconst (v := (-1)) hx hb dX0_signOf_26 (by decide) ?_
    exact rd_iret hx hb hr hk h dX0_signOf_27
  · replace h := h.2 c_1
    refine lv_iload_n hx hb dX0_signOf_4 rfl (lv_at hl 1 rfl) ?_
    refine lv_aload_n hx hb dX0_signOf_5 rfl (lv_at hl 0 rfl) ?_
    refine fl_get (C := RX0) (T := TX0) (N := 18) (ci := 0) (v := .int (s0.1 3)) hx hb ht in_X0 hown hK hP 0 rfl rfl 3 (by decide) mw_179 rfl dX0_signOf_6 ?_
    refine lv_icmp_ge (tgt := 26) hx hb dX0_signOf_9 (by decide) (fun c_2 => ?_) (fun c_2 => ?_)
    · replace h := h.1 c_2
      refine lv_iconst (v := (-1)) hx hb dX0_signOf_26 (by decide) ?_
      exact rd_iret hx hb hr hk h dX0_signOf_27
    · replace h := h.2 c_2
      refine lv_iload_n hx hb dX0_signOf_12 rfl (lv_at hl 2 rfl) ?_
      refine lv_if_lt (tgt := 26) hx hb dX0_signOf_13 (by decide) (fun c_3 => ?_) (fun c_3 => ?_)
      · replace h := h.1 c_3
        refine lv_iconst (v := (-1)) hx hb dX0_signOf_26 (by decide) ?_
        exact rd_iret hx hb hr hk h dX0_signOf_27
      · replace h := h.2 c_3
        refine lv_iload_n hx hb dX0_signOf_16 rfl (lv_at hl 2 rfl) ?_
        refine lv_aload_n hx hb dX0_signOf_17 rfl (lv_at hl 0 rfl) ?_
        refine fl_get (C := RX0) (T := TX0) (N := 18) (ci := 0) (v := .ref (a0 2)) hx hb ht in_X0 hown hK hP 0 rfl rfl 7 (by decide) mw_190 rfl dX0_signOf_18 ?_
        refine lv_iload_n hx hb dX0_signOf_21 rfl (lv_at hl 1 rfl) ?_
        obtain ⟨g_4, h⟩ := h
        refine va_iald hx hb hK hP 2 0 rfl rfl g_4 dX0_signOf_22 ?_
        refine lv_icmp_lt (tgt := 28) hx hb dX0_signOf_23 (by decide) (fun c_5 => ?_) (fun c_5 => ?_)
        · replace h := h.1 c_5
          refine lv_aload_n hx hb dX0_signOf_28 rfl (lv_at hl 0 rfl) ?_
          refine fl_get (C := RX0) (T := TX0) (N := 18) (ci := 0) (v := .ref (a0 3)) hx hb ht in_X0 hown hK hP 0 rfl rfl 8 (by decide) mw_191 rfl dX0_signOf_29 ?_
          refine lv_iload_n hx hb dX0_signOf_32 rfl (lv_at hl 1 rfl) ?_
          refine lv_bipush (v := 40) hx hb dX0_signOf_33 (by decide) ?_
          refine lv_imul hx hb dX0_signOf_35 ?_
          refine lv_iload_n hx hb dX0_signOf_36 rfl (lv_at hl 2 rfl) ?_
          refine lv_iadd hx hb dX0_signOf_37 ?_
          obtain ⟨g_6, h⟩ := h
          refine va_iald hx hb hK hP 3 0 rfl rfl g_6 dX0_signOf_38 ?_
          exact rd_iret hx hb hr hk h dX0_signOf_39
        · replace h := h.2 c_5
          refine lv_iconst (v := (-1)) hx hb dX0_signOf_26 (by decide) ?_
          exact rd_iret hx hb hr hk h dX0_signOf_27

def wp_X0_signOn (post : Int32 → Prop) (s0 : Bd) (x1 : Int32) (x2 : Int32) : Prop := vp_in x1 40 ∧ wp_X0_signOf (fun r_2 => post r_2) s0 ((s0.2.1 3) (Int32.toNatClampNeg x1)) x2
set_option maxHeartbeats 4000000 in
set_option maxRecDepth 100000 in
theorem c2_X0_signOn {l : Launch} {D : va_G} {q : Nat → ClassId} {a0 : Nat → Nat} {s0 : Bd} {x1 : Int32} {x2 : Int32} {post : Int32 → Prop} (h : wp_X0_signOn post s0 x1 x2) : Met l yX0_signOn (Cond.code yX0_signOn cX0_signOn 3 (some .int) :: w_all) ({ frames := 1, cells := 0, slots := 0, locals := 22 } : Room) (rd_P D q [.ref (a0 0), .int x1, .int x2] (bd_w a0 q s0)) (vp_Si post) 0 0 (fun _ => False) := by
  refine rd_start (by decide) (Nat.le_of_ble_eq_true rfl) ?_
  intro p e s m below meth c ls hx hb hr hml hown ht hk hP hQ hV hl
  have hK := hQ.1
  have hown : s.vm.findClass RX0 = some m.cls := hown
  have hl : lv_has ls 3 [(0, .ref (a0 0)), (1, .int x1), (2, .int x2)] := hl
  have hP : va_P D vwCl [((a0 0), .inr (0, [.int (s0.1 0), .int (s0.1 1), .int (s0.1 2), .int (s0.1 3), .int (s0.1 4), .int (s0.1 5), .ref (a0 1), .ref (a0 2), .ref (a0 3), .ref (a0 4), .ref (a0 5), .ref (a0 6), .ref (a0 7), .ref (a0 8), .ref (a0 9), .ref (a0 10), .ref (a0 11), .ref (a0 12)])), ((a0 1), .inl (q 0, 4, .inl (s0.2.1 0))), ((a0 2), .inl (q 0, 4, .inl (s0.2.1 1))), ((a0 3), .inl (q 0, 160, .inl (s0.2.1 2))), ((a0 4), .inl (q 0, 40, .inl (s0.2.1 3))), ((a0 5), .inl (q 0, 40, .inl (s0.2.1 4))), ((a0 6), .inl (q 0, 40, .inl (s0.2.1 5))), ((a0 7), .inl (q 0, 40, .inl (s0.2.1 6))), ((a0 8), .inl (q 0, 40, .inl (s0.2.1 7))), ((a0 9), .inl (q 0, 40, .inl (s0.2.1 8))), ((a0 10), .inl (q 0, 40, .inl (s0.2.1 9))), ((a0 11), .inl (q 1, 40, .inr (.inl s0.2.2.1))), ((a0 12), .inl (q 0, s0.2.2.2.1, .inl s0.2.2.2.2))] s.heap := hP
  unfold wp_X0_signOn at h
  refine lv_aload_n hx hb dX0_signOn_0 rfl (lv_at hl 0 rfl) ?_
  refine lv_aload_n hx hb dX0_signOn_1 rfl (lv_at hl 0 rfl) ?_
  refine fl_get (C := RX0) (T := TX0) (N := 18) (ci := 0) (v := .ref (a0 4)) hx hb ht in_X0 hown hK hP 0 rfl rfl 9 (by decide) mw_192 rfl dX0_signOn_2 ?_
  refine lv_iload_n hx hb dX0_signOn_5 rfl (lv_at hl 1 rfl) ?_
  obtain ⟨g_1, h⟩ := h
  refine va_iald hx hb hK hP 4 0 rfl rfl g_1 dX0_signOn_6 ?_
  refine lv_iload_n hx hb dX0_signOn_7 rfl (lv_at hl 2 rfl) ?_
  refine vp_callSi (rd_wV (wc := bd_w a0 q s0) (As := [.int ((s0.2.1 3) (Int32.toNatClampNeg x1)), .int x2]) (rest := []) hx hb hml hown ht (c2_X0_signOf h) wd_X0_signOf mw_668 hQ hV va_S.rf (hP.sub [0, 1, 2, 3, 4, 5, 6, 7, 8, 9, 10, 11, 12] rfl) rfl rfl rfl hl.1 rfl (Nat.le_of_ble_eq_true rfl) dX0_signOn_8 ⟨Nat.le_of_ble_eq_true rfl, Nat.le_of_ble_eq_true rfl, rfl, rfl⟩ ⟨Nat.le_of_ble_eq_true rfl, Nat.le_of_ble_eq_true rfl⟩) (fun r_2 h => ?_)
  try dsimp only at h
  exact rd_iret hx hb hr hk h dX0_signOn_11

def wp_X0_wantedSign (post : Int32 → Prop) (s0 : Bd) (x1 : Int32) : Prop := vp_in x1 40 ∧ wp_X0_signOn (fun r_2 => post r_2) s0 x1 ((s0.2.1 6) (Int32.toNatClampNeg x1))
set_option maxHeartbeats 4000000 in
set_option maxRecDepth 100000 in
theorem c2_X0_wantedSign {l : Launch} {D : va_G} {q : Nat → ClassId} {a0 : Nat → Nat} {s0 : Bd} {x1 : Int32} {post : Int32 → Prop} (h : wp_X0_wantedSign post s0 x1) : Met l yX0_wantedSign (Cond.code yX0_wantedSign cX0_wantedSign 2 (some .int) :: w_all) ({ frames := 2, cells := 0, slots := 0, locals := 44 } : Room) (rd_P D q [.ref (a0 0), .int x1] (bd_w a0 q s0)) (vp_Si post) 0 0 (fun _ => False) := by
  refine rd_start (by decide) (Nat.le_of_ble_eq_true rfl) ?_
  intro p e s m below meth c ls hx hb hr hml hown ht hk hP hQ hV hl
  have hK := hQ.1
  have hown : s.vm.findClass RX0 = some m.cls := hown
  have hl : lv_has ls 2 [(0, .ref (a0 0)), (1, .int x1)] := hl
  have hP : va_P D vwCl [((a0 0), .inr (0, [.int (s0.1 0), .int (s0.1 1), .int (s0.1 2), .int (s0.1 3), .int (s0.1 4), .int (s0.1 5), .ref (a0 1), .ref (a0 2), .ref (a0 3), .ref (a0 4), .ref (a0 5), .ref (a0 6), .ref (a0 7), .ref (a0 8), .ref (a0 9), .ref (a0 10), .ref (a0 11), .ref (a0 12)])), ((a0 1), .inl (q 0, 4, .inl (s0.2.1 0))), ((a0 2), .inl (q 0, 4, .inl (s0.2.1 1))), ((a0 3), .inl (q 0, 160, .inl (s0.2.1 2))), ((a0 4), .inl (q 0, 40, .inl (s0.2.1 3))), ((a0 5), .inl (q 0, 40, .inl (s0.2.1 4))), ((a0 6), .inl (q 0, 40, .inl (s0.2.1 5))), ((a0 7), .inl (q 0, 40, .inl (s0.2.1 6))), ((a0 8), .inl (q 0, 40, .inl (s0.2.1 7))), ((a0 9), .inl (q 0, 40, .inl (s0.2.1 8))), ((a0 10), .inl (q 0, 40, .inl (s0.2.1 9))), ((a0 11), .inl (q 1, 40, .inr (.inl s0.2.2.1))), ((a0 12), .inl (q 0, s0.2.2.2.1, .inl s0.2.2.2.2))] s.heap := hP
  unfold wp_X0_wantedSign at h
  refine lv_aload_n hx hb dX0_wantedSign_0 rfl (lv_at hl 0 rfl) ?_
  refine lv_iload_n hx hb dX0_wantedSign_1 rfl (lv_at hl 1 rfl) ?_
  refine lv_aload_n hx hb dX0_wantedSign_2 rfl (lv_at hl 0 rfl) ?_
  refine fl_get (C := RX0) (T := TX0) (N := 18) (ci := 0) (v := .ref (a0 7)) hx hb ht in_X0 hown hK hP 0 rfl rfl 12 (by decide) mw_198 rfl dX0_wantedSign_3 ?_
  refine lv_iload_n hx hb dX0_wantedSign_6 rfl (lv_at hl 1 rfl) ?_
  obtain ⟨g_1, h⟩ := h
  refine va_iald hx hb hK hP 7 0 rfl rfl g_1 dX0_wantedSign_7 ?_
  refine vp_callSi (rd_wV (wc := bd_w a0 q s0) (As := [.int x1, .int ((s0.2.1 6) (Int32.toNatClampNeg x1))]) (rest := []) hx hb hml hown ht (c2_X0_signOn h) wd_X0_signOn mw_664 hQ hV va_S.rf (hP.sub [0, 1, 2, 3, 4, 5, 6, 7, 8, 9, 10, 11, 12] rfl) rfl rfl rfl hl.1 rfl (Nat.le_of_ble_eq_true rfl) dX0_wantedSign_8 ⟨Nat.le_of_ble_eq_true rfl, Nat.le_of_ble_eq_true rfl, rfl, rfl⟩ ⟨Nat.le_of_ble_eq_true rfl, Nat.le_of_ble_eq_true rfl⟩) (fun r_2 h => ?_)
  try dsimp only at h
  exact rd_iret hx hb hr hk h dX0_wantedSign_11

def wp_X0_showsWrong (post : Int32 → Prop) (s0 : Bd) (x1 : Int32) : Prop := vp_in x1 40 ∧ wp_X0_signOn (fun r_2 => wp_X0_wantedSign (fun r_4 => ((r_2 = r_4 → post 0) ∧ (¬ r_2 = r_4 → post 1))) s0 x1) s0 x1 ((s0.2.1 4) (Int32.toNatClampNeg x1))
set_option maxHeartbeats 4000000 in
set_option maxRecDepth 100000 in
theorem c2_X0_showsWrong {l : Launch} {D : va_G} {q : Nat → ClassId} {a0 : Nat → Nat} {s0 : Bd} {x1 : Int32} {post : Int32 → Prop} (h : wp_X0_showsWrong post s0 x1) : Met l yX0_showsWrong (Cond.code yX0_showsWrong cX0_showsWrong 2 (some .boolean) :: w_all) ({ frames := 3, cells := 0, slots := 0, locals := 65 } : Room) (rd_P D q [.ref (a0 0), .int x1] (bd_w a0 q s0)) (vp_Si post) 0 0 (fun _ => False) := by
  refine rd_start (by decide) (Nat.le_of_ble_eq_true rfl) ?_
  intro p e s m below meth c ls hx hb hr hml hown ht hk hP hQ hV hl
  have hK := hQ.1
  have hown : s.vm.findClass RX0 = some m.cls := hown
  have hl : lv_has ls 2 [(0, .ref (a0 0)), (1, .int x1)] := hl
  have hP : va_P D vwCl [((a0 0), .inr (0, [.int (s0.1 0), .int (s0.1 1), .int (s0.1 2), .int (s0.1 3), .int (s0.1 4), .int (s0.1 5), .ref (a0 1), .ref (a0 2), .ref (a0 3), .ref (a0 4), .ref (a0 5), .ref (a0 6), .ref (a0 7), .ref (a0 8), .ref (a0 9), .ref (a0 10), .ref (a0 11), .ref (a0 12)])), ((a0 1), .inl (q 0, 4, .inl (s0.2.1 0))), ((a0 2), .inl (q 0, 4, .inl (s0.2.1 1))), ((a0 3), .inl (q 0, 160, .inl (s0.2.1 2))), ((a0 4), .inl (q 0, 40, .inl (s0.2.1 3))), ((a0 5), .inl (q 0, 40, .inl (s0.2.1 4))), ((a0 6), .inl (q 0, 40, .inl (s0.2.1 5))), ((a0 7), .inl (q 0, 40, .inl (s0.2.1 6))), ((a0 8), .inl (q 0, 40, .inl (s0.2.1 7))), ((a0 9), .inl (q 0, 40, .inl (s0.2.1 8))), ((a0 10), .inl (q 0, 40, .inl (s0.2.1 9))), ((a0 11), .inl (q 1, 40, .inr (.inl s0.2.2.1))), ((a0 12), .inl (q 0, s0.2.2.2.1, .inl s0.2.2.2.2))] s.heap := hP
  unfold wp_X0_showsWrong at h
  refine lv_aload_n hx hb dX0_showsWrong_0 rfl (lv_at hl 0 rfl) ?_
  refine lv_iload_n hx hb dX0_showsWrong_1 rfl (lv_at hl 1 rfl) ?_
  refine lv_aload_n hx hb dX0_showsWrong_2 rfl (lv_at hl 0 rfl) ?_
  refine fl_get (C := RX0) (T := TX0) (N := 18) (ci := 0) (v := .ref (a0 5)) hx hb ht in_X0 hown hK hP 0 rfl rfl 10 (by decide) mw_194 rfl dX0_showsWrong_3 ?_
  refine lv_iload_n hx hb dX0_showsWrong_6 rfl (lv_at hl 1 rfl) ?_
  obtain ⟨g_1, h⟩ := h
  refine va_iald hx hb hK hP 5 0 rfl rfl g_1 dX0_showsWrong_7 ?_
  refine vp_callSi (rd_wV (wc := bd_w a0 q s0) (As := [.int x1, .int ((s0.2.1 4) (Int32.toNatClampNeg x1))]) (rest := []) hx hb hml hown ht (c2_X0_signOn h) wd_X0_signOn mw_664 hQ hV va_S.rf (hP.sub [0, 1, 2, 3, 4, 5, 6, 7, 8, 9, 10, 11, 12] rfl) rfl rfl rfl hl.1 rfl (Nat.le_of_ble_eq_true rfl) dX0_showsWrong_8 ⟨Nat.le_of_ble_eq_true rfl, Nat.le_of_ble_eq_true rfl, rfl, rfl⟩ ⟨Nat.le_of_ble_eq_true rfl, Nat.le_of_ble_eq_true rfl⟩) (fun r_2 h => ?_)
  try dsimp only at h
  refine lv_aload_n hx hb dX0_showsWrong_11 rfl (lv_at hl 0 rfl) ?_
  refine lv_iload_n hx hb dX0_showsWrong_12 rfl (lv_at hl 1 rfl) ?_
  refine vp_callSi (rd_wV (wc := bd_w a0 q s0) (As := [.int x1]) (rest := [.int r_2]) hx hb hml hown ht (c2_X0_wantedSign h) wd_X0_wantedSign mw_660 hQ hV va_S.rf (hP.sub [0, 1, 2, 3, 4, 5, 6, 7, 8, 9, 10, 11, 12] rfl) rfl rfl rfl hl.1 rfl (Nat.le_of_ble_eq_true rfl) dX0_showsWrong_13 ⟨Nat.le_of_ble_eq_true rfl, Nat.le_of_ble_eq_true rfl, rfl, rfl⟩ ⟨Nat.le_of_ble_eq_true rfl, Nat.le_of_ble_eq_true rfl⟩) (fun r_4 h => ?_)
  try dsimp only at h
  refine lv_icmp_eq (tgt := 23) hx hb dX0_showsWrong_16 (by decide) (fun c_6 => ?_) (fun c_6 => ?_)
  · replace h := h.1 c_6
    refine lv_iconst (v := 0) hx hb dX0_showsWrong_23 (by decide) ?_
    exact rd_zret hx hb hr hk rfl h dX0_showsWrong_24
  · replace h := h.2 c_6
    refine lv_iconst (v := 1) hx hb dX0_showsWrong_19 (by decide) ?_
    refine lv_goto (tgt := 24) hx hb dX0_showsWrong_20 (by decide) ?_
    exact rd_zret hx hb hr hk rfl h dX0_showsWrong_24

def wp_X0_wrongCount_L4 (s0 : Bd) (post : Int32 → Prop) (e29 : Int32 → Int32 → Prop) : Nat → Int32 → Int32 → Prop
  | 0, _, _ => False
  | n4 + 1, z1, z2 => wp_X0_cells (fun r_1 => ((r_1 ≤ z2 → e29 z1 z2) ∧ (¬ r_1 ≤ z2 → wp_X0_showsWrong (fun r_4 => ((r_4 = 0 → wp_X0_wrongCount_L4 s0 post e29 n4 z1 (z2 + 1)) ∧ (¬ r_4 = 0 → wp_X0_wrongCount_L4 s0 post e29 n4 (z1 + 1) (z2 + 1)))) s0 z2))) s0
def wp_X0_wrongCount (post : Int32 → Prop) (s0 : Bd) : Prop := (∃ n4, wp_X0_wrongCount_L4 s0 post (fun z1 z2 => post z1) n4 0 0)
set_option maxHeartbeats 4000000 in
set_option maxRecDepth 100000 in
theorem c2_X0_wrongCount {l : Launch} {D : va_G} {q : Nat → ClassId} {a0 : Nat → Nat} {s0 : Bd} {post : Int32 → Prop} (h : wp_X0_wrongCount post s0) : Met l yX0_wrongCount (Cond.code yX0_wrongCount cX0_wrongCount 3 (some .int) :: w_all) ({ frames := 4, cells := 0, slots := 0, locals := 86 } : Room) (rd_P D q [.ref (a0 0)] (bd_w a0 q s0)) (vp_Si post) 0 0 (fun _ => False) := by
  refine rd_start (by decide) (Nat.le_of_ble_eq_true rfl) ?_
  intro p e s m below meth c ls hx hb hr hml hown ht hk hP hQ hV hl
  have hK := hQ.1
  have hown : s.vm.findClass RX0 = some m.cls := hown
  have hl : lv_has ls 3 [(0, .ref (a0 0))] := hl
  have hP : va_P D vwCl [((a0 0), .inr (0, [.int (s0.1 0), .int (s0.1 1), .int (s0.1 2), .int (s0.1 3), .int (s0.1 4), .int (s0.1 5), .ref (a0 1), .ref (a0 2), .ref (a0 3), .ref (a0 4), .ref (a0 5), .ref (a0 6), .ref (a0 7), .ref (a0 8), .ref (a0 9), .ref (a0 10), .ref (a0 11), .ref (a0 12)])), ((a0 1), .inl (q 0, 4, .inl (s0.2.1 0))), ((a0 2), .inl (q 0, 4, .inl (s0.2.1 1))), ((a0 3), .inl (q 0, 160, .inl (s0.2.1 2))), ((a0 4), .inl (q 0, 40, .inl (s0.2.1 3))), ((a0 5), .inl (q 0, 40, .inl (s0.2.1 4))), ((a0 6), .inl (q 0, 40, .inl (s0.2.1 5))), ((a0 7), .inl (q 0, 40, .inl (s0.2.1 6))), ((a0 8), .inl (q 0, 40, .inl (s0.2.1 7))), ((a0 9), .inl (q 0, 40, .inl (s0.2.1 8))), ((a0 10), .inl (q 0, 40, .inl (s0.2.1 9))), ((a0 11), .inl (q 1, 40, .inr (.inl s0.2.2.1))), ((a0 12), .inl (q 0, s0.2.2.2.1, .inl s0.2.2.2.2))] s.heap := hP
  unfold wp_X0_wrongCount at h
  refine lv_iconst (v := 0) hx hb dX0_wrongCount_0 (by decide) ?_
  refine lv_istore_n (lv' := [(1, .int 0), (0, .ref (a0 0))]) hx hb dX0_wrongCount_1 rfl hl (by decide) rfl (fun ls hl => ?_)
  refine lv_iconst (v := 0) hx hb dX0_wrongCount_2 (by decide) ?_
  refine lv_istore_n (lv' := [(2, .int 0), (1, .int 0), (0, .ref (a0 0))]) hx hb dX0_wrongCount_3 rfl hl (by decide) rfl (fun ls hl => ?_)
  have lp4 : ∀ (e29 : Int32 → Int32 → Prop) (k29 : ∀ (z1 : Int32) (z2 : Int32) (ls : Array Slot), e29 z1 z2 → lv_has ls 3 [(1, .int z1), (2, .int z2), (0, .ref (a0 0))] → W p l e ({ frames := 4, cells := 0, slots := 0, locals := 86 } : Room) s m [.ref (a0 0)].toArray below meth c s.heap [] 0 0 (MQ below (vp_Si post) [.ref (a0 0)].toArray s 0 0 (fun _ => False)) (F0 m 29 ls [])) (n : Nat) (z1 : Int32) (z2 : Int32) (ls : Array Slot), wp_X0_wrongCount_L4 s0 post e29 n z1 z2 → lv_has ls 3 [(1, .int z1), (2, .int z2), (0, .ref (a0 0))] → W p l e ({ frames := 4, cells := 0, slots := 0, locals := 86 } : Room) s m [.ref (a0 0)].toArray below meth c s.heap [] 0 0 (MQ below (vp_Si post) [.ref (a0 0)].toArray s 0 0 (fun _ => False)) (F0 m 4 ls []) := by
    intro e29 k29 n
    induction n with
    | zero =>
      intro z1 z2 ls h
      exact h.elim
    | succ n ih =>
      intro z1 z2 ls h hl
      unfold wp_X0_wrongCount_L4 at h
      refine lv_iload_n hx hb dX0_wrongCount_4 rfl (lv_at hl 1 rfl) ?_
      refine lv_aload_n hx hb dX0_wrongCount_5 rfl (lv_at hl 2 rfl) ?_
      refine vp_callSi (rd_wV (wc := bd_w a0 q s0) (As := []) (rest := [.int z2]) hx hb hml hown ht (c2_X0_cells h) wd_X0_cells mw_588 hQ hV va_S.rf (hP.sub [0, 1, 2, 3, 4, 5, 6, 7, 8, 9, 10, 11, 12] rfl) rfl rfl rfl hl.1 rfl (Nat.le_of_ble_eq_true rfl) dX0_wrongCount_6 ⟨Nat.le_of_ble_eq_true rfl, Nat.le_of_ble_eq_true rfl, rfl, rfl⟩ ⟨Nat.le_of_ble_eq_true rfl, Nat.le_of_ble_eq_true rfl⟩) (fun r_1 h => ?_)
      try dsimp only at h
      refine lv_icmp_ge (tgt := 29) hx hb dX0_wrongCount_9 (by decide) (fun c_3 => ?_) (fun c_3 => ?_)
      · replace h := h.1 c_3
        exact k29 _ _ ls h (lv_sub hl [0, 1, 2] rfl)
      · replace h := h.2 c_3
        refine lv_aload_n hx hb dX0_wrongCount_12 rfl (lv_at hl 2 rfl) ?_
        refine lv_iload_n hx hb dX0_wrongCount_13 rfl (lv_at hl 1 rfl) ?_
        refine vp_callSi (rd_wV (wc := bd_w a0 q s0) (As := [.int z2]) (rest := []) hx hb hml hown ht (c2_X0_showsWrong h) wd_X0_showsWrong mw_988 hQ hV va_S.rf (hP.sub [0, 1, 2, 3, 4, 5, 6, 7, 8, 9, 10, 11, 12] rfl) rfl rfl rfl hl.1 rfl (Nat.le_of_ble_eq_true rfl) dX0_wrongCount_14 ⟨Nat.le_of_ble_eq_true rfl, Nat.le_of_ble_eq_true rfl, rfl, rfl⟩ ⟨Nat.le_of_ble_eq_true rfl, Nat.le_of_ble_eq_true rfl⟩) (fun r_4 h => ?_)
        try dsimp only at h
        refine lv_if_eq (tgt := 23) hx hb dX0_wrongCount_17 (by decide) (fun c_6 => ?_) (fun c_6 => ?_)
        · replace h := h.1 c_6
          refine lv_iinc (v := (z2 + 1)) (lv' := [(2, .int (z2 + 1)), (1, .int z1), (0, .ref (a0 0))]) hx hb dX0_wrongCount_23 hl (k := 1) rfl rfl (by decide) rfl (fun ls hl => ?_)
          refine lv_goto (tgt := 4) hx hb dX0_wrongCount_26 (by decide) ?_
          exact ih _ _ ls h (lv_sub hl [1, 0, 2] rfl)
        · replace h := h.2 c_6
          refine lv_iinc (v := (z1 + 1)) (lv' := [(1, .int (z1 + 1)), (2, .int z2), (0, .ref (a0 0))]) hx hb dX0_wrongCount_20 hl (k := 0) rfl rfl (by decide) rfl (fun ls hl => ?_)
          refine lv_iinc (v := (z2 + 1)) (lv' := [(2, .int (z2 + 1)), (1, .int (z1 + 1)), (0, .ref (a0 0))]) hx hb dX0_wrongCount_23 hl (k := 1) rfl rfl (by decide) rfl (fun ls hl => ?_)
          refine lv_goto (tgt := 4) hx hb dX0_wrongCount_26 (by decide) ?_
          exact ih _ _ ls h (lv_sub hl [1, 0, 2] rfl)
  obtain ⟨n4, h⟩ := h
  refine lp4 _ ?_ n4 _ _ ls h (lv_sub hl [1, 0, 2] rfl)
  · intro z1 z2 ls h hl
    try dsimp only at h
    refine lv_iload_n hx hb dX0_wrongCount_29 rfl (lv_at hl 0 rfl) ?_
    exact rd_iret hx hb hr hk h dX0_wrongCount_30

def wp_X0_sumOf_8_L4 (s0 : Bd) (post : Int32 → Prop) (e30 : Int32 → Int32 → Prop) : Nat → Int32 → Int32 → Prop
  | 0, _, _ => False
  | n4 + 1, z2, z3 => wp_X0_cells (fun r_1 => ((r_1 ≤ z3 → e30 z2 z3) ∧ (¬ r_1 ≤ z3 → ((40 ≤ z3 → e30 z2 z3) ∧ (¬ 40 ≤ z3 → vp_in z3 40 ∧ wp_X0_sumOf_8_L4 s0 post e30 n4 (z2 + ((s0.2.1 8) (Int32.toNatClampNeg z3))) (z3 + 1)))))) s0
def wp_X0_sumOf_8 (post : Int32 → Prop) (s0 : Bd) : Prop := (∃ n4, wp_X0_sumOf_8_L4 s0 post (fun z2 z3 => post z2) n4 0 0)
set_option maxHeartbeats 4000000 in
set_option maxRecDepth 100000 in
theorem c2_X0_sumOf_8 {l : Launch} {D : va_G} {q : Nat → ClassId} {a0 : Nat → Nat} {s0 : Bd} {post : Int32 → Prop} (h : wp_X0_sumOf_8 post s0) : Met l yX0_sumOf (Cond.code yX0_sumOf cX0_sumOf 4 (some .int) :: w_all) ({ frames := 1, cells := 0, slots := 0, locals := 20 } : Room) (rd_P D q [.ref (a0 0), .ref (a0 9)] (bd_w a0 q s0)) (vp_Si post) 0 0 (fun _ => False) := by
  refine rd_start (by decide) (Nat.le_of_ble_eq_true rfl) ?_
  intro p e s m below meth c ls hx hb hr hml hown ht hk hP hQ hV hl
  have hK := hQ.1
  have hown : s.vm.findClass RX0 = some m.cls := hown
  have hl : lv_has ls 4 [(0, .ref (a0 0)), (1, .ref (a0 9))] := hl
  have hP : va_P D vwCl [((a0 0), .inr (0, [.int (s0.1 0), .int (s0.1 1), .int (s0.1 2), .int (s0.1 3), .int (s0.1 4), .int (s0.1 5), .ref (a0 1), .ref (a0 2), .ref (a0 3), .ref (a0 4), .ref (a0 5), .ref (a0 6), .ref (a0 7), .ref (a0 8), .ref (a0 9), .ref (a0 10), .ref (a0 11), .ref (a0 12)])), ((a0 1), .inl (q 0, 4, .inl (s0.2.1 0))), ((a0 2), .inl (q 0, 4, .inl (s0.2.1 1))), ((a0 3), .inl (q 0, 160, .inl (s0.2.1 2))), ((a0 4), .inl (q 0, 40, .inl (s0.2.1 3))), ((a0 5), .inl (q 0, 40, .inl (s0.2.1 4))), ((a0 6), .inl (q 0, 40, .inl (s0.2.1 5))), ((a0 7), .inl (q 0, 40, .inl (s0.2.1 6))), ((a0 8), .inl (q 0, 40, .inl (s0.2.1 7))), ((a0 9), .inl (q 0, 40, .inl (s0.2.1 8))), ((a0 10), .inl (q 0, 40, .inl (s0.2.1 9))), ((a0 11), .inl (q 1, 40, .inr (.inl s0.2.2.1))), ((a0 12), .inl (q 0, s0.2.2.2.1, .inl s0.2.2.2.2))] s.heap := hP
  unfold wp_X0_sumOf_8 at h
  refine lv_iconst (v := 0) hx hb dX0_sumOf_0 (by decide) ?_
  refine lv_istore_n (lv' := [(2, .int 0), (0, .ref (a0 0)), (1, .ref (a0 9))]) hx hb dX0_sumOf_1 rfl hl (by decide) rfl (fun ls hl => ?_)
  refine lv_iconst (v := 0) hx hb dX0_sumOf_2 (by decide) ?_
  refine lv_istore_n (lv' := [(3, .int 0), (2, .int 0), (0, .ref (a0 0)), (1, .ref (a0 9))]) hx hb dX0_sumOf_3 rfl hl (by decide) rfl (fun ls hl => ?_)
  have lp4 : ∀ (e30 : Int32 → Int32 → Prop) (k30 : ∀ (z2 : Int32) (z3 : Int32) (ls : Array Slot), e30 z2 z3 → lv_has ls 4 [(2, .int z2), (3, .int z3), (0, .ref (a0 0)), (1, .ref (a0 9))] → W p l e ({ frames := 1, cells := 0, slots := 0, locals := 20 } : Room) s m [.ref (a0 0), .ref (a0 9)].toArray below meth c s.heap [] 0 0 (MQ below (vp_Si post) [.ref (a0 0), .ref (a0 9)].toArray s 0 0 (fun _ => False)) (F0 m 30 ls [])) (n : Nat) (z2 : Int32) (z3 : Int32) (ls : Array Slot), wp_X0_sumOf_8_L4 s0 post e30 n z2 z3 → lv_has ls 4 [(2, .int z2), (3, .int z3), (0, .ref (a0 0)), (1, .ref (a0 9))] → W p l e ({ frames := 1, cells := 0, slots := 0, locals := 20 } : Room) s m [.ref (a0 0), .ref (a0 9)].toArray below meth c s.heap [] 0 0 (MQ below (vp_Si post) [.ref (a0 0), .ref (a0 9)].toArray s 0 0 (fun _ => False)) (F0 m 4 ls []) := by
    intro e30 k30 n
    induction n with
    | zero =>
      intro z2 z3 ls h
      exact h.elim
    | succ n ih =>
      intro z2 z3 ls h hl
      unfold wp_X0_sumOf_8_L4 at h
      refine lv_iload_n hx hb dX0_sumOf_4 rfl (lv_at hl 1 rfl) ?_
      refine lv_aload_n hx hb dX0_sumOf_5 rfl (lv_at hl 2 rfl) ?_
      refine vp_callSi (rd_wV (wc := bd_w a0 q s0) (As := []) (rest := [.int z3]) hx hb hml hown ht (c2_X0_cells h) wd_X0_cells mw_588 hQ hV va_S.rf (hP.sub [0, 1, 2, 3, 4, 5, 6, 7, 8, 9, 10, 11, 12] rfl) rfl rfl rfl hl.1 rfl (Nat.le_of_ble_eq_true rfl) dX0_sumOf_6 ⟨Nat.le_of_ble_eq_true rfl, Nat.le_of_ble_eq_true rfl, rfl, rfl⟩ ⟨Nat.le_of_ble_eq_true rfl, Nat.le_of_ble_eq_true rfl⟩) (fun r_1 h => ?_)
      try dsimp only at h
      refine lv_icmp_ge (tgt := 30) hx hb dX0_sumOf_9 (by decide) (fun c_3 => ?_) (fun c_3 => ?_)
      · replace h := h.1 c_3
        exact k30 _ _ ls h (lv_sub hl [0, 1, 2, 3] rfl)
      · replace h := h.2 c_3
        refine lv_iload_n hx hb dX0_sumOf_12 rfl (lv_at hl 1 rfl) ?_
        refine lv_aload_n hx hb dX0_sumOf_13 rfl (lv_at hl 3 rfl) ?_
        refine va_alen (v := 40) hx hb hK hP 9 0 rfl rfl rfl dX0_sumOf_14 ?_
        refine lv_icmp_ge (tgt := 30) hx hb dX0_sumOf_15 (by decide) (fun c_4 => ?_) (fun c_4 => ?_)
        · replace h := h.1 c_4
          exact k30 _ _ ls h (lv_sub hl [0, 1, 2, 3] rfl)
        · replace h := h.2 c_4
          refine lv_iload_n hx hb dX0_sumOf_18 rfl (lv_at hl 0 rfl) ?_
          refine lv_aload_n hx hb dX0_sumOf_19 rfl (lv_at hl 3 rfl) ?_
          refine lv_iload_n hx hb dX0_sumOf_20 rfl (lv_at hl 1 rfl) ?_
          obtain ⟨g_5, h⟩ := h
          refine va_iald hx hb hK hP 9 0 rfl rfl g_5 dX0_sumOf_21 ?_
          refine lv_iadd hx hb dX0_sumOf_22 ?_
          refine lv_istore_n (lv' := [(2, .int (z2 + ((s0.2.1 8) (Int32.toNatClampNeg z3)))), (3, .int z3), (0, .ref (a0 0)), (1, .ref (a0 9))]) hx hb dX0_sumOf_23 rfl hl (by decide) rfl (fun ls hl => ?_)
          refine lv_iinc (v := (z3 + 1)) (lv' := [(3, .int (z3 + 1)), (2, .int (z2 + ((s0.2.1 8) (Int32.toNatClampNeg z3)))), (0, .ref (a0 0)), (1, .ref (a0 9))]) hx hb dX0_sumOf_24 hl (k := 1) rfl rfl (by decide) rfl (fun ls hl => ?_)
          refine lv_goto (tgt := 4) hx hb dX0_sumOf_27 (by decide) ?_
          exact ih _ _ ls h (lv_sub hl [1, 0, 2, 3] rfl)
  obtain ⟨n4, h⟩ := h
  refine lp4 _ ?_ n4 _ _ ls h (lv_sub hl [1, 0, 2, 3] rfl)
  · intro z2 z3 ls h hl
    try dsimp only at h
    refine lv_iload_n hx hb dX0_sumOf_30 rfl (lv_at hl 0 rfl) ?_
    exact rd_iret hx hb hr hk h dX0_sumOf_31

def wp_X0_sumOf_9_L4 (s0 : Bd) (post : Int32 → Prop) (e30 : Int32 → Int32 → Prop) : Nat → Int32 → Int32 → Prop
  | 0, _, _ => False
  | n4 + 1, z2, z3 => wp_X0_cells (fun r_1 => ((r_1 ≤ z3 → e30 z2 z3) ∧ (¬ r_1 ≤ z3 → ((40 ≤ z3 → e30 z2 z3) ∧ (¬ 40 ≤ z3 → vp_in z3 40 ∧ wp_X0_sumOf_9_L4 s0 post e30 n4 (z2 + ((s0.2.1 9) (Int32.toNatClampNeg z3))) (z3 + 1)))))) s0
def wp_X0_sumOf_9 (post : Int32 → Prop) (s0 : Bd) : Prop := (∃ n4, wp_X0_sumOf_9_L4 s0 post (fun z2 z3 => post z2) n4 0 0)
set_option maxHeartbeats 4000000 in
set_option maxRecDepth 100000 in
theorem c2_X0_sumOf_9 {l : Launch} {D : va_G} {q : Nat → ClassId} {a0 : Nat → Nat} {s0 : Bd} {post : Int32 → Prop} (h : wp_X0_sumOf_9 post s0) : Met l yX0_sumOf (Cond.code yX0_sumOf cX0_sumOf 4 (some .int) :: w_all) ({ frames := 1, cells := 0, slots := 0, locals := 20 } : Room) (rd_P D q [.ref (a0 0), .ref (a0 10)] (bd_w a0 q s0)) (vp_Si post) 0 0 (fun _ => False) := by
  refine rd_start (by decide) (Nat.le_of_ble_eq_true rfl) ?_
  intro p e s m below meth c ls hx hb hr hml hown ht hk hP hQ hV hl
  have hK := hQ.1
  have hown : s.vm.findClass RX0 = some m.cls := hown
  have hl : lv_has ls 4 [(0, .ref (a0 0)), (1, .ref (a0 10))] := hl
  have hP : va_P D vwCl [((a0 0), .inr (0, [.int (s0.1 0), .int (s0.1 1), .int (s0.1 2), .int (s0.1 3), .int (s0.1 4), .int (s0.1 5), .ref (a0 1), .ref (a0 2), .ref (a0 3), .ref (a0 4), .ref (a0 5), .ref (a0 6), .ref (a0 7), .ref (a0 8), .ref (a0 9), .ref (a0 10), .ref (a0 11), .ref (a0 12)])), ((a0 1), .inl (q 0, 4, .inl (s0.2.1 0))), ((a0 2), .inl (q 0, 4, .inl (s0.2.1 1))), ((a0 3), .inl (q 0, 160, .inl (s0.2.1 2))), ((a0 4), .inl (q 0, 40, .inl (s0.2.1 3))), ((a0 5), .inl (q 0, 40, .inl (s0.2.1 4))), ((a0 6), .inl (q 0, 40, .inl (s0.2.1 5))), ((a0 7), .inl (q 0, 40, .inl (s0.2.1 6))), ((a0 8), .inl (q 0, 40, .inl (s0.2.1 7))), ((a0 9), .inl (q 0, 40, .inl (s0.2.1 8))), ((a0 10), .inl (q 0, 40, .inl (s0.2.1 9))), ((a0 11), .inl (q 1, 40, .inr (.inl s0.2.2.1))), ((a0 12), .inl (q 0, s0.2.2.2.1, .inl s0.2.2.2.2))] s.heap := hP
  unfold wp_X0_sumOf_9 at h
  refine lv_iconst (v := 0) hx hb dX0_sumOf_0 (by decide) ?_
  refine lv_istore_n (lv' := [(2, .int 0), (0, .ref (a0 0)), (1, .ref (a0 10))]) hx hb dX0_sumOf_1 rfl hl (by decide) rfl (fun ls hl => ?_)
  refine lv_iconst (v := 0) hx hb dX0_sumOf_2 (by decide) ?_
  refine lv_istore_n (lv' := [(3, .int 0), (2, .int 0), (0, .ref (a0 0)), (1, .ref (a0 10))]) hx hb dX0_sumOf_3 rfl hl (by decide) rfl (fun ls hl => ?_)
  have lp4 : ∀ (e30 : Int32 → Int32 → Prop) (k30 : ∀ (z2 : Int32) (z3 : Int32) (ls : Array Slot), e30 z2 z3 → lv_has ls 4 [(2, .int z2), (3, .int z3), (0, .ref (a0 0)), (1, .ref (a0 10))] → W p l e ({ frames := 1, cells := 0, slots := 0, locals := 20 } : Room) s m [.ref (a0 0), .ref (a0 10)].toArray below meth c s.heap [] 0 0 (MQ below (vp_Si post) [.ref (a0 0), .ref (a0 10)].toArray s 0 0 (fun _ => False)) (F0 m 30 ls [])) (n : Nat) (z2 : Int32) (z3 : Int32) (ls : Array Slot), wp_X0_sumOf_9_L4 s0 post e30 n z2 z3 → lv_has ls 4 [(2, .int z2), (3, .int z3), (0, .ref (a0 0)), (1, .ref (a0 10))] → W p l e ({ frames := 1, cells := 0, slots := 0, locals := 20 } : Room) s m [.ref (a0 0), .ref (a0 10)].toArray below meth c s.heap [] 0 0 (MQ below (vp_Si post) [.ref (a0 0), .ref (a0 10)].toArray s 0 0 (fun _ => False)) (F0 m 4 ls []) := by
    intro e30 k30 n
    induction n with
    | zero =>
      intro z2 z3 ls h
      exact h.elim
    | succ n ih =>
      intro z2 z3 ls h hl
      unfold wp_X0_sumOf_9_L4 at h
      refine lv_iload_n hx hb dX0_sumOf_4 rfl (lv_at hl 1 rfl) ?_
      refine lv_aload_n hx hb dX0_sumOf_5 rfl (lv_at hl 2 rfl) ?_
      refine vp_callSi (rd_wV (wc := bd_w a0 q s0) (As := []) (rest := [.int z3]) hx hb hml hown ht (c2_X0_cells h) wd_X0_cells mw_588 hQ hV va_S.rf (hP.sub [0, 1, 2, 3, 4, 5, 6, 7, 8, 9, 10, 11, 12] rfl) rfl rfl rfl hl.1 rfl (Nat.le_of_ble_eq_true rfl) dX0_sumOf_6 ⟨Nat.le_of_ble_eq_true rfl, Nat.le_of_ble_eq_true rfl, rfl, rfl⟩ ⟨Nat.le_of_ble_eq_true rfl, Nat.le_of_ble_eq_true rfl⟩) (fun r_1 h => ?_)
      try dsimp only at h
      refine lv_icmp_ge (tgt := 30) hx hb dX0_sumOf_9 (by decide) (fun c_3 => ?_) (fun c_3 => ?_)
      · replace h := h.1 c_3
        exact k30 _ _ ls h (lv_sub hl [0, 1, 2, 3] rfl)
      · replace h := h.2 c_3
        refine lv_iload_n hx hb dX0_sumOf_12 rfl (lv_at hl 1 rfl) ?_
        refine lv_aload_n hx hb dX0_sumOf_13 rfl (lv_at hl 3 rfl) ?_
        refine va_alen (v := 40) hx hb hK hP 10 0 rfl rfl rfl dX0_sumOf_14 ?_
        refine lv_icmp_ge (tgt := 30) hx hb dX0_sumOf_15 (by decide) (fun c_4 => ?_) (fun c_4 => ?_)
        · replace h := h.1 c_4
          exact k30 _ _ ls h (lv_sub hl [0, 1, 2, 3] rfl)
        · replace h := h.2 c_4
          refine lv_iload_n hx hb dX0_sumOf_18 rfl (lv_at hl 0 rfl) ?_
          refine lv_aload_n hx hb dX0_sumOf_19 rfl (lv_at hl 3 rfl) ?_
          refine lv_iload_n hx hb dX0_sumOf_20 rfl (lv_at hl 1 rfl) ?_
          obtain ⟨g_5, h⟩ := h
          refine va_iald hx hb hK hP 10 0 rfl rfl g_5 dX0_sumOf_21 ?_
          refine lv_iadd hx hb dX0_sumOf_22 ?_
          refine lv_istore_n (lv' := [(2, .int (z2 + ((s0.2.1 9) (Int32.toNatClampNeg z3)))), (3, .int z3), (0, .ref (a0 0)), (1, .ref (a0 10))]) hx hb dX0_sumOf_23 rfl hl (by decide) rfl (fun ls hl => ?_)
          refine lv_iinc (v := (z3 + 1)) (lv' := [(3, .int (z3 + 1)), (2, .int (z2 + ((s0.2.1 9) (Int32.toNatClampNeg z3)))), (0, .ref (a0 0)), (1, .ref (a0 10))]) hx hb dX0_sumOf_24 hl (k := 1) rfl rfl (by decide) rfl (fun ls hl => ?_)
          refine lv_goto (tgt := 4) hx hb dX0_sumOf_27 (by decide) ?_
          exact ih _ _ ls h (lv_sub hl [1, 0, 2, 3] rfl)
  obtain ⟨n4, h⟩ := h
  refine lp4 _ ?_ n4 _ _ ls h (lv_sub hl [1, 0, 2, 3] rfl)
  · intro z2 z3 ls h hl
    try dsimp only at h
    refine lv_iload_n hx hb dX0_sumOf_30 rfl (lv_at hl 0 rfl) ?_
    exact rd_iret hx hb hr hk h dX0_sumOf_31

def wp_X0_swapSigns (post : Bd → Prop) (s0 : Bd) (x1 : Int32) (x2 : Int32) (x3 : Int32) : Prop := wp_X0_isMovable (fun r_1 => ((r_1 = 0 → post s0) ∧ (¬ r_1 = 0 → wp_X0_isMovable (fun r_4 => ((¬ r_4 = 0 → vp_in ((x1 * 40) + x2) 160 ∧ vp_in ((x1 * 40) + x3) 160 ∧ vp_in ((x1 * 40) + x2) 160 ∧ vp_in ((x1 * 40) + x3) 160 ∧ post (s0.1, (va_up s0.2.1 2 (upd (upd (s0.2.1 2) (Int32.toNatClampNeg ((x1 * 40) + x2)) ((s0.2.1 2) (Int32.toNatClampNeg ((x1 * 40) + x3)))) (Int32.toNatClampNeg ((x1 * 40) + x3)) ((s0.2.1 2) (Int32.toNatClampNeg ((x1 * 40) + x2))))), s0.2.2.1, s0.2.2.2.1, s0.2.2.2.2)) ∧ (r_4 = 0 → post s0))) s0 x1 x3))) s0 x1 x2
set_option maxHeartbeats 4000000 in
set_option maxRecDepth 100000 in
theorem c2_X0_swapSigns {l : Launch} {D : va_G} {q : Nat → ClassId} {sz : Nat} {a0 : Nat → Nat} {s0 : Bd} {x1 : Int32} {x2 : Int32} {x3 : Int32} {post : Bd → Prop} (h : wp_X0_swapSigns post s0 x1 x2 x3) : Met l yX0_swapSigns (Cond.code yX0_swapSigns cX0_swapSigns 6 none :: w_all) ({ frames := 2, cells := 0, slots := 0, locals := 43 } : Room) (mt_P D q [.ref (a0 0), .int x1, .int x2, .int x3] (bd_w a0 q s0) sz) (va_Qv (fun u : Bd => post u) (mt_B D (bd_w a0 q s0) sz (fun u : Bd => bd_w a0 q u)) (va_A (bd_w a0 q s0) sz)) 0 0 (va_A (bd_w a0 q s0) sz) := by
  refine mt_start (by decide) (Nat.le_of_ble_eq_true rfl) ?_
  intro p e s m below meth c ls hx hb hr hml hown ht hk hin hP hQ hD hA hS hV hl
  have hK := hQ.1
  have hown : s.vm.findClass RX0 = some m.cls := hown
  have hl : lv_has ls 6 [(0, .ref (a0 0)), (1, .int x1), (2, .int x2), (3, .int x3)] := hl
  have hP : va_P D vwCl [((a0 0), .inr (0, [.int (s0.1 0), .int (s0.1 1), .int (s0.1 2), .int (s0.1 3), .int (s0.1 4), .int (s0.1 5), .ref (a0 1), .ref (a0 2), .ref (a0 3), .ref (a0 4), .ref (a0 5), .ref (a0 6), .ref (a0 7), .ref (a0 8), .ref (a0 9), .ref (a0 10), .ref (a0 11), .ref (a0 12)])), ((a0 1), .inl (q 0, 4, .inl (s0.2.1 0))), ((a0 2), .inl (q 0, 4, .inl (s0.2.1 1))), ((a0 3), .inl (q 0, 160, .inl (s0.2.1 2))), ((a0 4), .inl (q 0, 40, .inl (s0.2.1 3))), ((a0 5), .inl (q 0, 40, .inl (s0.2.1 4))), ((a0 6), .inl (q 0, 40, .inl (s0.2.1 5))), ((a0 7), .inl (q 0, 40, .inl (s0.2.1 6))), ((a0 8), .inl (q 0, 40, .inl (s0.2.1 7))), ((a0 9), .inl (q 0, 40, .inl (s0.2.1 8))), ((a0 10), .inl (q 0, 40, .inl (s0.2.1 9))), ((a0 11), .inl (q 1, 40, .inr (.inl s0.2.2.1))), ((a0 12), .inl (q 0, s0.2.2.2.1, .inl s0.2.2.2.2))] s.heap := hP
  have hD : va_D _ [((a0 0), .inr (0, [.int (s0.1 0), .int (s0.1 1), .int (s0.1 2), .int (s0.1 3), .int (s0.1 4), .int (s0.1 5), .ref (a0 1), .ref (a0 2), .ref (a0 3), .ref (a0 4), .ref (a0 5), .ref (a0 6), .ref (a0 7), .ref (a0 8), .ref (a0 9), .ref (a0 10), .ref (a0 11), .ref (a0 12)])), ((a0 1), .inl (q 0, 4, .inl (s0.2.1 0))), ((a0 2), .inl (q 0, 4, .inl (s0.2.1 1))), ((a0 3), .inl (q 0, 160, .inl (s0.2.1 2))), ((a0 4), .inl (q 0, 40, .inl (s0.2.1 3))), ((a0 5), .inl (q 0, 40, .inl (s0.2.1 4))), ((a0 6), .inl (q 0, 40, .inl (s0.2.1 5))), ((a0 7), .inl (q 0, 40, .inl (s0.2.1 6))), ((a0 8), .inl (q 0, 40, .inl (s0.2.1 7))), ((a0 9), .inl (q 0, 40, .inl (s0.2.1 8))), ((a0 10), .inl (q 0, 40, .inl (s0.2.1 9))), ((a0 11), .inl (q 1, 40, .inr (.inl s0.2.2.1))), ((a0 12), .inl (q 0, s0.2.2.2.1, .inl s0.2.2.2.2))] := hD
  unfold wp_X0_swapSigns at h
  refine lv_aload_n hx hb dX0_swapSigns_0 rfl (lv_at hl 0 rfl) ?_
  refine lv_iload_n hx hb dX0_swapSigns_1 rfl (lv_at hl 1 rfl) ?_
  refine lv_iload_n hx hb dX0_swapSigns_2 rfl (lv_at hl 2 rfl) ?_
  refine vp_callSi (rd_wV (wc := bd_w a0 q s0) (As := [.int x1, .int x2]) (rest := []) hx hb hml hown ht (c2_X0_isMovable h) wd_X0_isMovable mw_780 hQ hV hS (hP.sub [0, 1, 2, 3, 4, 5, 6, 7, 8, 9, 10, 11, 12] rfl) rfl rfl rfl hl.1 rfl (Nat.le_of_ble_eq_true rfl) dX0_swapSigns_3 ⟨Nat.le_of_ble_eq_true rfl, Nat.le_of_ble_eq_true rfl, rfl, rfl⟩ ⟨Nat.le_of_ble_eq_true rfl, Nat.le_of_ble_eq_true rfl⟩) (fun r_1 h => ?_)
  try dsimp only at h
  refine lv_if_eq (tgt := 18) hx hb dX0_swapSigns_6 (by decide) (fun c_3 => ?_) (fun c_3 => ?_)
  · replace h := h.1 c_3
    exact mt_vret s0 hx hb hr hk h (hP.sub (ws' := bd_w a0 q s0) [0, 1, 2, 3, 4, 5, 6, 7, 8, 9, 10, 11, 12] rfl) (hD.sub (ws' := bd_w a0 q s0) [0, 1, 2, 3, 4, 5, 6, 7, 8, 9, 10, 11, 12] (by decide) rfl) hS dX0_swapSigns_18
  · replace h := h.2 c_3
    refine lv_aload_n hx hb dX0_swapSigns_9 rfl (lv_at hl 0 rfl) ?_
    refine lv_iload_n hx hb dX0_swapSigns_10 rfl (lv_at hl 1 rfl) ?_
    refine lv_iload_n hx hb dX0_swapSigns_11 rfl (lv_at hl 3 rfl) ?_
    refine vp_callSi (rd_wV (wc := bd_w a0 q s0) (As := [.int x1, .int x3]) (rest := []) hx hb hml hown ht (c2_X0_isMovable h) wd_X0_isMovable mw_780 hQ hV hS (hP.sub [0, 1, 2, 3, 4, 5, 6, 7, 8, 9, 10, 11, 12] rfl) rfl rfl rfl hl.1 rfl (Nat.le_of_ble_eq_true rfl) dX0_swapSigns_12 ⟨Nat.le_of_ble_eq_true rfl, Nat.le_of_ble_eq_true rfl, rfl, rfl⟩ ⟨Nat.le_of_ble_eq_true rfl, Nat.le_of_ble_eq_true rfl⟩) (fun r_4 h => ?_)
    try dsimp only at h
    refine lv_if_ne (tgt := 19) hx hb dX0_swapSigns_15 (by decide) (fun c_6 => ?_) (fun c_6 => ?_)
    · replace h := h.1 c_6
      refine lv_iload_n hx hb dX0_swapSigns_19 rfl (lv_at hl 1 rfl) ?_
      refine lv_bipush (v := 40) hx hb dX0_swapSigns_20 (by decide) ?_
      refine lv_imul hx hb dX0_swapSigns_22 ?_
      refine lv_istore (lv' := [(4, .int (x1 * 40)), (0, .ref (a0 0)), (1, .int x1), (2, .int x2), (3, .int x3)]) hx hb dX0_swapSigns_23 hl (by decide) rfl (fun ls hl => ?_)
      refine lv_aload_n hx hb dX0_swapSigns_25 rfl (lv_at hl 1 rfl) ?_
      refine fl_get (C := RX0) (T := TX0) (N := 18) (ci := 0) (v := .ref (a0 3)) hx hb ht in_X0 hown hK hP 0 rfl rfl 8 (by decide) mw_191 rfl dX0_swapSigns_26 ?_
      refine lv_iload hx hb dX0_swapSigns_29 (lv_at hl 0 rfl) ?_
      refine lv_iload_n hx hb dX0_swapSigns_31 rfl (lv_at hl 3 rfl) ?_
      refine lv_iadd hx hb dX0_swapSigns_32 ?_
      obtain ⟨g_7, h⟩ := h
      refine va_iald hx hb hK hP 3 0 rfl rfl g_7 dX0_swapSigns_33 ?_
      refine lv_istore (lv' := [(5, .int ((s0.2.1 2) (Int32.toNatClampNeg ((x1 * 40) + x2)))), (4, .int (x1 * 40)), (0, .ref (a0 0)), (1, .int x1), (2, .int x2), (3, .int x3)]) hx hb dX0_swapSigns_34 hl (by decide) rfl (fun ls hl => ?_)
      refine lv_aload_n hx hb dX0_swapSigns_36 rfl (lv_at hl 2 rfl) ?_
      refine fl_get (C := RX0) (T := TX0) (N := 18) (ci := 0) (v := .ref (a0 3)) hx hb ht in_X0 hown hK hP 0 rfl rfl 8 (by decide) mw_191 rfl dX0_swapSigns_37 ?_
      refine lv_iload hx hb dX0_swapSigns_40 (lv_at hl 1 rfl) ?_
      refine lv_iload_n hx hb dX0_swapSigns_42 rfl (lv_at hl 4 rfl) ?_
      refine lv_iadd hx hb dX0_swapSigns_43 ?_
      refine lv_aload_n hx hb dX0_swapSigns_44 rfl (lv_at hl 2 rfl) ?_
      refine fl_get (C := RX0) (T := TX0) (N := 18) (ci := 0) (v := .ref (a0 3)) hx hb ht in_X0 hown hK hP 0 rfl rfl 8 (by decide) mw_191 rfl dX0_swapSigns_45 ?_
      refine lv_iload hx hb dX0_swapSigns_48 (lv_at hl 1 rfl) ?_
      refine lv_iload_n hx hb dX0_swapSigns_50 rfl (lv_at hl 5 rfl) ?_
      refine lv_iadd hx hb dX0_swapSigns_51 ?_
      obtain ⟨g_8, h⟩ := h
      refine va_iald hx hb hK hP 3 0 rfl rfl g_8 dX0_swapSigns_52 ?_
      obtain ⟨g_9, h⟩ := h
      refine va_iast hx hb hK hP hD hS 3 0 rfl rfl g_9 dX0_swapSigns_53 (fun H locs hP hD hS => ?_)
      have hP : va_P D vwCl [((a0 0), .inr (0, [.int (s0.1 0), .int (s0.1 1), .int (s0.1 2), .int (s0.1 3), .int (s0.1 4), .int (s0.1 5), .ref (a0 1), .ref (a0 2), .ref (a0 3), .ref (a0 4), .ref (a0 5), .ref (a0 6), .ref (a0 7), .ref (a0 8), .ref (a0 9), .ref (a0 10), .ref (a0 11), .ref (a0 12)])), ((a0 1), .inl (q 0, 4, .inl (s0.2.1 0))), ((a0 2), .inl (q 0, 4, .inl (s0.2.1 1))), ((a0 3), .inl (q 0, 160, .inl (upd (s0.2.1 2) (Int32.toNatClampNeg ((x1 * 40) + x2)) ((s0.2.1 2) (Int32.toNatClampNeg ((x1 * 40) + x3)))))), ((a0 4), .inl (q 0, 40, .inl (s0.2.1 3))), ((a0 5), .inl (q 0, 40, .inl (s0.2.1 4))), ((a0 6), .inl (q 0, 40, .inl (s0.2.1 5))), ((a0 7), .inl (q 0, 40, .inl (s0.2.1 6))), ((a0 8), .inl (q 0, 40, .inl (s0.2.1 7))), ((a0 9), .inl (q 0, 40, .inl (s0.2.1 8))), ((a0 10), .inl (q 0, 40, .inl (s0.2.1 9))), ((a0 11), .inl (q 1, 40, .inr (.inl s0.2.2.1))), ((a0 12), .inl (q 0, s0.2.2.2.1, .inl s0.2.2.2.2))] H := hP
      have hD : va_D _ [((a0 0), .inr (0, [.int (s0.1 0), .int (s0.1 1), .int (s0.1 2), .int (s0.1 3), .int (s0.1 4), .int (s0.1 5), .ref (a0 1), .ref (a0 2), .ref (a0 3), .ref (a0 4), .ref (a0 5), .ref (a0 6), .ref (a0 7), .ref (a0 8), .ref (a0 9), .ref (a0 10), .ref (a0 11), .ref (a0 12)])), ((a0 1), .inl (q 0, 4, .inl (s0.2.1 0))), ((a0 2), .inl (q 0, 4, .inl (s0.2.1 1))), ((a0 3), .inl (q 0, 160, .inl (upd (s0.2.1 2) (Int32.toNatClampNeg ((x1 * 40) + x2)) ((s0.2.1 2) (Int32.toNatClampNeg ((x1 * 40) + x3)))))), ((a0 4), .inl (q 0, 40, .inl (s0.2.1 3))), ((a0 5), .inl (q 0, 40, .inl (s0.2.1 4))), ((a0 6), .inl (q 0, 40, .inl (s0.2.1 5))), ((a0 7), .inl (q 0, 40, .inl (s0.2.1 6))), ((a0 8), .inl (q 0, 40, .inl (s0.2.1 7))), ((a0 9), .inl (q 0, 40, .inl (s0.2.1 8))), ((a0 10), .inl (q 0, 40, .inl (s0.2.1 9))), ((a0 11), .inl (q 1, 40, .inr (.inl s0.2.2.1))), ((a0 12), .inl (q 0, s0.2.2.2.1, .inl s0.2.2.2.2))] := hD
      refine lv_aload_n hx hb dX0_swapSigns_54 rfl (lv_at hl 2 rfl) ?_
      refine fl_get (C := RX0) (T := TX0) (N := 18) (ci := 0) (v := .ref (a0 3)) hx hb ht in_X0 hown hK hP 0 rfl rfl 8 (by decide) mw_191 rfl dX0_swapSigns_55 ?_
      refine lv_iload hx hb dX0_swapSigns_58 (lv_at hl 1 rfl) ?_
      refine lv_iload_n hx hb dX0_swapSigns_60 rfl (lv_at hl 5 rfl) ?_
      refine lv_iadd hx hb dX0_swapSigns_61 ?_
      refine lv_iload hx hb dX0_swapSigns_62 (lv_at hl 0 rfl) ?_
      obtain ⟨g_10, h⟩ := h
      refine va_iast hx hb hK hP hD hS 3 0 rfl rfl g_10 dX0_swapSigns_64 (fun H locs hP hD hS => ?_)
      have hP : va_P D vwCl [((a0 0), .inr (0, [.int (s0.1 0), .int (s0.1 1), .int (s0.1 2), .int (s0.1 3), .int (s0.1 4), .int (s0.1 5), .ref (a0 1), .ref (a0 2), .ref (a0 3), .ref (a0 4), .ref (a0 5), .ref (a0 6), .ref (a0 7), .ref (a0 8), .ref (a0 9), .ref (a0 10), .ref (a0 11), .ref (a0 12)])), ((a0 1), .inl (q 0, 4, .inl (s0.2.1 0))), ((a0 2), .inl (q 0, 4, .inl (s0.2.1 1))), ((a0 3), .inl (q 0, 160, .inl (upd (upd (s0.2.1 2) (Int32.toNatClampNeg ((x1 * 40) + x2)) ((s0.2.1 2) (Int32.toNatClampNeg ((x1 * 40) + x3)))) (Int32.toNatClampNeg ((x1 * 40) + x3)) ((s0.2.1 2) (Int32.toNatClampNeg ((x1 * 40) + x2)))))), ((a0 4), .inl (q 0, 40, .inl (s0.2.1 3))), ((a0 5), .inl (q 0, 40, .inl (s0.2.1 4))), ((a0 6), .inl (q 0, 40, .inl (s0.2.1 5))), ((a0 7), .inl (q 0, 40, .inl (s0.2.1 6))), ((a0 8), .inl (q 0, 40, .inl (s0.2.1 7))), ((a0 9), .inl (q 0, 40, .inl (s0.2.1 8))), ((a0 10), .inl (q 0, 40, .inl (s0.2.1 9))), ((a0 11), .inl (q 1, 40, .inr (.inl s0.2.2.1))), ((a0 12), .inl (q 0, s0.2.2.2.1, .inl s0.2.2.2.2))] H := hP
      have hD : va_D _ [((a0 0), .inr (0, [.int (s0.1 0), .int (s0.1 1), .int (s0.1 2), .int (s0.1 3), .int (s0.1 4), .int (s0.1 5), .ref (a0 1), .ref (a0 2), .ref (a0 3), .ref (a0 4), .ref (a0 5), .ref (a0 6), .ref (a0 7), .ref (a0 8), .ref (a0 9), .ref (a0 10), .ref (a0 11), .ref (a0 12)])), ((a0 1), .inl (q 0, 4, .inl (s0.2.1 0))), ((a0 2), .inl (q 0, 4, .inl (s0.2.1 1))), ((a0 3), .inl (q 0, 160, .inl (upd (upd (s0.2.1 2) (Int32.toNatClampNeg ((x1 * 40) + x2)) ((s0.2.1 2) (Int32.toNatClampNeg ((x1 * 40) + x3)))) (Int32.toNatClampNeg ((x1 * 40) + x3)) ((s0.2.1 2) (Int32.toNatClampNeg ((x1 * 40) + x2)))))), ((a0 4), .inl (q 0, 40, .inl (s0.2.1 3))), ((a0 5), .inl (q 0, 40, .inl (s0.2.1 4))), ((a0 6), .inl (q 0, 40, .inl (s0.2.1 5))), ((a0 7), .inl (q 0, 40, .inl (s0.2.1 6))), ((a0 8), .inl (q 0, 40, .inl (s0.2.1 7))), ((a0 9), .inl (q 0, 40, .inl (s0.2.1 8))), ((a0 10), .inl (q 0, 40, .inl (s0.2.1 9))), ((a0 11), .inl (q 1, 40, .inr (.inl s0.2.2.1))), ((a0 12), .inl (q 0, s0.2.2.2.1, .inl s0.2.2.2.2))] := hD
      exact mt_vret (s0.1, (va_up s0.2.1 2 (upd (upd (s0.2.1 2) (Int32.toNatClampNeg ((x1 * 40) + x2)) ((s0.2.1 2) (Int32.toNatClampNeg ((x1 * 40) + x3)))) (Int32.toNatClampNeg ((x1 * 40) + x3)) ((s0.2.1 2) (Int32.toNatClampNeg ((x1 * 40) + x2))))), s0.2.2.1, s0.2.2.2.1, s0.2.2.2.2) hx hb hr hk h (hP.sub (ws' := bd_w a0 q (s0.1, (va_up s0.2.1 2 (upd (upd (s0.2.1 2) (Int32.toNatClampNeg ((x1 * 40) + x2)) ((s0.2.1 2) (Int32.toNatClampNeg ((x1 * 40) + x3)))) (Int32.toNatClampNeg ((x1 * 40) + x3)) ((s0.2.1 2) (Int32.toNatClampNeg ((x1 * 40) + x2))))), s0.2.2.1, s0.2.2.2.1, s0.2.2.2.2)) [0, 1, 2, 3, 4, 5, 6, 7, 8, 9, 10, 11, 12] rfl) (hD.sub (ws' := bd_w a0 q (s0.1, (va_up s0.2.1 2 (upd (upd (s0.2.1 2) (Int32.toNatClampNeg ((x1 * 40) + x2)) ((s0.2.1 2) (Int32.toNatClampNeg ((x1 * 40) + x3)))) (Int32.toNatClampNeg ((x1 * 40) + x3)) ((s0.2.1 2) (Int32.toNatClampNeg ((x1 * 40) + x2))))), s0.2.2.1, s0.2.2.2.1, s0.2.2.2.2)) [0, 1, 2, 3, 4, 5, 6, 7, 8, 9, 10, 11, 12] (by decide) rfl) hS dX0_swapSigns_65
    · replace h := h.2 c_6
      exact mt_vret s0 hx hb hr hk h (hP.sub (ws' := bd_w a0 q s0) [0, 1, 2, 3, 4, 5, 6, 7, 8, 9, 10, 11, 12] rfl) (hD.sub (ws' := bd_w a0 q s0) [0, 1, 2, 3, 4, 5, 6, 7, 8, 9, 10, 11, 12] (by decide) rfl) hS dX0_swapSigns_18

def wp_X0_cellsWith_L4 (s0 : Bd) (post : Int32 → Prop) (e31 : Int32 → Int32 → Int32 → Prop) : Nat → Int32 → Int32 → Int32 → Prop
  | 0, _, _, _ => False
  | n4 + 1, z1, z2, z3 => wp_X0_cells (fun r_1 => ((r_1 ≤ z3 → e31 z1 z2 z3) ∧ (¬ r_1 ≤ z3 → vp_in z3 40 ∧ ((¬ ((s0.2.1 3) (Int32.toNatClampNeg z3)) = z1 → wp_X0_cellsWith_L4 s0 post e31 n4 z1 z2 (z3 + 1)) ∧ (((s0.2.1 3) (Int32.toNatClampNeg z3)) = z1 → wp_X0_cellsWith_L4 s0 post e31 n4 z1 (z2 + 1) (z3 + 1)))))) s0
def wp_X0_cellsWith (post : Int32 → Prop) (s0 : Bd) (x1 : Int32) : Prop := (∃ n4, wp_X0_cellsWith_L4 s0 post (fun z1 z2 z3 => post z2) n4 x1 0 0)
set_option maxHeartbeats 4000000 in
set_option maxRecDepth 100000 in
theorem c2_X0_cellsWith {l : Launch} {D : va_G} {q : Nat → ClassId} {a0 : Nat → Nat} {s0 : Bd} {x1 : Int32} {post : Int32 → Prop} (h : wp_X0_cellsWith post s0 x1) : Met l yX0_cellsWith (Cond.code yX0_cellsWith cX0_cellsWith 4 (some .int) :: w_all) ({ frames := 1, cells := 0, slots := 0, locals := 20 } : Room) (rd_P D q [.ref (a0 0), .int x1] (bd_w a0 q s0)) (vp_Si post) 0 0 (fun _ => False) := by
  refine rd_start (by decide) (Nat.le_of_ble_eq_true rfl) ?_
  intro p e s m below meth c ls hx hb hr hml hown ht hk hP hQ hV hl
  have hK := hQ.1
  have hown : s.vm.findClass RX0 = some m.cls := hown
  have hl : lv_has ls 4 [(0, .ref (a0 0)), (1, .int x1)] := hl
  have hP : va_P D vwCl [((a0 0), .inr (0, [.int (s0.1 0), .int (s0.1 1), .int (s0.1 2), .int (s0.1 3), .int (s0.1 4), .int (s0.1 5), .ref (a0 1), .ref (a0 2), .ref (a0 3), .ref (a0 4), .ref (a0 5), .ref (a0 6), .ref (a0 7), .ref (a0 8), .ref (a0 9), .ref (a0 10), .ref (a0 11), .ref (a0 12)])), ((a0 1), .inl (q 0, 4, .inl (s0.2.1 0))), ((a0 2), .inl (q 0, 4, .inl (s0.2.1 1))), ((a0 3), .inl (q 0, 160, .inl (s0.2.1 2))), ((a0 4), .inl (q 0, 40, .inl (s0.2.1 3))), ((a0 5), .inl (q 0, 40, .inl (s0.2.1 4))), ((a0 6), .inl (q 0, 40, .inl (s0.2.1 5))), ((a0 7), .inl (q 0, 40, .inl (s0.2.1 6))), ((a0 8), .inl (q 0, 40, .inl (s0.2.1 7))), ((a0 9), .inl (q 0, 40, .inl (s0.2.1 8))), ((a0 10), .inl (q 0, 40, .inl (s0.2.1 9))), ((a0 11), .inl (q 1, 40, .inr (.inl s0.2.2.1))), ((a0 12), .inl (q 0, s0.2.2.2.1, .inl s0.2.2.2.2))] s.heap := hP
  unfold wp_X0_cellsWith at h
  refine lv_iconst (v := 0) hx hb dX0_cellsWith_0 (by decide) ?_
  refine lv_istore_n (lv' := [(2, .int 0), (0, .ref (a0 0)), (1, .int x1)]) hx hb dX0_cellsWith_1 rfl hl (by decide) rfl (fun ls hl => ?_)
  refine lv_iconst (v := 0) hx hb dX0_cellsWith_2 (by decide) ?_
  refine lv_istore_n (lv' := [(3, .int 0), (2, .int 0), (0, .ref (a0 0)), (1, .int x1)]) hx hb dX0_cellsWith_3 rfl hl (by decide) rfl (fun ls hl => ?_)
  have lp4 : ∀ (e31 : Int32 → Int32 → Int32 → Prop) (k31 : ∀ (z1 : Int32) (z2 : Int32) (z3 : Int32) (ls : Array Slot), e31 z1 z2 z3 → lv_has ls 4 [(1, .int z1), (2, .int z2), (3, .int z3), (0, .ref (a0 0))] → W p l e ({ frames := 1, cells := 0, slots := 0, locals := 20 } : Room) s m [.ref (a0 0), .int x1].toArray below meth c s.heap [] 0 0 (MQ below (vp_Si post) [.ref (a0 0), .int x1].toArray s 0 0 (fun _ => False)) (F0 m 31 ls [])) (n : Nat) (z1 : Int32) (z2 : Int32) (z3 : Int32) (ls : Array Slot), wp_X0_cellsWith_L4 s0 post e31 n z1 z2 z3 → lv_has ls 4 [(1, .int z1), (2, .int z2), (3, .int z3), (0, .ref (a0 0))] → W p l e ({ frames := 1, cells := 0, slots := 0, locals := 20 } : Room) s m [.ref (a0 0), .int x1].toArray below meth c s.heap [] 0 0 (MQ below (vp_Si post) [.ref (a0 0), .int x1].toArray s 0 0 (fun _ => False)) (F0 m 4 ls []) := by
    intro e31 k31 n
    induction n with
    | zero =>
      intro z1 z2 z3 ls h
      exact h.elim
    | succ n ih =>
      intro z1 z2 z3 ls h hl
      unfold wp_X0_cellsWith_L4 at h
      refine lv_iload_n hx hb dX0_cellsWith_4 rfl (lv_at hl 2 rfl) ?_
      refine lv_aload_n hx hb dX0_cellsWith_5 rfl (lv_at hl 3 rfl) ?_
      refine vp_callSi (rd_wV (wc := bd_w a0 q s0) (As := []) (rest := [.int z3]) hx hb hml hown ht (c2_X0_cells h) wd_X0_cells mw_588 hQ hV va_S.rf (hP.sub [0, 1, 2, 3, 4, 5, 6, 7, 8, 9, 10, 11, 12] rfl) rfl rfl rfl hl.1 rfl (Nat.le_of_ble_eq_true rfl) dX0_cellsWith_6 ⟨Nat.le_of_ble_eq_true rfl, Nat.le_of_ble_eq_true rfl, rfl, rfl⟩ ⟨Nat.le_of_ble_eq_true rfl, Nat.le_of_ble_eq_true rfl⟩) (fun r_1 h => ?_)
      try dsimp only at h
      refine lv_icmp_ge (tgt := 31) hx hb dX0_cellsWith_9 (by decide) (fun c_3 => ?_) (fun c_3 => ?_)
      · replace h := h.1 c_3
        exact k31 _ _ _ ls h (lv_sub hl [0, 1, 2, 3] rfl)
      · replace h := h.2 c_3
        refine lv_aload_n hx hb dX0_cellsWith_12 rfl (lv_at hl 3 rfl) ?_
        refine fl_get (C := RX0) (T := TX0) (N := 18) (ci := 0) (v := .ref (a0 4)) hx hb ht in_X0 hown hK hP 0 rfl rfl 9 (by decide) mw_192 rfl dX0_cellsWith_13 ?_
        refine lv_iload_n hx hb dX0_cellsWith_16 rfl (lv_at hl 2 rfl) ?_
        obtain ⟨g_4, h⟩ := h
        refine va_iald hx hb hK hP 4 0 rfl rfl g_4 dX0_cellsWith_17 ?_
        refine lv_iload_n hx hb dX0_cellsWith_18 rfl (lv_at hl 0 rfl) ?_
        refine lv_icmp_ne (tgt := 25) hx hb dX0_cellsWith_19 (by decide) (fun c_5 => ?_) (fun c_5 => ?_)
        · replace h := h.1 c_5
          refine lv_iinc (v := (z3 + 1)) (lv' := [(3, .int (z3 + 1)), (1, .int z1), (2, .int z2), (0, .ref (a0 0))]) hx hb dX0_cellsWith_25 hl (k := 2) rfl rfl (by decide) rfl (fun ls hl => ?_)
          refine lv_goto (tgt := 4) hx hb dX0_cellsWith_28 (by decide) ?_
          exact ih _ _ _ ls h (lv_sub hl [1, 2, 0, 3] rfl)
        · replace h := h.2 c_5
          refine lv_iinc (v := (z2 + 1)) (lv' := [(2, .int (z2 + 1)), (1, .int z1), (3, .int z3), (0, .ref (a0 0))]) hx hb dX0_cellsWith_22 hl (k := 1) rfl rfl (by decide) rfl (fun ls hl => ?_)
          refine lv_iinc (v := (z3 + 1)) (lv' := [(3, .int (z3 + 1)), (2, .int (z2 + 1)), (1, .int z1), (0, .ref (a0 0))]) hx hb dX0_cellsWith_25 hl (k := 2) rfl rfl (by decide) rfl (fun ls hl => ?_)
          refine lv_goto (tgt := 4) hx hb dX0_cellsWith_28 (by decide) ?_
          exact ih _ _ _ ls h (lv_sub hl [2, 1, 0, 3] rfl)
  obtain ⟨n4, h⟩ := h
  refine lp4 _ ?_ n4 _ _ _ ls h (lv_sub hl [3, 1, 0, 2] rfl)
  · intro z1 z2 z3 ls h hl
    try dsimp only at h
    refine lv_iload_n hx hb dX0_cellsWith_31 rfl (lv_at hl 1 rfl) ?_
    exact rd_iret hx hb hr hk h dX0_cellsWith_32

def wp_X0_flapsWith_L19 (s0 : Bd) (post : Int32 → Prop) (e49 : Int32 → Int32 → Int32 → Int32 → Int32 → Int32 → Int32 → Prop) : Nat → Int32 → Int32 → Int32 → Int32 → Int32 → Int32 → Int32 → Prop
  | 0, _, _, _, _, _, _, _ => False
  | n19 + 1, z1, z2, z3, z4, z5, z6, z7 => ((z5 ≤ z7 → e49 z1 z2 z3 z4 z5 z6 z7) ∧ (¬ z5 ≤ z7 → vp_in (z4 + z7) 160 ∧ ((¬ ((s0.2.1 2) (Int32.toNatClampNeg (z4 + z7))) = z2 → wp_X0_flapsWith_L19 s0 post e49 n19 z1 z2 z3 z4 z5 z6 (z7 + 1)) ∧ (((s0.2.1 2) (Int32.toNatClampNeg (z4 + z7))) = z2 → wp_X0_flapsWith_L19 s0 post e49 n19 z1 z2 z3 z4 z5 (z6 + 1) (z7 + 1)))))
def wp_X0_flapsWith (post : Int32 → Prop) (s0 : Bd) (x1 : Int32) (x2 : Int32) (x3 : Int32) : Prop := wp_X0_flapsOn (fun r_1 => (∃ n19, wp_X0_flapsWith_L19 s0 post (fun z1 z2 z3 z4 z5 z6 z7 => post z6) n19 x1 x2 x3 (x1 * 40) r_1 0 x3)) s0 x1
set_option maxHeartbeats 4000000 in
set_option maxRecDepth 100000 in
theorem c2_X0_flapsWith {l : Launch} {D : va_G} {q : Nat → ClassId} {a0 : Nat → Nat} {s0 : Bd} {x1 : Int32} {x2 : Int32} {x3 : Int32} {post : Int32 → Prop} (h : wp_X0_flapsWith post s0 x1 x2 x3) : Met l yX0_flapsWith (Cond.code yX0_flapsWith cX0_flapsWith 8 (some .int) :: w_all) ({ frames := 1, cells := 0, slots := 0, locals := 21 } : Room) (rd_P D q [.ref (a0 0), .int x1, .int x2, .int x3] (bd_w a0 q s0)) (vp_Si post) 0 0 (fun _ => False) := by
  refine rd_start (by decide) (Nat.le_of_ble_eq_true rfl) ?_
  intro p e s m below meth c ls hx hb hr hml hown ht hk hP hQ hV hl
  have hK := hQ.1
  have hown : s.vm.findClass RX0 = some m.cls := hown
  have hl : lv_has ls 8 [(0, .ref (a0 0)), (1, .int x1), (2, .int x2), (3, .int x3)] := hl
  have hP : va_P D vwCl [((a0 0), .inr (0, [.int (s0.1 0), .int (s0.1 1), .int (s0.1 2), .int (s0.1 3), .int (s0.1 4), .int (s0.1 5), .ref (a0 1), .ref (a0 2), .ref (a0 3), .ref (a0 4), .ref (a0 5), .ref (a0 6), .ref (a0 7), .ref (a0 8), .ref (a0 9), .ref (a0 10), .ref (a0 11), .ref (a0 12)])), ((a0 1), .inl (q 0, 4, .inl (s0.2.1 0))), ((a0 2), .inl (q 0, 4, .inl (s0.2.1 1))), ((a0 3), .inl (q 0, 160, .inl (s0.2.1 2))), ((a0 4), .inl (q 0, 40, .inl (s0.2.1 3))), ((a0 5), .inl (q 0, 40, .inl (s0.2.1 4))), ((a0 6), .inl (q 0, 40, .inl (s0.2.1 5))), ((a0 7), .inl (q 0, 40, .inl (s0.2.1 6))), ((a0 8), .inl (q 0, 40, .inl (s0.2.1 7))), ((a0 9), .inl (q 0, 40, .inl (s0.2.1 8))), ((a0 10), .inl (q 0, 40, .inl (s0.2.1 9))), ((a0 11), .inl (q 1, 40, .inr (.inl s0.2.2.1))), ((a0 12), .inl (q 0, s0.2.2.2.1, .inl s0.2.2.2.2))] s.heap := hP
  unfold wp_X0_flapsWith at h
  refine lv_iload_n hx hb dX0_flapsWith_0 rfl (lv_at hl 1 rfl) ?_
  refine lv_bipush (v := 40) hx hb dX0_flapsWith_1 (by decide) ?_
  refine lv_imul hx hb dX0_flapsWith_3 ?_
  refine lv_istore (lv' := [(4, .int (x1 * 40)), (0, .ref (a0 0)), (1, .int x1), (2, .int x2), (3, .int x3)]) hx hb dX0_flapsWith_4 hl (by decide) rfl (fun ls hl => ?_)
  refine lv_aload_n hx hb dX0_flapsWith_6 rfl (lv_at hl 1 rfl) ?_
  refine lv_iload_n hx hb dX0_flapsWith_7 rfl (lv_at hl 2 rfl) ?_
  refine vp_callSi (rd_wV (wc := bd_w a0 q s0) (As := [.int x1]) (rest := []) hx hb hml hown ht (c2_X0_flapsOn h) wd_X0_flapsOn mw_772 hQ hV va_S.rf (hP.sub [0, 1, 2, 3, 4, 5, 6, 7, 8, 9, 10, 11, 12] rfl) rfl rfl rfl hl.1 rfl (Nat.le_of_ble_eq_true rfl) dX0_flapsWith_8 ⟨Nat.le_of_ble_eq_true rfl, Nat.le_of_ble_eq_true rfl, rfl, rfl⟩ ⟨Nat.le_of_ble_eq_true rfl, Nat.le_of_ble_eq_true rfl⟩) (fun r_1 h => ?_)
  try dsimp only at h
  refine lv_istore (lv' := [(5, .int r_1), (4, .int (x1 * 40)), (0, .ref (a0 0)), (1, .int x1), (2, .int x2), (3, .int x3)]) hx hb dX0_flapsWith_11 hl (by decide) rfl (fun ls hl => ?_)
  refine lv_iconst (v := 0) hx hb dX0_flapsWith_13 (by decide) ?_
  refine lv_istore (lv' := [(6, .int 0), (5, .int r_1), (4, .int (x1 * 40)), (0, .ref (a0 0)), (1, .int x1), (2, .int x2), (3, .int x3)]) hx hb dX0_flapsWith_14 hl (by decide) rfl (fun ls hl => ?_)
  refine lv_iload_n hx hb dX0_flapsWith_16 rfl (lv_at hl 6 rfl) ?_
  refine lv_istore (lv' := [(7, .int x3), (6, .int 0), (5, .int r_1), (4, .int (x1 * 40)), (0, .ref (a0 0)), (1, .int x1), (2, .int x2), (3, .int x3)]) hx hb dX0_flapsWith_17 hl (by decide) rfl (fun ls hl => ?_)
  have lp19 : ∀ (e49 : Int32 → Int32 → Int32 → Int32 → Int32 → Int32 → Int32 → Prop) (k49 : ∀ (z1 : Int32) (z2 : Int32) (z3 : Int32) (z4 : Int32) (z5 : Int32) (z6 : Int32) (z7 : Int32) (ls : Array Slot), e49 z1 z2 z3 z4 z5 z6 z7 → lv_has ls 8 [(1, .int z1), (2, .int z2), (3, .int z3), (4, .int z4), (5, .int z5), (6, .int z6), (7, .int z7), (0, .ref (a0 0))] → W p l e ({ frames := 1, cells := 0, slots := 0, locals := 21 } : Room) s m [.ref (a0 0), .int x1, .int x2, .int x3].toArray below meth c s.heap [] 0 0 (MQ below (vp_Si post) [.ref (a0 0), .int x1, .int x2, .int x3].toArray s 0 0 (fun _ => False)) (F0 m 49 ls [])) (n : Nat) (z1 : Int32) (z2 : Int32) (z3 : Int32) (z4 : Int32) (z5 : Int32) (z6 : Int32) (z7 : Int32) (ls : Array Slot), wp_X0_flapsWith_L19 s0 post e49 n z1 z2 z3 z4 z5 z6 z7 → lv_has ls 8 [(1, .int z1), (2, .int z2), (3, .int z3), (4, .int z4), (5, .int z5), (6, .int z6), (7, .int z7), (0, .ref (a0 0))] → W p l e ({ frames := 1, cells := 0, slots := 0, locals := 21 } : Room) s m [.ref (a0 0), .int x1, .int x2, .int x3].toArray below meth c s.heap [] 0 0 (MQ below (vp_Si post) [.ref (a0 0), .int x1, .int x2, .int x3].toArray s 0 0 (fun _ => False)) (F0 m 19 ls []) := by
    intro e49 k49 n
    induction n with
    | zero =>
      intro z1 z2 z3 z4 z5 z6 z7 ls h
      exact h.elim
    | succ n ih =>
      intro z1 z2 z3 z4 z5 z6 z7 ls h hl
      unfold wp_X0_flapsWith_L19 at h
      refine lv_iload hx hb dX0_flapsWith_19 (lv_at hl 6 rfl) ?_
      refine lv_iload hx hb dX0_flapsWith_21 (lv_at hl 4 rfl) ?_
      refine lv_icmp_ge (tgt := 49) hx hb dX0_flapsWith_23 (by decide) (fun c_3 => ?_) (fun c_3 => ?_)
      · replace h := h.1 c_3
        exact k49 _ _ _ _ _ _ _ ls h (lv_sub hl [0, 1, 2, 3, 4, 5, 6, 7] rfl)
      · replace h := h.2 c_3
        refine lv_aload_n hx hb dX0_flapsWith_26 rfl (lv_at hl 7 rfl) ?_
        refine fl_get (C := RX0) (T := TX0) (N := 18) (ci := 0) (v := .ref (a0 3)) hx hb ht in_X0 hown hK hP 0 rfl rfl 8 (by decide) mw_191 rfl dX0_flapsWith_27 ?_
        refine lv_iload hx hb dX0_flapsWith_30 (lv_at hl 3 rfl) ?_
        refine lv_iload hx hb dX0_flapsWith_32 (lv_at hl 6 rfl) ?_
        refine lv_iadd hx hb dX0_flapsWith_34 ?_
        obtain ⟨g_4, h⟩ := h
        refine va_iald hx hb hK hP 3 0 rfl rfl g_4 dX0_flapsWith_35 ?_
        refine lv_iload_n hx hb dX0_flapsWith_36 rfl (lv_at hl 1 rfl) ?_
        refine lv_icmp_ne (tgt := 43) hx hb dX0_flapsWith_37 (by decide) (fun c_5 => ?_) (fun c_5 => ?_)
        · replace h := h.1 c_5
          refine lv_iinc (v := (z7 + 1)) (lv' := [(7, .int (z7 + 1)), (1, .int z1), (2, .int z2), (3, .int z3), (4, .int z4), (5, .int z5), (6, .int z6), (0, .ref (a0 0))]) hx hb dX0_flapsWith_43 hl (k := 6) rfl rfl (by decide) rfl (fun ls hl => ?_)
          refine lv_goto (tgt := 19) hx hb dX0_flapsWith_46 (by decide) ?_
          exact ih _ _ _ _ _ _ _ ls h (lv_sub hl [1, 2, 3, 4, 5, 6, 0, 7] rfl)
        · replace h := h.2 c_5
          refine lv_iinc (v := (z6 + 1)) (lv' := [(6, .int (z6 + 1)), (1, .int z1), (2, .int z2), (3, .int z3), (4, .int z4), (5, .int z5), (7, .int z7), (0, .ref (a0 0))]) hx hb dX0_flapsWith_40 hl (k := 5) rfl rfl (by decide) rfl (fun ls hl => ?_)
          refine lv_iinc (v := (z7 + 1)) (lv' := [(7, .int (z7 + 1)), (6, .int (z6 + 1)), (1, .int z1), (2, .int z2), (3, .int z3), (4, .int z4), (5, .int z5), (0, .ref (a0 0))]) hx hb dX0_flapsWith_43 hl (k := 6) rfl rfl (by decide) rfl (fun ls hl => ?_)
          refine lv_goto (tgt := 19) hx hb dX0_flapsWith_46 (by decide) ?_
          exact ih _ _ _ _ _ _ _ ls h (lv_sub hl [2, 3, 4, 5, 6, 1, 0, 7] rfl)
  obtain ⟨n19, h⟩ := h
  refine lp19 _ ?_ n19 _ _ _ _ _ _ _ ls h (lv_sub hl [5, 6, 7, 3, 2, 1, 0, 4] rfl)
  · intro z1 z2 z3 z4 z5 z6 z7 ls h hl
    try dsimp only at h
    refine lv_iload hx hb dX0_flapsWith_49 (lv_at hl 5 rfl) ?_
    exact rd_iret hx hb hr hk h dX0_flapsWith_51

def wp_X0_drumHas (post : Int32 → Prop) (s0 : Bd) (x1 : Int32) (x2 : Int32) : Prop := wp_X0_flapsWith (fun r_1 => ((r_1 ≤ 0 → post 0) ∧ (¬ r_1 ≤ 0 → post 1))) s0 x1 x2 (0 : Int32)
set_option maxHeartbeats 4000000 in
set_option maxRecDepth 100000 in
theorem c2_X0_drumHas {l : Launch} {D : va_G} {q : Nat → ClassId} {a0 : Nat → Nat} {s0 : Bd} {x1 : Int32} {x2 : Int32} {post : Int32 → Prop} (h : wp_X0_drumHas post s0 x1 x2) : Met l yX0_drumHas (Cond.code yX0_drumHas cX0_drumHas 3 (some .boolean) :: w_all) ({ frames := 2, cells := 0, slots := 0, locals := 48 } : Room) (rd_P D q [.ref (a0 0), .int x1, .int x2] (bd_w a0 q s0)) (vp_Si post) 0 0 (fun _ => False) := by
  refine rd_start (by decide) (Nat.le_of_ble_eq_true rfl) ?_
  intro p e s m below meth c ls hx hb hr hml hown ht hk hP hQ hV hl
  have hK := hQ.1
  have hown : s.vm.findClass RX0 = some m.cls := hown
  have hl : lv_has ls 3 [(0, .ref (a0 0)), (1, .int x1), (2, .int x2)] := hl
  have hP : va_P D vwCl [((a0 0), .inr (0, [.int (s0.1 0), .int (s0.1 1), .int (s0.1 2), .int (s0.1 3), .int (s0.1 4), .int (s0.1 5), .ref (a0 1), .ref (a0 2), .ref (a0 3), .ref (a0 4), .ref (a0 5), .ref (a0 6), .ref (a0 7), .ref (a0 8), .ref (a0 9), .ref (a0 10), .ref (a0 11), .ref (a0 12)])), ((a0 1), .inl (q 0, 4, .inl (s0.2.1 0))), ((a0 2), .inl (q 0, 4, .inl (s0.2.1 1))), ((a0 3), .inl (q 0, 160, .inl (s0.2.1 2))), ((a0 4), .inl (q 0, 40, .inl (s0.2.1 3))), ((a0 5), .inl (q 0, 40, .inl (s0.2.1 4))), ((a0 6), .inl (q 0, 40, .inl (s0.2.1 5))), ((a0 7), .inl (q 0, 40, .inl (s0.2.1 6))), ((a0 8), .inl (q 0, 40, .inl (s0.2.1 7))), ((a0 9), .inl (q 0, 40, .inl (s0.2.1 8))), ((a0 10), .inl (q 0, 40, .inl (s0.2.1 9))), ((a0 11), .inl (q 1, 40, .inr (.inl s0.2.2.1))), ((a0 12), .inl (q 0, s0.2.2.2.1, .inl s0.2.2.2.2))] s.heap := hP
  unfold wp_X0_drumHas at h
  refine lv_aload_n hx hb dX0_drumHas_0 rfl (lv_at hl 0 rfl) ?_
  refine lv_iload_n hx hb dX0_drumHas_1 rfl (lv_at hl 1 rfl) ?_
  refine lv_iload_n hx hb dX0_drumHas_2 rfl (lv_at hl 2 rfl) ?_
  refine lv_iconst (v := 0) hx hb dX0_drumHas_3 (by decide) ?_
  refine vp_callSi (rd_wV (wc := bd_w a0 q s0) (As := [.int x1, .int x2, .int 0]) (rest := []) hx hb hml hown ht (c2_X0_flapsWith h) wd_X0_flapsWith mw_921 hQ hV va_S.rf (hP.sub [0, 1, 2, 3, 4, 5, 6, 7, 8, 9, 10, 11, 12] rfl) rfl rfl rfl hl.1 rfl (Nat.le_of_ble_eq_true rfl) dX0_drumHas_4 ⟨Nat.le_of_ble_eq_true rfl, Nat.le_of_ble_eq_true rfl, rfl, rfl⟩ ⟨Nat.le_of_ble_eq_true rfl, Nat.le_of_ble_eq_true rfl⟩) (fun r_1 h => ?_)
  try dsimp only at h
  refine lv_if_le (tgt := 14) hx hb dX0_drumHas_7 (by decide) (fun c_3 => ?_) (fun c_3 => ?_)
  · replace h := h.1 c_3
    refine lv_iconst (v := 0) hx hb dX0_drumHas_14 (by decide) ?_
    exact rd_zret hx hb hr hk rfl h dX0_drumHas_15
  · replace h := h.2 c_3
    refine lv_iconst (v := 1) hx hb dX0_drumHas_10 (by decide) ?_
    refine lv_goto (tgt := 15) hx hb dX0_drumHas_11 (by decide) ?_
    exact rd_zret hx hb hr hk rfl h dX0_drumHas_15

def wp_X0_someDrumHas_L2 (s0 : Bd) (post : Int32 → Prop) (e27 : Int32 → Int32 → Prop) : Nat → Int32 → Int32 → Prop
  | 0, _, _ => False
  | n2 + 1, z1, z2 => (((s0.1 3) ≤ z2 → e27 z1 z2) ∧ (¬ (s0.1 3) ≤ z2 → wp_X0_drumHas (fun r_2 => ((r_2 = 0 → wp_X0_someDrumHas_L2 s0 post e27 n2 z1 (z2 + 1)) ∧ (¬ r_2 = 0 → post 1))) s0 z2 z1))
def wp_X0_someDrumHas (post : Int32 → Prop) (s0 : Bd) (x1 : Int32) : Prop := (∃ n2, wp_X0_someDrumHas_L2 s0 post (fun z1 z2 => post 0) n2 x1 0)
set_option maxHeartbeats 4000000 in
set_option maxRecDepth 100000 in
theorem c2_X0_someDrumHas {l : Launch} {D : va_G} {q : Nat → ClassId} {a0 : Nat → Nat} {s0 : Bd} {x1 : Int32} {post : Int32 → Prop} (h : wp_X0_someDrumHas post s0 x1) : Met l yX0_someDrumHas (Cond.code yX0_someDrumHas cX0_someDrumHas 3 (some .boolean) :: w_all) ({ frames := 3, cells := 0, slots := 0, locals := 70 } : Room) (rd_P D q [.ref (a0 0), .int x1] (bd_w a0 q s0)) (vp_Si post) 0 0 (fun _ => False) := by
  refine rd_start (by decide) (Nat.le_of_ble_eq_true rfl) ?_
  intro p e s m below meth c ls hx hb hr hml hown ht hk hP hQ hV hl
  have hK := hQ.1
  have hown : s.vm.findClass RX0 = some m.cls := hown
  have hl : lv_has ls 3 [(0, .ref (a0 0)), (1, .int x1)] := hl
  have hP : va_P D vwCl [((a0 0), .inr (0, [.int (s0.1 0), .int (s0.1 1), .int (s0.1 2), .int (s0.1 3), .int (s0.1 4), .int (s0.1 5), .ref (a0 1), .ref (a0 2), .ref (a0 3), .ref (a0 4), .ref (a0 5), .ref (a0 6), .ref (a0 7), .ref (a0 8), .ref (a0 9), .ref (a0 10), .ref (a0 11), .ref (a0 12)])), ((a0 1), .inl (q 0, 4, .inl (s0.2.1 0))), ((a0 2), .inl (q 0, 4, .inl (s0.2.1 1))), ((a0 3), .inl (q 0, 160, .inl (s0.2.1 2))), ((a0 4), .inl (q 0, 40, .inl (s0.2.1 3))), ((a0 5), .inl (q 0, 40, .inl (s0.2.1 4))), ((a0 6), .inl (q 0, 40, .inl (s0.2.1 5))), ((a0 7), .inl (q 0, 40, .inl (s0.2.1 6))), ((a0 8), .inl (q 0, 40, .inl (s0.2.1 7))), ((a0 9), .inl (q 0, 40, .inl (s0.2.1 8))), ((a0 10), .inl (q 0, 40, .inl (s0.2.1 9))), ((a0 11), .inl (q 1, 40, .inr (.inl s0.2.2.1))), ((a0 12), .inl (q 0, s0.2.2.2.1, .inl s0.2.2.2.2))] s.heap := hP
  unfold wp_X0_someDrumHas at h
  refine lv_iconst (v := 0) hx hb dX0_someDrumHas_0 (by decide) ?_
  refine lv_istore_n (lv' := [(2, .int 0), (0, .ref (a0 0)), (1, .int x1)]) hx hb dX0_someDrumHas_1 rfl hl (by decide) rfl (fun ls hl => ?_)
  have lp2 : ∀ (e27 : Int32 → Int32 → Prop) (k27 : ∀ (z1 : Int32) (z2 : Int32) (ls : Array Slot), e27 z1 z2 → lv_has ls 3 [(1, .int z1), (2, .int z2), (0, .ref (a0 0))] → W p l e ({ frames := 3, cells := 0, slots := 0, locals := 70 } : Room) s m [.ref (a0 0), .int x1].toArray below meth c s.heap [] 0 0 (MQ below (vp_Si post) [.ref (a0 0), .int x1].toArray s 0 0 (fun _ => False)) (F0 m 27 ls [])) (n : Nat) (z1 : Int32) (z2 : Int32) (ls : Array Slot), wp_X0_someDrumHas_L2 s0 post e27 n z1 z2 → lv_has ls 3 [(1, .int z1), (2, .int z2), (0, .ref (a0 0))] → W p l e ({ frames := 3, cells := 0, slots := 0, locals := 70 } : Room) s m [.ref (a0 0), .int x1].toArray below meth c s.heap [] 0 0 (MQ below (vp_Si post) [.ref (a0 0), .int x1].toArray s 0 0 (fun _ => False)) (F0 m 2 ls []) := by
    intro e27 k27 n
    induction n with
    | zero =>
      intro z1 z2 ls h
      exact h.elim
    | succ n ih =>
      intro z1 z2 ls h hl
      unfold wp_X0_someDrumHas_L2 at h
      refine lv_iload_n hx hb dX0_someDrumHas_2 rfl (lv_at hl 1 rfl) ?_
      refine lv_aload_n hx hb dX0_someDrumHas_3 rfl (lv_at hl 2 rfl) ?_
      refine fl_get (C := RX0) (T := TX0) (N := 18) (ci := 0) (v := .int (s0.1 3)) hx hb ht in_X0 hown hK hP 0 rfl rfl 3 (by decide) mw_179 rfl dX0_someDrumHas_4 ?_
      refine lv_icmp_ge (tgt := 27) hx hb dX0_someDrumHas_7 (by decide) (fun c_1 => ?_) (fun c_1 => ?_)
      · replace h := h.1 c_1
        exact k27 _ _ ls h (lv_sub hl [0, 1, 2] rfl)
      · replace h := h.2 c_1
        refine lv_aload_n hx hb dX0_someDrumHas_10 rfl (lv_at hl 2 rfl) ?_
        refine lv_iload_n hx hb dX0_someDrumHas_11 rfl (lv_at hl 1 rfl) ?_
        refine lv_iload_n hx hb dX0_someDrumHas_12 rfl (lv_at hl 0 rfl) ?_
        refine vp_callSi (rd_wV (wc := bd_w a0 q s0) (As := [.int z2, .int z1]) (rest := []) hx hb hml hown ht (c2_X0_drumHas h) wd_X0_drumHas mw_1096 hQ hV va_S.rf (hP.sub [0, 1, 2, 3, 4, 5, 6, 7, 8, 9, 10, 11, 12] rfl) rfl rfl rfl hl.1 rfl (Nat.le_of_ble_eq_true rfl) dX0_someDrumHas_13 ⟨Nat.le_of_ble_eq_true rfl, Nat.le_of_ble_eq_true rfl, rfl, rfl⟩ ⟨Nat.le_of_ble_eq_true rfl, Nat.le_of_ble_eq_true rfl⟩) (fun r_2 h => ?_)
        try dsimp only at h
        refine lv_if_eq (tgt := 21) hx hb dX0_someDrumHas_16 (by decide) (fun c_4 => ?_) (fun c_4 => ?_)
        · replace h := h.1 c_4
          refine lv_iinc (v := (z2 + 1)) (lv' := [(2, .int (z2 + 1)), (1, .int z1), (0, .ref (a0 0))]) hx hb dX0_someDrumHas_21 hl (k := 1) rfl rfl (by decide) rfl (fun ls hl => ?_)
          refine lv_goto (tgt := 2) hx hb dX0_someDrumHas_24 (by decide) ?_
          exact ih _ _ ls h (lv_sub hl [1, 0, 2] rfl)
        · replace h := h.2 c_4
          refine lv_iconst (v := 1) hx hb dX0_someDrumHas_19 (by decide) ?_
          exact rd_zret hx hb hr hk rfl h dX0_someDrumHas_20
  obtain ⟨n2, h⟩ := h
  refine lp2 _ ?_ n2 _ _ ls h (lv_sub hl [2, 0, 1] rfl)
  · intro z1 z2 ls h hl
    try dsimp only at h
    refine lv_iconst (v := 0) hx hb dX0_someDrumHas_27 (by decide) ?_
    exact rd_zret hx hb hr hk rfl h dX0_someDrumHas_28

def wp_X0_isLastOfSign (post : Int32 → Prop) (s0 : Bd) (x1 : Int32) (x2 : Int32) : Prop := wp_X0_signOf (fun r_1 => wp_X0_flapsWith (fun r_3 => ((¬ r_3 = 0 → post 0) ∧ (r_3 = 0 → post 1))) s0 x1 r_1 (x2 + 1)) s0 x1 x2
set_option maxHeartbeats 4000000 in
set_option maxRecDepth 100000 in
theorem c2_X0_isLastOfSign {l : Launch} {D : va_G} {q : Nat → ClassId} {a0 : Nat → Nat} {s0 : Bd} {x1 : Int32} {x2 : Int32} {post : Int32 → Prop} (h : wp_X0_isLastOfSign post s0 x1 x2) : Met l yX0_isLastOfSign (Cond.code yX0_isLastOfSign cX0_isLastOfSign 3 (some .boolean) :: w_all) ({ frames := 2, cells := 0, slots := 0, locals := 48 } : Room) (rd_P D q [.ref (a0 0), .int x1, .int x2] (bd_w a0 q s0)) (vp_Si post) 0 0 (fun _ => False) := by
  refine rd_start (by decide) (Nat.le_of_ble_eq_true rfl) ?_
  intro p e s m below meth c ls hx hb hr hml hown ht hk hP hQ hV hl
  have hK := hQ.1
  have hown : s.vm.findClass RX0 = some m.cls := hown
  have hl : lv_has ls 3 [(0, .ref (a0 0)), (1, .int x1), (2, .int x2)] := hl
  have hP : va_P D vwCl [((a0 0), .inr (0, [.int (s0.1 0), .int (s0.1 1), .int (s0.1 2), .int (s0.1 3), .int (s0.1 4), .int (s0.1 5), .ref (a0 1), .ref (a0 2), .ref (a0 3), .ref (a0 4), .ref (a0 5), .ref (a0 6), .ref (a0 7), .ref (a0 8), .ref (a0 9), .ref (a0 10), .ref (a0 11), .ref (a0 12)])), ((a0 1), .inl (q 0, 4, .inl (s0.2.1 0))), ((a0 2), .inl (q 0, 4, .inl (s0.2.1 1))), ((a0 3), .inl (q 0, 160, .inl (s0.2.1 2))), ((a0 4), .inl (q 0, 40, .inl (s0.2.1 3))), ((a0 5), .inl (q 0, 40, .inl (s0.2.1 4))), ((a0 6), .inl (q 0, 40, .inl (s0.2.1 5))), ((a0 7), .inl (q 0, 40, .inl (s0.2.1 6))), ((a0 8), .inl (q 0, 40, .inl (s0.2.1 7))), ((a0 9), .inl (q 0, 40, .inl (s0.2.1 8))), ((a0 10), .inl (q 0, 40, .inl (s0.2.1 9))), ((a0 11), .inl (q 1, 40, .inr (.inl s0.2.2.1))), ((a0 12), .inl (q 0, s0.2.2.2.1, .inl s0.2.2.2.2))] s.heap := hP
  unfold wp_X0_isLastOfSign at h
  refine lv_aload_n hx hb dX0_isLastOfSign_0 rfl (lv_at hl 0 rfl) ?_
  refine lv_iload_n hx hb dX0_isLastOfSign_1 rfl (lv_at hl 1 rfl) ?_
  refine lv_aload_n hx hb dX0_isLastOfSign_2 rfl (lv_at hl 0 rfl) ?_
  refine lv_iload_n hx hb dX0_isLastOfSign_3 rfl (lv_at hl 1 rfl) ?_
  refine lv_iload_n hx hb dX0_isLastOfSign_4 rfl (lv_at hl 2 rfl) ?_
  refine vp_callSi (rd_wV (wc := bd_w a0 q s0) (As := [.int x1, .int x2]) (rest := [.int x1, .ref (a0 0)]) hx hb hml hown ht (c2_X0_signOf h) wd_X0_signOf mw_668 hQ hV va_S.rf (hP.sub [0, 1, 2, 3, 4, 5, 6, 7, 8, 9, 10, 11, 12] rfl) rfl rfl rfl hl.1 rfl (Nat.le_of_ble_eq_true rfl) dX0_isLastOfSign_5 ⟨Nat.le_of_ble_eq_true rfl, Nat.le_of_ble_eq_true rfl, rfl, rfl⟩ ⟨Nat.le_of_ble_eq_true rfl, Nat.le_of_ble_eq_true rfl⟩) (fun r_1 h => ?_)
  try dsimp only at h
  refine lv_iload_n hx hb dX0_isLastOfSign_8 rfl (lv_at hl 2 rfl) ?_
  refine lv_iconst (v := 1) hx hb dX0_isLastOfSign_9 (by decide) ?_
  refine lv_iadd hx hb dX0_isLastOfSign_10 ?_
  refine vp_callSi (rd_wV (wc := bd_w a0 q s0) (As := [.int x1, .int r_1, .int (x2 + 1)]) (rest := []) hx hb hml hown ht (c2_X0_flapsWith h) wd_X0_flapsWith mw_921 hQ hV va_S.rf (hP.sub [0, 1, 2, 3, 4, 5, 6, 7, 8, 9, 10, 11, 12] rfl) rfl rfl rfl hl.1 rfl (Nat.le_of_ble_eq_true rfl) dX0_isLastOfSign_11 ⟨Nat.le_of_ble_eq_true rfl, Nat.le_of_ble_eq_true rfl, rfl, rfl⟩ ⟨Nat.le_of_ble_eq_true rfl, Nat.le_of_ble_eq_true rfl⟩) (fun r_3 h => ?_)
  try dsimp only at h
  refine lv_if_ne (tgt := 21) hx hb dX0_isLastOfSign_14 (by decide) (fun c_5 => ?_) (fun c_5 => ?_)
  · replace h := h.1 c_5
    refine lv_iconst (v := 0) hx hb dX0_isLastOfSign_21 (by decide) ?_
    exact rd_zret hx hb hr hk rfl h dX0_isLastOfSign_22
  · replace h := h.2 c_5
    refine lv_iconst (v := 1) hx hb dX0_isLastOfSign_17 (by decide) ?_
    refine lv_goto (tgt := 22) hx hb dX0_isLastOfSign_18 (by decide) ?_
    exact rd_zret hx hb hr hk rfl h dX0_isLastOfSign_22

def wp_X0_nearest_L60 (s0 : Bd) (post : Int32 → Prop) (e121 : Int32 → Int32 → Int32 → Int32 → Int32 → Int64 → Int32 → Int32 → Prop) : Nat → Int32 → Int32 → Int32 → Int32 → Int32 → Int64 → Int32 → Int32 → Prop
  | 0, _, _, _, _, _, _, _, _ => False
  | n60 + 1, z1, z2, z3, z4, z5, w6, z8, z9 => ((z4 ≤ z9 → e121 z1 z2 z3 z4 z5 w6 z8 z9) ∧ (¬ z4 ≤ z9 → vp_in (z5 + z8) 160 ∧ ((¬ ((s0.2.1 2) (Int32.toNatClampNeg (z5 + z8))) = z2 → ((z4 ≤ (z8 + 1) → wp_X0_nearest_L60 s0 post e121 n60 z1 z2 z3 z4 z5 w6 0 (z9 + 1)) ∧ (¬ z4 ≤ (z8 + 1) → wp_X0_nearest_L60 s0 post e121 n60 z1 z2 z3 z4 z5 w6 (z8 + 1) (z9 + 1)))) ∧ (((s0.2.1 2) (Int32.toNatClampNeg (z5 + z8))) = z2 → (((lg_cmp ((w6 >>> (Int32.toInt64 z8 &&& 63)) &&& 1) 0) = 0 → ((z4 ≤ (z8 + 1) → wp_X0_nearest_L60 s0 post e121 n60 z1 z2 z3 z4 z5 w6 0 (z9 + 1)) ∧ (¬ z4 ≤ (z8 + 1) → wp_X0_nearest_L60 s0 post e121 n60 z1 z2 z3 z4 z5 w6 (z8 + 1) (z9 + 1)))) ∧ (¬ (lg_cmp ((w6 >>> (Int32.toInt64 z8 &&& 63)) &&& 1) 0) = 0 → post z8))))))
def wp_X0_nearest (post : Int32 → Prop) (s0 : Bd) (x1 : Int32) (x2 : Int32) : Prop := vp_in x1 40 ∧ ((((s0.2.1 3) (Int32.toNatClampNeg x1)) < 0 → vp_in x1 40 ∧ vp_in x1 40 ∧ (∃ n60, wp_X0_nearest_L60 s0 post (fun z1 z2 z3 z4 z5 w6 z8 z9 => post (-1)) n60 x1 x2 ((s0.2.1 3) (Int32.toNatClampNeg x1)) 0 (((s0.2.1 3) (Int32.toNatClampNeg x1)) * 40) ((s0.2.2.1 (Int32.toNatClampNeg x1)) ^^^ (-1)) ((s0.2.1 5) (Int32.toNatClampNeg x1)) 0)) ∧ (¬ ((s0.2.1 3) (Int32.toNatClampNeg x1)) < 0 → (((s0.1 3) ≤ ((s0.2.1 3) (Int32.toNatClampNeg x1)) → vp_in x1 40 ∧ vp_in x1 40 ∧ (∃ n60, wp_X0_nearest_L60 s0 post (fun z1 z2 z3 z4 z5 w6 z8 z9 => post (-1)) n60 x1 x2 ((s0.2.1 3) (Int32.toNatClampNeg x1)) 0 (((s0.2.1 3) (Int32.toNatClampNeg x1)) * 40) ((s0.2.2.1 (Int32.toNatClampNeg x1)) ^^^ (-1)) ((s0.2.1 5) (Int32.toNatClampNeg x1)) 0)) ∧ (¬ (s0.1 3) ≤ ((s0.2.1 3) (Int32.toNatClampNeg x1)) → vp_in ((s0.2.1 3) (Int32.toNatClampNeg x1)) 4 ∧ vp_in x1 40 ∧ vp_in x1 40 ∧ (∃ n60, wp_X0_nearest_L60 s0 post (fun z1 z2 z3 z4 z5 w6 z8 z9 => post (-1)) n60 x1 x2 ((s0.2.1 3) (Int32.toNatClampNeg x1)) ((s0.2.1 1) (Int32.toNatClampNeg ((s0.2.1 3) (Int32.toNatClampNeg x1)))) (((s0.2.1 3) (Int32.toNatClampNeg x1)) * 40) ((s0.2.2.1 (Int32.toNatClampNeg x1)) ^^^ (-1)) ((s0.2.1 5) (Int32.toNatClampNeg x1)) 0)))))
set_option maxHeartbeats 4000000 in
set_option maxRecDepth 100000 in
theorem c2_X0_nearest {l : Launch} {D : va_G} {q : Nat → ClassId} {a0 : Nat → Nat} {s0 : Bd} {x1 : Int32} {x2 : Int32} {post : Int32 → Prop} (h : wp_X0_nearest post s0 x1 x2) : Met l yX0_nearest (Cond.code yX0_nearest cX0_nearest 10 (some .int) :: w_all) ({ frames := 0, cells := 0, slots := 0, locals := 0 } : Room) (rd_P D q [.ref (a0 0), .int x1, .int x2] (bd_w a0 q s0)) (vp_Si post) 0 0 (fun _ => False) := by
  refine rd_start (by decide) (Nat.le_of_ble_eq_true rfl) ?_
  intro p e s m below meth c ls hx hb hr hml hown ht hk hP hQ hV hl
  have hK := hQ.1
  have hown : s.vm.findClass RX0 = some m.cls := hown
  have hl : lv_has ls 10 [(0, .ref (a0 0)), (1, .int x1), (2, .int x2)] := hl
  have hP : va_P D vwCl [((a0 0), .inr (0, [.int (s0.1 0), .int (s0.1 1), .int (s0.1 2), .int (s0.1 3), .int (s0.1 4), .int (s0.1 5), .ref (a0 1), .ref (a0 2), .ref (a0 3), .ref (a0 4), .ref (a0 5), .ref (a0 6), .ref (a0 7), .ref (a0 8), .ref (a0 9), .ref (a0 10), .ref (a0 11), .ref (a0 12)])), ((a0 1), .inl (q 0, 4, .inl (s0.2.1 0))), ((a0 2), .inl (q 0, 4, .inl (s0.2.1 1))), ((a0 3), .inl (q 0, 160, .inl (s0.2.1 2))), ((a0 4), .inl (q 0, 40, .inl (s0.2.1 3))), ((a0 5), .inl (q 0, 40, .inl (s0.2.1 4))), ((a0 6), .inl (q 0, 40, .inl (s0.2.1 5))), ((a0 7), .inl (q 0, 40, .inl (s0.2.1 6))), ((a0 8), .inl (q 0, 40, .inl (s0.2.1 7))), ((a0 9), .inl (q 0, 40, .inl (s0.2.1 8))), ((a0 10), .inl (q 0, 40, .inl (s0.2.1 9))), ((a0 11), .inl (q 1, 40, .inr (.inl s0.2.2.1))), ((a0 12), .inl (q 0, s0.2.2.2.1, .inl s0.2.2.2.2))] s.heap := hP
  unfold wp_X0_nearest at h
  refine lv_aload_n hx hb dX0_nearest_0 rfl (lv_at hl 0 rfl) ?_
  refine fl_get (C := RX0) (T := TX0) (N := 18) (ci := 0) (v := .ref (a0 4)) hx hb ht in_X0 hown hK hP 0 rfl rfl 9 (by decide) mw_192 rfl dX0_nearest_1 ?_
  refine lv_iload_n hx hb dX0_nearest_4 rfl (lv_at hl 1 rfl) ?_
  obtain ⟨g_1, h⟩ := h
  refine va_iald hx hb hK hP 4 0 rfl rfl g_1 dX0_nearest_5 ?_
  refine lv_istore_n (lv' := [(3, .int ((s0.2.1 3) (Int32.toNatClampNeg x1))), (0, .ref (a0 0)), (1, .int x1), (2, .int x2)]) hx hb dX0_nearest_6 rfl hl (by decide) rfl (fun ls hl => ?_)
  refine lv_iload_n hx hb dX0_nearest_7 rfl (lv_at hl 0 rfl) ?_
  refine lv_if_lt (tgt := 28) hx hb dX0_nearest_8 (by decide) (fun c_2 => ?_) (fun c_2 => ?_)
  · replace h := h.1 c_2
    refine lv_iconst (v := 0) hx hb dX0_nearest_28 (by decide) ?_
    refine lv_istore (lv' := [(4, .int 0), (3, .int ((s0.2.1 3) (Int32.toNatClampNeg x1))), (0, .ref (a0 0)), (1, .int x1), (2, .int x2)]) hx hb dX0_nearest_29 hl (by decide) rfl (fun ls hl => ?_)
    refine lv_iload_n hx hb dX0_nearest_31 rfl (lv_at hl 1 rfl) ?_
    refine lv_bipush (v := 40) hx hb dX0_nearest_32 (by decide) ?_
    refine lv_imul hx hb dX0_nearest_34 ?_
    refine lv_istore (lv' := [(5, .int (((s0.2.1 3) (Int32.toNatClampNeg x1)) * 40)), (4, .int 0), (3, .int ((s0.2.1 3) (Int32.toNatClampNeg x1))), (0, .ref (a0 0)), (1, .int x1), (2, .int x2)]) hx hb dX0_nearest_35 hl (by decide) rfl (fun ls hl => ?_)
    refine lv_aload_n hx hb dX0_nearest_37 rfl (lv_at hl 3 rfl) ?_
    refine fl_get (C := RX0) (T := TX0) (N := 18) (ci := 0) (v := .ref (a0 11)) hx hb ht in_X0 hown hK hP 0 rfl rfl 16 (by decide) mw_206 rfl dX0_nearest_38 ?_
    refine lv_iload_n hx hb dX0_nearest_41 rfl (lv_at hl 4 rfl) ?_
    obtain ⟨g_3, h⟩ := h
    refine va_lald hx hb hK hP 11 1 rfl rfl g_3 dX0_nearest_42 ?_
    refine lv_ldc2 (v := (-1)) hx hb hown (ht _ mw_576) dX0_nearest_43 ?_
    refine lv_lxor hx hb dX0_nearest_46 ?_
    refine lv_lstore (lv' := [(6, .long ((s0.2.2.1 (Int32.toNatClampNeg x1)) ^^^ (-1))), (5, .int (((s0.2.1 3) (Int32.toNatClampNeg x1)) * 40)), (4, .int 0), (3, .int ((s0.2.1 3) (Int32.toNatClampNeg x1))), (0, .ref (a0 0)), (1, .int x1), (2, .int x2)]) hx hb dX0_nearest_47 hl (by decide) rfl (fun ls hl => ?_)
    refine lv_aload_n hx hb dX0_nearest_49 rfl (lv_at hl 4 rfl) ?_
    refine fl_get (C := RX0) (T := TX0) (N := 18) (ci := 0) (v := .ref (a0 6)) hx hb ht in_X0 hown hK hP 0 rfl rfl 11 (by decide) mw_196 rfl dX0_nearest_50 ?_
    refine lv_iload_n hx hb dX0_nearest_53 rfl (lv_at hl 5 rfl) ?_
    obtain ⟨g_4, h⟩ := h
    refine va_iald hx hb hK hP 6 0 rfl rfl g_4 dX0_nearest_54 ?_
    refine lv_istore (lv' := [(8, .int ((s0.2.1 5) (Int32.toNatClampNeg x1))), (6, .long ((s0.2.2.1 (Int32.toNatClampNeg x1)) ^^^ (-1))), (5, .int (((s0.2.1 3) (Int32.toNatClampNeg x1)) * 40)), (4, .int 0), (3, .int ((s0.2.1 3) (Int32.toNatClampNeg x1))), (0, .ref (a0 0)), (1, .int x1), (2, .int x2)]) hx hb dX0_nearest_55 hl (by decide) rfl (fun ls hl => ?_)
    refine lv_iconst (v := 0) hx hb dX0_nearest_57 (by decide) ?_
    refine lv_istore (lv' := [(9, .int 0), (8, .int ((s0.2.1 5) (Int32.toNatClampNeg x1))), (6, .long ((s0.2.2.1 (Int32.toNatClampNeg x1)) ^^^ (-1))), (5, .int (((s0.2.1 3) (Int32.toNatClampNeg x1)) * 40)), (4, .int 0), (3, .int ((s0.2.1 3) (Int32.toNatClampNeg x1))), (0, .ref (a0 0)), (1, .int x1), (2, .int x2)]) hx hb dX0_nearest_58 hl (by decide) rfl (fun ls hl => ?_)
    have lp60 : ∀ (e121 : Int32 → Int32 → Int32 → Int32 → Int32 → Int64 → Int32 → Int32 → Prop) (k121 : ∀ (z1 : Int32) (z2 : Int32) (z3 : Int32) (z4 : Int32) (z5 : Int32) (w6 : Int64) (z8 : Int32) (z9 : Int32) (ls : Array Slot), e121 z1 z2 z3 z4 z5 w6 z8 z9 → lv_has ls 10 [(1, .int z1), (2, .int z2), (3, .int z3), (4, .int z4), (5, .int z5), (6, .long w6), (8, .int z8), (9, .int z9), (0, .ref (a0 0))] → W p l e ({ frames := 0, cells := 0, slots := 0, locals := 0 } : Room) s m [.ref (a0 0), .int x1, .int x2].toArray below meth c s.heap [] 0 0 (MQ below (vp_Si post) [.ref (a0 0), .int x1, .int x2].toArray s 0 0 (fun _ => False)) (F0 m 121 ls [])) (n : Nat) (z1 : Int32) (z2 : Int32) (z3 : Int32) (z4 : Int32) (z5 : Int32) (w6 : Int64) (z8 : Int32) (z9 : Int32) (ls : Array Slot), wp_X0_nearest_L60 s0 post e121 n z1 z2 z3 z4 z5 w6 z8 z9 → lv_has ls 10 [(1, .int z1), (2, .int z2), (3, .int z3), (4, .int z4), (5, .int z5), (6, .long w6), (8, .int z8), (9, .int z9), (0, .ref (a0 0))] → W p l e ({ frames := 0, cells := 0, slots := 0, locals := 0 } : Room) s m [.ref (a0 0), .int x1, .int x2].toArray below meth c s.heap [] 0 0 (MQ below (vp_Si post) [.ref (a0 0), .int x1, .int x2].toArray s 0 0 (fun _ => False)) (F0 m 60 ls []) := by
      intro e121 k121 n
      induction n with
      | zero =>
        intro z1 z2 z3 z4 z5 w6 z8 z9 ls h
        exact h.elim
      | succ n ih =>
        intro z1 z2 z3 z4 z5 w6 z8 z9 ls h hl
        unfold wp_X0_nearest_L60 at h
        refine lv_iload hx hb dX0_nearest_60 (lv_at hl 7 rfl) ?_
        refine lv_iload hx hb dX0_nearest_62 (lv_at hl 3 rfl) ?_
        refine lv_icmp_ge (tgt := 121) hx hb dX0_nearest_64 (by decide) (fun c_5 => ?_) (fun c_5 => ?_)
        · replace h := h.1 c_5
          exact k121 _ _ _ _ _ _ _ _ ls h (lv_sub hl [0, 1, 2, 3, 4, 5, 6, 7, 8] rfl)
        · replace h := h.2 c_5
          refine lv_aload_n hx hb dX0_nearest_67 rfl (lv_at hl 8 rfl) ?_
          refine fl_get (C := RX0) (T := TX0) (N := 18) (ci := 0) (v := .ref (a0 3)) hx hb ht in_X0 hown hK hP 0 rfl rfl 8 (by decide) mw_191 rfl dX0_nearest_68 ?_
          refine lv_iload hx hb dX0_nearest_71 (lv_at hl 4 rfl) ?_
          refine lv_iload hx hb dX0_nearest_73 (lv_at hl 6 rfl) ?_
          refine lv_iadd hx hb dX0_nearest_75 ?_
          obtain ⟨g_6, h⟩ := h
          refine va_iald hx hb hK hP 3 0 rfl rfl g_6 dX0_nearest_76 ?_
          refine lv_iload_n hx hb dX0_nearest_77 rfl (lv_at hl 1 rfl) ?_
          refine lv_icmp_ne (tgt := 96) hx hb dX0_nearest_78 (by decide) (fun c_7 => ?_) (fun c_7 => ?_)
          · replace h := h.1 c_7
            refine lv_iload hx hb dX0_nearest_96 (lv_at hl 6 rfl) ?_
            refine lv_iconst (v := 1) hx hb dX0_nearest_98 (by decide) ?_
            refine lv_iadd hx hb dX0_nearest_99 ?_
            refine lv_iload hx hb dX0_nearest_100 (lv_at hl 3 rfl) ?_
            refine lv_icmp_ge (tgt := 112) hx hb dX0_nearest_102 (by decide) (fun c_8 => ?_) (fun c_8 => ?_)
            · replace h := h.1 c_8
              refine lv_iconst (v := 0) hx hb dX0_nearest_112 (by decide) ?_
              refine lv_istore (lv' := [(8, .int 0), (1, .int z1), (2, .int z2), (3, .int z3), (4, .int z4), (5, .int z5), (6, .long w6), (9, .int z9), (0, .ref (a0 0))]) hx hb dX0_nearest_113 hl (by decide) rfl (fun ls hl => ?_)
              refine lv_iinc (v := (z9 + 1)) (lv' := [(9, .int (z9 + 1)), (8, .int 0), (1, .int z1), (2, .int z2), (3, .int z3), (4, .int z4), (5, .int z5), (6, .long w6), (0, .ref (a0 0))]) hx hb dX0_nearest_115 hl (k := 7) rfl rfl (by decide) rfl (fun ls hl => ?_)
              refine lv_goto (tgt := 60) hx hb dX0_nearest_118 (by decide) ?_
              exact ih _ _ _ _ _ _ _ _ ls h (lv_sub hl [2, 3, 4, 5, 6, 7, 1, 0, 8] rfl)
            · replace h := h.2 c_8
              refine lv_iload hx hb dX0_nearest_105 (lv_at hl 6 rfl) ?_
              refine lv_iconst (v := 1) hx hb dX0_nearest_107 (by decide) ?_
              refine lv_iadd hx hb dX0_nearest_108 ?_
              refine lv_goto (tgt := 113) hx hb dX0_nearest_109 (by decide) ?_
              refine lv_istore (lv' := [(8, .int (z8 + 1)), (1, .int z1), (2, .int z2), (3, .int z3), (4, .int z4), (5, .int z5), (6, .long w6), (9, .int z9), (0, .ref (a0 0))]) hx hb dX0_nearest_113 hl (by decide) rfl (fun ls hl => ?_)
              refine lv_iinc (v := (z9 + 1)) (lv' := [(9, .int (z9 + 1)), (8, .int (z8 + 1)), (1, .int z1), (2, .int z2), (3, .int z3), (4, .int z4), (5, .int z5), (6, .long w6), (0, .ref (a0 0))]) hx hb dX0_nearest_115 hl (k := 7) rfl rfl (by decide) rfl (fun ls hl => ?_)
              refine lv_goto (tgt := 60) hx hb dX0_nearest_118 (by decide) ?_
              exact ih _ _ _ _ _ _ _ _ ls h (lv_sub hl [2, 3, 4, 5, 6, 7, 1, 0, 8] rfl)
          · replace h := h.2 c_7
            refine lv_lload hx hb dX0_nearest_81 (lv_at hl 5 rfl) ?_
            refine lv_iload hx hb dX0_nearest_83 (lv_at hl 6 rfl) ?_
            refine lv_lshr (v := (w6 >>> (Int32.toInt64 z8 &&& 63))) hx hb dX0_nearest_85 rfl ?_
            refine lv_lconst (v := 1) hx hb dX0_nearest_86 (by decide) ?_
            refine lv_land hx hb dX0_nearest_87 ?_
            refine lv_lconst (v := 0) hx hb dX0_nearest_88 (by decide) ?_
            refine W.lcmp hx hb dX0_nearest_89 ?_
            refine lv_if_eq (tgt := 96) hx hb dX0_nearest_90 (by decide) (fun c_9 => ?_) (fun c_9 => ?_)
            · replace h := h.1 c_9
              refine lv_iload hx hb dX0_nearest_96 (lv_at hl 6 rfl) ?_
              refine lv_iconst (v := 1) hx hb dX0_nearest_98 (by decide) ?_
              refine lv_iadd hx hb dX0_nearest_99 ?_
              refine lv_iload hx hb dX0_nearest_100 (lv_at hl 3 rfl) ?_
              refine lv_icmp_ge (tgt := 112) hx hb dX0_nearest_102 (by decide) (fun c_10 => ?_) (fun c_10 => ?_)
              · replace h := h.1 c_10
                refine lv_iconst (v := 0) hx hb dX0_nearest_112 (by decide) ?_
                refine lv_istore (lv' := [(8, .int 0), (1, .int z1), (2, .int z2), (3, .int z3), (4, .int z4), (5, .int z5), (6, .long w6), (9, .int z9), (0, .ref (a0 0))]) hx hb dX0_nearest_113 hl (by decide) rfl (fun ls hl => ?_)
                refine lv_iinc (v := (z9 + 1)) (lv' := [(9, .int (z9 + 1)), (8, .int 0), (1, .int z1), (2, .int z2), (3, .int z3), (4, .int z4), (5, .int z5), (6, .long w6), (0, .ref (a0 0))]) hx hb dX0_nearest_115 hl (k := 7) rfl rfl (by decide) rfl (fun ls hl => ?_)
                refine lv_goto (tgt := 60) hx hb dX0_nearest_118 (by decide) ?_
                exact ih _ _ _ _ _ _ _ _ ls h (lv_sub hl [2, 3, 4, 5, 6, 7, 1, 0, 8] rfl)
              · replace h := h.2 c_10
                refine lv_iload hx hb dX0_nearest_105 (lv_at hl 6 rfl) ?_
                refine lv_iconst (v := 1) hx hb dX0_nearest_107 (by decide) ?_
                refine lv_iadd hx hb dX0_nearest_108 ?_
                refine lv_goto (tgt := 113) hx hb dX0_nearest_109 (by decide) ?_
                refine lv_istore (lv' := [(8, .int (z8 + 1)), (1, .int z1), (2, .int z2), (3, .int z3), (4, .int z4), (5, .int z5), (6, .long w6), (9, .int z9), (0, .ref (a0 0))]) hx hb dX0_nearest_113 hl (by decide) rfl (fun ls hl => ?_)
                refine lv_iinc (v := (z9 + 1)) (lv' := [(9, .int (z9 + 1)), (8, .int (z8 + 1)), (1, .int z1), (2, .int z2), (3, .int z3), (4, .int z4), (5, .int z5), (6, .long w6), (0, .ref (a0 0))]) hx hb dX0_nearest_115 hl (k := 7) rfl rfl (by decide) rfl (fun ls hl => ?_)
                refine lv_goto (tgt := 60) hx hb dX0_nearest_118 (by decide) ?_
                exact ih _ _ _ _ _ _ _ _ ls h (lv_sub hl [2, 3, 4, 5, 6, 7, 1, 0, 8] rfl)
            · replace h := h.2 c_9
              refine lv_iload hx hb dX0_nearest_93 (lv_at hl 6 rfl) ?_
              exact rd_iret hx hb hr hk h dX0_nearest_95
    obtain ⟨n60, h⟩ := h
    refine lp60 _ ?_ n60 _ _ _ _ _ _ _ _ ls h (lv_sub hl [7, 8, 5, 4, 3, 2, 1, 0, 6] rfl)
    · intro z1 z2 z3 z4 z5 w6 z8 z9 ls h hl
      try dsimp only at h
      refine lv_iconst (v := (-1)) hx hb dX0_nearest_121 (by decide) ?_
      exact rd_iret hx hb hr hk h dX0_nearest_122
  · replace h := h.2 c_2
    refine lv_iload_n hx hb dX0_nearest_11 rfl (lv_at hl 0 rfl) ?_
    refine lv_aload_n hx hb dX0_nearest_12 rfl (lv_at hl 1 rfl) ?_
    refine fl_get (C := RX0) (T := TX0) (N := 18) (ci := 0) (v := .int (s0.1 3)) hx hb ht in_X0 hown hK hP 0 rfl rfl 3 (by decide) mw_179 rfl dX0_nearest_13 ?_
    refine lv_icmp_ge (tgt := 28) hx hb dX0_nearest_16 (by decide) (fun c_11 => ?_) (fun c_11 => ?_)
    · replace h := h.1 c_11
      refine lv_iconst (v := 0) hx hb dX0_nearest_28 (by decide) ?_
      refine lv_istore (lv' := [(4, .int 0), (3, .int ((s0.2.1 3) (Int32.toNatClampNeg x1))), (0, .ref (a0 0)), (1, .int x1), (2, .int x2)]) hx hb dX0_nearest_29 hl (by decide) rfl (fun ls hl => ?_)
      refine lv_iload_n hx hb dX0_nearest_31 rfl (lv_at hl 1 rfl) ?_
      refine lv_bipush (v := 40) hx hb dX0_nearest_32 (by decide) ?_
      refine lv_imul hx hb dX0_nearest_34 ?_
      refine lv_istore (lv' := [(5, .int (((s0.2.1 3) (Int32.toNatClampNeg x1)) * 40)), (4, .int 0), (3, .int ((s0.2.1 3) (Int32.toNatClampNeg x1))), (0, .ref (a0 0)), (1, .int x1), (2, .int x2)]) hx hb dX0_nearest_35 hl (by decide) rfl (fun ls hl => ?_)
      refine lv_aload_n hx hb dX0_nearest_37 rfl (lv_at hl 3 rfl) ?_
      refine fl_get (C := RX0) (T := TX0) (N := 18) (ci := 0) (v := .ref (a0 11)) hx hb ht in_X0 hown hK hP 0 rfl rfl 16 (by decide) mw_206 rfl dX0_nearest_38 ?_
      refine lv_iload_n hx hb dX0_nearest_41 rfl (lv_at hl 4 rfl) ?_
      obtain ⟨g_12, h⟩ := h
      refine va_lald hx hb hK hP 11 1 rfl rfl g_12 dX0_nearest_42 ?_
      refine lv_ldc2 (v := (-1)) hx hb hown (ht _ mw_576) dX0_nearest_43 ?_
      refine lv_lxor hx hb dX0_nearest_46 ?_
      refine lv_lstore (lv' := [(6, .long ((s0.2.2.1 (Int32.toNatClampNeg x1)) ^^^ (-1))), (5, .int (((s0.2.1 3) (Int32.toNatClampNeg x1)) * 40)), (4, .int 0), (3, .int ((s0.2.1 3) (Int32.toNatClampNeg x1))), (0, .ref (a0 0)), (1, .int x1), (2, .int x2)]) hx hb dX0_nearest_47 hl (by decide) rfl (fun ls hl => ?_)
      refine lv_aload_n hx hb dX0_nearest_49 rfl (lv_at hl 4 rfl) ?_
      refine fl_get (C := RX0) (T := TX0) (N := 18) (ci := 0) (v := .ref (a0 6)) hx hb ht in_X0 hown hK hP 0 rfl rfl 11 (by decide) mw_196 rfl dX0_nearest_50 ?_
      refine lv_iload_n hx hb dX0_nearest_53 rfl (lv_at hl 5 rfl) ?_
      obtain ⟨g_13, h⟩ := h
      refine va_iald hx hb hK hP 6 0 rfl rfl g_13 dX0_nearest_54 ?_
      refine lv_istore (lv' := [(8, .int ((s0.2.1 5) (Int32.toNatClampNeg x1))), (6, .long ((s0.2.2.1 (Int32.toNatClampNeg x1)) ^^^ (-1))), (5, .int (((s0.2.1 3) (Int32.toNatClampNeg x1)) * 40)), (4, .int 0), (3, .int ((s0.2.1 3) (Int32.toNatClampNeg x1))), (0, .ref (a0 0)), (1, .int x1), (2, .int x2)]) hx hb dX0_nearest_55 hl (by decide) rfl (fun ls hl => ?_)
      refine lv_iconst (v := 0) hx hb dX0_nearest_57 (by decide) ?_
      refine lv_istore (lv' := [(9, .int 0), (8, .int ((s0.2.1 5) (Int32.toNatClampNeg x1))), (6, .long ((s0.2.2.1 (Int32.toNatClampNeg x1)) ^^^ (-1))), (5, .int (((s0.2.1 3) (Int32.toNatClampNeg x1)) * 40)), (4, .int 0), (3, .int ((s0.2.1 3) (Int32.toNatClampNeg x1))), (0, .ref (a0 0)), (1, .int x1), (2, .int x2)]) hx hb dX0_nearest_58 hl (by decide) rfl (fun ls hl => ?_)
      have lp60 : ∀ (e121 : Int32 → Int32 → Int32 → Int32 → Int32 → Int64 → Int32 → Int32 → Prop) (k121 : ∀ (z1 : Int32) (z2 : Int32) (z3 : Int32) (z4 : Int32) (z5 : Int32) (w6 : Int64) (z8 : Int32) (z9 : Int32) (ls : Array Slot), e121 z1 z2 z3 z4 z5 w6 z8 z9 → lv_has ls 10 [(1, .int z1), (2, .int z2), (3, .int z3), (4, .int z4), (5, .int z5), (6, .long w6), (8, .int z8), (9, .int z9), (0, .ref (a0 0))] → W p l e ({ frames := 0, cells := 0, slots := 0, locals := 0 } : Room) s m [.ref (a0 0), .int x1, .int x2].toArray below meth c s.heap [] 0 0 (MQ below (vp_Si post) [.ref (a0 0), .int x1, .int x2].toArray s 0 0 (fun _ => False)) (F0 m 121 ls [])) (n : Nat) (z1 : Int32) (z2 : Int32) (z3 : Int32) (z4 : Int32) (z5 : Int32) (w6 : Int64) (z8 : Int32) (z9 : Int32) (ls : Array Slot), wp_X0_nearest_L60 s0 post e121 n z1 z2 z3 z4 z5 w6 z8 z9 → lv_has ls 10 [(1, .int z1), (2, .int z2), (3, .int z3), (4, .int z4), (5, .int z5), (6, .long w6), (8, .int z8), (9, .int z9), (0, .ref (a0 0))] → W p l e ({ frames := 0, cells := 0, slots := 0, locals := 0 } : Room) s m [.ref (a0 0), .int x1, .int x2].toArray below meth c s.heap [] 0 0 (MQ below (vp_Si post) [.ref (a0 0), .int x1, .int x2].toArray s 0 0 (fun _ => False)) (F0 m 60 ls []) := by
        intro e121 k121 n
        induction n with
        | zero =>
          intro z1 z2 z3 z4 z5 w6 z8 z9 ls h
          exact h.elim
        | succ n ih =>
          intro z1 z2 z3 z4 z5 w6 z8 z9 ls h hl
          unfold wp_X0_nearest_L60 at h
          refine lv_iload hx hb dX0_nearest_60 (lv_at hl 7 rfl) ?_
          refine lv_iload hx hb dX0_nearest_62 (lv_at hl 3 rfl) ?_
          refine lv_icmp_ge (tgt := 121) hx hb dX0_nearest_64 (by decide) (fun c_14 => ?_) (fun c_14 => ?_)
          · replace h := h.1 c_14
            exact k121 _ _ _ _ _ _ _ _ ls h (lv_sub hl [0, 1, 2, 3, 4, 5, 6, 7, 8] rfl)
          · replace h := h.2 c_14
            refine lv_aload_n hx hb dX0_nearest_67 rfl (lv_at hl 8 rfl) ?_
            refine fl_get (C := RX0) (T := TX0) (N := 18) (ci := 0) (v := .ref (a0 3)) hx hb ht in_X0 hown hK hP 0 rfl rfl 8 (by decide) mw_191 rfl dX0_nearest_68 ?_
            refine lv_iload hx hb dX0_nearest_71 (lv_at hl 4 rfl) ?_
            refine lv_iload hx hb dX0_nearest_73 (lv_at hl 6 rfl) ?_
            refine lv_iadd hx hb dX0_nearest_75 ?_
            obtain ⟨g_15, h⟩ := h
            refine va_iald hx hb hK hP 3 0 rfl rfl g_15 dX0_nearest_76 ?_
            refine lv_iload_n hx hb dX0_nearest_77 rfl (lv_at hl 1 rfl) ?_
            refine lv_icmp_ne (tgt := 96) hx hb dX0_nearest_78 (by decide) (fun c_16 => ?_) (fun c_16 => ?_)
            · replace h := h.1 c_16
              refine lv_iload hx hb dX0_nearest_96 (lv_at hl 6 rfl) ?_
              refine lv_iconst (v := 1) hx hb dX0_nearest_98 (by decide) ?_
              refine lv_iadd hx hb dX0_nearest_99 ?_
              refine lv_iload hx hb dX0_nearest_100 (lv_at hl 3 rfl) ?_
              refine lv_icmp_ge (tgt := 112) hx hb dX0_nearest_102 (by decide) (fun c_17 => ?_) (fun c_17 => ?_)
              · replace h := h.1 c_17
                refine lv_iconst (v := 0) hx hb dX0_nearest_112 (by decide) ?_
                refine lv_istore (lv' := [(8, .int 0), (1, .int z1), (2, .int z2), (3, .int z3), (4, .int z4), (5, .int z5), (6, .long w6), (9, .int z9), (0, .ref (a0 0))]) hx hb dX0_nearest_113 hl (by decide) rfl (fun ls hl => ?_)
                refine lv_iinc (v := (z9 + 1)) (lv' := [(9, .int (z9 + 1)), (8, .int 0), (1, .int z1), (2, .int z2), (3, .int z3), (4, .int z4), (5, .int z5), (6, .long w6), (0, .ref (a0 0))]) hx hb dX0_nearest_115 hl (k := 7) rfl rfl (by decide) rfl (fun ls hl => ?_)
                refine lv_goto (tgt := 60) hx hb dX0_nearest_118 (by decide) ?_
                exact ih _ _ _ _ _ _ _ _ ls h (lv_sub hl [2, 3, 4, 5, 6, 7, 1, 0, 8] rfl)
              · replace h := h.2 c_17
                refine lv_iload hx hb dX0_nearest_105 (lv_at hl 6 rfl) ?_
                refine lv_iconst (v := 1) hx hb dX0_nearest_107 (by decide) ?_
                refine lv_iadd hx hb dX0_nearest_108 ?_
                refine lv_goto (tgt := 113) hx hb dX0_nearest_109 (by decide) ?_
                refine lv_istore (lv' := [(8, .int (z8 + 1)), (1, .int z1), (2, .int z2), (3, .int z3), (4, .int z4), (5, .int z5), (6, .long w6), (9, .int z9), (0, .ref (a0 0))]) hx hb dX0_nearest_113 hl (by decide) rfl (fun ls hl => ?_)
                refine lv_iinc (v := (z9 + 1)) (lv' := [(9, .int (z9 + 1)), (8, .int (z8 + 1)), (1, .int z1), (2, .int z2), (3, .int z3), (4, .int z4), (5, .int z5), (6, .long w6), (0, .ref (a0 0))]) hx hb dX0_nearest_115 hl (k := 7) rfl rfl (by decide) rfl (fun ls hl => ?_)
                refine lv_goto (tgt := 60) hx hb dX0_nearest_118 (by decide) ?_
                exact ih _ _ _ _ _ _ _ _ ls h (lv_sub hl [2, 3, 4, 5, 6, 7, 1, 0, 8] rfl)
            · replace h := h.2 c_16
              refine lv_lload hx hb dX0_nearest_81 (lv_at hl 5 rfl) ?_
              refine lv_iload hx hb dX0_nearest_83 (lv_at hl 6 rfl) ?_
              refine lv_lshr (v := (w6 >>> (Int32.toInt64 z8 &&& 63))) hx hb dX0_nearest_85 rfl ?_
              refine lv_lconst (v := 1) hx hb dX0_nearest_86 (by decide) ?_
              refine lv_land hx hb dX0_nearest_87 ?_
              refine lv_lconst (v := 0) hx hb dX0_nearest_88 (by decide) ?_
              refine W.lcmp hx hb dX0_nearest_89 ?_
              refine lv_if_eq (tgt := 96) hx hb dX0_nearest_90 (by decide) (fun c_18 => ?_) (fun c_18 => ?_)
              · replace h := h.1 c_18
                refine lv_iload hx hb dX0_nearest_96 (lv_at hl 6 rfl) ?_
                refine lv_iconst (v := 1) hx hb dX0_nearest_98 (by decide) ?_
                refine lv_iadd hx hb dX0_nearest_99 ?_
                refine lv_iload hx hb dX0_nearest_100 (lv_at hl 3 rfl) ?_
                refine lv_icmp_ge (tgt := 112) hx hb dX0_nearest_102 (by decide) (fun c_19 => ?_) (fun c_19 => ?_)
                · replace h := h.1 c_19
                  refine lv_iconst (v := 0) hx hb dX0_nearest_112 (by decide) ?_
                  refine lv_istore (lv' := [(8, .int 0), (1, .int z1), (2, .int z2), (3, .int z3), (4, .int z4), (5, .int z5), (6, .long w6), (9, .int z9), (0, .ref (a0 0))]) hx hb dX0_nearest_113 hl (by decide) rfl (fun ls hl => ?_)
                  refine lv_iinc (v := (z9 + 1)) (lv' := [(9, .int (z9 + 1)), (8, .int 0), (1, .int z1), (2, .int z2), (3, .int z3), (4, .int z4), (5, .int z5), (6, .long w6), (0, .ref (a0 0))]) hx hb dX0_nearest_115 hl (k := 7) rfl rfl (by decide) rfl (fun ls hl => ?_)
                  refine lv_goto (tgt := 60) hx hb dX0_nearest_118 (by decide) ?_
                  exact ih _ _ _ _ _ _ _ _ ls h (lv_sub hl [2, 3, 4, 5, 6, 7, 1, 0, 8] rfl)
                · replace h := h.2 c_19
                  refine lv_iload hx hb dX0_nearest_105 (lv_at hl 6 rfl) ?_
                  refine lv_iconst (v := 1) hx hb dX0_nearest_107 (by decide) ?_
                  refine lv_iadd hx hb dX0_nearest_108 ?_
                  refine lv_goto (tgt := 113) hx hb dX0_nearest_109 (by decide) ?_
                  refine lv_istore (lv' := [(8, .int (z8 + 1)), (1, .int z1), (2, .int z2), (3, .int z3), (4, .int z4), (5, .int z5), (6, .long w6), (9, .int z9), (0, .ref (a0 0))]) hx hb dX0_nearest_113 hl (by decide) rfl (fun ls hl => ?_)
                  refine lv_iinc (v := (z9 + 1)) (lv' := [(9, .int (z9 + 1)), (8, .int (z8 + 1)), (1, .int z1), (2, .int z2), (3, .int z3), (4, .int z4), (5, .int z5), (6, .long w6), (0, .ref (a0 0))]) hx hb dX0_nearest_115 hl (k := 7) rfl rfl (by decide) rfl (fun ls hl => ?_)
                  refine lv_goto (tgt := 60) hx hb dX0_nearest_118 (by decide) ?_
                  exact ih _ _ _ _ _ _ _ _ ls h (lv_sub hl [2, 3, 4, 5, 6, 7, 1, 0, 8] rfl)
              · replace h := h.2 c_18
                refine lv_iload hx hb dX0_nearest_93 (lv_at hl 6 rfl) ?_
                exact rd_iret hx hb hr hk h dX0_nearest_95
      obtain ⟨n60, h⟩ := h
      refine lp60 _ ?_ n60 _ _ _ _ _ _ _ _ ls h (lv_sub hl [7, 8, 5, 4, 3, 2, 1, 0, 6] rfl)
      · intro z1 z2 z3 z4 z5 w6 z8 z9 ls h hl
        try dsimp only at h
        refine lv_iconst (v := (-1)) hx hb dX0_nearest_121 (by decide) ?_
        exact rd_iret hx hb hr hk h dX0_nearest_122
    · replace h := h.2 c_11
      refine lv_aload_n hx hb dX0_nearest_19 rfl (lv_at hl 1 rfl) ?_
      refine fl_get (C := RX0) (T := TX0) (N := 18) (ci := 0) (v := .ref (a0 2)) hx hb ht in_X0 hown hK hP 0 rfl rfl 7 (by decide) mw_190 rfl dX0_nearest_20 ?_
      refine lv_iload_n hx hb dX0_nearest_23 rfl (lv_at hl 0 rfl) ?_
      obtain ⟨g_20, h⟩ := h
      refine va_iald hx hb hK hP 2 0 rfl rfl g_20 dX0_nearest_24 ?_
      refine lv_goto (tgt := 29) hx hb dX0_nearest_25 (by decide) ?_
      refine lv_istore (lv' := [(4, .int ((s0.2.1 1) (Int32.toNatClampNeg ((s0.2.1 3) (Int32.toNatClampNeg x1))))), (3, .int ((s0.2.1 3) (Int32.toNatClampNeg x1))), (0, .ref (a0 0)), (1, .int x1), (2, .int x2)]) hx hb dX0_nearest_29 hl (by decide) rfl (fun ls hl => ?_)
      refine lv_iload_n hx hb dX0_nearest_31 rfl (lv_at hl 1 rfl) ?_
      refine lv_bipush (v := 40) hx hb dX0_nearest_32 (by decide) ?_
      refine lv_imul hx hb dX0_nearest_34 ?_
      refine lv_istore (lv' := [(5, .int (((s0.2.1 3) (Int32.toNatClampNeg x1)) * 40)), (4, .int ((s0.2.1 1) (Int32.toNatClampNeg ((s0.2.1 3) (Int32.toNatClampNeg x1))))), (3, .int ((s0.2.1 3) (Int32.toNatClampNeg x1))), (0, .ref (a0 0)), (1, .int x1), (2, .int x2)]) hx hb dX0_nearest_35 hl (by decide) rfl (fun ls hl => ?_)
      refine lv_aload_n hx hb dX0_nearest_37 rfl (lv_at hl 3 rfl) ?_
      refine fl_get (C := RX0) (T := TX0) (N := 18) (ci := 0) (v := .ref (a0 11)) hx hb ht in_X0 hown hK hP 0 rfl rfl 16 (by decide) mw_206 rfl dX0_nearest_38 ?_
      refine lv_iload_n hx hb dX0_nearest_41 rfl (lv_at hl 4 rfl) ?_
      obtain ⟨g_21, h⟩ := h
      refine va_lald hx hb hK hP 11 1 rfl rfl g_21 dX0_nearest_42 ?_
      refine lv_ldc2 (v := (-1)) hx hb hown (ht _ mw_576) dX0_nearest_43 ?_
      refine lv_lxor hx hb dX0_nearest_46 ?_
      refine lv_lstore (lv' := [(6, .long ((s0.2.2.1 (Int32.toNatClampNeg x1)) ^^^ (-1))), (5, .int (((s0.2.1 3) (Int32.toNatClampNeg x1)) * 40)), (4, .int ((s0.2.1 1) (Int32.toNatClampNeg ((s0.2.1 3) (Int32.toNatClampNeg x1))))), (3, .int ((s0.2.1 3) (Int32.toNatClampNeg x1))), (0, .ref (a0 0)), (1, .int x1), (2, .int x2)]) hx hb dX0_nearest_47 hl (by decide) rfl (fun ls hl => ?_)
      refine lv_aload_n hx hb dX0_nearest_49 rfl (lv_at hl 4 rfl) ?_
      refine fl_get (C := RX0) (T := TX0) (N := 18) (ci := 0) (v := .ref (a0 6)) hx hb ht in_X0 hown hK hP 0 rfl rfl 11 (by decide) mw_196 rfl dX0_nearest_50 ?_
      refine lv_iload_n hx hb dX0_nearest_53 rfl (lv_at hl 5 rfl) ?_
      obtain ⟨g_22, h⟩ := h
      refine va_iald hx hb hK hP 6 0 rfl rfl g_22 dX0_nearest_54 ?_
      refine lv_istore (lv' := [(8, .int ((s0.2.1 5) (Int32.toNatClampNeg x1))), (6, .long ((s0.2.2.1 (Int32.toNatClampNeg x1)) ^^^ (-1))), (5, .int (((s0.2.1 3) (Int32.toNatClampNeg x1)) * 40)), (4, .int ((s0.2.1 1) (Int32.toNatClampNeg ((s0.2.1 3) (Int32.toNatClampNeg x1))))), (3, .int ((s0.2.1 3) (Int32.toNatClampNeg x1))), (0, .ref (a0 0)), (1, .int x1), (2, .int x2)]) hx hb dX0_nearest_55 hl (by decide) rfl (fun ls hl => ?_)
      refine lv_iconst (v := 0) hx hb dX0_nearest_57 (by decide) ?_
      refine lv_istore (lv' := [(9, .int 0), (8, .int ((s0.2.1 5) (Int32.toNatClampNeg x1))), (6, .long ((s0.2.2.1 (Int32.toNatClampNeg x1)) ^^^ (-1))), (5, .int (((s0.2.1 3) (Int32.toNatClampNeg x1)) * 40)), (4, .int ((s0.2.1 1) (Int32.toNatClampNeg ((s0.2.1 3) (Int32.toNatClampNeg x1))))), (3, .int ((s0.2.1 3) (Int32.toNatClampNeg x1))), (0, .ref (a0 0)), (1, .int x1), (2, .int x2)]) hx hb dX0_nearest_58 hl (by decide) rfl (fun ls hl => ?_)
      have lp60 : ∀ (e121 : Int32 → Int32 → Int32 → Int32 → Int32 → Int64 → Int32 → Int32 → Prop) (k121 : ∀ (z1 : Int32) (z2 : Int32) (z3 : Int32) (z4 : Int32) (z5 : Int32) (w6 : Int64) (z8 : Int32) (z9 : Int32) (ls : Array Slot), e121 z1 z2 z3 z4 z5 w6 z8 z9 → lv_has ls 10 [(1, .int z1), (2, .int z2), (3, .int z3), (4, .int z4), (5, .int z5), (6, .long w6), (8, .int z8), (9, .int z9), (0, .ref (a0 0))] → W p l e ({ frames := 0, cells := 0, slots := 0, locals := 0 } : Room) s m [.ref (a0 0), .int x1, .int x2].toArray below meth c s.heap [] 0 0 (MQ below (vp_Si post) [.ref (a0 0), .int x1, .int x2].toArray s 0 0 (fun _ => False)) (F0 m 121 ls [])) (n : Nat) (z1 : Int32) (z2 : Int32) (z3 : Int32) (z4 : Int32) (z5 : Int32) (w6 : Int64) (z8 : Int32) (z9 : Int32) (ls : Array Slot), wp_X0_nearest_L60 s0 post e121 n z1 z2 z3 z4 z5 w6 z8 z9 → lv_has ls 10 [(1, .int z1), (2, .int z2), (3, .int z3), (4, .int z4), (5, .int z5), (6, .long w6), (8, .int z8), (9, .int z9), (0, .ref (a0 0))] → W p l e ({ frames := 0, cells := 0, slots := 0, locals := 0 } : Room) s m [.ref (a0 0), .int x1, .int x2].toArray below meth c s.heap [] 0 0 (MQ below (vp_Si post) [.ref (a0 0), .int x1, .int x2].toArray s 0 0 (fun _ => False)) (F0 m 60 ls []) := by
        intro e121 k121 n
        induction n with
        | zero =>
          intro z1 z2 z3 z4 z5 w6 z8 z9 ls h
          exact h.elim
        | succ n ih =>
          intro z1 z2 z3 z4 z5 w6 z8 z9 ls h hl
          unfold wp_X0_nearest_L60 at h
          refine lv_iload hx hb dX0_nearest_60 (lv_at hl 7 rfl) ?_
          refine lv_iload hx hb dX0_nearest_62 (lv_at hl 3 rfl) ?_
          refine lv_icmp_ge (tgt := 121) hx hb dX0_nearest_64 (by decide) (fun c_23 => ?_) (fun c_23 => ?_)
          · replace h := h.1 c_23
            exact k121 _ _ _ _ _ _ _ _ ls h (lv_sub hl [0, 1, 2, 3, 4, 5, 6, 7, 8] rfl)
          · replace h := h.2 c_23
            refine lv_aload_n hx hb dX0_nearest_67 rfl (lv_at hl 8 rfl) ?_
            refine fl_get (C := RX0) (T := TX0) (N := 18) (ci := 0) (v := .ref (a0 3)) hx hb ht in_X0 hown hK hP 0 rfl rfl 8 (by decide) mw_191 rfl dX0_nearest_68 ?_
            refine lv_iload hx hb dX0_nearest_71 (lv_at hl 4 rfl) ?_
            refine lv_iload hx hb dX0_nearest_73 (lv_at hl 6 rfl) ?_
            refine lv_iadd hx hb dX0_nearest_75 ?_
            obtain ⟨g_24, h⟩ := h
            refine va_iald hx hb hK hP 3 0 rfl rfl g_24 dX0_nearest_76 ?_
            refine lv_iload_n hx hb dX0_nearest_77 rfl (lv_at hl 1 rfl) ?_
            refine lv_icmp_ne (tgt := 96) hx hb dX0_nearest_78 (by decide) (fun c_25 => ?_) (fun c_25 => ?_)
            · replace h := h.1 c_25
              refine lv_iload hx hb dX0_nearest_96 (lv_at hl 6 rfl) ?_
              refine lv_iconst (v := 1) hx hb dX0_nearest_98 (by decide) ?_
              refine lv_iadd hx hb dX0_nearest_99 ?_
              refine lv_iload hx hb dX0_nearest_100 (lv_at hl 3 rfl) ?_
              refine lv_icmp_ge (tgt := 112) hx hb dX0_nearest_102 (by decide) (fun c_26 => ?_) (fun c_26 => ?_)
              · replace h := h.1 c_26
                refine lv_iconst (v := 0) hx hb dX0_nearest_112 (by decide) ?_
                refine lv_istore (lv' := [(8, .int 0), (1, .int z1), (2, .int z2), (3, .int z3), (4, .int z4), (5, .int z5), (6, .long w6), (9, .int z9), (0, .ref (a0 0))]) hx hb dX0_nearest_113 hl (by decide) rfl (fun ls hl => ?_)
                refine lv_iinc (v := (z9 + 1)) (lv' := [(9, .int (z9 + 1)), (8, .int 0), (1, .int z1), (2, .int z2), (3, .int z3), (4, .int z4), (5, .int z5), (6, .long w6), (0, .ref (a0 0))]) hx hb dX0_nearest_115 hl (k := 7) rfl rfl (by decide) rfl (fun ls hl => ?_)
                refine lv_goto (tgt := 60) hx hb dX0_nearest_118 (by decide) ?_
                exact ih _ _ _ _ _ _ _ _ ls h (lv_sub hl [2, 3, 4, 5, 6, 7, 1, 0, 8] rfl)
              · replace h := h.2 c_26
                refine lv_iload hx hb dX0_nearest_105 (lv_at hl 6 rfl) ?_
                refine lv_iconst (v := 1) hx hb dX0_nearest_107 (by decide) ?_
                refine lv_iadd hx hb dX0_nearest_108 ?_
                refine lv_goto (tgt := 113) hx hb dX0_nearest_109 (by decide) ?_
                refine lv_istore (lv' := [(8, .int (z8 + 1)), (1, .int z1), (2, .int z2), (3, .int z3), (4, .int z4), (5, .int z5), (6, .long w6), (9, .int z9), (0, .ref (a0 0))]) hx hb dX0_nearest_113 hl (by decide) rfl (fun ls hl => ?_)
                refine lv_iinc (v := (z9 + 1)) (lv' := [(9, .int (z9 + 1)), (8, .int (z8 + 1)), (1, .int z1), (2, .int z2), (3, .int z3), (4, .int z4), (5, .int z5), (6, .long w6), (0, .ref (a0 0))]) hx hb dX0_nearest_115 hl (k := 7) rfl rfl (by decide) rfl (fun ls hl => ?_)
                refine lv_goto (tgt := 60) hx hb dX0_nearest_118 (by decide) ?_
                exact ih _ _ _ _ _ _ _ _ ls h (lv_sub hl [2, 3, 4, 5, 6, 7, 1, 0, 8] rfl)
            · replace h := h.2 c_25
              refine lv_lload hx hb dX0_nearest_81 (lv_at hl 5 rfl) ?_
              refine lv_iload hx hb dX0_nearest_83 (lv_at hl 6 rfl) ?_
              refine lv_lshr (v := (w6 >>> (Int32.toInt64 z8 &&& 63))) hx hb dX0_nearest_85 rfl ?_
              refine lv_lconst (v := 1) hx hb dX0_nearest_86 (by decide) ?_
              refine lv_land hx hb dX0_nearest_87 ?_
              refine lv_lconst (v := 0) hx hb dX0_nearest_88 (by decide) ?_
              refine W.lcmp hx hb dX0_nearest_89 ?_
              refine lv_if_eq (tgt := 96) hx hb dX0_nearest_90 (by decide) (fun c_27 => ?_) (fun c_27 => ?_)
              · replace h := h.1 c_27
                refine lv_iload hx hb dX0_nearest_96 (lv_at hl 6 rfl) ?_
                refine lv_iconst (v := 1) hx hb dX0_nearest_98 (by decide) ?_
                refine lv_iadd hx hb dX0_nearest_99 ?_
                refine lv_iload hx hb dX0_nearest_100 (lv_at hl 3 rfl) ?_
                refine lv_icmp_ge (tgt := 112) hx hb dX0_nearest_102 (by decide) (fun c_28 => ?_) (fun c_28 => ?_)
                · replace h := h.1 c_28
                  refine lv_iconst (v := 0) hx hb dX0_nearest_112 (by decide) ?_
                  refine lv_istore (lv' := [(8, .int 0), (1, .int z1), (2, .int z2), (3, .int z3), (4, .int z4), (5, .int z5), (6, .long w6), (9, .int z9), (0, .ref (a0 0))]) hx hb dX0_nearest_113 hl (by decide) rfl (fun ls hl => ?_)
                  refine lv_iinc (v := (z9 + 1)) (lv' := [(9, .int (z9 + 1)), (8, .int 0), (1, .int z1), (2, .int z2), (3, .int z3), (4, .int z4), (5, .int z5), (6, .long w6), (0, .ref (a0 0))]) hx hb dX0_nearest_115 hl (k := 7) rfl rfl (by decide) rfl (fun ls hl => ?_)
                  refine lv_goto (tgt := 60) hx hb dX0_nearest_118 (by decide) ?_
                  exact ih _ _ _ _ _ _ _ _ ls h (lv_sub hl [2, 3, 4, 5, 6, 7, 1, 0, 8] rfl)
                · replace h := h.2 c_28
                  refine lv_iload hx hb dX0_nearest_105 (lv_at hl 6 rfl) ?_
                  refine lv_iconst (v := 1) hx hb dX0_nearest_107 (by decide) ?_
                  refine lv_iadd hx hb dX0_nearest_108 ?_
                  refine lv_goto (tgt := 113) hx hb dX0_nearest_109 (by decide) ?_
                  refine lv_istore (lv' := [(8, .int (z8 + 1)), (1, .int z1), (2, .int z2), (3, .int z3), (4, .int z4), (5, .int z5), (6, .long w6), (9, .int z9), (0, .ref (a0 0))]) hx hb dX0_nearest_113 hl (by decide) rfl (fun ls hl => ?_)
                  refine lv_iinc (v := (z9 + 1)) (lv' := [(9, .int (z9 + 1)), (8, .int (z8 + 1)), (1, .int z1), (2, .int z2), (3, .int z3), (4, .int z4), (5, .int z5), (6, .long w6), (0, .ref (a0 0))]) hx hb dX0_nearest_115 hl (k := 7) rfl rfl (by decide) rfl (fun ls hl => ?_)
                  refine lv_goto (tgt := 60) hx hb dX0_nearest_118 (by decide) ?_
                  exact ih _ _ _ _ _ _ _ _ ls h (lv_sub hl [2, 3, 4, 5, 6, 7, 1, 0, 8] rfl)
              · replace h := h.2 c_27
                refine lv_iload hx hb dX0_nearest_93 (lv_at hl 6 rfl) ?_
                exact rd_iret hx hb hr hk h dX0_nearest_95
      obtain ⟨n60, h⟩ := h
      refine lp60 _ ?_ n60 _ _ _ _ _ _ _ _ ls h (lv_sub hl [7, 8, 5, 4, 3, 2, 1, 0, 6] rfl)
      · intro z1 z2 z3 z4 z5 w6 z8 z9 ls h hl
        try dsimp only at h
        refine lv_iconst (v := (-1)) hx hb dX0_nearest_121 (by decide) ?_
        exact rd_iret hx hb hr hk h dX0_nearest_122

def wp_X0_missedOfOwn_L12 (s0 : Bd) (post : Int32 → Prop) (e57 : Int32 → Int32 → Int32 → Int32 → Prop) : Nat → Int32 → Int32 → Int32 → Int32 → Prop
  | 0, _, _, _, _ => False
  | n12 + 1, z1, z2, z3, z4 => wp_X0_flapsOn (fun r_2 => ((r_2 ≤ z4 → e57 z1 z2 z3 z4) ∧ (¬ r_2 ≤ z4 → wp_X0_isLastOfSign (fun r_5 => ((r_5 = 0 → wp_X0_missedOfOwn_L12 s0 post e57 n12 z1 z2 z3 (z4 + 1)) ∧ (¬ r_5 = 0 → wp_X0_signOf (fun r_8 => wp_X0_nearest (fun r_10 => ((¬ r_10 = (-1) → wp_X0_missedOfOwn_L12 s0 post e57 n12 z1 z2 z3 (z4 + 1)) ∧ (r_10 = (-1) → wp_X0_missedOfOwn_L12 s0 post e57 n12 z1 z2 (z3 + 1) (z4 + 1)))) s0 z1 r_8) s0 z2 z4))) s0 z2 z4))) s0 z2
def wp_X0_missedOfOwn (post : Int32 → Prop) (s0 : Bd) (x1 : Int32) : Prop := vp_in x1 40 ∧ (∃ n12, wp_X0_missedOfOwn_L12 s0 post (fun z1 z2 z3 z4 => post z3) n12 x1 ((s0.2.1 3) (Int32.toNatClampNeg x1)) 0 0)
set_option maxHeartbeats 4000000 in
set_option maxRecDepth 100000 in
theorem c2_X0_missedOfOwn {l : Launch} {D : va_G} {q : Nat → ClassId} {a0 : Nat → Nat} {s0 : Bd} {x1 : Int32} {post : Int32 → Prop} (h : wp_X0_missedOfOwn post s0 x1) : Met l yX0_missedOfOwn (Cond.code yX0_missedOfOwn cX0_missedOfOwn 5 (some .int) :: w_all) ({ frames := 3, cells := 0, slots := 0, locals := 70 } : Room) (rd_P D q [.ref (a0 0), .int x1] (bd_w a0 q s0)) (vp_Si post) 0 0 (fun _ => False) := by
  refine rd_start (by decide) (Nat.le_of_ble_eq_true rfl) ?_
  intro p e s m below meth c ls hx hb hr hml hown ht hk hP hQ hV hl
  have hK := hQ.1
  have hown : s.vm.findClass RX0 = some m.cls := hown
  have hl : lv_has ls 5 [(0, .ref (a0 0)), (1, .int x1)] := hl
  have hP : va_P D vwCl [((a0 0), .inr (0, [.int (s0.1 0), .int (s0.1 1), .int (s0.1 2), .int (s0.1 3), .int (s0.1 4), .int (s0.1 5), .ref (a0 1), .ref (a0 2), .ref (a0 3), .ref (a0 4), .ref (a0 5), .ref (a0 6), .ref (a0 7), .ref (a0 8), .ref (a0 9), .ref (a0 10), .ref (a0 11), .ref (a0 12)])), ((a0 1), .inl (q 0, 4, .inl (s0.2.1 0))), ((a0 2), .inl (q 0, 4, .inl (s0.2.1 1))), ((a0 3), .inl (q 0, 160, .inl (s0.2.1 2))), ((a0 4), .inl (q 0, 40, .inl (s0.2.1 3))), ((a0 5), .inl (q 0, 40, .inl (s0.2.1 4))), ((a0 6), .inl (q 0, 40, .inl (s0.2.1 5))), ((a0 7), .inl (q 0, 40, .inl (s0.2.1 6))), ((a0 8), .inl (q 0, 40, .inl (s0.2.1 7))), ((a0 9), .inl (q 0, 40, .inl (s0.2.1 8))), ((a0 10), .inl (q 0, 40, .inl (s0.2.1 9))), ((a0 11), .inl (q 1, 40, .inr (.inl s0.2.2.1))), ((a0 12), .inl (q 0, s0.2.2.2.1, .inl s0.2.2.2.2))] s.heap := hP
  unfold wp_X0_missedOfOwn at h
  refine lv_aload_n hx hb dX0_missedOfOwn_0 rfl (lv_at hl 0 rfl) ?_
  refine fl_get (C := RX0) (T := TX0) (N := 18) (ci := 0) (v := .ref (a0 4)) hx hb ht in_X0 hown hK hP 0 rfl rfl 9 (by decide) mw_192 rfl dX0_missedOfOwn_1 ?_
  refine lv_iload_n hx hb dX0_missedOfOwn_4 rfl (lv_at hl 1 rfl) ?_
  obtain ⟨g_1, h⟩ := h
  refine va_iald hx hb hK hP 4 0 rfl rfl g_1 dX0_missedOfOwn_5 ?_
  refine lv_istore_n (lv' := [(2, .int ((s0.2.1 3) (Int32.toNatClampNeg x1))), (0, .ref (a0 0)), (1, .int x1)]) hx hb dX0_missedOfOwn_6 rfl hl (by decide) rfl (fun ls hl => ?_)
  refine lv_iconst (v := 0) hx hb dX0_missedOfOwn_7 (by decide) ?_
  refine lv_istore_n (lv' := [(3, .int 0), (2, .int ((s0.2.1 3) (Int32.toNatClampNeg x1))), (0, .ref (a0 0)), (1, .int x1)]) hx hb dX0_missedOfOwn_8 rfl hl (by decide) rfl (fun ls hl => ?_)
  refine lv_iconst (v := 0) hx hb dX0_missedOfOwn_9 (by decide) ?_
  refine lv_istore (lv' := [(4, .int 0), (3, .int 0), (2, .int ((s0.2.1 3) (Int32.toNatClampNeg x1))), (0, .ref (a0 0)), (1, .int x1)]) hx hb dX0_missedOfOwn_10 hl (by decide) rfl (fun ls hl => ?_)
  have lp12 : ∀ (e57 : Int32 → Int32 → Int32 → Int32 → Prop) (k57 : ∀ (z1 : Int32) (z2 : Int32) (z3 : Int32) (z4 : Int32) (ls : Array Slot), e57 z1 z2 z3 z4 → lv_has ls 5 [(1, .int z1), (2, .int z2), (3, .int z3), (4, .int z4), (0, .ref (a0 0))] → W p l e ({ frames := 3, cells := 0, slots := 0, locals := 70 } : Room) s m [.ref (a0 0), .int x1].toArray below meth c s.heap [] 0 0 (MQ below (vp_Si post) [.ref (a0 0), .int x1].toArray s 0 0 (fun _ => False)) (F0 m 57 ls [])) (n : Nat) (z1 : Int32) (z2 : Int32) (z3 : Int32) (z4 : Int32) (ls : Array Slot), wp_X0_missedOfOwn_L12 s0 post e57 n z1 z2 z3 z4 → lv_has ls 5 [(1, .int z1), (2, .int z2), (3, .int z3), (4, .int z4), (0, .ref (a0 0))] → W p l e ({ frames := 3, cells := 0, slots := 0, locals := 70 } : Room) s m [.ref (a0 0), .int x1].toArray below meth c s.heap [] 0 0 (MQ below (vp_Si post) [.ref (a0 0), .int x1].toArray s 0 0 (fun _ => False)) (F0 m 12 ls []) := by
    intro e57 k57 n
    induction n with
    | zero =>
      intro z1 z2 z3 z4 ls h
      exact h.elim
    | succ n ih =>
      intro z1 z2 z3 z4 ls h hl
      unfold wp_X0_missedOfOwn_L12 at h
      refine lv_iload hx hb dX0_missedOfOwn_12 (lv_at hl 3 rfl) ?_
      refine lv_aload_n hx hb dX0_missedOfOwn_14 rfl (lv_at hl 4 rfl) ?_
      refine lv_iload_n hx hb dX0_missedOfOwn_15 rfl (lv_at hl 1 rfl) ?_
      refine vp_callSi (rd_wV (wc := bd_w a0 q s0) (As := [.int z2]) (rest := [.int z4]) hx hb hml hown ht (c2_X0_flapsOn h) wd_X0_flapsOn mw_772 hQ hV va_S.rf (hP.sub [0, 1, 2, 3, 4, 5, 6, 7, 8, 9, 10, 11, 12] rfl) rfl rfl rfl hl.1 rfl (Nat.le_of_ble_eq_true rfl) dX0_missedOfOwn_16 ⟨Nat.le_of_ble_eq_true rfl, Nat.le_of_ble_eq_true rfl, rfl, rfl⟩ ⟨Nat.le_of_ble_eq_true rfl, Nat.le_of_ble_eq_true rfl⟩) (fun r_2 h => ?_)
      try dsimp only at h
      refine lv_icmp_ge (tgt := 57) hx hb dX0_missedOfOwn_19 (by decide) (fun c_4 => ?_) (fun c_4 => ?_)
      · replace h := h.1 c_4
        exact k57 _ _ _ _ ls h (lv_sub hl [0, 1, 2, 3, 4] rfl)
      · replace h := h.2 c_4
        refine lv_aload_n hx hb dX0_missedOfOwn_22 rfl (lv_at hl 4 rfl) ?_
        refine lv_iload_n hx hb dX0_missedOfOwn_23 rfl (lv_at hl 1 rfl) ?_
        refine lv_iload hx hb dX0_missedOfOwn_24 (lv_at hl 3 rfl) ?_
        refine vp_callSi (rd_wV (wc := bd_w a0 q s0) (As := [.int z2, .int z4]) (rest := []) hx hb hml hown ht (c2_X0_isLastOfSign h) wd_X0_isLastOfSign mw_917 hQ hV va_S.rf (hP.sub [0, 1, 2, 3, 4, 5, 6, 7, 8, 9, 10, 11, 12] rfl) rfl rfl rfl hl.1 rfl (Nat.le_of_ble_eq_true rfl) dX0_missedOfOwn_26 ⟨Nat.le_of_ble_eq_true rfl, Nat.le_of_ble_eq_true rfl, rfl, rfl⟩ ⟨Nat.le_of_ble_eq_true rfl, Nat.le_of_ble_eq_true rfl⟩) (fun r_5 h => ?_)
        try dsimp only at h
        refine lv_if_eq (tgt := 51) hx hb dX0_missedOfOwn_29 (by decide) (fun c_7 => ?_) (fun c_7 => ?_)
        · replace h := h.1 c_7
          refine lv_iinc (v := (z4 + 1)) (lv' := [(4, .int (z4 + 1)), (1, .int z1), (2, .int z2), (3, .int z3), (0, .ref (a0 0))]) hx hb dX0_missedOfOwn_51 hl (k := 3) rfl rfl (by decide) rfl (fun ls hl => ?_)
          refine lv_goto (tgt := 12) hx hb dX0_missedOfOwn_54 (by decide) ?_
          exact ih _ _ _ _ ls h (lv_sub hl [1, 2, 3, 0, 4] rfl)
        · replace h := h.2 c_7
          refine lv_aload_n hx hb dX0_missedOfOwn_32 rfl (lv_at hl 4 rfl) ?_
          refine lv_iload_n hx hb dX0_missedOfOwn_33 rfl (lv_at hl 0 rfl) ?_
          refine lv_aload_n hx hb dX0_missedOfOwn_34 rfl (lv_at hl 4 rfl) ?_
          refine lv_iload_n hx hb dX0_missedOfOwn_35 rfl (lv_at hl 1 rfl) ?_
          refine lv_iload hx hb dX0_missedOfOwn_36 (lv_at hl 3 rfl) ?_
          refine vp_callSi (rd_wV (wc := bd_w a0 q s0) (As := [.int z2, .int z4]) (rest := [.int z1, .ref (a0 0)]) hx hb hml hown ht (c2_X0_signOf h) wd_X0_signOf mw_668 hQ hV va_S.rf (hP.sub [0, 1, 2, 3, 4, 5, 6, 7, 8, 9, 10, 11, 12] rfl) rfl rfl rfl hl.1 rfl (Nat.le_of_ble_eq_true rfl) dX0_missedOfOwn_38 ⟨Nat.le_of_ble_eq_true rfl, Nat.le_of_ble_eq_true rfl, rfl, rfl⟩ ⟨Nat.le_of_ble_eq_true rfl, Nat.le_of_ble_eq_true rfl⟩) (fun r_8 h => ?_)
          try dsimp only at h
          refine vp_callSi (rd_wV (wc := bd_w a0 q s0) (As := [.int z1, .int r_8]) (rest := []) hx hb hml hown ht (c2_X0_nearest h) wd_X0_nearest mw_572 hQ hV va_S.rf (hP.sub [0, 1, 2, 3, 4, 5, 6, 7, 8, 9, 10, 11, 12] rfl) rfl rfl rfl hl.1 rfl (Nat.le_of_ble_eq_true rfl) dX0_missedOfOwn_41 ⟨Nat.le_of_ble_eq_true rfl, Nat.le_of_ble_eq_true rfl, rfl, rfl⟩ ⟨Nat.le_of_ble_eq_true rfl, Nat.le_of_ble_eq_true rfl⟩) (fun r_10 h => ?_)
          try dsimp only at h
          refine lv_iconst (v := (-1)) hx hb dX0_missedOfOwn_44 (by decide) ?_
          refine lv_icmp_ne (tgt := 51) hx hb dX0_missedOfOwn_45 (by decide) (fun c_12 => ?_) (fun c_12 => ?_)
          · replace h := h.1 c_12
            refine lv_iinc (v := (z4 + 1)) (lv' := [(4, .int (z4 + 1)), (1, .int z1), (2, .int z2), (3, .int z3), (0, .ref (a0 0))]) hx hb dX0_missedOfOwn_51 hl (k := 3) rfl rfl (by decide) rfl (fun ls hl => ?_)
            refine lv_goto (tgt := 12) hx hb dX0_missedOfOwn_54 (by decide) ?_
            exact ih _ _ _ _ ls h (lv_sub hl [1, 2, 3, 0, 4] rfl)
          · replace h := h.2 c_12
            refine lv_iinc (v := (z3 + 1)) (lv' := [(3, .int (z3 + 1)), (1, .int z1), (2, .int z2), (4, .int z4), (0, .ref (a0 0))]) hx hb dX0_missedOfOwn_48 hl (k := 2) rfl rfl (by decide) rfl (fun ls hl => ?_)
            refine lv_iinc (v := (z4 + 1)) (lv' := [(4, .int (z4 + 1)), (3, .int (z3 + 1)), (1, .int z1), (2, .int z2), (0, .ref (a0 0))]) hx hb dX0_missedOfOwn_51 hl (k := 3) rfl rfl (by decide) rfl (fun ls hl => ?_)
            refine lv_goto (tgt := 12) hx hb dX0_missedOfOwn_54 (by decide) ?_
            exact ih _ _ _ _ ls h (lv_sub hl [2, 3, 1, 0, 4] rfl)
  obtain ⟨n12, h⟩ := h
  refine lp12 _ ?_ n12 _ _ _ _ ls h (lv_sub hl [4, 2, 1, 0, 3] rfl)
  · intro z1 z2 z3 z4 ls h hl
    try dsimp only at h
    refine lv_iload_n hx hb dX0_missedOfOwn_57 rfl (lv_at hl 2 rfl) ?_
    exact rd_iret hx hb hr hk h dX0_missedOfOwn_58

def wp_X0_signsOfOthers_L5 (s0 : Bd) (post : Int32 → Prop) (e37 : Int32 → Int32 → Int32 → Prop) : Nat → Int32 → Int32 → Int32 → Prop
  | 0, _, _, _ => False
  | n5 + 1, z1, z2, z3 => ((126 < z3 → e37 z1 z2 z3) ∧ (¬ 126 < z3 → wp_X0_someDrumHas (fun r_2 => ((r_2 = 0 → wp_X0_signsOfOthers_L5 s0 post e37 n5 z1 z2 (z3 + 1)) ∧ (¬ r_2 = 0 → wp_X0_drumHas (fun r_5 => ((¬ r_5 = 0 → wp_X0_signsOfOthers_L5 s0 post e37 n5 z1 z2 (z3 + 1)) ∧ (r_5 = 0 → wp_X0_signsOfOthers_L5 s0 post e37 n5 z1 (z2 + 1) (z3 + 1)))) s0 z1 z3))) s0 z3))
def wp_X0_signsOfOthers (post : Int32 → Prop) (s0 : Bd) (x1 : Int32) : Prop := (∃ n5, wp_X0_signsOfOthers_L5 s0 post (fun z1 z2 z3 => post z2) n5 x1 0 32)
set_option maxHeartbeats 4000000 in
set_option maxRecDepth 100000 in
theorem c2_X0_signsOfOthers {l : Launch} {D : va_G} {q : Nat → ClassId} {a0 : Nat → Nat} {s0 : Bd} {x1 : Int32} {post : Int32 → Prop} (h : wp_X0_signsOfOthers post s0 x1) : Met l yX0_signsOfOthers (Cond.code yX0_signsOfOthers cX0_signsOfOthers 4 (some .int) :: w_all) ({ frames := 4, cells := 0, slots := 0, locals := 92 } : Room) (rd_P D q [.ref (a0 0), .int x1] (bd_w a0 q s0)) (vp_Si post) 0 0 (fun _ => False) := by
  refine rd_start (by decide) (Nat.le_of_ble_eq_true rfl) ?_
  intro p e s m below meth c ls hx hb hr hml hown ht hk hP hQ hV hl
  have hK := hQ.1
  have hown : s.vm.findClass RX0 = some m.cls := hown
  have hl : lv_has ls 4 [(0, .ref (a0 0)), (1, .int x1)] := hl
  have hP : va_P D vwCl [((a0 0), .inr (0, [.int (s0.1 0), .int (s0.1 1), .int (s0.1 2), .int (s0.1 3), .int (s0.1 4), .int (s0.1 5), .ref (a0 1), .ref (a0 2), .ref (a0 3), .ref (a0 4), .ref (a0 5), .ref (a0 6), .ref (a0 7), .ref (a0 8), .ref (a0 9), .ref (a0 10), .ref (a0 11), .ref (a0 12)])), ((a0 1), .inl (q 0, 4, .inl (s0.2.1 0))), ((a0 2), .inl (q 0, 4, .inl (s0.2.1 1))), ((a0 3), .inl (q 0, 160, .inl (s0.2.1 2))), ((a0 4), .inl (q 0, 40, .inl (s0.2.1 3))), ((a0 5), .inl (q 0, 40, .inl (s0.2.1 4))), ((a0 6), .inl (q 0, 40, .inl (s0.2.1 5))), ((a0 7), .inl (q 0, 40, .inl (s0.2.1 6))), ((a0 8), .inl (q 0, 40, .inl (s0.2.1 7))), ((a0 9), .inl (q 0, 40, .inl (s0.2.1 8))), ((a0 10), .inl (q 0, 40, .inl (s0.2.1 9))), ((a0 11), .inl (q 1, 40, .inr (.inl s0.2.2.1))), ((a0 12), .inl (q 0, s0.2.2.2.1, .inl s0.2.2.2.2))] s.heap := hP
  unfold wp_X0_signsOfOthers at h
  refine lv_iconst (v := 0) hx hb dX0_signsOfOthers_0 (by decide) ?_
  refine lv_istore_n (lv' := [(2, .int 0), (0, .ref (a0 0)), (1, .int x1)]) hx hb dX0_signsOfOthers_1 rfl hl (by decide) rfl (fun ls hl => ?_)
  refine lv_bipush (v := 32) hx hb dX0_signsOfOthers_2 (by decide) ?_
  refine lv_istore_n (lv' := [(3, .int 32), (2, .int 0), (0, .ref (a0 0)), (1, .int x1)]) hx hb dX0_signsOfOthers_4 rfl hl (by decide) rfl (fun ls hl => ?_)
  have lp5 : ∀ (e37 : Int32 → Int32 → Int32 → Prop) (k37 : ∀ (z1 : Int32) (z2 : Int32) (z3 : Int32) (ls : Array Slot), e37 z1 z2 z3 → lv_has ls 4 [(1, .int z1), (2, .int z2), (3, .int z3), (0, .ref (a0 0))] → W p l e ({ frames := 4, cells := 0, slots := 0, locals := 92 } : Room) s m [.ref (a0 0), .int x1].toArray below meth c s.heap [] 0 0 (MQ below (vp_Si post) [.ref (a0 0), .int x1].toArray s 0 0 (fun _ => False)) (F0 m 37 ls [])) (n : Nat) (z1 : Int32) (z2 : Int32) (z3 : Int32) (ls : Array Slot), wp_X0_signsOfOthers_L5 s0 post e37 n z1 z2 z3 → lv_has ls 4 [(1, .int z1), (2, .int z2), (3, .int z3), (0, .ref (a0 0))] → W p l e ({ frames := 4, cells := 0, slots := 0, locals := 92 } : Room) s m [.ref (a0 0), .int x1].toArray below meth c s.heap [] 0 0 (MQ below (vp_Si post) [.ref (a0 0), .int x1].toArray s 0 0 (fun _ => False)) (F0 m 5 ls []) := by
    intro e37 k37 n
    induction n with
    | zero =>
      intro z1 z2 z3 ls h
      exact h.elim
    | succ n ih =>
      intro z1 z2 z3 ls h hl
      unfold wp_X0_signsOfOthers_L5 at h
      refine lv_iload_n hx hb dX0_signsOfOthers_5 rfl (lv_at hl 2 rfl) ?_
      refine lv_bipush (v := 126) hx hb dX0_signsOfOthers_6 (by decide) ?_
      refine lv_icmp_gt (tgt := 37) hx hb dX0_signsOfOthers_8 (by decide) (fun c_1 => ?_) (fun c_1 => ?_)
      · replace h := h.1 c_1
        exact k37 _ _ _ ls h (lv_sub hl [0, 1, 2, 3] rfl)
      · replace h := h.2 c_1
        refine lv_aload_n hx hb dX0_signsOfOthers_11 rfl (lv_at hl 3 rfl) ?_
        refine lv_iload_n hx hb dX0_signsOfOthers_12 rfl (lv_at hl 2 rfl) ?_
        refine vp_callSi (rd_wV (wc := bd_w a0 q s0) (As := [.int z3]) (rest := []) hx hb hml hown ht (c2_X0_someDrumHas h) wd_X0_someDrumHas mw_1092 hQ hV va_S.rf (hP.sub [0, 1, 2, 3, 4, 5, 6, 7, 8, 9, 10, 11, 12] rfl) rfl rfl rfl hl.1 rfl (Nat.le_of_ble_eq_true rfl) dX0_signsOfOthers_13 ⟨Nat.le_of_ble_eq_true rfl, Nat.le_of_ble_eq_true rfl, rfl, rfl⟩ ⟨Nat.le_of_ble_eq_true rfl, Nat.le_of_ble_eq_true rfl⟩) (fun r_2 h => ?_)
        try dsimp only at h
        refine lv_if_eq (tgt := 31) hx hb dX0_signsOfOthers_16 (by decide) (fun c_4 => ?_) (fun c_4 => ?_)
        · replace h := h.1 c_4
          refine lv_iinc (v := (z3 + 1)) (lv' := [(3, .int (z3 + 1)), (1, .int z1), (2, .int z2), (0, .ref (a0 0))]) hx hb dX0_signsOfOthers_31 hl (k := 2) rfl rfl (by decide) rfl (fun ls hl => ?_)
          refine lv_goto (tgt := 5) hx hb dX0_signsOfOthers_34 (by decide) ?_
          exact ih _ _ _ ls h (lv_sub hl [1, 2, 0, 3] rfl)
        · replace h := h.2 c_4
          refine lv_aload_n hx hb dX0_signsOfOthers_19 rfl (lv_at hl 3 rfl) ?_
          refine lv_iload_n hx hb dX0_signsOfOthers_20 rfl (lv_at hl 0 rfl) ?_
          refine lv_iload_n hx hb dX0_signsOfOthers_21 rfl (lv_at hl 2 rfl) ?_
          refine vp_callSi (rd_wV (wc := bd_w a0 q s0) (As := [.int z1, .int z3]) (rest := []) hx hb hml hown ht (c2_X0_drumHas h) wd_X0_drumHas mw_1096 hQ hV va_S.rf (hP.sub [0, 1, 2, 3, 4, 5, 6, 7, 8, 9, 10, 11, 12] rfl) rfl rfl rfl hl.1 rfl (Nat.le_of_ble_eq_true rfl) dX0_signsOfOthers_22 ⟨Nat.le_of_ble_eq_true rfl, Nat.le_of_ble_eq_true rfl, rfl, rfl⟩ ⟨Nat.le_of_ble_eq_true rfl, Nat.le_of_ble_eq_true rfl⟩) (fun r_5 h => ?_)
          try dsimp only at h
          refine lv_if_ne (tgt := 31) hx hb dX0_signsOfOthers_25 (by decide) (fun c_7 => ?_) (fun c_7 => ?_)
          · replace h := h.1 c_7
            refine lv_iinc (v := (z3 + 1)) (lv' := [(3, .int (z3 + 1)), (1, .int z1), (2, .int z2), (0, .ref (a0 0))]) hx hb dX0_signsOfOthers_31 hl (k := 2) rfl rfl (by decide) rfl (fun ls hl => ?_)
            refine lv_goto (tgt := 5) hx hb dX0_signsOfOthers_34 (by decide) ?_
            exact ih _ _ _ ls h (lv_sub hl [1, 2, 0, 3] rfl)
          · replace h := h.2 c_7
            refine lv_iinc (v := (z2 + 1)) (lv' := [(2, .int (z2 + 1)), (1, .int z1), (3, .int z3), (0, .ref (a0 0))]) hx hb dX0_signsOfOthers_28 hl (k := 1) rfl rfl (by decide) rfl (fun ls hl => ?_)
            refine lv_iinc (v := (z3 + 1)) (lv' := [(3, .int (z3 + 1)), (2, .int (z2 + 1)), (1, .int z1), (0, .ref (a0 0))]) hx hb dX0_signsOfOthers_31 hl (k := 2) rfl rfl (by decide) rfl (fun ls hl => ?_)
            refine lv_goto (tgt := 5) hx hb dX0_signsOfOthers_34 (by decide) ?_
            exact ih _ _ _ ls h (lv_sub hl [2, 1, 0, 3] rfl)
  obtain ⟨n5, h⟩ := h
  refine lp5 _ ?_ n5 _ _ _ ls h (lv_sub hl [3, 1, 0, 2] rfl)
  · intro z1 z2 z3 ls h hl
    try dsimp only at h
    refine lv_iload_n hx hb dX0_signsOfOthers_37 rfl (lv_at hl 1 rfl) ?_
    exact rd_iret hx hb hr hk h dX0_signsOfOthers_38

def wp_X0_unlikeSigns_L4 (s0 : Bd) (post : Int32 → Prop) (e31 : Int32 → Int32 → Int32 → Prop) : Nat → Int32 → Int32 → Int32 → Prop
  | 0, _, _, _ => False
  | n4 + 1, z1, z2, z3 => wp_X0_flapsOn (fun r_1 => ((r_1 ≤ z3 → e31 z1 z2 z3) ∧ (¬ r_1 ≤ z3 → wp_X0_isLastOfSign (fun r_4 => ((r_4 = 0 → wp_X0_unlikeSigns_L4 s0 post e31 n4 z1 z2 (z3 + 1)) ∧ (¬ r_4 = 0 → wp_X0_unlikeSigns_L4 s0 post e31 n4 z1 (z2 + 1) (z3 + 1)))) s0 z1 z3))) s0 z1
def wp_X0_unlikeSigns (post : Int32 → Prop) (s0 : Bd) (x1 : Int32) : Prop := (∃ n4, wp_X0_unlikeSigns_L4 s0 post (fun z1 z2 z3 => post z2) n4 x1 0 0)
set_option maxHeartbeats 4000000 in
set_option maxRecDepth 100000 in
theorem c2_X0_unlikeSigns {l : Launch} {D : va_G} {q : Nat → ClassId} {a0 : Nat → Nat} {s0 : Bd} {x1 : Int32} {post : Int32 → Prop} (h : wp_X0_unlikeSigns post s0 x1) : Met l yX0_unlikeSigns (Cond.code yX0_unlikeSigns cX0_unlikeSigns 4 (some .int) :: w_all) ({ frames := 3, cells := 0, slots := 0, locals := 70 } : Room) (rd_P D q [.ref (a0 0), .int x1] (bd_w a0 q s0)) (vp_Si post) 0 0 (fun _ => False) := by
  refine rd_start (by decide) (Nat.le_of_ble_eq_true rfl) ?_
  intro p e s m below meth c ls hx hb hr hml hown ht hk hP hQ hV hl
  have hK := hQ.1
  have hown : s.vm.findClass RX0 = some m.cls := hown
  have hl : lv_has ls 4 [(0, .ref (a0 0)), (1, .int x1)] := hl
  have hP : va_P D vwCl [((a0 0), .inr (0, [.int (s0.1 0), .int (s0.1 1), .int (s0.1 2), .int (s0.1 3), .int (s0.1 4), .int (s0.1 5), .ref (a0 1), .ref (a0 2), .ref (a0 3), .ref (a0 4), .ref (a0 5), .ref (a0 6), .ref (a0 7), .ref (a0 8), .ref (a0 9), .ref (a0 10), .ref (a0 11), .ref (a0 12)])), ((a0 1), .inl (q 0, 4, .inl (s0.2.1 0))), ((a0 2), .inl (q 0, 4, .inl (s0.2.1 1))), ((a0 3), .inl (q 0, 160, .inl (s0.2.1 2))), ((a0 4), .inl (q 0, 40, .inl (s0.2.1 3))), ((a0 5), .inl (q 0, 40, .inl (s0.2.1 4))), ((a0 6), .inl (q 0, 40, .inl (s0.2.1 5))), ((a0 7), .inl (q 0, 40, .inl (s0.2.1 6))), ((a0 8), .inl (q 0, 40, .inl (s0.2.1 7))), ((a0 9), .inl (q 0, 40, .inl (s0.2.1 8))), ((a0 10), .inl (q 0, 40, .inl (s0.2.1 9))), ((a0 11), .inl (q 1, 40, .inr (.inl s0.2.2.1))), ((a0 12), .inl (q 0, s0.2.2.2.1, .inl s0.2.2.2.2))] s.heap := hP
  unfold wp_X0_unlikeSigns at h
  refine lv_iconst (v := 0) hx hb dX0_unlikeSigns_0 (by decide) ?_
  refine lv_istore_n (lv' := [(2, .int 0), (0, .ref (a0 0)), (1, .int x1)]) hx hb dX0_unlikeSigns_1 rfl hl (by decide) rfl (fun ls hl => ?_)
  refine lv_iconst (v := 0) hx hb dX0_unlikeSigns_2 (by decide) ?_
  refine lv_istore_n (lv' := [(3, .int 0), (2, .int 0), (0, .ref (a0 0)), (1, .int x1)]) hx hb dX0_unlikeSigns_3 rfl hl (by decide) rfl (fun ls hl => ?_)
  have lp4 : ∀ (e31 : Int32 → Int32 → Int32 → Prop) (k31 : ∀ (z1 : Int32) (z2 : Int32) (z3 : Int32) (ls : Array Slot), e31 z1 z2 z3 → lv_has ls 4 [(1, .int z1), (2, .int z2), (3, .int z3), (0, .ref (a0 0))] → W p l e ({ frames := 3, cells := 0, slots := 0, locals := 70 } : Room) s m [.ref (a0 0), .int x1].toArray below meth c s.heap [] 0 0 (MQ below (vp_Si post) [.ref (a0 0), .int x1].toArray s 0 0 (fun _ => False)) (F0 m 31 ls [])) (n : Nat) (z1 : Int32) (z2 : Int32) (z3 : Int32) (ls : Array Slot), wp_X0_unlikeSigns_L4 s0 post e31 n z1 z2 z3 → lv_has ls 4 [(1, .int z1), (2, .int z2), (3, .int z3), (0, .ref (a0 0))] → W p l e ({ frames := 3, cells := 0, slots := 0, locals := 70 } : Room) s m [.ref (a0 0), .int x1].toArray below meth c s.heap [] 0 0 (MQ below (vp_Si post) [.ref (a0 0), .int x1].toArray s 0 0 (fun _ => False)) (F0 m 4 ls []) := by
    intro e31 k31 n
    induction n with
    | zero =>
      intro z1 z2 z3 ls h
      exact h.elim
    | succ n ih =>
      intro z1 z2 z3 ls h hl
      unfold wp_X0_unlikeSigns_L4 at h
      refine lv_iload_n hx hb dX0_unlikeSigns_4 rfl (lv_at hl 2 rfl) ?_
      refine lv_aload_n hx hb dX0_unlikeSigns_5 rfl (lv_at hl 3 rfl) ?_
      refine lv_iload_n hx hb dX0_unlikeSigns_6 rfl (lv_at hl 0 rfl) ?_
      refine vp_callSi (rd_wV (wc := bd_w a0 q s0) (As := [.int z1]) (rest := [.int z3]) hx hb hml hown ht (c2_X0_flapsOn h) wd_X0_flapsOn mw_772 hQ hV va_S.rf (hP.sub [0, 1, 2, 3, 4, 5, 6, 7, 8, 9, 10, 11, 12] rfl) rfl rfl rfl hl.1 rfl (Nat.le_of_ble_eq_true rfl) dX0_unlikeSigns_7 ⟨Nat.le_of_ble_eq_true rfl, Nat.le_of_ble_eq_true rfl, rfl, rfl⟩ ⟨Nat.le_of_ble_eq_true rfl, Nat.le_of_ble_eq_true rfl⟩) (fun r_1 h => ?_)
      try dsimp only at h
      refine lv_icmp_ge (tgt := 31) hx hb dX0_unlikeSigns_10 (by decide) (fun c_3 => ?_) (fun c_3 => ?_)
      · replace h := h.1 c_3
        exact k31 _ _ _ ls h (lv_sub hl [0, 1, 2, 3] rfl)
      · replace h := h.2 c_3
        refine lv_aload_n hx hb dX0_unlikeSigns_13 rfl (lv_at hl 3 rfl) ?_
        refine lv_iload_n hx hb dX0_unlikeSigns_14 rfl (lv_at hl 0 rfl) ?_
        refine lv_iload_n hx hb dX0_unlikeSigns_15 rfl (lv_at hl 2 rfl) ?_
        refine vp_callSi (rd_wV (wc := bd_w a0 q s0) (As := [.int z1, .int z3]) (rest := []) hx hb hml hown ht (c2_X0_isLastOfSign h) wd_X0_isLastOfSign mw_917 hQ hV va_S.rf (hP.sub [0, 1, 2, 3, 4, 5, 6, 7, 8, 9, 10, 11, 12] rfl) rfl rfl rfl hl.1 rfl (Nat.le_of_ble_eq_true rfl) dX0_unlikeSigns_16 ⟨Nat.le_of_ble_eq_true rfl, Nat.le_of_ble_eq_true rfl, rfl, rfl⟩ ⟨Nat.le_of_ble_eq_true rfl, Nat.le_of_ble_eq_true rfl⟩) (fun r_4 h => ?_)
        try dsimp only at h
        refine lv_if_eq (tgt := 25) hx hb dX0_unlikeSigns_19 (by decide) (fun c_6 => ?_) (fun c_6 => ?_)
        · replace h := h.1 c_6
          refine lv_iinc (v := (z3 + 1)) (lv' := [(3, .int (z3 + 1)), (1, .int z1), (2, .int z2), (0, .ref (a0 0))]) hx hb dX0_unlikeSigns_25 hl (k := 2) rfl rfl (by decide) rfl (fun ls hl => ?_)
          refine lv_goto (tgt := 4) hx hb dX0_unlikeSigns_28 (by decide) ?_
          exact ih _ _ _ ls h (lv_sub hl [1, 2, 0, 3] rfl)
        · replace h := h.2 c_6
          refine lv_iinc (v := (z2 + 1)) (lv' := [(2, .int (z2 + 1)), (1, .int z1), (3, .int z3), (0, .ref (a0 0))]) hx hb dX0_unlikeSigns_22 hl (k := 1) rfl rfl (by decide) rfl (fun ls hl => ?_)
          refine lv_iinc (v := (z3 + 1)) (lv' := [(3, .int (z3 + 1)), (2, .int (z2 + 1)), (1, .int z1), (0, .ref (a0 0))]) hx hb dX0_unlikeSigns_25 hl (k := 2) rfl rfl (by decide) rfl (fun ls hl => ?_)
          refine lv_goto (tgt := 4) hx hb dX0_unlikeSigns_28 (by decide) ?_
          exact ih _ _ _ ls h (lv_sub hl [2, 1, 0, 3] rfl)
  obtain ⟨n4, h⟩ := h
  refine lp4 _ ?_ n4 _ _ _ ls h (lv_sub hl [3, 1, 0, 2] rfl)
  · intro z1 z2 z3 ls h hl
    try dsimp only at h
    refine lv_iload_n hx hb dX0_unlikeSigns_31 rfl (lv_at hl 1 rfl) ?_
    exact rd_iret hx hb hr hk h dX0_unlikeSigns_32

def wp_X0_mostOfOneSign_L4 (s0 : Bd) (post : Int32 → Prop) (e36 : Int32 → Int32 → Int32 → Prop) : Nat → Int32 → Int32 → Int32 → Prop
  | 0, _, _, _ => False
  | n4 + 1, z1, z2, z3 => wp_X0_flapsOn (fun r_1 => ((r_1 ≤ z3 → e36 z1 z2 z3) ∧ (¬ r_1 ≤ z3 → wp_X0_signOf (fun r_4 => wp_X0_flapsWith (fun r_6 => wp_X0_mostOfOneSign_L4 s0 post e36 n4 z1 (if z2 < r_6 then r_6 else z2) (z3 + 1)) s0 z1 r_4 z3) s0 z1 z3))) s0 z1
def wp_X0_mostOfOneSign (post : Int32 → Prop) (s0 : Bd) (x1 : Int32) : Prop := (∃ n4, wp_X0_mostOfOneSign_L4 s0 post (fun z1 z2 z3 => post z2) n4 x1 0 0)
set_option maxHeartbeats 4000000 in
set_option maxRecDepth 100000 in
theorem c2_X0_mostOfOneSign {l : Launch} {D : va_G} {q : Nat → ClassId} {a0 : Nat → Nat} {s0 : Bd} {x1 : Int32} {post : Int32 → Prop} (h : wp_X0_mostOfOneSign post s0 x1) : Met l yX0_mostOfOneSign (Cond.code yX0_mostOfOneSign cX0_mostOfOneSign 4 (some .int) :: w_all) ({ frames := 2, cells := 0, slots := 0, locals := 48 } : Room) (rd_P D q [.ref (a0 0), .int x1] (bd_w a0 q s0)) (vp_Si post) 0 0 (fun _ => False) := by
  refine rd_start (by decide) (Nat.le_of_ble_eq_true rfl) ?_
  intro p e s m below meth c ls hx hb hr hml hown ht hk hP hQ hV hl
  have hK := hQ.1
  have hown : s.vm.findClass RX0 = some m.cls := hown
  have hl : lv_has ls 4 [(0, .ref (a0 0)), (1, .int x1)] := hl
  have hP : va_P D vwCl [((a0 0), .inr (0, [.int (s0.1 0), .int (s0.1 1), .int (s0.1 2), .int (s0.1 3), .int (s0.1 4), .int (s0.1 5), .ref (a0 1), .ref (a0 2), .ref (a0 3), .ref (a0 4), .ref (a0 5), .ref (a0 6), .ref (a0 7), .ref (a0 8), .ref (a0 9), .ref (a0 10), .ref (a0 11), .ref (a0 12)])), ((a0 1), .inl (q 0, 4, .inl (s0.2.1 0))), ((a0 2), .inl (q 0, 4, .inl (s0.2.1 1))), ((a0 3), .inl (q 0, 160, .inl (s0.2.1 2))), ((a0 4), .inl (q 0, 40, .inl (s0.2.1 3))), ((a0 5), .inl (q 0, 40, .inl (s0.2.1 4))), ((a0 6), .inl (q 0, 40, .inl (s0.2.1 5))), ((a0 7), .inl (q 0, 40, .inl (s0.2.1 6))), ((a0 8), .inl (q 0, 40, .inl (s0.2.1 7))), ((a0 9), .inl (q 0, 40, .inl (s0.2.1 8))), ((a0 10), .inl (q 0, 40, .inl (s0.2.1 9))), ((a0 11), .inl (q 1, 40, .inr (.inl s0.2.2.1))), ((a0 12), .inl (q 0, s0.2.2.2.1, .inl s0.2.2.2.2))] s.heap := hP
  unfold wp_X0_mostOfOneSign at h
  refine lv_iconst (v := 0) hx hb dX0_mostOfOneSign_0 (by decide) ?_
  refine lv_istore_n (lv' := [(2, .int 0), (0, .ref (a0 0)), (1, .int x1)]) hx hb dX0_mostOfOneSign_1 rfl hl (by decide) rfl (fun ls hl => ?_)
  refine lv_iconst (v := 0) hx hb dX0_mostOfOneSign_2 (by decide) ?_
  refine lv_istore_n (lv' := [(3, .int 0), (2, .int 0), (0, .ref (a0 0)), (1, .int x1)]) hx hb dX0_mostOfOneSign_3 rfl hl (by decide) rfl (fun ls hl => ?_)
  have lp4 : ∀ (e36 : Int32 → Int32 → Int32 → Prop) (k36 : ∀ (z1 : Int32) (z2 : Int32) (z3 : Int32) (ls : Array Slot), e36 z1 z2 z3 → lv_has ls 4 [(1, .int z1), (2, .int z2), (3, .int z3), (0, .ref (a0 0))] → W p l e ({ frames := 2, cells := 0, slots := 0, locals := 48 } : Room) s m [.ref (a0 0), .int x1].toArray below meth c s.heap [] 0 0 (MQ below (vp_Si post) [.ref (a0 0), .int x1].toArray s 0 0 (fun _ => False)) (F0 m 36 ls [])) (n : Nat) (z1 : Int32) (z2 : Int32) (z3 : Int32) (ls : Array Slot), wp_X0_mostOfOneSign_L4 s0 post e36 n z1 z2 z3 → lv_has ls 4 [(1, .int z1), (2, .int z2), (3, .int z3), (0, .ref (a0 0))] → W p l e ({ frames := 2, cells := 0, slots := 0, locals := 48 } : Room) s m [.ref (a0 0), .int x1].toArray below meth c s.heap [] 0 0 (MQ below (vp_Si post) [.ref (a0 0), .int x1].toArray s 0 0 (fun _ => False)) (F0 m 4 ls []) := by
    intro e36 k36 n
    induction n with
    | zero =>
      intro z1 z2 z3 ls h
      exact h.elim
    | succ n ih =>
      intro z1 z2 z3 ls h hl
      unfold wp_X0_mostOfOneSign_L4 at h
      refine lv_iload_n hx hb dX0_mostOfOneSign_4 rfl (lv_at hl 2 rfl) ?_
      refine lv_aload_n hx hb dX0_mostOfOneSign_5 rfl (lv_at hl 3 rfl) ?_
      refine lv_iload_n hx hb dX0_mostOfOneSign_6 rfl (lv_at hl 0 rfl) ?_
      refine vp_callSi (rd_wV (wc := bd_w a0 q s0) (As := [.int z1]) (rest := [.int z3]) hx hb hml hown ht (c2_X0_flapsOn h) wd_X0_flapsOn mw_772 hQ hV va_S.rf (hP.sub [0, 1, 2, 3, 4, 5, 6, 7, 8, 9, 10, 11, 12] rfl) rfl rfl rfl hl.1 rfl (Nat.le_of_ble_eq_true rfl) dX0_mostOfOneSign_7 ⟨Nat.le_of_ble_eq_true rfl, Nat.le_of_ble_eq_true rfl, rfl, rfl⟩ ⟨Nat.le_of_ble_eq_true rfl, Nat.le_of_ble_eq_true rfl⟩) (fun r_1 h => ?_)
      try dsimp only at h
      refine lv_icmp_ge (tgt := 36) hx hb dX0_mostOfOneSign_10 (by decide) (fun c_3 => ?_) (fun c_3 => ?_)
      · replace h := h.1 c_3
        exact k36 _ _ _ ls h (lv_sub hl [0, 1, 2, 3] rfl)
      · replace h := h.2 c_3
        refine lv_iload_n hx hb dX0_mostOfOneSign_13 rfl (lv_at hl 1 rfl) ?_
        refine lv_aload_n hx hb dX0_mostOfOneSign_14 rfl (lv_at hl 3 rfl) ?_
        refine lv_iload_n hx hb dX0_mostOfOneSign_15 rfl (lv_at hl 0 rfl) ?_
        refine lv_aload_n hx hb dX0_mostOfOneSign_16 rfl (lv_at hl 3 rfl) ?_
        refine lv_iload_n hx hb dX0_mostOfOneSign_17 rfl (lv_at hl 0 rfl) ?_
        refine lv_iload_n hx hb dX0_mostOfOneSign_18 rfl (lv_at hl 2 rfl) ?_
        refine vp_callSi (rd_wV (wc := bd_w a0 q s0) (As := [.int z1, .int z3]) (rest := [.int z1, .ref (a0 0), .int z2]) hx hb hml hown ht (c2_X0_signOf h) wd_X0_signOf mw_668 hQ hV va_S.rf (hP.sub [0, 1, 2, 3, 4, 5, 6, 7, 8, 9, 10, 11, 12] rfl) rfl rfl rfl hl.1 rfl (Nat.le_of_ble_eq_true rfl) dX0_mostOfOneSign_19 ⟨Nat.le_of_ble_eq_true rfl, Nat.le_of_ble_eq_true rfl, rfl, rfl⟩ ⟨Nat.le_of_ble_eq_true rfl, Nat.le_of_ble_eq_true rfl⟩) (fun r_4 h => ?_)
        try dsimp only at h
        refine lv_iload_n hx hb dX0_mostOfOneSign_22 rfl (lv_at hl 2 rfl) ?_
        refine vp_callSi (rd_wV (wc := bd_w a0 q s0) (As := [.int z1, .int r_4, .int z3]) (rest := [.int z2]) hx hb hml hown ht (c2_X0_flapsWith h) wd_X0_flapsWith mw_921 hQ hV va_S.rf (hP.sub [0, 1, 2, 3, 4, 5, 6, 7, 8, 9, 10, 11, 12] rfl) rfl rfl rfl hl.1 rfl (Nat.le_of_ble_eq_true rfl) dX0_mostOfOneSign_23 ⟨Nat.le_of_ble_eq_true rfl, Nat.le_of_ble_eq_true rfl, rfl, rfl⟩ ⟨Nat.le_of_ble_eq_true rfl, Nat.le_of_ble_eq_true rfl⟩) (fun r_6 h => ?_)
        try dsimp only at h
        refine va_mmax hx hb (hml.trans hl.1.symm) hown (ht _ mw_929) (ht _ mw_704) (ht _ mw_110) (ht _ mw_705) (Nat.le_of_ble_eq_true rfl) (Nat.le_of_ble_eq_true rfl) (Nat.le_of_ble_eq_true rfl) (Nat.le_of_ble_eq_true rfl) dX0_mostOfOneSign_26 ?_
        refine lv_istore_n (lv' := [(2, .int (if z2 < r_6 then r_6 else z2)), (1, .int z1), (3, .int z3), (0, .ref (a0 0))]) hx hb dX0_mostOfOneSign_29 rfl hl (by decide) rfl (fun ls hl => ?_)
        refine lv_iinc (v := (z3 + 1)) (lv' := [(3, .int (z3 + 1)), (2, .int (if z2 < r_6 then r_6 else z2)), (1, .int z1), (0, .ref (a0 0))]) hx hb dX0_mostOfOneSign_30 hl (k := 2) rfl rfl (by decide) rfl (fun ls hl => ?_)
        refine lv_goto (tgt := 4) hx hb dX0_mostOfOneSign_33 (by decide) ?_
        exact ih _ _ _ ls h (lv_sub hl [2, 1, 0, 3] rfl)
  obtain ⟨n4, h⟩ := h
  refine lp4 _ ?_ n4 _ _ _ ls h (lv_sub hl [3, 1, 0, 2] rfl)
  · intro z1 z2 z3 ls h hl
    try dsimp only at h
    refine lv_iload_n hx hb dX0_mostOfOneSign_36 rfl (lv_at hl 1 rfl) ?_
    exact rd_iret hx hb hr hk h dX0_mostOfOneSign_37

def wp_X0_isWorn (post : Int32 → Prop) (s0 : Bd) (x1 : Int32) (x2 : Int32) : Prop := vp_in x1 40 ∧ (((lg_cmp (((s0.2.2.1 (Int32.toNatClampNeg x1)) >>> (Int32.toInt64 x2 &&& 63)) &&& 1) 0) = 0 → post 0) ∧ (¬ (lg_cmp (((s0.2.2.1 (Int32.toNatClampNeg x1)) >>> (Int32.toInt64 x2 &&& 63)) &&& 1) 0) = 0 → post 1))
set_option maxHeartbeats 4000000 in
set_option maxRecDepth 100000 in
theorem c2_X0_isWorn {l : Launch} {D : va_G} {q : Nat → ClassId} {a0 : Nat → Nat} {s0 : Bd} {x1 : Int32} {x2 : Int32} {post : Int32 → Prop} (h : wp_X0_isWorn post s0 x1 x2) : Met l yX0_isWorn (Cond.code yX0_isWorn cX0_isWorn 3 (some .boolean) :: w_all) ({ frames := 0, cells := 0, slots := 0, locals := 0 } : Room) (rd_P D q [.ref (a0 0), .int x1, .int x2] (bd_w a0 q s0)) (vp_Si post) 0 0 (fun _ => False) := by
  refine rd_start (by decide) (Nat.le_of_ble_eq_true rfl) ?_
  intro p e s m below meth c ls hx hb hr hml hown ht hk hP hQ hV hl
  have hK := hQ.1
  have hown : s.vm.findClass RX0 = some m.cls := hown
  have hl : lv_has ls 3 [(0, .ref (a0 0)), (1, .int x1), (2, .int x2)] := hl
  have hP : va_P D vwCl [((a0 0), .inr (0, [.int (s0.1 0), .int (s0.1 1), .int (s0.1 2), .int (s0.1 3), .int (s0.1 4), .int (s0.1 5), .ref (a0 1), .ref (a0 2), .ref (a0 3), .ref (a0 4), .ref (a0 5), .ref (a0 6), .ref (a0 7), .ref (a0 8), .ref (a0 9), .ref (a0 10), .ref (a0 11), .ref (a0 12)])), ((a0 1), .inl (q 0, 4, .inl (s0.2.1 0))), ((a0 2), .inl (q 0, 4, .inl (s0.2.1 1))), ((a0 3), .inl (q 0, 160, .inl (s0.2.1 2))), ((a0 4), .inl (q 0, 40, .inl (s0.2.1 3))), ((a0 5), .inl (q 0, 40, .inl (s0.2.1 4))), ((a0 6), .inl (q 0, 40, .inl (s0.2.1 5))), ((a0 7), .inl (q 0, 40, .inl (s0.2.1 6))), ((a0 8), .inl (q 0, 40, .inl (s0.2.1 7))), ((a0 9), .inl (q 0, 40, .inl (s0.2.1 8))), ((a0 10), .inl (q 0, 40, .inl (s0.2.1 9))), ((a0 11), .inl (q 1, 40, .inr (.inl s0.2.2.1))), ((a0 12), .inl (q 0, s0.2.2.2.1, .inl s0.2.2.2.2))] s.heap := hP
  unfold wp_X0_isWorn at h
  refine lv_aload_n hx hb dX0_isWorn_0 rfl (lv_at hl 0 rfl) ?_
  refine fl_get (C := RX0) (T := TX0) (N := 18) (ci := 0) (v := .ref (a0 11)) hx hb ht in_X0 hown hK hP 0 rfl rfl 16 (by decide) mw_206 rfl dX0_isWorn_1 ?_
  refine lv_iload_n hx hb dX0_isWorn_4 rfl (lv_at hl 1 rfl) ?_
  obtain ⟨g_1, h⟩ := h
  refine va_lald hx hb hK hP 11 1 rfl rfl g_1 dX0_isWorn_5 ?_
  refine lv_iload_n hx hb dX0_isWorn_6 rfl (lv_at hl 2 rfl) ?_
  refine lv_lshr (v := ((s0.2.2.1 (Int32.toNatClampNeg x1)) >>> (Int32.toInt64 x2 &&& 63))) hx hb dX0_isWorn_7 rfl ?_
  refine lv_lconst (v := 1) hx hb dX0_isWorn_8 (by decide) ?_
  refine lv_land hx hb dX0_isWorn_9 ?_
  refine lv_lconst (v := 0) hx hb dX0_isWorn_10 (by decide) ?_
  refine W.lcmp hx hb dX0_isWorn_11 ?_
  refine lv_if_eq (tgt := 19) hx hb dX0_isWorn_12 (by decide) (fun c_2 => ?_) (fun c_2 => ?_)
  · replace h := h.1 c_2
    refine lv_iconst (v := 0) hx hb dX0_isWorn_19 (by decide) ?_
    exact rd_zret hx hb hr hk rfl h dX0_isWorn_20
  · replace h := h.2 c_2
    refine lv_iconst (v := 1) hx hb dX0_isWorn_15 (by decide) ?_
    refine lv_goto (tgt := 20) hx hb dX0_isWorn_16 (by decide) ?_
    exact rd_zret hx hb hr hk rfl h dX0_isWorn_20

def wp_J13_bitCount_95d88 (post : Int32 → Prop) (y0 : Int64) : Prop := post ((Int64.toInt32 ((((((((y0 - ((((y0).toUInt64 >>> ((Int32.toInt64 (1 : Int32)).toUInt64 &&& Int64.toUInt64 63)).toInt64) &&& 6148914691236517205)) &&& 3689348814741910323) + (((((y0 - ((((y0).toUInt64 >>> ((Int32.toInt64 (1 : Int32)).toUInt64 &&& Int64.toUInt64 63)).toInt64) &&& 6148914691236517205))).toUInt64 >>> ((Int32.toInt64 (2 : Int32)).toUInt64 &&& Int64.toUInt64 63)).toInt64) &&& 3689348814741910323)) + ((((((y0 - ((((y0).toUInt64 >>> ((Int32.toInt64 (1 : Int32)).toUInt64 &&& Int64.toUInt64 63)).toInt64) &&& 6148914691236517205)) &&& 3689348814741910323) + (((((y0 - ((((y0).toUInt64 >>> ((Int32.toInt64 (1 : Int32)).toUInt64 &&& Int64.toUInt64 63)).toInt64) &&& 6148914691236517205))).toUInt64 >>> ((Int32.toInt64 (2 : Int32)).toUInt64 &&& Int64.toUInt64 63)).toInt64) &&& 3689348814741910323))).toUInt64 >>> ((Int32.toInt64 (4 : Int32)).toUInt64 &&& Int64.toUInt64 63)).toInt64)) &&& 1085102592571150095) + ((((((((y0 - ((((y0).toUInt64 >>> ((Int32.toInt64 (1 : Int32)).toUInt64 &&& Int64.toUInt64 63)).toInt64) &&& 6148914691236517205)) &&& 3689348814741910323) + (((((y0 - ((((y0).toUInt64 >>> ((Int32.toInt64 (1 : Int32)).toUInt64 &&& Int64.toUInt64 63)).toInt64) &&& 6148914691236517205))).toUInt64 >>> ((Int32.toInt64 (2 : Int32)).toUInt64 &&& Int64.toUInt64 63)).toInt64) &&& 3689348814741910323)) + ((((((y0 - ((((y0).toUInt64 >>> ((Int32.toInt64 (1 : Int32)).toUInt64 &&& Int64.toUInt64 63)).toInt64) &&& 6148914691236517205)) &&& 3689348814741910323) + (((((y0 - ((((y0).toUInt64 >>> ((Int32.toInt64 (1 : Int32)).toUInt64 &&& Int64.toUInt64 63)).toInt64) &&& 6148914691236517205))).toUInt64 >>> ((Int32.toInt64 (2 : Int32)).toUInt64 &&& Int64.toUInt64 63)).toInt64) &&& 3689348814741910323))).toUInt64 >>> ((Int32.toInt64 (4 : Int32)).toUInt64 &&& Int64.toUInt64 63)).toInt64)) &&& 1085102592571150095)).toUInt64 >>> ((Int32.toInt64 (8 : Int32)).toUInt64 &&& Int64.toUInt64 63)).toInt64)) + (((((((((y0 - ((((y0).toUInt64 >>> ((Int32.toInt64 (1 : Int32)).toUInt64 &&& Int64.toUInt64 63)).toInt64) &&& 6148914691236517205)) &&& 3689348814741910323) + (((((y0 - ((((y0).toUInt64 >>> ((Int32.toInt64 (1 : Int32)).toUInt64 &&& Int64.toUInt64 63)).toInt64) &&& 6148914691236517205))).toUInt64 >>> ((Int32.toInt64 (2 : Int32)).toUInt64 &&& Int64.toUInt64 63)).toInt64) &&& 3689348814741910323)) + ((((((y0 - ((((y0).toUInt64 >>> ((Int32.toInt64 (1 : Int32)).toUInt64 &&& Int64.toUInt64 63)).toInt64) &&& 6148914691236517205)) &&& 3689348814741910323) + (((((y0 - ((((y0).toUInt64 >>> ((Int32.toInt64 (1 : Int32)).toUInt64 &&& Int64.toUInt64 63)).toInt64) &&& 6148914691236517205))).toUInt64 >>> ((Int32.toInt64 (2 : Int32)).toUInt64 &&& Int64.toUInt64 63)).toInt64) &&& 3689348814741910323))).toUInt64 >>> ((Int32.toInt64 (4 : Int32)).toUInt64 &&& Int64.toUInt64 63)).toInt64)) &&& 1085102592571150095) + ((((((((y0 - ((((y0).toUInt64 >>> ((Int32.toInt64 (1 : Int32)).toUInt64 &&& Int64.toUInt64 63)).toInt64) &&& 6148914691236517205)) &&& 3689348814741910323) + (((((y0 - ((((y0).toUInt64 >>> ((Int32.toInt64 (1 : Int32)).toUInt64 &&& Int64.toUInt64 63)).toInt64) &&& 6148914691236517205))).toUInt64 >>> ((Int32.toInt64 (2 : Int32)).toUInt64 &&& Int64.toUInt64 63)).toInt64) &&& 3689348814741910323)) + ((((((y0 - ((((y0).toUInt64 >>> ((Int32.toInt64 (1 : Int32)).toUInt64 &&& Int64.toUInt64 63)).toInt64) &&& 6148914691236517205)) &&& 3689348814741910323) + (((((y0 - ((((y0).toUInt64 >>> ((Int32.toInt64 (1 : Int32)).toUInt64 &&& Int64.toUInt64 63)).toInt64) &&& 6148914691236517205))).toUInt64 >>> ((Int32.toInt64 (2 : Int32)).toUInt64 &&& Int64.toUInt64 63)).toInt64) &&& 3689348814741910323))).toUInt64 >>> ((Int32.toInt64 (4 : Int32)).toUInt64 &&& Int64.toUInt64 63)).toInt64)) &&& 1085102592571150095)).toUInt64 >>> ((Int32.toInt64 (8 : Int32)).toUInt64 &&& Int64.toUInt64 63)).toInt64))).toUInt64 >>> ((Int32.toInt64 (16 : Int32)).toUInt64 &&& Int64.toUInt64 63)).toInt64)) + ((((((((((y0 - ((((y0).toUInt64 >>> ((Int32.toInt64 (1 : Int32)).toUInt64 &&& Int64.toUInt64 63)).toInt64) &&& 6148914691236517205)) &&& 3689348814741910323) + (((((y0 - ((((y0).toUInt64 >>> ((Int32.toInt64 (1 : Int32)).toUInt64 &&& Int64.toUInt64 63)).toInt64) &&& 6148914691236517205))).toUInt64 >>> ((Int32.toInt64 (2 : Int32)).toUInt64 &&& Int64.toUInt64 63)).toInt64) &&& 3689348814741910323)) + ((((((y0 - ((((y0).toUInt64 >>> ((Int32.toInt64 (1 : Int32)).toUInt64 &&& Int64.toUInt64 63)).toInt64) &&& 6148914691236517205)) &&& 3689348814741910323) + (((((y0 - ((((y0).toUInt64 >>> ((Int32.toInt64 (1 : Int32)).toUInt64 &&& Int64.toUInt64 63)).toInt64) &&& 6148914691236517205))).toUInt64 >>> ((Int32.toInt64 (2 : Int32)).toUInt64 &&& Int64.toUInt64 63)).toInt64) &&& 3689348814741910323))).toUInt64 >>> ((Int32.toInt64 (4 : Int32)).toUInt64 &&& Int64.toUInt64 63)).toInt64)) &&& 1085102592571150095) + ((((((((y0 - ((((y0).toUInt64 >>> ((Int32.toInt64 (1 : Int32)).toUInt64 &&& Int64.toUInt64 63)).toInt64) &&& 6148914691236517205)) &&& 3689348814741910323) + (((((y0 - ((((y0).toUInt64 >>> ((Int32.toInt64 (1 : Int32)).toUInt64 &&& Int64.toUInt64 63)).toInt64) &&& 6148914691236517205))).toUInt64 >>> ((Int32.toInt64 (2 : Int32)).toUInt64 &&& Int64.toUInt64 63)).toInt64) &&& 3689348814741910323)) + ((((((y0 - ((((y0).toUInt64 >>> ((Int32.toInt64 (1 : Int32)).toUInt64 &&& Int64.toUInt64 63)).toInt64) &&& 6148914691236517205)) &&& 3689348814741910323) + (((((y0 - ((((y0).toUInt64 >>> ((Int32.toInt64 (1 : Int32)).toUInt64 &&& Int64.toUInt64 63)).toInt64) &&& 6148914691236517205))).toUInt64 >>> ((Int32.toInt64 (2 : Int32)).toUInt64 &&& Int64.toUInt64 63)).toInt64) &&& 3689348814741910323))).toUInt64 >>> ((Int32.toInt64 (4 : Int32)).toUInt64 &&& Int64.toUInt64 63)).toInt64)) &&& 1085102592571150095)).toUInt64 >>> ((Int32.toInt64 (8 : Int32)).toUInt64 &&& Int64.toUInt64 63)).toInt64)) + (((((((((y0 - ((((y0).toUInt64 >>> ((Int32.toInt64 (1 : Int32)).toUInt64 &&& Int64.toUInt64 63)).toInt64) &&& 6148914691236517205)) &&& 3689348814741910323) + (((((y0 - ((((y0).toUInt64 >>> ((Int32.toInt64 (1 : Int32)).toUInt64 &&& Int64.toUInt64 63)).toInt64) &&& 6148914691236517205))).toUInt64 >>> ((Int32.toInt64 (2 : Int32)).toUInt64 &&& Int64.toUInt64 63)).toInt64) &&& 3689348814741910323)) + ((((((y0 - ((((y0).toUInt64 >>> ((Int32.toInt64 (1 : Int32)).toUInt64 &&& Int64.toUInt64 63)).toInt64) &&& 6148914691236517205)) &&& 3689348814741910323) + (((((y0 - ((((y0).toUInt64 >>> ((Int32.toInt64 (1 : Int32)).toUInt64 &&& Int64.toUInt64 63)).toInt64) &&& 6148914691236517205))).toUInt64 >>> ((Int32.toInt64 (2 : Int32)).toUInt64 &&& Int64.toUInt64 63)).toInt64) &&& 3689348814741910323))).toUInt64 >>> ((Int32.toInt64 (4 : Int32)).toUInt64 &&& Int64.toUInt64 63)).toInt64)) &&& 1085102592571150095) + ((((((((y0 - ((((y0).toUInt64 >>> ((Int32.toInt64 (1 : Int32)).toUInt64 &&& Int64.toUInt64 63)).toInt64) &&& 6148914691236517205)) &&& 3689348814741910323) + (((((y0 - ((((y0).toUInt64 >>> ((Int32.toInt64 (1 : Int32)).toUInt64 &&& Int64.toUInt64 63)).toInt64) &&& 6148914691236517205))).toUInt64 >>> ((Int32.toInt64 (2 : Int32)).toUInt64 &&& Int64.toUInt64 63)).toInt64) &&& 3689348814741910323)) + ((((((y0 - ((((y0).toUInt64 >>> ((Int32.toInt64 (1 : Int32)).toUInt64 &&& Int64.toUInt64 63)).toInt64) &&& 6148914691236517205)) &&& 3689348814741910323) + (((((y0 - ((((y0).toUInt64 >>> ((Int32.toInt64 (1 : Int32)).toUInt64 &&& Int64.toUInt64 63)).toInt64) &&& 6148914691236517205))).toUInt64 >>> ((Int32.toInt64 (2 : Int32)).toUInt64 &&& Int64.toUInt64 63)).toInt64) &&& 3689348814741910323))).toUInt64 >>> ((Int32.toInt64 (4 : Int32)).toUInt64 &&& Int64.toUInt64 63)).toInt64)) &&& 1085102592571150095)).toUInt64 >>> ((Int32.toInt64 (8 : Int32)).toUInt64 &&& Int64.toUInt64 63)).toInt64))).toUInt64 >>> ((Int32.toInt64 (16 : Int32)).toUInt64 &&& Int64.toUInt64 63)).toInt64))).toUInt64 >>> ((Int32.toInt64 (32 : Int32)).toUInt64 &&& Int64.toUInt64 63)).toInt64))) &&& 127)
set_option maxHeartbeats 4000000 in
set_option maxRecDepth 100000 in
theorem c2_J13_bitCount_95d88 {l : Launch} {D : va_G} {q : Nat → ClassId} {y0 : Int64} {post : Int32 → Prop} (h : wp_J13_bitCount_95d88 post y0) : Met l yJ13_bitCount_95d88 (Cond.code yJ13_bitCount_95d88 cJ13_bitCount_95d88 2 (some .int) :: w_all) ({ frames := 0, cells := 0, slots := 0, locals := 0 } : Room) (rd_P D q [.long y0] (([] : va_W))) (vp_Si post) 0 0 (fun _ => False) := by
  refine rd_start (by decide) (Nat.le_of_ble_eq_true rfl) ?_
  intro p e s m below meth c ls hx hb hr hml hown ht hk hP hQ hV hl
  have hK := hQ.1
  have hown : s.vm.findClass RJ13 = some m.cls := hown
  have hl : lv_has ls 2 [(0, .long y0)] := hl
  unfold wp_J13_bitCount_95d88 at h
  refine lv_lload_n hx hb dJ13_bitCount_95d88_0 rfl (lv_at hl 0 rfl) ?_
  refine lv_lload_n hx hb dJ13_bitCount_95d88_1 rfl (lv_at hl 0 rfl) ?_
  refine lv_iconst (v := 1) hx hb dJ13_bitCount_95d88_2 (by decide) ?_
  refine lv_lushr (v := (((y0).toUInt64 >>> ((Int32.toInt64 (1 : Int32)).toUInt64 &&& Int64.toUInt64 63)).toInt64)) hx hb dJ13_bitCount_95d88_3 rfl ?_
  refine lv_ldc2 (v := 6148914691236517205) hx hb hown (ht _ mw_749) dJ13_bitCount_95d88_4 ?_
  refine lv_land hx hb dJ13_bitCount_95d88_7 ?_
  refine lv_lsub hx hb dJ13_bitCount_95d88_8 ?_
  refine lv_lstore_n (lv' := [(0, .long (y0 - ((((y0).toUInt64 >>> ((Int32.toInt64 (1 : Int32)).toUInt64 &&& Int64.toUInt64 63)).toInt64) &&& 6148914691236517205)))]) hx hb dJ13_bitCount_95d88_9 rfl hl (by decide) rfl (fun ls hl => ?_)
  refine lv_lload_n hx hb dJ13_bitCount_95d88_10 rfl (lv_at hl 0 rfl) ?_
  refine lv_ldc2 (v := 3689348814741910323) hx hb hown (ht _ mw_750) dJ13_bitCount_95d88_11 ?_
  refine lv_land hx hb dJ13_bitCount_95d88_14 ?_
  refine lv_lload_n hx hb dJ13_bitCount_95d88_15 rfl (lv_at hl 0 rfl) ?_
  refine lv_iconst (v := 2) hx hb dJ13_bitCount_95d88_16 (by decide) ?_
  refine lv_lushr (v := ((((y0 - ((((y0).toUInt64 >>> ((Int32.toInt64 (1 : Int32)).toUInt64 &&& Int64.toUInt64 63)).toInt64) &&& 6148914691236517205))).toUInt64 >>> ((Int32.toInt64 (2 : Int32)).toUInt64 &&& Int64.toUInt64 63)).toInt64)) hx hb dJ13_bitCount_95d88_17 rfl ?_
  refine lv_ldc2 (v := 3689348814741910323) hx hb hown (ht _ mw_750) dJ13_bitCount_95d88_18 ?_
  refine lv_land hx hb dJ13_bitCount_95d88_21 ?_
  refine lv_ladd hx hb dJ13_bitCount_95d88_22 ?_
  refine lv_lstore_n (lv' := [(0, .long (((y0 - ((((y0).toUInt64 >>> ((Int32.toInt64 (1 : Int32)).toUInt64 &&& Int64.toUInt64 63)).toInt64) &&& 6148914691236517205)) &&& 3689348814741910323) + (((((y0 - ((((y0).toUInt64 >>> ((Int32.toInt64 (1 : Int32)).toUInt64 &&& Int64.toUInt64 63)).toInt64) &&& 6148914691236517205))).toUInt64 >>> ((Int32.toInt64 (2 : Int32)).toUInt64 &&& Int64.toUInt64 63)).toInt64) &&& 3689348814741910323)))]) hx hb dJ13_bitCount_95d88_23 rfl hl (by decide) rfl (fun ls hl => ?_)
  refine lv_lload_n hx hb dJ13_bitCount_95d88_24 rfl (lv_at hl 0 rfl) ?_
  refine lv_lload_n hx hb dJ13_bitCount_95d88_25 rfl (lv_at hl 0 rfl) ?_
  refine lv_iconst (v := 4) hx hb dJ13_bitCount_95d88_26 (by decide) ?_
  refine lv_lushr (v := ((((((y0 - ((((y0).toUInt64 >>> ((Int32.toInt64 (1 : Int32)).toUInt64 &&& Int64.toUInt64 63)).toInt64) &&& 6148914691236517205)) &&& 3689348814741910323) + (((((y0 - ((((y0).toUInt64 >>> ((Int32.toInt64 (1 : Int32)).toUInt64 &&& Int64.toUInt64 63)).toInt64) &&& 6148914691236517205))).toUInt64 >>> ((Int32.toInt64 (2 : Int32)).toUInt64 &&& Int64.toUInt64 63)).toInt64) &&& 3689348814741910323))).toUInt64 >>> ((Int32.toInt64 (4 : Int32)).toUInt64 &&& Int64.toUInt64 63)).toInt64)) hx hb dJ13_bitCount_95d88_27 rfl ?_
  refine lv_ladd hx hb dJ13_bitCount_95d88_28 ?_
  refine lv_ldc2 (v := 1085102592571150095) hx hb hown (ht _ mw_751) dJ13_bitCount_95d88_29 ?_
  refine lv_land hx hb dJ13_bitCount_95d88_32 ?_
  refine lv_lstore_n (lv' := [(0, .long (((((y0 - ((((y0).toUInt64 >>> ((Int32.toInt64 (1 : Int32)).toUInt64 &&& Int64.toUInt64 63)).toInt64) &&& 6148914691236517205)) &&& 3689348814741910323) + (((((y0 - ((((y0).toUInt64 >>> ((Int32.toInt64 (1 : Int32)).toUInt64 &&& Int64.toUInt64 63)).toInt64) &&& 6148914691236517205))).toUInt64 >>> ((Int32.toInt64 (2 : Int32)).toUInt64 &&& Int64.toUInt64 63)).toInt64) &&& 3689348814741910323)) + ((((((y0 - ((((y0).toUInt64 >>> ((Int32.toInt64 (1 : Int32)).toUInt64 &&& Int64.toUInt64 63)).toInt64) &&& 6148914691236517205)) &&& 3689348814741910323) + (((((y0 - ((((y0).toUInt64 >>> ((Int32.toInt64 (1 : Int32)).toUInt64 &&& Int64.toUInt64 63)).toInt64) &&& 6148914691236517205))).toUInt64 >>> ((Int32.toInt64 (2 : Int32)).toUInt64 &&& Int64.toUInt64 63)).toInt64) &&& 3689348814741910323))).toUInt64 >>> ((Int32.toInt64 (4 : Int32)).toUInt64 &&& Int64.toUInt64 63)).toInt64)) &&& 1085102592571150095))]) hx hb dJ13_bitCount_95d88_33 rfl hl (by decide) rfl (fun ls hl => ?_)
  refine lv_lload_n hx hb dJ13_bitCount_95d88_34 rfl (lv_at hl 0 rfl) ?_
  refine lv_lload_n hx hb dJ13_bitCount_95d88_35 rfl (lv_at hl 0 rfl) ?_
  refine lv_bipush (v := 8) hx hb dJ13_bitCount_95d88_36 (by decide) ?_
  refine lv_lushr (v := ((((((((y0 - ((((y0).toUInt64 >>> ((Int32.toInt64 (1 : Int32)).toUInt64 &&& Int64.toUInt64 63)).toInt64) &&& 6148914691236517205)) &&& 3689348814741910323) + (((((y0 - ((((y0).toUInt64 >>> ((Int32.toInt64 (1 : Int32)).toUInt64 &&& Int64.toUInt64 63)).toInt64) &&& 6148914691236517205))).toUInt64 >>> ((Int32.toInt64 (2 : Int32)).toUInt64 &&& Int64.toUInt64 63)).toInt64) &&& 3689348814741910323)) + ((((((y0 - ((((y0).toUInt64 >>> ((Int32.toInt64 (1 : Int32)).toUInt64 &&& Int64.toUInt64 63)).toInt64) &&& 6148914691236517205)) &&& 3689348814741910323) + (((((y0 - ((((y0).toUInt64 >>> ((Int32.toInt64 (1 : Int32)).toUInt64 &&& Int64.toUInt64 63)).toInt64) &&& 6148914691236517205))).toUInt64 >>> ((Int32.toInt64 (2 : Int32)).toUInt64 &&& Int64.toUInt64 63)).toInt64) &&& 3689348814741910323))).toUInt64 >>> ((Int32.toInt64 (4 : Int32)).toUInt64 &&& Int64.toUInt64 63)).toInt64)) &&& 1085102592571150095)).toUInt64 >>> ((Int32.toInt64 (8 : Int32)).toUInt64 &&& Int64.toUInt64 63)).toInt64)) hx hb dJ13_bitCount_95d88_38 rfl ?_
  refine lv_ladd hx hb dJ13_bitCount_95d88_39 ?_
  refine lv_lstore_n (lv' := [(0, .long ((((((y0 - ((((y0).toUInt64 >>> ((Int32.toInt64 (1 : Int32)).toUInt64 &&& Int64.toUInt64 63)).toInt64) &&& 6148914691236517205)) &&& 3689348814741910323) + (((((y0 - ((((y0).toUInt64 >>> ((Int32.toInt64 (1 : Int32)).toUInt64 &&& Int64.toUInt64 63)).toInt64) &&& 6148914691236517205))).toUInt64 >>> ((Int32.toInt64 (2 : Int32)).toUInt64 &&& Int64.toUInt64 63)).toInt64) &&& 3689348814741910323)) + ((((((y0 - ((((y0).toUInt64 >>> ((Int32.toInt64 (1 : Int32)).toUInt64 &&& Int64.toUInt64 63)).toInt64) &&& 6148914691236517205)) &&& 3689348814741910323) + (((((y0 - ((((y0).toUInt64 >>> ((Int32.toInt64 (1 : Int32)).toUInt64 &&& Int64.toUInt64 63)).toInt64) &&& 6148914691236517205))).toUInt64 >>> ((Int32.toInt64 (2 : Int32)).toUInt64 &&& Int64.toUInt64 63)).toInt64) &&& 3689348814741910323))).toUInt64 >>> ((Int32.toInt64 (4 : Int32)).toUInt64 &&& Int64.toUInt64 63)).toInt64)) &&& 1085102592571150095) + ((((((((y0 - ((((y0).toUInt64 >>> ((Int32.toInt64 (1 : Int32)).toUInt64 &&& Int64.toUInt64 63)).toInt64) &&& 6148914691236517205)) &&& 3689348814741910323) + (((((y0 - ((((y0).toUInt64 >>> ((Int32.toInt64 (1 : Int32)).toUInt64 &&& Int64.toUInt64 63)).toInt64) &&& 6148914691236517205))).toUInt64 >>> ((Int32.toInt64 (2 : Int32)).toUInt64 &&& Int64.toUInt64 63)).toInt64) &&& 3689348814741910323)) + ((((((y0 - ((((y0).toUInt64 >>> ((Int32.toInt64 (1 : Int32)).toUInt64 &&& Int64.toUInt64 63)).toInt64) &&& 6148914691236517205)) &&& 3689348814741910323) + (((((y0 - ((((y0).toUInt64 >>> ((Int32.toInt64 (1 : Int32)).toUInt64 &&& Int64.toUInt64 63)).toInt64) &&& 6148914691236517205))).toUInt64 >>> ((Int32.toInt64 (2 : Int32)).toUInt64 &&& Int64.toUInt64 63)).toInt64) &&& 3689348814741910323))).toUInt64 >>> ((Int32.toInt64 (4 : Int32)).toUInt64 &&& Int64.toUInt64 63)).toInt64)) &&& 1085102592571150095)).toUInt64 >>> ((Int32.toInt64 (8 : Int32)).toUInt64 &&& Int64.toUInt64 63)).toInt64)))]) hx hb dJ13_bitCount_95d88_40 rfl hl (by decide) rfl (fun ls hl => ?_)
  refine lv_lload_n hx hb dJ13_bitCount_95d88_41 rfl (lv_at hl 0 rfl) ?_
  refine lv_lload_n hx hb dJ13_bitCount_95d88_42 rfl (lv_at hl 0 rfl) ?_
  refine lv_bipush (v := 16) hx hb dJ13_bitCount_95d88_43 (by decide) ?_
  refine lv_lushr (v := (((((((((y0 - ((((y0).toUInt64 >>> ((Int32.toInt64 (1 : Int32)).toUInt64 &&& Int64.toUInt64 63)).toInt64) &&& 6148914691236517205)) &&& 3689348814741910323) + (((((y0 - ((((y0).toUInt64 >>> ((Int32.toInt64 (1 : Int32)).toUInt64 &&& Int64.toUInt64 63)).toInt64) &&& 6148914691236517205))).toUInt64 >>> ((Int32.toInt64 (2 : Int32)).toUInt64 &&& Int64.toUInt64 63)).toInt64) &&& 3689348814741910323)) + ((((((y0 - ((((y0).toUInt64 >>> ((Int32.toInt64 (1 : Int32)).toUInt64 &&& Int64.toUInt64 63)).toInt64) &&& 6148914691236517205)) &&& 3689348814741910323) + (((((y0 - ((((y0).toUInt64 >>> ((Int32.toInt64 (1 : Int32)).toUInt64 &&& Int64.toUInt64 63)).toInt64) &&& 6148914691236517205))).toUInt64 >>> ((Int32.toInt64 (2 : Int32)).toUInt64 &&& Int64.toUInt64 63)).toInt64) &&& 3689348814741910323))).toUInt64 >>> ((Int32.toInt64 (4 : Int32)).toUInt64 &&& Int64.toUInt64 63)).toInt64)) &&& 1085102592571150095) + ((((((((y0 - ((((y0).toUInt64 >>> ((Int32.toInt64 (1 : Int32)).toUInt64 &&& Int64.toUInt64 63)).toInt64) &&& 6148914691236517205)) &&& 3689348814741910323) + (((((y0 - ((((y0).toUInt64 >>> ((Int32.toInt64 (1 : Int32)).toUInt64 &&& Int64.toUInt64 63)).toInt64) &&& 6148914691236517205))).toUInt64 >>> ((Int32.toInt64 (2 : Int32)).toUInt64 &&& Int64.toUInt64 63)).toInt64) &&& 3689348814741910323)) + ((((((y0 - ((((y0).toUInt64 >>> ((Int32.toInt64 (1 : Int32)).toUInt64 &&& Int64.toUInt64 63)).toInt64) &&& 6148914691236517205)) &&& 3689348814741910323) + (((((y0 - ((((y0).toUInt64 >>> ((Int32.toInt64 (1 : Int32)).toUInt64 &&& Int64.toUInt64 63)).toInt64) &&& 6148914691236517205))).toUInt64 >>> ((Int32.toInt64 (2 : Int32)).toUInt64 &&& Int64.toUInt64 63)).toInt64) &&& 3689348814741910323))).toUInt64 >>> ((Int32.toInt64 (4 : Int32)).toUInt64 &&& Int64.toUInt64 63)).toInt64)) &&& 1085102592571150095)).toUInt64 >>> ((Int32.toInt64 (8 : Int32)).toUInt64 &&& Int64.toUInt64 63)).toInt64))).toUInt64 >>> ((Int32.toInt64 (16 : Int32)).toUInt64 &&& Int64.toUInt64 63)).toInt64)) hx hb dJ13_bitCount_95d88_45 rfl ?_
  refine lv_ladd hx hb dJ13_bitCount_95d88_46 ?_
  refine lv_lstore_n (lv' := [(0, .long (((((((y0 - ((((y0).toUInt64 >>> ((Int32.toInt64 (1 : Int32)).toUInt64 &&& Int64.toUInt64 63)).toInt64) &&& 6148914691236517205)) &&& 3689348814741910323) + (((((y0 - ((((y0).toUInt64 >>> ((Int32.toInt64 (1 : Int32)).toUInt64 &&& Int64.toUInt64 63)).toInt64) &&& 6148914691236517205))).toUInt64 >>> ((Int32.toInt64 (2 : Int32)).toUInt64 &&& Int64.toUInt64 63)).toInt64) &&& 3689348814741910323)) + ((((((y0 - ((((y0).toUInt64 >>> ((Int32.toInt64 (1 : Int32)).toUInt64 &&& Int64.toUInt64 63)).toInt64) &&& 6148914691236517205)) &&& 3689348814741910323) + (((((y0 - ((((y0).toUInt64 >>> ((Int32.toInt64 (1 : Int32)).toUInt64 &&& Int64.toUInt64 63)).toInt64) &&& 6148914691236517205))).toUInt64 >>> ((Int32.toInt64 (2 : Int32)).toUInt64 &&& Int64.toUInt64 63)).toInt64) &&& 3689348814741910323))).toUInt64 >>> ((Int32.toInt64 (4 : Int32)).toUInt64 &&& Int64.toUInt64 63)).toInt64)) &&& 1085102592571150095) + ((((((((y0 - ((((y0).toUInt64 >>> ((Int32.toInt64 (1 : Int32)).toUInt64 &&& Int64.toUInt64 63)).toInt64) &&& 6148914691236517205)) &&& 3689348814741910323) + (((((y0 - ((((y0).toUInt64 >>> ((Int32.toInt64 (1 : Int32)).toUInt64 &&& Int64.toUInt64 63)).toInt64) &&& 6148914691236517205))).toUInt64 >>> ((Int32.toInt64 (2 : Int32)).toUInt64 &&& Int64.toUInt64 63)).toInt64) &&& 3689348814741910323)) + ((((((y0 - ((((y0).toUInt64 >>> ((Int32.toInt64 (1 : Int32)).toUInt64 &&& Int64.toUInt64 63)).toInt64) &&& 6148914691236517205)) &&& 3689348814741910323) + (((((y0 - ((((y0).toUInt64 >>> ((Int32.toInt64 (1 : Int32)).toUInt64 &&& Int64.toUInt64 63)).toInt64) &&& 6148914691236517205))).toUInt64 >>> ((Int32.toInt64 (2 : Int32)).toUInt64 &&& Int64.toUInt64 63)).toInt64) &&& 3689348814741910323))).toUInt64 >>> ((Int32.toInt64 (4 : Int32)).toUInt64 &&& Int64.toUInt64 63)).toInt64)) &&& 1085102592571150095)).toUInt64 >>> ((Int32.toInt64 (8 : Int32)).toUInt64 &&& Int64.toUInt64 63)).toInt64)) + (((((((((y0 - ((((y0).toUInt64 >>> ((Int32.toInt64 (1 : Int32)).toUInt64 &&& Int64.toUInt64 63)).toInt64) &&& 6148914691236517205)) &&& 3689348814741910323) + (((((y0 - ((((y0).toUInt64 >>> ((Int32.toInt64 (1 : Int32)).toUInt64 &&& Int64.toUInt64 63)).toInt64) &&& 6148914691236517205))).toUInt64 >>> ((Int32.toInt64 (2 : Int32)).toUInt64 &&& Int64.toUInt64 63)).toInt64) &&& 3689348814741910323)) + ((((((y0 - ((((y0).toUInt64 >>> ((Int32.toInt64 (1 : Int32)).toUInt64 &&& Int64.toUInt64 63)).toInt64) &&& 6148914691236517205)) &&& 3689348814741910323) + (((((y0 - ((((y0).toUInt64 >>> ((Int32.toInt64 (1 : Int32)).toUInt64 &&& Int64.toUInt64 63)).toInt64) &&& 6148914691236517205))).toUInt64 >>> ((Int32.toInt64 (2 : Int32)).toUInt64 &&& Int64.toUInt64 63)).toInt64) &&& 3689348814741910323))).toUInt64 >>> ((Int32.toInt64 (4 : Int32)).toUInt64 &&& Int64.toUInt64 63)).toInt64)) &&& 1085102592571150095) + ((((((((y0 - ((((y0).toUInt64 >>> ((Int32.toInt64 (1 : Int32)).toUInt64 &&& Int64.toUInt64 63)).toInt64) &&& 6148914691236517205)) &&& 3689348814741910323) + (((((y0 - ((((y0).toUInt64 >>> ((Int32.toInt64 (1 : Int32)).toUInt64 &&& Int64.toUInt64 63)).toInt64) &&& 6148914691236517205))).toUInt64 >>> ((Int32.toInt64 (2 : Int32)).toUInt64 &&& Int64.toUInt64 63)).toInt64) &&& 3689348814741910323)) + ((((((y0 - ((((y0).toUInt64 >>> ((Int32.toInt64 (1 : Int32)).toUInt64 &&& Int64.toUInt64 63)).toInt64) &&& 6148914691236517205)) &&& 3689348814741910323) + (((((y0 - ((((y0).toUInt64 >>> ((Int32.toInt64 (1 : Int32)).toUInt64 &&& Int64.toUInt64 63)).toInt64) &&& 6148914691236517205))).toUInt64 >>> ((Int32.toInt64 (2 : Int32)).toUInt64 &&& Int64.toUInt64 63)).toInt64) &&& 3689348814741910323))).toUInt64 >>> ((Int32.toInt64 (4 : Int32)).toUInt64 &&& Int64.toUInt64 63)).toInt64)) &&& 1085102592571150095)).toUInt64 >>> ((Int32.toInt64 (8 : Int32)).toUInt64 &&& Int64.toUInt64 63)).toInt64))).toUInt64 >>> ((Int32.toInt64 (16 : Int32)).toUInt64 &&& Int64.toUInt64 63)).toInt64)))]) hx hb dJ13_bitCount_95d88_47 rfl hl (by decide) rfl (fun ls hl => ?_)
  refine lv_lload_n hx hb dJ13_bitCount_95d88_48 rfl (lv_at hl 0 rfl) ?_
  refine lv_lload_n hx hb dJ13_bitCount_95d88_49 rfl (lv_at hl 0 rfl) ?_
  refine lv_bipush (v := 32) hx hb dJ13_bitCount_95d88_50 (by decide) ?_
  refine lv_lushr (v := ((((((((((y0 - ((((y0).toUInt64 >>> ((Int32.toInt64 (1 : Int32)).toUInt64 &&& Int64.toUInt64 63)).toInt64) &&& 6148914691236517205)) &&& 3689348814741910323) + (((((y0 - ((((y0).toUInt64 >>> ((Int32.toInt64 (1 : Int32)).toUInt64 &&& Int64.toUInt64 63)).toInt64) &&& 6148914691236517205))).toUInt64 >>> ((Int32.toInt64 (2 : Int32)).toUInt64 &&& Int64.toUInt64 63)).toInt64) &&& 3689348814741910323)) + ((((((y0 - ((((y0).toUInt64 >>> ((Int32.toInt64 (1 : Int32)).toUInt64 &&& Int64.toUInt64 63)).toInt64) &&& 6148914691236517205)) &&& 3689348814741910323) + (((((y0 - ((((y0).toUInt64 >>> ((Int32.toInt64 (1 : Int32)).toUInt64 &&& Int64.toUInt64 63)).toInt64) &&& 6148914691236517205))).toUInt64 >>> ((Int32.toInt64 (2 : Int32)).toUInt64 &&& Int64.toUInt64 63)).toInt64) &&& 3689348814741910323))).toUInt64 >>> ((Int32.toInt64 (4 : Int32)).toUInt64 &&& Int64.toUInt64 63)).toInt64)) &&& 1085102592571150095) + ((((((((y0 - ((((y0).toUInt64 >>> ((Int32.toInt64 (1 : Int32)).toUInt64 &&& Int64.toUInt64 63)).toInt64) &&& 6148914691236517205)) &&& 3689348814741910323) + (((((y0 - ((((y0).toUInt64 >>> ((Int32.toInt64 (1 : Int32)).toUInt64 &&& Int64.toUInt64 63)).toInt64) &&& 6148914691236517205))).toUInt64 >>> ((Int32.toInt64 (2 : Int32)).toUInt64 &&& Int64.toUInt64 63)).toInt64) &&& 3689348814741910323)) + ((((((y0 - ((((y0).toUInt64 >>> ((Int32.toInt64 (1 : Int32)).toUInt64 &&& Int64.toUInt64 63)).toInt64) &&& 6148914691236517205)) &&& 3689348814741910323) + (((((y0 - ((((y0).toUInt64 >>> ((Int32.toInt64 (1 : Int32)).toUInt64 &&& Int64.toUInt64 63)).toInt64) &&& 6148914691236517205))).toUInt64 >>> ((Int32.toInt64 (2 : Int32)).toUInt64 &&& Int64.toUInt64 63)).toInt64) &&& 3689348814741910323))).toUInt64 >>> ((Int32.toInt64 (4 : Int32)).toUInt64 &&& Int64.toUInt64 63)).toInt64)) &&& 1085102592571150095)).toUInt64 >>> ((Int32.toInt64 (8 : Int32)).toUInt64 &&& Int64.toUInt64 63)).toInt64)) + (((((((((y0 - ((((y0).toUInt64 >>> ((Int32.toInt64 (1 : Int32)).toUInt64 &&& Int64.toUInt64 63)).toInt64) &&& 6148914691236517205)) &&& 3689348814741910323) + (((((y0 - ((((y0).toUInt64 >>> ((Int32.toInt64 (1 : Int32)).toUInt64 &&& Int64.toUInt64 63)).toInt64) &&& 6148914691236517205))).toUInt64 >>> ((Int32.toInt64 (2 : Int32)).toUInt64 &&& Int64.toUInt64 63)).toInt64) &&& 3689348814741910323)) + ((((((y0 - ((((y0).toUInt64 >>> ((Int32.toInt64 (1 : Int32)).toUInt64 &&& Int64.toUInt64 63)).toInt64) &&& 6148914691236517205)) &&& 3689348814741910323) + (((((y0 - ((((y0).toUInt64 >>> ((Int32.toInt64 (1 : Int32)).toUInt64 &&& Int64.toUInt64 63)).toInt64) &&& 6148914691236517205))).toUInt64 >>> ((Int32.toInt64 (2 : Int32)).toUInt64 &&& Int64.toUInt64 63)).toInt64) &&& 3689348814741910323))).toUInt64 >>> ((Int32.toInt64 (4 : Int32)).toUInt64 &&& Int64.toUInt64 63)).toInt64)) &&& 1085102592571150095) + ((((((((y0 - ((((y0).toUInt64 >>> ((Int32.toInt64 (1 : Int32)).toUInt64 &&& Int64.toUInt64 63)).toInt64) &&& 6148914691236517205)) &&& 3689348814741910323) + (((((y0 - ((((y0).toUInt64 >>> ((Int32.toInt64 (1 : Int32)).toUInt64 &&& Int64.toUInt64 63)).toInt64) &&& 6148914691236517205))).toUInt64 >>> ((Int32.toInt64 (2 : Int32)).toUInt64 &&& Int64.toUInt64 63)).toInt64) &&& 3689348814741910323)) + ((((((y0 - ((((y0).toUInt64 >>> ((Int32.toInt64 (1 : Int32)).toUInt64 &&& Int64.toUInt64 63)).toInt64) &&& 6148914691236517205)) &&& 3689348814741910323) + (((((y0 - ((((y0).toUInt64 >>> ((Int32.toInt64 (1 : Int32)).toUInt64 &&& Int64.toUInt64 63)).toInt64) &&& 6148914691236517205))).toUInt64 >>> ((Int32.toInt64 (2 : Int32)).toUInt64 &&& Int64.toUInt64 63)).toInt64) &&& 3689348814741910323))).toUInt64 >>> ((Int32.toInt64 (4 : Int32)).toUInt64 &&& Int64.toUInt64 63)).toInt64)) &&& 1085102592571150095)).toUInt64 >>> ((Int32.toInt64 (8 : Int32)).toUInt64 &&& Int64.toUInt64 63)).toInt64))).toUInt64 >>> ((Int32.toInt64 (16 : Int32)).toUInt64 &&& Int64.toUInt64 63)).toInt64))).toUInt64 >>> ((Int32.toInt64 (32 : Int32)).toUInt64 &&& Int64.toUInt64 63)).toInt64)) hx hb dJ13_bitCount_95d88_52 rfl ?_
  refine lv_ladd hx hb dJ13_bitCount_95d88_53 ?_
  refine lv_lstore_n (lv' := [(0, .long ((((((((y0 - ((((y0).toUInt64 >>> ((Int32.toInt64 (1 : Int32)).toUInt64 &&& Int64.toUInt64 63)).toInt64) &&& 6148914691236517205)) &&& 3689348814741910323) + (((((y0 - ((((y0).toUInt64 >>> ((Int32.toInt64 (1 : Int32)).toUInt64 &&& Int64.toUInt64 63)).toInt64) &&& 6148914691236517205))).toUInt64 >>> ((Int32.toInt64 (2 : Int32)).toUInt64 &&& Int64.toUInt64 63)).toInt64) &&& 3689348814741910323)) + ((((((y0 - ((((y0).toUInt64 >>> ((Int32.toInt64 (1 : Int32)).toUInt64 &&& Int64.toUInt64 63)).toInt64) &&& 6148914691236517205)) &&& 3689348814741910323) + (((((y0 - ((((y0).toUInt64 >>> ((Int32.toInt64 (1 : Int32)).toUInt64 &&& Int64.toUInt64 63)).toInt64) &&& 6148914691236517205))).toUInt64 >>> ((Int32.toInt64 (2 : Int32)).toUInt64 &&& Int64.toUInt64 63)).toInt64) &&& 3689348814741910323))).toUInt64 >>> ((Int32.toInt64 (4 : Int32)).toUInt64 &&& Int64.toUInt64 63)).toInt64)) &&& 1085102592571150095) + ((((((((y0 - ((((y0).toUInt64 >>> ((Int32.toInt64 (1 : Int32)).toUInt64 &&& Int64.toUInt64 63)).toInt64) &&& 6148914691236517205)) &&& 3689348814741910323) + (((((y0 - ((((y0).toUInt64 >>> ((Int32.toInt64 (1 : Int32)).toUInt64 &&& Int64.toUInt64 63)).toInt64) &&& 6148914691236517205))).toUInt64 >>> ((Int32.toInt64 (2 : Int32)).toUInt64 &&& Int64.toUInt64 63)).toInt64) &&& 3689348814741910323)) + ((((((y0 - ((((y0).toUInt64 >>> ((Int32.toInt64 (1 : Int32)).toUInt64 &&& Int64.toUInt64 63)).toInt64) &&& 6148914691236517205)) &&& 3689348814741910323) + (((((y0 - ((((y0).toUInt64 >>> ((Int32.toInt64 (1 : Int32)).toUInt64 &&& Int64.toUInt64 63)).toInt64) &&& 6148914691236517205))).toUInt64 >>> ((Int32.toInt64 (2 : Int32)).toUInt64 &&& Int64.toUInt64 63)).toInt64) &&& 3689348814741910323))).toUInt64 >>> ((Int32.toInt64 (4 : Int32)).toUInt64 &&& Int64.toUInt64 63)).toInt64)) &&& 1085102592571150095)).toUInt64 >>> ((Int32.toInt64 (8 : Int32)).toUInt64 &&& Int64.toUInt64 63)).toInt64)) + (((((((((y0 - ((((y0).toUInt64 >>> ((Int32.toInt64 (1 : Int32)).toUInt64 &&& Int64.toUInt64 63)).toInt64) &&& 6148914691236517205)) &&& 3689348814741910323) + (((((y0 - ((((y0).toUInt64 >>> ((Int32.toInt64 (1 : Int32)).toUInt64 &&& Int64.toUInt64 63)).toInt64) &&& 6148914691236517205))).toUInt64 >>> ((Int32.toInt64 (2 : Int32)).toUInt64 &&& Int64.toUInt64 63)).toInt64) &&& 3689348814741910323)) + ((((((y0 - ((((y0).toUInt64 >>> ((Int32.toInt64 (1 : Int32)).toUInt64 &&& Int64.toUInt64 63)).toInt64) &&& 6148914691236517205)) &&& 3689348814741910323) + (((((y0 - ((((y0).toUInt64 >>> ((Int32.toInt64 (1 : Int32)).toUInt64 &&& Int64.toUInt64 63)).toInt64) &&& 6148914691236517205))).toUInt64 >>> ((Int32.toInt64 (2 : Int32)).toUInt64 &&& Int64.toUInt64 63)).toInt64) &&& 3689348814741910323))).toUInt64 >>> ((Int32.toInt64 (4 : Int32)).toUInt64 &&& Int64.toUInt64 63)).toInt64)) &&& 1085102592571150095) + ((((((((y0 - ((((y0).toUInt64 >>> ((Int32.toInt64 (1 : Int32)).toUInt64 &&& Int64.toUInt64 63)).toInt64) &&& 6148914691236517205)) &&& 3689348814741910323) + (((((y0 - ((((y0).toUInt64 >>> ((Int32.toInt64 (1 : Int32)).toUInt64 &&& Int64.toUInt64 63)).toInt64) &&& 6148914691236517205))).toUInt64 >>> ((Int32.toInt64 (2 : Int32)).toUInt64 &&& Int64.toUInt64 63)).toInt64) &&& 3689348814741910323)) + ((((((y0 - ((((y0).toUInt64 >>> ((Int32.toInt64 (1 : Int32)).toUInt64 &&& Int64.toUInt64 63)).toInt64) &&& 6148914691236517205)) &&& 3689348814741910323) + (((((y0 - ((((y0).toUInt64 >>> ((Int32.toInt64 (1 : Int32)).toUInt64 &&& Int64.toUInt64 63)).toInt64) &&& 6148914691236517205))).toUInt64 >>> ((Int32.toInt64 (2 : Int32)).toUInt64 &&& Int64.toUInt64 63)).toInt64) &&& 3689348814741910323))).toUInt64 >>> ((Int32.toInt64 (4 : Int32)).toUInt64 &&& Int64.toUInt64 63)).toInt64)) &&& 1085102592571150095)).toUInt64 >>> ((Int32.toInt64 (8 : Int32)).toUInt64 &&& Int64.toUInt64 63)).toInt64))).toUInt64 >>> ((Int32.toInt64 (16 : Int32)).toUInt64 &&& Int64.toUInt64 63)).toInt64)) + ((((((((((y0 - ((((y0).toUInt64 >>> ((Int32.toInt64 (1 : Int32)).toUInt64 &&& Int64.toUInt64 63)).toInt64) &&& 6148914691236517205)) &&& 3689348814741910323) + (((((y0 - ((((y0).toUInt64 >>> ((Int32.toInt64 (1 : Int32)).toUInt64 &&& Int64.toUInt64 63)).toInt64) &&& 6148914691236517205))).toUInt64 >>> ((Int32.toInt64 (2 : Int32)).toUInt64 &&& Int64.toUInt64 63)).toInt64) &&& 3689348814741910323)) + ((((((y0 - ((((y0).toUInt64 >>> ((Int32.toInt64 (1 : Int32)).toUInt64 &&& Int64.toUInt64 63)).toInt64) &&& 6148914691236517205)) &&& 3689348814741910323) + (((((y0 - ((((y0).toUInt64 >>> ((Int32.toInt64 (1 : Int32)).toUInt64 &&& Int64.toUInt64 63)).toInt64) &&& 6148914691236517205))).toUInt64 >>> ((Int32.toInt64 (2 : Int32)).toUInt64 &&& Int64.toUInt64 63)).toInt64) &&& 3689348814741910323))).toUInt64 >>> ((Int32.toInt64 (4 : Int32)).toUInt64 &&& Int64.toUInt64 63)).toInt64)) &&& 1085102592571150095) + ((((((((y0 - ((((y0).toUInt64 >>> ((Int32.toInt64 (1 : Int32)).toUInt64 &&& Int64.toUInt64 63)).toInt64) &&& 6148914691236517205)) &&& 3689348814741910323) + (((((y0 - ((((y0).toUInt64 >>> ((Int32.toInt64 (1 : Int32)).toUInt64 &&& Int64.toUInt64 63)).toInt64) &&& 6148914691236517205))).toUInt64 >>> ((Int32.toInt64 (2 : Int32)).toUInt64 &&& Int64.toUInt64 63)).toInt64) &&& 3689348814741910323)) + ((((((y0 - ((((y0).toUInt64 >>> ((Int32.toInt64 (1 : Int32)).toUInt64 &&& Int64.toUInt64 63)).toInt64) &&& 6148914691236517205)) &&& 3689348814741910323) + (((((y0 - ((((y0).toUInt64 >>> ((Int32.toInt64 (1 : Int32)).toUInt64 &&& Int64.toUInt64 63)).toInt64) &&& 6148914691236517205))).toUInt64 >>> ((Int32.toInt64 (2 : Int32)).toUInt64 &&& Int64.toUInt64 63)).toInt64) &&& 3689348814741910323))).toUInt64 >>> ((Int32.toInt64 (4 : Int32)).toUInt64 &&& Int64.toUInt64 63)).toInt64)) &&& 1085102592571150095)).toUInt64 >>> ((Int32.toInt64 (8 : Int32)).toUInt64 &&& Int64.toUInt64 63)).toInt64)) + (((((((((y0 - ((((y0).toUInt64 >>> ((Int32.toInt64 (1 : Int32)).toUInt64 &&& Int64.toUInt64 63)).toInt64) &&& 6148914691236517205)) &&& 3689348814741910323) + (((((y0 - ((((y0).toUInt64 >>> ((Int32.toInt64 (1 : Int32)).toUInt64 &&& Int64.toUInt64 63)).toInt64) &&& 6148914691236517205))).toUInt64 >>> ((Int32.toInt64 (2 : Int32)).toUInt64 &&& Int64.toUInt64 63)).toInt64) &&& 3689348814741910323)) + ((((((y0 - ((((y0).toUInt64 >>> ((Int32.toInt64 (1 : Int32)).toUInt64 &&& Int64.toUInt64 63)).toInt64) &&& 6148914691236517205)) &&& 3689348814741910323) + (((((y0 - ((((y0).toUInt64 >>> ((Int32.toInt64 (1 : Int32)).toUInt64 &&& Int64.toUInt64 63)).toInt64) &&& 6148914691236517205))).toUInt64 >>> ((Int32.toInt64 (2 : Int32)).toUInt64 &&& Int64.toUInt64 63)).toInt64) &&& 3689348814741910323))).toUInt64 >>> ((Int32.toInt64 (4 : Int32)).toUInt64 &&& Int64.toUInt64 63)).toInt64)) &&& 1085102592571150095) + ((((((((y0 - ((((y0).toUInt64 >>> ((Int32.toInt64 (1 : Int32)).toUInt64 &&& Int64.toUInt64 63)).toInt64) &&& 6148914691236517205)) &&& 3689348814741910323) + (((((y0 - ((((y0).toUInt64 >>> ((Int32.toInt64 (1 : Int32)).toUInt64 &&& Int64.toUInt64 63)).toInt64) &&& 6148914691236517205))).toUInt64 >>> ((Int32.toInt64 (2 : Int32)).toUInt64 &&& Int64.toUInt64 63)).toInt64) &&& 3689348814741910323)) + ((((((y0 - ((((y0).toUInt64 >>> ((Int32.toInt64 (1 : Int32)).toUInt64 &&& Int64.toUInt64 63)).toInt64) &&& 6148914691236517205)) &&& 3689348814741910323) + (((((y0 - ((((y0).toUInt64 >>> ((Int32.toInt64 (1 : Int32)).toUInt64 &&& Int64.toUInt64 63)).toInt64) &&& 6148914691236517205))).toUInt64 >>> ((Int32.toInt64 (2 : Int32)).toUInt64 &&& Int64.toUInt64 63)).toInt64) &&& 3689348814741910323))).toUInt64 >>> ((Int32.toInt64 (4 : Int32)).toUInt64 &&& Int64.toUInt64 63)).toInt64)) &&& 1085102592571150095)).toUInt64 >>> ((Int32.toInt64 (8 : Int32)).toUInt64 &&& Int64.toUInt64 63)).toInt64))).toUInt64 >>> ((Int32.toInt64 (16 : Int32)).toUInt64 &&& Int64.toUInt64 63)).toInt64))).toUInt64 >>> ((Int32.toInt64 (32 : Int32)).toUInt64 &&& Int64.toUInt64 63)).toInt64)))]) hx hb dJ13_bitCount_95d88_54 rfl hl (by decide) rfl (fun ls hl => ?_)
  refine lv_lload_n hx hb dJ13_bitCount_95d88_55 rfl (lv_at hl 0 rfl) ?_
  refine lv_l2i (v := (Int64.toInt32 ((((((((y0 - ((((y0).toUInt64 >>> ((Int32.toInt64 (1 : Int32)).toUInt64 &&& Int64.toUInt64 63)).toInt64) &&& 6148914691236517205)) &&& 3689348814741910323) + (((((y0 - ((((y0).toUInt64 >>> ((Int32.toInt64 (1 : Int32)).toUInt64 &&& Int64.toUInt64 63)).toInt64) &&& 6148914691236517205))).toUInt64 >>> ((Int32.toInt64 (2 : Int32)).toUInt64 &&& Int64.toUInt64 63)).toInt64) &&& 3689348814741910323)) + ((((((y0 - ((((y0).toUInt64 >>> ((Int32.toInt64 (1 : Int32)).toUInt64 &&& Int64.toUInt64 63)).toInt64) &&& 6148914691236517205)) &&& 3689348814741910323) + (((((y0 - ((((y0).toUInt64 >>> ((Int32.toInt64 (1 : Int32)).toUInt64 &&& Int64.toUInt64 63)).toInt64) &&& 6148914691236517205))).toUInt64 >>> ((Int32.toInt64 (2 : Int32)).toUInt64 &&& Int64.toUInt64 63)).toInt64) &&& 3689348814741910323))).toUInt64 >>> ((Int32.toInt64 (4 : Int32)).toUInt64 &&& Int64.toUInt64 63)).toInt64)) &&& 1085102592571150095) + ((((((((y0 - ((((y0).toUInt64 >>> ((Int32.toInt64 (1 : Int32)).toUInt64 &&& Int64.toUInt64 63)).toInt64) &&& 6148914691236517205)) &&& 3689348814741910323) + (((((y0 - ((((y0).toUInt64 >>> ((Int32.toInt64 (1 : Int32)).toUInt64 &&& Int64.toUInt64 63)).toInt64) &&& 6148914691236517205))).toUInt64 >>> ((Int32.toInt64 (2 : Int32)).toUInt64 &&& Int64.toUInt64 63)).toInt64) &&& 3689348814741910323)) + ((((((y0 - ((((y0).toUInt64 >>> ((Int32.toInt64 (1 : Int32)).toUInt64 &&& Int64.toUInt64 63)).toInt64) &&& 6148914691236517205)) &&& 3689348814741910323) + (((((y0 - ((((y0).toUInt64 >>> ((Int32.toInt64 (1 : Int32)).toUInt64 &&& Int64.toUInt64 63)).toInt64) &&& 6148914691236517205))).toUInt64 >>> ((Int32.toInt64 (2 : Int32)).toUInt64 &&& Int64.toUInt64 63)).toInt64) &&& 3689348814741910323))).toUInt64 >>> ((Int32.toInt64 (4 : Int32)).toUInt64 &&& Int64.toUInt64 63)).toInt64)) &&& 1085102592571150095)).toUInt64 >>> ((Int32.toInt64 (8 : Int32)).toUInt64 &&& Int64.toUInt64 63)).toInt64)) + (((((((((y0 - ((((y0).toUInt64 >>> ((Int32.toInt64 (1 : Int32)).toUInt64 &&& Int64.toUInt64 63)).toInt64) &&& 6148914691236517205)) &&& 3689348814741910323) + (((((y0 - ((((y0).toUInt64 >>> ((Int32.toInt64 (1 : Int32)).toUInt64 &&& Int64.toUInt64 63)).toInt64) &&& 6148914691236517205))).toUInt64 >>> ((Int32.toInt64 (2 : Int32)).toUInt64 &&& Int64.toUInt64 63)).toInt64) &&& 3689348814741910323)) + ((((((y0 - ((((y0).toUInt64 >>> ((Int32.toInt64 (1 : Int32)).toUInt64 &&& Int64.toUInt64 63)).toInt64) &&& 6148914691236517205)) &&& 3689348814741910323) + (((((y0 - ((((y0).toUInt64 >>> ((Int32.toInt64 (1 : Int32)).toUInt64 &&& Int64.toUInt64 63)).toInt64) &&& 6148914691236517205))).toUInt64 >>> ((Int32.toInt64 (2 : Int32)).toUInt64 &&& Int64.toUInt64 63)).toInt64) &&& 3689348814741910323))).toUInt64 >>> ((Int32.toInt64 (4 : Int32)).toUInt64 &&& Int64.toUInt64 63)).toInt64)) &&& 1085102592571150095) + ((((((((y0 - ((((y0).toUInt64 >>> ((Int32.toInt64 (1 : Int32)).toUInt64 &&& Int64.toUInt64 63)).toInt64) &&& 6148914691236517205)) &&& 3689348814741910323) + (((((y0 - ((((y0).toUInt64 >>> ((Int32.toInt64 (1 : Int32)).toUInt64 &&& Int64.toUInt64 63)).toInt64) &&& 6148914691236517205))).toUInt64 >>> ((Int32.toInt64 (2 : Int32)).toUInt64 &&& Int64.toUInt64 63)).toInt64) &&& 3689348814741910323)) + ((((((y0 - ((((y0).toUInt64 >>> ((Int32.toInt64 (1 : Int32)).toUInt64 &&& Int64.toUInt64 63)).toInt64) &&& 6148914691236517205)) &&& 3689348814741910323) + (((((y0 - ((((y0).toUInt64 >>> ((Int32.toInt64 (1 : Int32)).toUInt64 &&& Int64.toUInt64 63)).toInt64) &&& 6148914691236517205))).toUInt64 >>> ((Int32.toInt64 (2 : Int32)).toUInt64 &&& Int64.toUInt64 63)).toInt64) &&& 3689348814741910323))).toUInt64 >>> ((Int32.toInt64 (4 : Int32)).toUInt64 &&& Int64.toUInt64 63)).toInt64)) &&& 1085102592571150095)).toUInt64 >>> ((Int32.toInt64 (8 : Int32)).toUInt64 &&& Int64.toUInt64 63)).toInt64))).toUInt64 >>> ((Int32.toInt64 (16 : Int32)).toUInt64 &&& Int64.toUInt64 63)).toInt64)) + ((((((((((y0 - ((((y0).toUInt64 >>> ((Int32.toInt64 (1 : Int32)).toUInt64 &&& Int64.toUInt64 63)).toInt64) &&& 6148914691236517205)) &&& 3689348814741910323) + (((((y0 - ((((y0).toUInt64 >>> ((Int32.toInt64 (1 : Int32)).toUInt64 &&& Int64.toUInt64 63)).toInt64) &&& 6148914691236517205))).toUInt64 >>> ((Int32.toInt64 (2 : Int32)).toUInt64 &&& Int64.toUInt64 63)).toInt64) &&& 3689348814741910323)) + ((((((y0 - ((((y0).toUInt64 >>> ((Int32.toInt64 (1 : Int32)).toUInt64 &&& Int64.toUInt64 63)).toInt64) &&& 6148914691236517205)) &&& 3689348814741910323) + (((((y0 - ((((y0).toUInt64 >>> ((Int32.toInt64 (1 : Int32)).toUInt64 &&& Int64.toUInt64 63)).toInt64) &&& 6148914691236517205))).toUInt64 >>> ((Int32.toInt64 (2 : Int32)).toUInt64 &&& Int64.toUInt64 63)).toInt64) &&& 3689348814741910323))).toUInt64 >>> ((Int32.toInt64 (4 : Int32)).toUInt64 &&& Int64.toUInt64 63)).toInt64)) &&& 1085102592571150095) + ((((((((y0 - ((((y0).toUInt64 >>> ((Int32.toInt64 (1 : Int32)).toUInt64 &&& Int64.toUInt64 63)).toInt64) &&& 6148914691236517205)) &&& 3689348814741910323) + (((((y0 - ((((y0).toUInt64 >>> ((Int32.toInt64 (1 : Int32)).toUInt64 &&& Int64.toUInt64 63)).toInt64) &&& 6148914691236517205))).toUInt64 >>> ((Int32.toInt64 (2 : Int32)).toUInt64 &&& Int64.toUInt64 63)).toInt64) &&& 3689348814741910323)) + ((((((y0 - ((((y0).toUInt64 >>> ((Int32.toInt64 (1 : Int32)).toUInt64 &&& Int64.toUInt64 63)).toInt64) &&& 6148914691236517205)) &&& 3689348814741910323) + (((((y0 - ((((y0).toUInt64 >>> ((Int32.toInt64 (1 : Int32)).toUInt64 &&& Int64.toUInt64 63)).toInt64) &&& 6148914691236517205))).toUInt64 >>> ((Int32.toInt64 (2 : Int32)).toUInt64 &&& Int64.toUInt64 63)).toInt64) &&& 3689348814741910323))).toUInt64 >>> ((Int32.toInt64 (4 : Int32)).toUInt64 &&& Int64.toUInt64 63)).toInt64)) &&& 1085102592571150095)).toUInt64 >>> ((Int32.toInt64 (8 : Int32)).toUInt64 &&& Int64.toUInt64 63)).toInt64)) + (((((((((y0 - ((((y0).toUInt64 >>> ((Int32.toInt64 (1 : Int32)).toUInt64 &&& Int64.toUInt64 63)).toInt64) &&& 6148914691236517205)) &&& 3689348814741910323) + (((((y0 - ((((y0).toUInt64 >>> ((Int32.toInt64 (1 : Int32)).toUInt64 &&& Int64.toUInt64 63)).toInt64) &&& 6148914691236517205))).toUInt64 >>> ((Int32.toInt64 (2 : Int32)).toUInt64 &&& Int64.toUInt64 63)).toInt64) &&& 3689348814741910323)) + ((((((y0 - ((((y0).toUInt64 >>> ((Int32.toInt64 (1 : Int32)).toUInt64 &&& Int64.toUInt64 63)).toInt64) &&& 6148914691236517205)) &&& 3689348814741910323) + (((((y0 - ((((y0).toUInt64 >>> ((Int32.toInt64 (1 : Int32)).toUInt64 &&& Int64.toUInt64 63)).toInt64) &&& 6148914691236517205))).toUInt64 >>> ((Int32.toInt64 (2 : Int32)).toUInt64 &&& Int64.toUInt64 63)).toInt64) &&& 3689348814741910323))).toUInt64 >>> ((Int32.toInt64 (4 : Int32)).toUInt64 &&& Int64.toUInt64 63)).toInt64)) &&& 1085102592571150095) + ((((((((y0 - ((((y0).toUInt64 >>> ((Int32.toInt64 (1 : Int32)).toUInt64 &&& Int64.toUInt64 63)).toInt64) &&& 6148914691236517205)) &&& 3689348814741910323) + (((((y0 - ((((y0).toUInt64 >>> ((Int32.toInt64 (1 : Int32)).toUInt64 &&& Int64.toUInt64 63)).toInt64) &&& 6148914691236517205))).toUInt64 >>> ((Int32.toInt64 (2 : Int32)).toUInt64 &&& Int64.toUInt64 63)).toInt64) &&& 3689348814741910323)) + ((((((y0 - ((((y0).toUInt64 >>> ((Int32.toInt64 (1 : Int32)).toUInt64 &&& Int64.toUInt64 63)).toInt64) &&& 6148914691236517205)) &&& 3689348814741910323) + (((((y0 - ((((y0).toUInt64 >>> ((Int32.toInt64 (1 : Int32)).toUInt64 &&& Int64.toUInt64 63)).toInt64) &&& 6148914691236517205))).toUInt64 >>> ((Int32.toInt64 (2 : Int32)).toUInt64 &&& Int64.toUInt64 63)).toInt64) &&& 3689348814741910323))).toUInt64 >>> ((Int32.toInt64 (4 : Int32)).toUInt64 &&& Int64.toUInt64 63)).toInt64)) &&& 1085102592571150095)).toUInt64 >>> ((Int32.toInt64 (8 : Int32)).toUInt64 &&& Int64.toUInt64 63)).toInt64))).toUInt64 >>> ((Int32.toInt64 (16 : Int32)).toUInt64 &&& Int64.toUInt64 63)).toInt64))).toUInt64 >>> ((Int32.toInt64 (32 : Int32)).toUInt64 &&& Int64.toUInt64 63)).toInt64)))) hx hb dJ13_bitCount_95d88_56 rfl ?_
  refine lv_bipush (v := 127) hx hb dJ13_bitCount_95d88_57 (by decide) ?_
  refine lv_iand hx hb dJ13_bitCount_95d88_59 ?_
  exact rd_iret hx hb hr hk h dJ13_bitCount_95d88_60

def wp_X0_wornCount (post : Int32 → Prop) (s0 : Bd) (x1 : Int32) : Prop := vp_in x1 40 ∧ wp_J13_bitCount_95d88 (fun r_2 => post r_2) (s0.2.2.1 (Int32.toNatClampNeg x1))
set_option maxHeartbeats 4000000 in
set_option maxRecDepth 100000 in
theorem c2_X0_wornCount {l : Launch} {D : va_G} {q : Nat → ClassId} {a0 : Nat → Nat} {s0 : Bd} {x1 : Int32} {post : Int32 → Prop} (h : wp_X0_wornCount post s0 x1) : Met l yX0_wornCount (Cond.code yX0_wornCount cX0_wornCount 2 (some .int) :: w_all) ({ frames := 1, cells := 0, slots := 0, locals := 21 } : Room) (rd_P D q [.ref (a0 0), .int x1] (bd_w a0 q s0)) (vp_Si post) 0 0 (fun _ => False) := by
  refine rd_start (by decide) (Nat.le_of_ble_eq_true rfl) ?_
  intro p e s m below meth c ls hx hb hr hml hown ht hk hP hQ hV hl
  have hK := hQ.1
  have hown : s.vm.findClass RX0 = some m.cls := hown
  have hl : lv_has ls 2 [(0, .ref (a0 0)), (1, .int x1)] := hl
  have hP : va_P D vwCl [((a0 0), .inr (0, [.int (s0.1 0), .int (s0.1 1), .int (s0.1 2), .int (s0.1 3), .int (s0.1 4), .int (s0.1 5), .ref (a0 1), .ref (a0 2), .ref (a0 3), .ref (a0 4), .ref (a0 5), .ref (a0 6), .ref (a0 7), .ref (a0 8), .ref (a0 9), .ref (a0 10), .ref (a0 11), .ref (a0 12)])), ((a0 1), .inl (q 0, 4, .inl (s0.2.1 0))), ((a0 2), .inl (q 0, 4, .inl (s0.2.1 1))), ((a0 3), .inl (q 0, 160, .inl (s0.2.1 2))), ((a0 4), .inl (q 0, 40, .inl (s0.2.1 3))), ((a0 5), .inl (q 0, 40, .inl (s0.2.1 4))), ((a0 6), .inl (q 0, 40, .inl (s0.2.1 5))), ((a0 7), .inl (q 0, 40, .inl (s0.2.1 6))), ((a0 8), .inl (q 0, 40, .inl (s0.2.1 7))), ((a0 9), .inl (q 0, 40, .inl (s0.2.1 8))), ((a0 10), .inl (q 0, 40, .inl (s0.2.1 9))), ((a0 11), .inl (q 1, 40, .inr (.inl s0.2.2.1))), ((a0 12), .inl (q 0, s0.2.2.2.1, .inl s0.2.2.2.2))] s.heap := hP
  unfold wp_X0_wornCount at h
  refine lv_aload_n hx hb dX0_wornCount_0 rfl (lv_at hl 0 rfl) ?_
  refine fl_get (C := RX0) (T := TX0) (N := 18) (ci := 0) (v := .ref (a0 11)) hx hb ht in_X0 hown hK hP 0 rfl rfl 16 (by decide) mw_206 rfl dX0_wornCount_1 ?_
  refine lv_iload_n hx hb dX0_wornCount_4 rfl (lv_at hl 1 rfl) ?_
  obtain ⟨g_1, h⟩ := h
  refine va_lald hx hb hK hP 11 1 rfl rfl g_1 dX0_wornCount_5 ?_
  refine vp_callSi (rd_wS (wc := ([] : va_W)) (As := [.long (s0.2.2.1 (Int32.toNatClampNeg x1))]) (rest := []) hx hb hml hown ht (c2_J13_bitCount_95d88 h) wd_J13_bitCount_95d88 mw_746 hQ hV va_S.rf (hP.sub [] rfl) rfl hl.1 rfl (Nat.le_of_ble_eq_true rfl) dX0_wornCount_6 ⟨Nat.le_of_ble_eq_true rfl, Nat.le_of_ble_eq_true rfl, rfl, rfl⟩ ⟨Nat.le_of_ble_eq_true rfl, Nat.le_of_ble_eq_true rfl⟩) (fun r_2 h => ?_)
  try dsimp only at h
  exact rd_iret hx hb hr hk h dX0_wornCount_9

def wp_X0_wearFlap (post : Bd → Prop) (s0 : Bd) (x1 : Int32) (x2 : Int32) : Prop := vp_in x1 40 ∧ vp_in x1 40 ∧ vp_in x1 40 ∧ ((¬ ((s0.2.1 6) (Int32.toNatClampNeg x1)) = x2 → post (s0.1, s0.2.1, (vp_updL s0.2.2.1 (Int32.toNatClampNeg x1) ((s0.2.2.1 (Int32.toNatClampNeg x1)) ||| ((1 : Int64) <<< (Int32.toInt64 x2 &&& 63)))), s0.2.2.2.1, s0.2.2.2.2)) ∧ (((s0.2.1 6) (Int32.toNatClampNeg x1)) = x2 → vp_in x1 40 ∧ post (s0.1, (va_up s0.2.1 6 (upd (s0.2.1 6) (Int32.toNatClampNeg x1) 0)), (vp_updL s0.2.2.1 (Int32.toNatClampNeg x1) ((s0.2.2.1 (Int32.toNatClampNeg x1)) ||| ((1 : Int64) <<< (Int32.toInt64 x2 &&& 63)))), s0.2.2.2.1, s0.2.2.2.2)))
set_option maxHeartbeats 4000000 in
set_option maxRecDepth 100000 in
theorem c2_X0_wearFlap {l : Launch} {D : va_G} {q : Nat → ClassId} {sz : Nat} {a0 : Nat → Nat} {s0 : Bd} {x1 : Int32} {x2 : Int32} {post : Bd → Prop} (h : wp_X0_wearFlap post s0 x1 x2) : Met l yX0_wearFlap (Cond.code yX0_wearFlap cX0_wearFlap 3 none :: w_all) ({ frames := 0, cells := 0, slots := 0, locals := 0 } : Room) (mt_P D q [.ref (a0 0), .int x1, .int x2] (bd_w a0 q s0) sz) (va_Qv (fun u : Bd => post u) (mt_B D (bd_w a0 q s0) sz (fun u : Bd => bd_w a0 q u)) (va_A (bd_w a0 q s0) sz)) 0 0 (va_A (bd_w a0 q s0) sz) := by
  refine mt_start (by decide) (Nat.le_of_ble_eq_true rfl) ?_
  intro p e s m below meth c ls hx hb hr hml hown ht hk hin hP hQ hD hA hS hV hl
  have hK := hQ.1
  have hown : s.vm.findClass RX0 = some m.cls := hown
  have hl : lv_has ls 3 [(0, .ref (a0 0)), (1, .int x1), (2, .int x2)] := hl
  have hP : va_P D vwCl [((a0 0), .inr (0, [.int (s0.1 0), .int (s0.1 1), .int (s0.1 2), .int (s0.1 3), .int (s0.1 4), .int (s0.1 5), .ref (a0 1), .ref (a0 2), .ref (a0 3), .ref (a0 4), .ref (a0 5), .ref (a0 6), .ref (a0 7), .ref (a0 8), .ref (a0 9), .ref (a0 10), .ref (a0 11), .ref (a0 12)])), ((a0 1), .inl (q 0, 4, .inl (s0.2.1 0))), ((a0 2), .inl (q 0, 4, .inl (s0.2.1 1))), ((a0 3), .inl (q 0, 160, .inl (s0.2.1 2))), ((a0 4), .inl (q 0, 40, .inl (s0.2.1 3))), ((a0 5), .inl (q 0, 40, .inl (s0.2.1 4))), ((a0 6), .inl (q 0, 40, .inl (s0.2.1 5))), ((a0 7), .inl (q 0, 40, .inl (s0.2.1 6))), ((a0 8), .inl (q 0, 40, .inl (s0.2.1 7))), ((a0 9), .inl (q 0, 40, .inl (s0.2.1 8))), ((a0 10), .inl (q 0, 40, .inl (s0.2.1 9))), ((a0 11), .inl (q 1, 40, .inr (.inl s0.2.2.1))), ((a0 12), .inl (q 0, s0.2.2.2.1, .inl s0.2.2.2.2))] s.heap := hP
  have hD : va_D _ [((a0 0), .inr (0, [.int (s0.1 0), .int (s0.1 1), .int (s0.1 2), .int (s0.1 3), .int (s0.1 4), .int (s0.1 5), .ref (a0 1), .ref (a0 2), .ref (a0 3), .ref (a0 4), .ref (a0 5), .ref (a0 6), .ref (a0 7), .ref (a0 8), .ref (a0 9), .ref (a0 10), .ref (a0 11), .ref (a0 12)])), ((a0 1), .inl (q 0, 4, .inl (s0.2.1 0))), ((a0 2), .inl (q 0, 4, .inl (s0.2.1 1))), ((a0 3), .inl (q 0, 160, .inl (s0.2.1 2))), ((a0 4), .inl (q 0, 40, .inl (s0.2.1 3))), ((a0 5), .inl (q 0, 40, .inl (s0.2.1 4))), ((a0 6), .inl (q 0, 40, .inl (s0.2.1 5))), ((a0 7), .inl (q 0, 40, .inl (s0.2.1 6))), ((a0 8), .inl (q 0, 40, .inl (s0.2.1 7))), ((a0 9), .inl (q 0, 40, .inl (s0.2.1 8))), ((a0 10), .inl (q 0, 40, .inl (s0.2.1 9))), ((a0 11), .inl (q 1, 40, .inr (.inl s0.2.2.1))), ((a0 12), .inl (q 0, s0.2.2.2.1, .inl s0.2.2.2.2))] := hD
  unfold wp_X0_wearFlap at h
  refine lv_aload_n hx hb dX0_wearFlap_0 rfl (lv_at hl 0 rfl) ?_
  refine fl_get (C := RX0) (T := TX0) (N := 18) (ci := 0) (v := .ref (a0 11)) hx hb ht in_X0 hown hK hP 0 rfl rfl 16 (by decide) mw_206 rfl dX0_wearFlap_1 ?_
  refine lv_iload_n hx hb dX0_wearFlap_4 rfl (lv_at hl 1 rfl) ?_
  refine lv_dup2_11 hx hb dX0_wearFlap_5 rfl rfl ?_
  obtain ⟨g_1, h⟩ := h
  refine va_lald hx hb hK hP 11 1 rfl rfl g_1 dX0_wearFlap_6 ?_
  refine lv_lconst (v := 1) hx hb dX0_wearFlap_7 (by decide) ?_
  refine lv_iload_n hx hb dX0_wearFlap_8 rfl (lv_at hl 2 rfl) ?_
  refine lv_lshl (v := ((1 : Int64) <<< (Int32.toInt64 x2 &&& 63))) hx hb dX0_wearFlap_9 rfl ?_
  refine lv_lor hx hb dX0_wearFlap_10 ?_
  obtain ⟨g_2, h⟩ := h
  refine va_last hx hb hK hP hD hS 11 1 rfl rfl g_2 dX0_wearFlap_11 (fun H locs hP hD hS => ?_)
  have hP : va_P D vwCl [((a0 0), .inr (0, [.int (s0.1 0), .int (s0.1 1), .int (s0.1 2), .int (s0.1 3), .int (s0.1 4), .int (s0.1 5), .ref (a0 1), .ref (a0 2), .ref (a0 3), .ref (a0 4), .ref (a0 5), .ref (a0 6), .ref (a0 7), .ref (a0 8), .ref (a0 9), .ref (a0 10), .ref (a0 11), .ref (a0 12)])), ((a0 1), .inl (q 0, 4, .inl (s0.2.1 0))), ((a0 2), .inl (q 0, 4, .inl (s0.2.1 1))), ((a0 3), .inl (q 0, 160, .inl (s0.2.1 2))), ((a0 4), .inl (q 0, 40, .inl (s0.2.1 3))), ((a0 5), .inl (q 0, 40, .inl (s0.2.1 4))), ((a0 6), .inl (q 0, 40, .inl (s0.2.1 5))), ((a0 7), .inl (q 0, 40, .inl (s0.2.1 6))), ((a0 8), .inl (q 0, 40, .inl (s0.2.1 7))), ((a0 9), .inl (q 0, 40, .inl (s0.2.1 8))), ((a0 10), .inl (q 0, 40, .inl (s0.2.1 9))), ((a0 11), .inl (q 1, 40, .inr (.inl (vp_updL s0.2.2.1 (Int32.toNatClampNeg x1) ((s0.2.2.1 (Int32.toNatClampNeg x1)) ||| ((1 : Int64) <<< (Int32.toInt64 x2 &&& 63))))))), ((a0 12), .inl (q 0, s0.2.2.2.1, .inl s0.2.2.2.2))] H := hP
  have hD : va_D _ [((a0 0), .inr (0, [.int (s0.1 0), .int (s0.1 1), .int (s0.1 2), .int (s0.1 3), .int (s0.1 4), .int (s0.1 5), .ref (a0 1), .ref (a0 2), .ref (a0 3), .ref (a0 4), .ref (a0 5), .ref (a0 6), .ref (a0 7), .ref (a0 8), .ref (a0 9), .ref (a0 10), .ref (a0 11), .ref (a0 12)])), ((a0 1), .inl (q 0, 4, .inl (s0.2.1 0))), ((a0 2), .inl (q 0, 4, .inl (s0.2.1 1))), ((a0 3), .inl (q 0, 160, .inl (s0.2.1 2))), ((a0 4), .inl (q 0, 40, .inl (s0.2.1 3))), ((a0 5), .inl (q 0, 40, .inl (s0.2.1 4))), ((a0 6), .inl (q 0, 40, .inl (s0.2.1 5))), ((a0 7), .inl (q 0, 40, .inl (s0.2.1 6))), ((a0 8), .inl (q 0, 40, .inl (s0.2.1 7))), ((a0 9), .inl (q 0, 40, .inl (s0.2.1 8))), ((a0 10), .inl (q 0, 40, .inl (s0.2.1 9))), ((a0 11), .inl (q 1, 40, .inr (.inl (vp_updL s0.2.2.1 (Int32.toNatClampNeg x1) ((s0.2.2.1 (Int32.toNatClampNeg x1)) ||| ((1 : Int64) <<< (Int32.toInt64 x2 &&& 63))))))), ((a0 12), .inl (q 0, s0.2.2.2.1, .inl s0.2.2.2.2))] := hD
  refine lv_aload_n hx hb dX0_wearFlap_12 rfl (lv_at hl 0 rfl) ?_
  refine fl_get (C := RX0) (T := TX0) (N := 18) (ci := 0) (v := .ref (a0 7)) hx hb ht in_X0 hown hK hP 0 rfl rfl 12 (by decide) mw_198 rfl dX0_wearFlap_13 ?_
  refine lv_iload_n hx hb dX0_wearFlap_16 rfl (lv_at hl 1 rfl) ?_
  obtain ⟨g_3, h⟩ := h
  refine va_iald hx hb hK hP 7 0 rfl rfl g_3 dX0_wearFlap_17 ?_
  refine lv_iload_n hx hb dX0_wearFlap_18 rfl (lv_at hl 2 rfl) ?_
  refine lv_icmp_ne (tgt := 29) hx hb dX0_wearFlap_19 (by decide) (fun c_4 => ?_) (fun c_4 => ?_)
  · replace h := h.1 c_4
    exact mt_vret (s0.1, s0.2.1, (vp_updL s0.2.2.1 (Int32.toNatClampNeg x1) ((s0.2.2.1 (Int32.toNatClampNeg x1)) ||| ((1 : Int64) <<< (Int32.toInt64 x2 &&& 63)))), s0.2.2.2.1, s0.2.2.2.2) hx hb hr hk h (hP.sub (ws' := bd_w a0 q (s0.1, s0.2.1, (vp_updL s0.2.2.1 (Int32.toNatClampNeg x1) ((s0.2.2.1 (Int32.toNatClampNeg x1)) ||| ((1 : Int64) <<< (Int32.toInt64 x2 &&& 63)))), s0.2.2.2.1, s0.2.2.2.2)) [0, 1, 2, 3, 4, 5, 6, 7, 8, 9, 10, 11, 12] rfl) (hD.sub (ws' := bd_w a0 q (s0.1, s0.2.1, (vp_updL s0.2.2.1 (Int32.toNatClampNeg x1) ((s0.2.2.1 (Int32.toNatClampNeg x1)) ||| ((1 : Int64) <<< (Int32.toInt64 x2 &&& 63)))), s0.2.2.2.1, s0.2.2.2.2)) [0, 1, 2, 3, 4, 5, 6, 7, 8, 9, 10, 11, 12] (by decide) rfl) hS dX0_wearFlap_29
  · replace h := h.2 c_4
    refine lv_aload_n hx hb dX0_wearFlap_22 rfl (lv_at hl 0 rfl) ?_
    refine fl_get (C := RX0) (T := TX0) (N := 18) (ci := 0) (v := .ref (a0 7)) hx hb ht in_X0 hown hK hP 0 rfl rfl 12 (by decide) mw_198 rfl dX0_wearFlap_23 ?_
    refine lv_iload_n hx hb dX0_wearFlap_26 rfl (lv_at hl 1 rfl) ?_
    refine lv_iconst (v := 0) hx hb dX0_wearFlap_27 (by decide) ?_
    obtain ⟨g_5, h⟩ := h
    refine va_iast hx hb hK hP hD hS 7 0 rfl rfl g_5 dX0_wearFlap_28 (fun H locs hP hD hS => ?_)
    have hP : va_P D vwCl [((a0 0), .inr (0, [.int (s0.1 0), .int (s0.1 1), .int (s0.1 2), .int (s0.1 3), .int (s0.1 4), .int (s0.1 5), .ref (a0 1), .ref (a0 2), .ref (a0 3), .ref (a0 4), .ref (a0 5), .ref (a0 6), .ref (a0 7), .ref (a0 8), .ref (a0 9), .ref (a0 10), .ref (a0 11), .ref (a0 12)])), ((a0 1), .inl (q 0, 4, .inl (s0.2.1 0))), ((a0 2), .inl (q 0, 4, .inl (s0.2.1 1))), ((a0 3), .inl (q 0, 160, .inl (s0.2.1 2))), ((a0 4), .inl (q 0, 40, .inl (s0.2.1 3))), ((a0 5), .inl (q 0, 40, .inl (s0.2.1 4))), ((a0 6), .inl (q 0, 40, .inl (s0.2.1 5))), ((a0 7), .inl (q 0, 40, .inl (upd (s0.2.1 6) (Int32.toNatClampNeg x1) 0))), ((a0 8), .inl (q 0, 40, .inl (s0.2.1 7))), ((a0 9), .inl (q 0, 40, .inl (s0.2.1 8))), ((a0 10), .inl (q 0, 40, .inl (s0.2.1 9))), ((a0 11), .inl (q 1, 40, .inr (.inl (vp_updL s0.2.2.1 (Int32.toNatClampNeg x1) ((s0.2.2.1 (Int32.toNatClampNeg x1)) ||| ((1 : Int64) <<< (Int32.toInt64 x2 &&& 63))))))), ((a0 12), .inl (q 0, s0.2.2.2.1, .inl s0.2.2.2.2))] H := hP
    have hD : va_D _ [((a0 0), .inr (0, [.int (s0.1 0), .int (s0.1 1), .int (s0.1 2), .int (s0.1 3), .int (s0.1 4), .int (s0.1 5), .ref (a0 1), .ref (a0 2), .ref (a0 3), .ref (a0 4), .ref (a0 5), .ref (a0 6), .ref (a0 7), .ref (a0 8), .ref (a0 9), .ref (a0 10), .ref (a0 11), .ref (a0 12)])), ((a0 1), .inl (q 0, 4, .inl (s0.2.1 0))), ((a0 2), .inl (q 0, 4, .inl (s0.2.1 1))), ((a0 3), .inl (q 0, 160, .inl (s0.2.1 2))), ((a0 4), .inl (q 0, 40, .inl (s0.2.1 3))), ((a0 5), .inl (q 0, 40, .inl (s0.2.1 4))), ((a0 6), .inl (q 0, 40, .inl (s0.2.1 5))), ((a0 7), .inl (q 0, 40, .inl (upd (s0.2.1 6) (Int32.toNatClampNeg x1) 0))), ((a0 8), .inl (q 0, 40, .inl (s0.2.1 7))), ((a0 9), .inl (q 0, 40, .inl (s0.2.1 8))), ((a0 10), .inl (q 0, 40, .inl (s0.2.1 9))), ((a0 11), .inl (q 1, 40, .inr (.inl (vp_updL s0.2.2.1 (Int32.toNatClampNeg x1) ((s0.2.2.1 (Int32.toNatClampNeg x1)) ||| ((1 : Int64) <<< (Int32.toInt64 x2 &&& 63))))))), ((a0 12), .inl (q 0, s0.2.2.2.1, .inl s0.2.2.2.2))] := hD
    exact mt_vret (s0.1, (va_up s0.2.1 6 (upd (s0.2.1 6) (Int32.toNatClampNeg x1) 0)), (vp_updL s0.2.2.1 (Int32.toNatClampNeg x1) ((s0.2.2.1 (Int32.toNatClampNeg x1)) ||| ((1 : Int64) <<< (Int32.toInt64 x2 &&& 63)))), s0.2.2.2.1, s0.2.2.2.2) hx hb hr hk h (hP.sub (ws' := bd_w a0 q (s0.1, (va_up s0.2.1 6 (upd (s0.2.1 6) (Int32.toNatClampNeg x1) 0)), (vp_updL s0.2.2.1 (Int32.toNatClampNeg x1) ((s0.2.2.1 (Int32.toNatClampNeg x1)) ||| ((1 : Int64) <<< (Int32.toInt64 x2 &&& 63)))), s0.2.2.2.1, s0.2.2.2.2)) [0, 1, 2, 3, 4, 5, 6, 7, 8, 9, 10, 11, 12] rfl) (hD.sub (ws' := bd_w a0 q (s0.1, (va_up s0.2.1 6 (upd (s0.2.1 6) (Int32.toNatClampNeg x1) 0)), (vp_updL s0.2.2.1 (Int32.toNatClampNeg x1) ((s0.2.2.1 (Int32.toNatClampNeg x1)) ||| ((1 : Int64) <<< (Int32.toInt64 x2 &&& 63)))), s0.2.2.2.1, s0.2.2.2.2)) [0, 1, 2, 3, 4, 5, 6, 7, 8, 9, 10, 11, 12] (by decide) rfl) hS dX0_wearFlap_29

def wp_X0_mendFlap (post : Bd → Prop) (s0 : Bd) (x1 : Int32) (x2 : Int32) : Prop := vp_in x1 40 ∧ vp_in x1 40 ∧ post (s0.1, s0.2.1, (vp_updL s0.2.2.1 (Int32.toNatClampNeg x1) ((s0.2.2.1 (Int32.toNatClampNeg x1)) &&& (((1 : Int64) <<< (Int32.toInt64 x2 &&& 63)) ^^^ (-1)))), s0.2.2.2.1, s0.2.2.2.2)
set_option maxHeartbeats 4000000 in
set_option maxRecDepth 100000 in
theorem c2_X0_mendFlap {l : Launch} {D : va_G} {q : Nat → ClassId} {sz : Nat} {a0 : Nat → Nat} {s0 : Bd} {x1 : Int32} {x2 : Int32} {post : Bd → Prop} (h : wp_X0_mendFlap post s0 x1 x2) : Met l yX0_mendFlap (Cond.code yX0_mendFlap cX0_mendFlap 3 none :: w_all) ({ frames := 0, cells := 0, slots := 0, locals := 0 } : Room) (mt_P D q [.ref (a0 0), .int x1, .int x2] (bd_w a0 q s0) sz) (va_Qv (fun u : Bd => post u) (mt_B D (bd_w a0 q s0) sz (fun u : Bd => bd_w a0 q u)) (va_A (bd_w a0 q s0) sz)) 0 0 (va_A (bd_w a0 q s0) sz) := by
  refine mt_start (by decide) (Nat.le_of_ble_eq_true rfl) ?_
  intro p e s m below meth c ls hx hb hr hml hown ht hk hin hP hQ hD hA hS hV hl
  have hK := hQ.1
  have hown : s.vm.findClass RX0 = some m.cls := hown
  have hl : lv_has ls 3 [(0, .ref (a0 0)), (1, .int x1), (2, .int x2)] := hl
  have hP : va_P D vwCl [((a0 0), .inr (0, [.int (s0.1 0), .int (s0.1 1), .int (s0.1 2), .int (s0.1 3), .int (s0.1 4), .int (s0.1 5), .ref (a0 1), .ref (a0 2), .ref (a0 3), .ref (a0 4), .ref (a0 5), .ref (a0 6), .ref (a0 7), .ref (a0 8), .ref (a0 9), .ref (a0 10), .ref (a0 11), .ref (a0 12)])), ((a0 1), .inl (q 0, 4, .inl (s0.2.1 0))), ((a0 2), .inl (q 0, 4, .inl (s0.2.1 1))), ((a0 3), .inl (q 0, 160, .inl (s0.2.1 2))), ((a0 4), .inl (q 0, 40, .inl (s0.2.1 3))), ((a0 5), .inl (q 0, 40, .inl (s0.2.1 4))), ((a0 6), .inl (q 0, 40, .inl (s0.2.1 5))), ((a0 7), .inl (q 0, 40, .inl (s0.2.1 6))), ((a0 8), .inl (q 0, 40, .inl (s0.2.1 7))), ((a0 9), .inl (q 0, 40, .inl (s0.2.1 8))), ((a0 10), .inl (q 0, 40, .inl (s0.2.1 9))), ((a0 11), .inl (q 1, 40, .inr (.inl s0.2.2.1))), ((a0 12), .inl (q 0, s0.2.2.2.1, .inl s0.2.2.2.2))] s.heap := hP
  have hD : va_D _ [((a0 0), .inr (0, [.int (s0.1 0), .int (s0.1 1), .int (s0.1 2), .int (s0.1 3), .int (s0.1 4), .int (s0.1 5), .ref (a0 1), .ref (a0 2), .ref (a0 3), .ref (a0 4), .ref (a0 5), .ref (a0 6), .ref (a0 7), .ref (a0 8), .ref (a0 9), .ref (a0 10), .ref (a0 11), .ref (a0 12)])), ((a0 1), .inl (q 0, 4, .inl (s0.2.1 0))), ((a0 2), .inl (q 0, 4, .inl (s0.2.1 1))), ((a0 3), .inl (q 0, 160, .inl (s0.2.1 2))), ((a0 4), .inl (q 0, 40, .inl (s0.2.1 3))), ((a0 5), .inl (q 0, 40, .inl (s0.2.1 4))), ((a0 6), .inl (q 0, 40, .inl (s0.2.1 5))), ((a0 7), .inl (q 0, 40, .inl (s0.2.1 6))), ((a0 8), .inl (q 0, 40, .inl (s0.2.1 7))), ((a0 9), .inl (q 0, 40, .inl (s0.2.1 8))), ((a0 10), .inl (q 0, 40, .inl (s0.2.1 9))), ((a0 11), .inl (q 1, 40, .inr (.inl s0.2.2.1))), ((a0 12), .inl (q 0, s0.2.2.2.1, .inl s0.2.2.2.2))] := hD
  unfold wp_X0_mendFlap at h
  refine lv_aload_n hx hb dX0_mendFlap_0 rfl (lv_at hl 0 rfl) ?_
  refine fl_get (C := RX0) (T := TX0) (N := 18) (ci := 0) (v := .ref (a0 11)) hx hb ht in_X0 hown hK hP 0 rfl rfl 16 (by decide) mw_206 rfl dX0_mendFlap_1 ?_
  refine lv_iload_n hx hb dX0_mendFlap_4 rfl (lv_at hl 1 rfl) ?_
  refine lv_dup2_11 hx hb dX0_mendFlap_5 rfl rfl ?_
  obtain ⟨g_1, h⟩ := h
  refine va_lald hx hb hK hP 11 1 rfl rfl g_1 dX0_mendFlap_6 ?_
  refine lv_lconst (v := 1) hx hb dX0_mendFlap_7 (by decide) ?_
  refine lv_iload_n hx hb dX0_mendFlap_8 rfl (lv_at hl 2 rfl) ?_
  refine lv_lshl (v := ((1 : Int64) <<< (Int32.toInt64 x2 &&& 63))) hx hb dX0_mendFlap_9 rfl ?_
  refine lv_ldc2 (v := (-1)) hx hb hown (ht _ mw_576) dX0_mendFlap_10 ?_
  refine lv_lxor hx hb dX0_mendFlap_13 ?_
  refine lv_land hx hb dX0_mendFlap_14 ?_
  obtain ⟨g_2, h⟩ := h
  refine va_last hx hb hK hP hD hS 11 1 rfl rfl g_2 dX0_mendFlap_15 (fun H locs hP hD hS => ?_)
  have hP : va_P D vwCl [((a0 0), .inr (0, [.int (s0.1 0), .int (s0.1 1), .int (s0.1 2), .int (s0.1 3), .int (s0.1 4), .int (s0.1 5), .ref (a0 1), .ref (a0 2), .ref (a0 3), .ref (a0 4), .ref (a0 5), .ref (a0 6), .ref (a0 7), .ref (a0 8), .ref (a0 9), .ref (a0 10), .ref (a0 11), .ref (a0 12)])), ((a0 1), .inl (q 0, 4, .inl (s0.2.1 0))), ((a0 2), .inl (q 0, 4, .inl (s0.2.1 1))), ((a0 3), .inl (q 0, 160, .inl (s0.2.1 2))), ((a0 4), .inl (q 0, 40, .inl (s0.2.1 3))), ((a0 5), .inl (q 0, 40, .inl (s0.2.1 4))), ((a0 6), .inl (q 0, 40, .inl (s0.2.1 5))), ((a0 7), .inl (q 0, 40, .inl (s0.2.1 6))), ((a0 8), .inl (q 0, 40, .inl (s0.2.1 7))), ((a0 9), .inl (q 0, 40, .inl (s0.2.1 8))), ((a0 10), .inl (q 0, 40, .inl (s0.2.1 9))), ((a0 11), .inl (q 1, 40, .inr (.inl (vp_updL s0.2.2.1 (Int32.toNatClampNeg x1) ((s0.2.2.1 (Int32.toNatClampNeg x1)) &&& (((1 : Int64) <<< (Int32.toInt64 x2 &&& 63)) ^^^ (-1))))))), ((a0 12), .inl (q 0, s0.2.2.2.1, .inl s0.2.2.2.2))] H := hP
  have hD : va_D _ [((a0 0), .inr (0, [.int (s0.1 0), .int (s0.1 1), .int (s0.1 2), .int (s0.1 3), .int (s0.1 4), .int (s0.1 5), .ref (a0 1), .ref (a0 2), .ref (a0 3), .ref (a0 4), .ref (a0 5), .ref (a0 6), .ref (a0 7), .ref (a0 8), .ref (a0 9), .ref (a0 10), .ref (a0 11), .ref (a0 12)])), ((a0 1), .inl (q 0, 4, .inl (s0.2.1 0))), ((a0 2), .inl (q 0, 4, .inl (s0.2.1 1))), ((a0 3), .inl (q 0, 160, .inl (s0.2.1 2))), ((a0 4), .inl (q 0, 40, .inl (s0.2.1 3))), ((a0 5), .inl (q 0, 40, .inl (s0.2.1 4))), ((a0 6), .inl (q 0, 40, .inl (s0.2.1 5))), ((a0 7), .inl (q 0, 40, .inl (s0.2.1 6))), ((a0 8), .inl (q 0, 40, .inl (s0.2.1 7))), ((a0 9), .inl (q 0, 40, .inl (s0.2.1 8))), ((a0 10), .inl (q 0, 40, .inl (s0.2.1 9))), ((a0 11), .inl (q 1, 40, .inr (.inl (vp_updL s0.2.2.1 (Int32.toNatClampNeg x1) ((s0.2.2.1 (Int32.toNatClampNeg x1)) &&& (((1 : Int64) <<< (Int32.toInt64 x2 &&& 63)) ^^^ (-1))))))), ((a0 12), .inl (q 0, s0.2.2.2.1, .inl s0.2.2.2.2))] := hD
  exact mt_vret (s0.1, s0.2.1, (vp_updL s0.2.2.1 (Int32.toNatClampNeg x1) ((s0.2.2.1 (Int32.toNatClampNeg x1)) &&& (((1 : Int64) <<< (Int32.toInt64 x2 &&& 63)) ^^^ (-1)))), s0.2.2.2.1, s0.2.2.2.2) hx hb hr hk h (hP.sub (ws' := bd_w a0 q (s0.1, s0.2.1, (vp_updL s0.2.2.1 (Int32.toNatClampNeg x1) ((s0.2.2.1 (Int32.toNatClampNeg x1)) &&& (((1 : Int64) <<< (Int32.toInt64 x2 &&& 63)) ^^^ (-1)))), s0.2.2.2.1, s0.2.2.2.2)) [0, 1, 2, 3, 4, 5, 6, 7, 8, 9, 10, 11, 12] rfl) (hD.sub (ws' := bd_w a0 q (s0.1, s0.2.1, (vp_updL s0.2.2.1 (Int32.toNatClampNeg x1) ((s0.2.2.1 (Int32.toNatClampNeg x1)) &&& (((1 : Int64) <<< (Int32.toInt64 x2 &&& 63)) ^^^ (-1)))), s0.2.2.2.1, s0.2.2.2.2)) [0, 1, 2, 3, 4, 5, 6, 7, 8, 9, 10, 11, 12] (by decide) rfl) hS dX0_mendFlap_16

def wp_X6_onFrom (post : Int32 → Prop) (x0 : Int32) (x1 : Int32) (x2 : Int32) : Prop := ((x1 < x0 → post ((x1 - x0) + x2)) ∧ (¬ x1 < x0 → post (x1 - x0)))
set_option maxHeartbeats 4000000 in
set_option maxRecDepth 100000 in
theorem c2_X6_onFrom {l : Launch} {D : va_G} {q : Nat → ClassId} {x0 : Int32} {x1 : Int32} {x2 : Int32} {post : Int32 → Prop} (h : wp_X6_onFrom post x0 x1 x2) : Met l yX6_onFrom (Cond.code yX6_onFrom cX6_onFrom 3 (some .int) :: w_all) ({ frames := 0, cells := 0, slots := 0, locals := 0 } : Room) (rd_P D q [.int x0, .int x1, .int x2] (([] : va_W))) (vp_Si post) 0 0 (fun _ => False) := by
  refine rd_start (by decide) (Nat.le_of_ble_eq_true rfl) ?_
  intro p e s m below meth c ls hx hb hr hml hown ht hk hP hQ hV hl
  have hK := hQ.1
  have hown : s.vm.findClass RX6 = some m.cls := hown
  have hl : lv_has ls 3 [(0, .int x0), (1, .int x1), (2, .int x2)] := hl
  unfold wp_X6_onFrom at h
  refine lv_iload_n hx hb dX6_onFrom_0 rfl (lv_at hl 1 rfl) ?_
  refine lv_iload_n hx hb dX6_onFrom_1 rfl (lv_at hl 0 rfl) ?_
  refine lv_icmp_lt (tgt := 11) hx hb dX6_onFrom_2 (by decide) (fun c_1 => ?_) (fun c_1 => ?_)
  · replace h := h.1 c_1
    refine lv_iload_n hx hb dX6_onFrom_11 rfl (lv_at hl 1 rfl) ?_
    refine lv_iload_n hx hb dX6_onFrom_12 rfl (lv_at hl 0 rfl) ?_
    refine lv_isub hx hb dX6_onFrom_13 ?_
    refine lv_iload_n hx hb dX6_onFrom_14 rfl (lv_at hl 2 rfl) ?_
    refine lv_iadd hx hb dX6_onFrom_15 ?_
    exact rd_iret hx hb hr hk h dX6_onFrom_16
  · replace h := h.2 c_1
    refine lv_iload_n hx hb dX6_onFrom_5 rfl (lv_at hl 1 rfl) ?_
    refine lv_iload_n hx hb dX6_onFrom_6 rfl (lv_at hl 0 rfl) ?_
    refine lv_isub hx hb dX6_onFrom_7 ?_
    refine lv_goto (tgt := 16) hx hb dX6_onFrom_8 (by decide) ?_
    exact rd_iret hx hb hr hk h dX6_onFrom_16

def wp_X0_flapsOnTo (post : Int32 → Prop) (s0 : Bd) (x1 : Int32) (x2 : Int32) : Prop := vp_in x1 40 ∧ wp_X0_flapsOf (fun r_2 => wp_X6_onFrom (fun r_4 => post r_4) ((s0.2.1 5) (Int32.toNatClampNeg x1)) x2 r_2) s0 x1
set_option maxHeartbeats 4000000 in
set_option maxRecDepth 100000 in
theorem c2_X0_flapsOnTo {l : Launch} {D : va_G} {q : Nat → ClassId} {a0 : Nat → Nat} {s0 : Bd} {x1 : Int32} {x2 : Int32} {post : Int32 → Prop} (h : wp_X0_flapsOnTo post s0 x1 x2) : Met l yX0_flapsOnTo (Cond.code yX0_flapsOnTo cX0_flapsOnTo 3 (some .int) :: w_all) ({ frames := 1, cells := 0, slots := 0, locals := 22 } : Room) (rd_P D q [.ref (a0 0), .int x1, .int x2] (bd_w a0 q s0)) (vp_Si post) 0 0 (fun _ => False) := by
  refine rd_start (by decide) (Nat.le_of_ble_eq_true rfl) ?_
  intro p e s m below meth c ls hx hb hr hml hown ht hk hP hQ hV hl
  have hK := hQ.1
  have hown : s.vm.findClass RX0 = some m.cls := hown
  have hl : lv_has ls 3 [(0, .ref (a0 0)), (1, .int x1), (2, .int x2)] := hl
  have hP : va_P D vwCl [((a0 0), .inr (0, [.int (s0.1 0), .int (s0.1 1), .int (s0.1 2), .int (s0.1 3), .int (s0.1 4), .int (s0.1 5), .ref (a0 1), .ref (a0 2), .ref (a0 3), .ref (a0 4), .ref (a0 5), .ref (a0 6), .ref (a0 7), .ref (a0 8), .ref (a0 9), .ref (a0 10), .ref (a0 11), .ref (a0 12)])), ((a0 1), .inl (q 0, 4, .inl (s0.2.1 0))), ((a0 2), .inl (q 0, 4, .inl (s0.2.1 1))), ((a0 3), .inl (q 0, 160, .inl (s0.2.1 2))), ((a0 4), .inl (q 0, 40, .inl (s0.2.1 3))), ((a0 5), .inl (q 0, 40, .inl (s0.2.1 4))), ((a0 6), .inl (q 0, 40, .inl (s0.2.1 5))), ((a0 7), .inl (q 0, 40, .inl (s0.2.1 6))), ((a0 8), .inl (q 0, 40, .inl (s0.2.1 7))), ((a0 9), .inl (q 0, 40, .inl (s0.2.1 8))), ((a0 10), .inl (q 0, 40, .inl (s0.2.1 9))), ((a0 11), .inl (q 1, 40, .inr (.inl s0.2.2.1))), ((a0 12), .inl (q 0, s0.2.2.2.1, .inl s0.2.2.2.2))] s.heap := hP
  unfold wp_X0_flapsOnTo at h
  refine lv_aload_n hx hb dX0_flapsOnTo_0 rfl (lv_at hl 0 rfl) ?_
  refine fl_get (C := RX0) (T := TX0) (N := 18) (ci := 0) (v := .ref (a0 6)) hx hb ht in_X0 hown hK hP 0 rfl rfl 11 (by decide) mw_196 rfl dX0_flapsOnTo_1 ?_
  refine lv_iload_n hx hb dX0_flapsOnTo_4 rfl (lv_at hl 1 rfl) ?_
  obtain ⟨g_1, h⟩ := h
  refine va_iald hx hb hK hP 6 0 rfl rfl g_1 dX0_flapsOnTo_5 ?_
  refine lv_iload_n hx hb dX0_flapsOnTo_6 rfl (lv_at hl 2 rfl) ?_
  refine lv_aload_n hx hb dX0_flapsOnTo_7 rfl (lv_at hl 0 rfl) ?_
  refine lv_iload_n hx hb dX0_flapsOnTo_8 rfl (lv_at hl 1 rfl) ?_
  refine vp_callSi (rd_wV (wc := bd_w a0 q s0) (As := [.int x1]) (rest := [.int x2, .int ((s0.2.1 5) (Int32.toNatClampNeg x1))]) hx hb hml hown ht (c2_X0_flapsOf h) wd_X0_flapsOf mw_651 hQ hV va_S.rf (hP.sub [0, 1, 2, 3, 4, 5, 6, 7, 8, 9, 10, 11, 12] rfl) rfl rfl rfl hl.1 rfl (Nat.le_of_ble_eq_true rfl) dX0_flapsOnTo_9 ⟨Nat.le_of_ble_eq_true rfl, Nat.le_of_ble_eq_true rfl, rfl, rfl⟩ ⟨Nat.le_of_ble_eq_true rfl, Nat.le_of_ble_eq_true rfl⟩) (fun r_2 h => ?_)
  try dsimp only at h
  refine vp_callSi (rd_wSN (wc := ([] : va_W)) (As := [.int ((s0.2.1 5) (Int32.toNatClampNeg x1)), .int x2, .int r_2]) (rest := []) hx hb hml hown ht (c2_X6_onFrom h) wd_X6_onFrom (hQ.2.2.2.2.2) hQ hV va_S.rf (hP.sub [] rfl) rfl hl.1 rfl (Nat.le_of_ble_eq_true rfl) dX0_flapsOnTo_12 ⟨Nat.le_of_ble_eq_true rfl, Nat.le_of_ble_eq_true rfl, rfl, rfl⟩ ⟨Nat.le_of_ble_eq_true rfl, Nat.le_of_ble_eq_true rfl⟩) (fun r_4 h => ?_)
  try dsimp only at h
  exact rd_iret hx hb hr hk h dX0_flapsOnTo_15

def wp_X0_leftOf (post : Int32 → Prop) (s0 : Bd) (x1 : Int32) : Prop := vp_in x1 40 ∧ vp_in x1 40 ∧ vp_in x1 40 ∧ ((0 ≤ (((s0.2.1 6) (Int32.toNatClampNeg x1)) - ((s0.2.1 5) (Int32.toNatClampNeg x1))) → post (((s0.2.1 6) (Int32.toNatClampNeg x1)) - ((s0.2.1 5) (Int32.toNatClampNeg x1)))) ∧ (¬ 0 ≤ (((s0.2.1 6) (Int32.toNatClampNeg x1)) - ((s0.2.1 5) (Int32.toNatClampNeg x1))) → ((((s0.2.1 3) (Int32.toNatClampNeg x1)) < 0 → post (((s0.2.1 6) (Int32.toNatClampNeg x1)) - ((s0.2.1 5) (Int32.toNatClampNeg x1)))) ∧ (¬ ((s0.2.1 3) (Int32.toNatClampNeg x1)) < 0 → (((s0.1 3) ≤ ((s0.2.1 3) (Int32.toNatClampNeg x1)) → post (((s0.2.1 6) (Int32.toNatClampNeg x1)) - ((s0.2.1 5) (Int32.toNatClampNeg x1)))) ∧ (¬ (s0.1 3) ≤ ((s0.2.1 3) (Int32.toNatClampNeg x1)) → vp_in ((s0.2.1 3) (Int32.toNatClampNeg x1)) 4 ∧ post ((((s0.2.1 6) (Int32.toNatClampNeg x1)) - ((s0.2.1 5) (Int32.toNatClampNeg x1))) + ((s0.2.1 1) (Int32.toNatClampNeg ((s0.2.1 3) (Int32.toNatClampNeg x1)))))))))))
set_option maxHeartbeats 4000000 in
set_option maxRecDepth 100000 in
theorem c2_X0_leftOf {l : Launch} {D : va_G} {q : Nat → ClassId} {a0 : Nat → Nat} {s0 : Bd} {x1 : Int32} {post : Int32 → Prop} (h : wp_X0_leftOf post s0 x1) : Met l yX0_leftOf (Cond.code yX0_leftOf cX0_leftOf 4 (some .int) :: w_all) ({ frames := 0, cells := 0, slots := 0, locals := 0 } : Room) (rd_P D q [.ref (a0 0), .int x1] (bd_w a0 q s0)) (vp_Si post) 0 0 (fun _ => False) := by
  refine rd_start (by decide) (Nat.le_of_ble_eq_true rfl) ?_
  intro p e s m below meth c ls hx hb hr hml hown ht hk hP hQ hV hl
  have hK := hQ.1
  have hown : s.vm.findClass RX0 = some m.cls := hown
  have hl : lv_has ls 4 [(0, .ref (a0 0)), (1, .int x1)] := hl
  have hP : va_P D vwCl [((a0 0), .inr (0, [.int (s0.1 0), .int (s0.1 1), .int (s0.1 2), .int (s0.1 3), .int (s0.1 4), .int (s0.1 5), .ref (a0 1), .ref (a0 2), .ref (a0 3), .ref (a0 4), .ref (a0 5), .ref (a0 6), .ref (a0 7), .ref (a0 8), .ref (a0 9), .ref (a0 10), .ref (a0 11), .ref (a0 12)])), ((a0 1), .inl (q 0, 4, .inl (s0.2.1 0))), ((a0 2), .inl (q 0, 4, .inl (s0.2.1 1))), ((a0 3), .inl (q 0, 160, .inl (s0.2.1 2))), ((a0 4), .inl (q 0, 40, .inl (s0.2.1 3))), ((a0 5), .inl (q 0, 40, .inl (s0.2.1 4))), ((a0 6), .inl (q 0, 40, .inl (s0.2.1 5))), ((a0 7), .inl (q 0, 40, .inl (s0.2.1 6))), ((a0 8), .inl (q 0, 40, .inl (s0.2.1 7))), ((a0 9), .inl (q 0, 40, .inl (s0.2.1 8))), ((a0 10), .inl (q 0, 40, .inl (s0.2.1 9))), ((a0 11), .inl (q 1, 40, .inr (.inl s0.2.2.1))), ((a0 12), .inl (q 0, s0.2.2.2.1, .inl s0.2.2.2.2))] s.heap := hP
  unfold wp_X0_leftOf at h
  refine lv_aload_n hx hb dX0_leftOf_0 rfl (lv_at hl 0 rfl) ?_
  refine fl_get (C := RX0) (T := TX0) (N := 18) (ci := 0) (v := .ref (a0 7)) hx hb ht in_X0 hown hK hP 0 rfl rfl 12 (by decide) mw_198 rfl dX0_leftOf_1 ?_
  refine lv_iload_n hx hb dX0_leftOf_4 rfl (lv_at hl 1 rfl) ?_
  obtain ⟨g_1, h⟩ := h
  refine va_iald hx hb hK hP 7 0 rfl rfl g_1 dX0_leftOf_5 ?_
  refine lv_aload_n hx hb dX0_leftOf_6 rfl (lv_at hl 0 rfl) ?_
  refine fl_get (C := RX0) (T := TX0) (N := 18) (ci := 0) (v := .ref (a0 6)) hx hb ht in_X0 hown hK hP 0 rfl rfl 11 (by decide) mw_196 rfl dX0_leftOf_7 ?_
  refine lv_iload_n hx hb dX0_leftOf_10 rfl (lv_at hl 1 rfl) ?_
  obtain ⟨g_2, h⟩ := h
  refine va_iald hx hb hK hP 6 0 rfl rfl g_2 dX0_leftOf_11 ?_
  refine lv_isub hx hb dX0_leftOf_12 ?_
  refine lv_istore_n (lv' := [(2, .int (((s0.2.1 6) (Int32.toNatClampNeg x1)) - ((s0.2.1 5) (Int32.toNatClampNeg x1)))), (0, .ref (a0 0)), (1, .int x1)]) hx hb dX0_leftOf_13 rfl hl (by decide) rfl (fun ls hl => ?_)
  refine lv_aload_n hx hb dX0_leftOf_14 rfl (lv_at hl 1 rfl) ?_
  refine fl_get (C := RX0) (T := TX0) (N := 18) (ci := 0) (v := .ref (a0 4)) hx hb ht in_X0 hown hK hP 0 rfl rfl 9 (by decide) mw_192 rfl dX0_leftOf_15 ?_
  refine lv_iload_n hx hb dX0_leftOf_18 rfl (lv_at hl 2 rfl) ?_
  obtain ⟨g_3, h⟩ := h
  refine va_iald hx hb hK hP 4 0 rfl rfl g_3 dX0_leftOf_19 ?_
  refine lv_istore_n (lv' := [(3, .int ((s0.2.1 3) (Int32.toNatClampNeg x1))), (2, .int (((s0.2.1 6) (Int32.toNatClampNeg x1)) - ((s0.2.1 5) (Int32.toNatClampNeg x1)))), (0, .ref (a0 0)), (1, .int x1)]) hx hb dX0_leftOf_20 rfl hl (by decide) rfl (fun ls hl => ?_)
  refine lv_iload_n hx hb dX0_leftOf_21 rfl (lv_at hl 1 rfl) ?_
  refine lv_if_ge (tgt := 48) hx hb dX0_leftOf_22 (by decide) (fun c_4 => ?_) (fun c_4 => ?_)
  · replace h := h.1 c_4
    refine lv_iload_n hx hb dX0_leftOf_48 rfl (lv_at hl 1 rfl) ?_
    exact rd_iret hx hb hr hk h dX0_leftOf_49
  · replace h := h.2 c_4
    refine lv_iload_n hx hb dX0_leftOf_25 rfl (lv_at hl 0 rfl) ?_
    refine lv_if_lt (tgt := 48) hx hb dX0_leftOf_26 (by decide) (fun c_5 => ?_) (fun c_5 => ?_)
    · replace h := h.1 c_5
      refine lv_iload_n hx hb dX0_leftOf_48 rfl (lv_at hl 1 rfl) ?_
      exact rd_iret hx hb hr hk h dX0_leftOf_49
    · replace h := h.2 c_5
      refine lv_iload_n hx hb dX0_leftOf_29 rfl (lv_at hl 0 rfl) ?_
      refine lv_aload_n hx hb dX0_leftOf_30 rfl (lv_at hl 2 rfl) ?_
      refine fl_get (C := RX0) (T := TX0) (N := 18) (ci := 0) (v := .int (s0.1 3)) hx hb ht in_X0 hown hK hP 0 rfl rfl 3 (by decide) mw_179 rfl dX0_leftOf_31 ?_
      refine lv_icmp_ge (tgt := 48) hx hb dX0_leftOf_34 (by decide) (fun c_6 => ?_) (fun c_6 => ?_)
      · replace h := h.1 c_6
        refine lv_iload_n hx hb dX0_leftOf_48 rfl (lv_at hl 1 rfl) ?_
        exact rd_iret hx hb hr hk h dX0_leftOf_49
      · replace h := h.2 c_6
        refine lv_iload_n hx hb dX0_leftOf_37 rfl (lv_at hl 1 rfl) ?_
        refine lv_aload_n hx hb dX0_leftOf_38 rfl (lv_at hl 2 rfl) ?_
        refine fl_get (C := RX0) (T := TX0) (N := 18) (ci := 0) (v := .ref (a0 2)) hx hb ht in_X0 hown hK hP 0 rfl rfl 7 (by decide) mw_190 rfl dX0_leftOf_39 ?_
        refine lv_iload_n hx hb dX0_leftOf_42 rfl (lv_at hl 0 rfl) ?_
        obtain ⟨g_7, h⟩ := h
        refine va_iald hx hb hK hP 2 0 rfl rfl g_7 dX0_leftOf_43 ?_
        refine lv_iadd hx hb dX0_leftOf_44 ?_
        refine lv_goto (tgt := 49) hx hb dX0_leftOf_45 (by decide) ?_
        exact rd_iret hx hb hr hk h dX0_leftOf_49

def wp_X0_flapFor (post : Int32 → Prop) (s0 : Bd) (s1 : Tp) (x1 : Int32) (x2 : Int32) (x4 : Int32) (x5 : Int32) : Prop := ((x2 < 0 → post 0) ∧ (¬ x2 < 0 → ((x5 ≤ x2 → post 0) ∧ (¬ x5 ≤ x2 → wp_X5_byteAt (fun r_3 => wp_X0_nearest (fun r_5 => post r_5) s0 x1 r_3) s1 (x4 + x2)))))
set_option maxHeartbeats 4000000 in
set_option maxRecDepth 100000 in
theorem c2_X0_flapFor {l : Launch} {D : va_G} {q : Nat → ClassId} {a0 : Nat → Nat} {a1 : Nat → Nat} {s0 : Bd} {s1 : Tp} {x1 : Int32} {x2 : Int32} {x4 : Int32} {x5 : Int32} {post : Int32 → Prop} (h : wp_X0_flapFor post s0 s1 x1 x2 x4 x5) : Met l yX0_flapFor (Cond.code yX0_flapFor cX0_flapFor 6 (some .int) :: w_all) ({ frames := 1, cells := 0, slots := 0, locals := 29 } : Room) (rd_P D q [.ref (a0 0), .int x1, .int x2, .ref (a1 0), .int x4, .int x5] (bd_w a0 q s0 ++ tp_w a1 q s1)) (vp_Si post) 0 0 (fun _ => False) := by
  refine rd_start (by decide) (Nat.le_of_ble_eq_true rfl) ?_
  intro p e s m below meth c ls hx hb hr hml hown ht hk hP hQ hV hl
  have hK := hQ.1
  have hown : s.vm.findClass RX0 = some m.cls := hown
  have hl : lv_has ls 6 [(0, .ref (a0 0)), (1, .int x1), (2, .int x2), (3, .ref (a1 0)), (4, .int x4), (5, .int x5)] := hl
  have hP : va_P D vwCl [((a0 0), .inr (0, [.int (s0.1 0), .int (s0.1 1), .int (s0.1 2), .int (s0.1 3), .int (s0.1 4), .int (s0.1 5), .ref (a0 1), .ref (a0 2), .ref (a0 3), .ref (a0 4), .ref (a0 5), .ref (a0 6), .ref (a0 7), .ref (a0 8), .ref (a0 9), .ref (a0 10), .ref (a0 11), .ref (a0 12)])), ((a0 1), .inl (q 0, 4, .inl (s0.2.1 0))), ((a0 2), .inl (q 0, 4, .inl (s0.2.1 1))), ((a0 3), .inl (q 0, 160, .inl (s0.2.1 2))), ((a0 4), .inl (q 0, 40, .inl (s0.2.1 3))), ((a0 5), .inl (q 0, 40, .inl (s0.2.1 4))), ((a0 6), .inl (q 0, 40, .inl (s0.2.1 5))), ((a0 7), .inl (q 0, 40, .inl (s0.2.1 6))), ((a0 8), .inl (q 0, 40, .inl (s0.2.1 7))), ((a0 9), .inl (q 0, 40, .inl (s0.2.1 8))), ((a0 10), .inl (q 0, 40, .inl (s0.2.1 9))), ((a0 11), .inl (q 1, 40, .inr (.inl s0.2.2.1))), ((a0 12), .inl (q 0, s0.2.2.2.1, .inl s0.2.2.2.2)), ((a1 0), .inr (4, [.ref (a1 1), .int (s1.1 0), .int (s1.1 1), .int (s1.1 2), .int (s1.1 3), .int (s1.1 4), .int (s1.1 5)])), ((a1 1), .inl (q 0, 400, .inl s1.2))] s.heap := hP
  unfold wp_X0_flapFor at h
  refine lv_iload_n hx hb dX0_flapFor_0 rfl (lv_at hl 2 rfl) ?_
  refine lv_if_lt (tgt := 26) hx hb dX0_flapFor_1 (by decide) (fun c_1 => ?_) (fun c_1 => ?_)
  · replace h := h.1 c_1
    refine lv_iconst (v := 0) hx hb dX0_flapFor_26 (by decide) ?_
    exact rd_iret hx hb hr hk h dX0_flapFor_27
  · replace h := h.2 c_1
    refine lv_iload_n hx hb dX0_flapFor_4 rfl (lv_at hl 2 rfl) ?_
    refine lv_iload hx hb dX0_flapFor_5 (lv_at hl 5 rfl) ?_
    refine lv_icmp_ge (tgt := 26) hx hb dX0_flapFor_7 (by decide) (fun c_2 => ?_) (fun c_2 => ?_)
    · replace h := h.1 c_2
      refine lv_iconst (v := 0) hx hb dX0_flapFor_26 (by decide) ?_
      exact rd_iret hx hb hr hk h dX0_flapFor_27
    · replace h := h.2 c_2
      refine lv_aload_n hx hb dX0_flapFor_10 rfl (lv_at hl 0 rfl) ?_
      refine lv_iload_n hx hb dX0_flapFor_11 rfl (lv_at hl 1 rfl) ?_
      refine lv_aload_n hx hb dX0_flapFor_12 rfl (lv_at hl 3 rfl) ?_
      refine lv_iload hx hb dX0_flapFor_13 (lv_at hl 4 rfl) ?_
      refine lv_iload_n hx hb dX0_flapFor_15 rfl (lv_at hl 2 rfl) ?_
      refine lv_iadd hx hb dX0_flapFor_16 ?_
      refine vp_callSi (rd_wV (wc := tp_w a1 q s1) (As := [.int (x4 + x2)]) (rest := [.int x1, .ref (a0 0)]) hx hb hml hown ht (c2_X5_byteAt h) wd_X5_byteAt mw_537 hQ hV va_S.rf (hP.sub [13, 14] rfl) rfl rfl rfl hl.1 rfl (Nat.le_of_ble_eq_true rfl) dX0_flapFor_17 ⟨Nat.le_of_ble_eq_true rfl, Nat.le_of_ble_eq_true rfl, rfl, rfl⟩ ⟨Nat.le_of_ble_eq_true rfl, Nat.le_of_ble_eq_true rfl⟩) (fun r_3 h => ?_)
      try dsimp only at h
      refine vp_callSi (rd_wV (wc := bd_w a0 q s0) (As := [.int x1, .int r_3]) (rest := []) hx hb hml hown ht (c2_X0_nearest h) wd_X0_nearest mw_572 hQ hV va_S.rf (hP.sub [0, 1, 2, 3, 4, 5, 6, 7, 8, 9, 10, 11, 12] rfl) rfl rfl rfl hl.1 rfl (Nat.le_of_ble_eq_true rfl) dX0_flapFor_20 ⟨Nat.le_of_ble_eq_true rfl, Nat.le_of_ble_eq_true rfl, rfl, rfl⟩ ⟨Nat.le_of_ble_eq_true rfl, Nat.le_of_ble_eq_true rfl⟩) (fun r_5 h => ?_)
      try dsimp only at h
      refine lv_goto (tgt := 27) hx hb dX0_flapFor_23 (by decide) ?_
      exact rd_iret hx hb hr hk h dX0_flapFor_27

def wp_X0_costOf_L6 (s0 : Bd) (s1 : Tp) (post : Int32 → Prop) (e72 : Int32 → Int32 → Int32 → Int32 → Int32 → Int32 → Prop) : Nat → Int32 → Int32 → Int32 → Int32 → Int32 → Int32 → Prop
  | 0, _, _, _, _, _, _ => False
  | n6 + 1, z1, z2, z4, z5, z6, z7 => (((s0.1 1) ≤ z7 → e72 z1 z2 z4 z5 z6 z7) ∧ (¬ (s0.1 1) ≤ z7 → wp_X0_flapFor (fun r_2 => ((¬ r_2 = (-1) → wp_X0_flapsOnTo (fun r_5 => wp_X0_costOf_L6 s0 s1 post e72 n6 z1 z2 z4 z5 (z6 + r_5) (z7 + 1)) s0 ((z1 * (s0.1 1)) + z7) r_2) ∧ (r_2 = (-1) → wp_X0_costOf_L6 s0 s1 post e72 n6 z1 z2 z4 z5 (z6 + 0) (z7 + 1)))) s0 s1 ((z1 * (s0.1 1)) + z7) (z7 - z2) z4 z5))
def wp_X0_costOf (post : Int32 → Prop) (s0 : Bd) (s1 : Tp) (x1 : Int32) (x2 : Int32) (x4 : Int32) (x5 : Int32) : Prop := (∃ n6, wp_X0_costOf_L6 s0 s1 post (fun z1 z2 z4 z5 z6 z7 => post z6) n6 x1 x2 x4 x5 0 0)
set_option maxHeartbeats 4000000 in
set_option maxRecDepth 100000 in
theorem c2_X0_costOf {l : Launch} {D : va_G} {q : Nat → ClassId} {a0 : Nat → Nat} {a1 : Nat → Nat} {s0 : Bd} {s1 : Tp} {x1 : Int32} {x2 : Int32} {x4 : Int32} {x5 : Int32} {post : Int32 → Prop} (h : wp_X0_costOf post s0 s1 x1 x2 x4 x5) : Met l yX0_costOf (Cond.code yX0_costOf cX0_costOf 10 (some .int) :: w_all) ({ frames := 2, cells := 0, slots := 0, locals := 54 } : Room) (rd_P D q [.ref (a0 0), .int x1, .int x2, .ref (a1 0), .int x4, .int x5] (bd_w a0 q s0 ++ tp_w a1 q s1)) (vp_Si post) 0 0 (fun _ => False) := by
  refine rd_start (by decide) (Nat.le_of_ble_eq_true rfl) ?_
  intro p e s m below meth c ls hx hb hr hml hown ht hk hP hQ hV hl
  have hK := hQ.1
  have hown : s.vm.findClass RX0 = some m.cls := hown
  have hl : lv_has ls 10 [(0, .ref (a0 0)), (1, .int x1), (2, .int x2), (3, .ref (a1 0)), (4, .int x4), (5, .int x5)] := hl
  have hP : va_P D vwCl [((a0 0), .inr (0, [.int (s0.1 0), .int (s0.1 1), .int (s0.1 2), .int (s0.1 3), .int (s0.1 4), .int (s0.1 5), .ref (a0 1), .ref (a0 2), .ref (a0 3), .ref (a0 4), .ref (a0 5), .ref (a0 6), .ref (a0 7), .ref (a0 8), .ref (a0 9), .ref (a0 10), .ref (a0 11), .ref (a0 12)])), ((a0 1), .inl (q 0, 4, .inl (s0.2.1 0))), ((a0 2), .inl (q 0, 4, .inl (s0.2.1 1))), ((a0 3), .inl (q 0, 160, .inl (s0.2.1 2))), ((a0 4), .inl (q 0, 40, .inl (s0.2.1 3))), ((a0 5), .inl (q 0, 40, .inl (s0.2.1 4))), ((a0 6), .inl (q 0, 40, .inl (s0.2.1 5))), ((a0 7), .inl (q 0, 40, .inl (s0.2.1 6))), ((a0 8), .inl (q 0, 40, .inl (s0.2.1 7))), ((a0 9), .inl (q 0, 40, .inl (s0.2.1 8))), ((a0 10), .inl (q 0, 40, .inl (s0.2.1 9))), ((a0 11), .inl (q 1, 40, .inr (.inl s0.2.2.1))), ((a0 12), .inl (q 0, s0.2.2.2.1, .inl s0.2.2.2.2)), ((a1 0), .inr (4, [.ref (a1 1), .int (s1.1 0), .int (s1.1 1), .int (s1.1 2), .int (s1.1 3), .int (s1.1 4), .int (s1.1 5)])), ((a1 1), .inl (q 0, 400, .inl s1.2))] s.heap := hP
  unfold wp_X0_costOf at h
  refine lv_iconst (v := 0) hx hb dX0_costOf_0 (by decide) ?_
  refine lv_istore (lv' := [(6, .int 0), (0, .ref (a0 0)), (1, .int x1), (2, .int x2), (3, .ref (a1 0)), (4, .int x4), (5, .int x5)]) hx hb dX0_costOf_1 hl (by decide) rfl (fun ls hl => ?_)
  refine lv_iconst (v := 0) hx hb dX0_costOf_3 (by decide) ?_
  refine lv_istore (lv' := [(7, .int 0), (6, .int 0), (0, .ref (a0 0)), (1, .int x1), (2, .int x2), (3, .ref (a1 0)), (4, .int x4), (5, .int x5)]) hx hb dX0_costOf_4 hl (by decide) rfl (fun ls hl => ?_)
  have lp6 : ∀ (e72 : Int32 → Int32 → Int32 → Int32 → Int32 → Int32 → Prop) (k72 : ∀ (z1 : Int32) (z2 : Int32) (z4 : Int32) (z5 : Int32) (z6 : Int32) (z7 : Int32) (ls : Array Slot), e72 z1 z2 z4 z5 z6 z7 → lv_has ls 10 [(1, .int z1), (2, .int z2), (4, .int z4), (5, .int z5), (6, .int z6), (7, .int z7), (0, .ref (a0 0)), (3, .ref (a1 0))] → W p l e ({ frames := 2, cells := 0, slots := 0, locals := 54 } : Room) s m [.ref (a0 0), .int x1, .int x2, .ref (a1 0), .int x4, .int x5].toArray below meth c s.heap [] 0 0 (MQ below (vp_Si post) [.ref (a0 0), .int x1, .int x2, .ref (a1 0), .int x4, .int x5].toArray s 0 0 (fun _ => False)) (F0 m 72 ls [])) (n : Nat) (z1 : Int32) (z2 : Int32) (z4 : Int32) (z5 : Int32) (z6 : Int32) (z7 : Int32) (ls : Array Slot), wp_X0_costOf_L6 s0 s1 post e72 n z1 z2 z4 z5 z6 z7 → lv_has ls 10 [(1, .int z1), (2, .int z2), (4, .int z4), (5, .int z5), (6, .int z6), (7, .int z7), (0, .ref (a0 0)), (3, .ref (a1 0))] → W p l e ({ frames := 2, cells := 0, slots := 0, locals := 54 } : Room) s m [.ref (a0 0), .int x1, .int x2, .ref (a1 0), .int x4, .int x5].toArray below meth c s.heap [] 0 0 (MQ below (vp_Si post) [.ref (a0 0), .int x1, .int x2, .ref (a1 0), .int x4, .int x5].toArray s 0 0 (fun _ => False)) (F0 m 6 ls []) := by
    intro e72 k72 n
    induction n with
    | zero =>
      intro z1 z2 z4 z5 z6 z7 ls h
      exact h.elim
    | succ n ih =>
      intro z1 z2 z4 z5 z6 z7 ls h hl
      unfold wp_X0_costOf_L6 at h
      refine lv_iload hx hb dX0_costOf_6 (lv_at hl 5 rfl) ?_
      refine lv_aload_n hx hb dX0_costOf_8 rfl (lv_at hl 6 rfl) ?_
      refine fl_get (C := RX0) (T := TX0) (N := 18) (ci := 0) (v := .int (s0.1 1)) hx hb ht in_X0 hown hK hP 0 rfl rfl 1 (by decide) mw_171 rfl dX0_costOf_9 ?_
      refine lv_icmp_ge (tgt := 72) hx hb dX0_costOf_12 (by decide) (fun c_1 => ?_) (fun c_1 => ?_)
      · replace h := h.1 c_1
        exact k72 _ _ _ _ _ _ ls h (lv_sub hl [0, 1, 2, 3, 4, 5, 6, 7] rfl)
      · replace h := h.2 c_1
        refine lv_iload_n hx hb dX0_costOf_15 rfl (lv_at hl 0 rfl) ?_
        refine lv_aload_n hx hb dX0_costOf_16 rfl (lv_at hl 6 rfl) ?_
        refine fl_get (C := RX0) (T := TX0) (N := 18) (ci := 0) (v := .int (s0.1 1)) hx hb ht in_X0 hown hK hP 0 rfl rfl 1 (by decide) mw_171 rfl dX0_costOf_17 ?_
        refine lv_imul hx hb dX0_costOf_20 ?_
        refine lv_iload hx hb dX0_costOf_21 (lv_at hl 5 rfl) ?_
        refine lv_iadd hx hb dX0_costOf_23 ?_
        refine lv_istore (lv' := [(8, .int ((z1 * (s0.1 1)) + z7)), (1, .int z1), (2, .int z2), (4, .int z4), (5, .int z5), (6, .int z6), (7, .int z7), (0, .ref (a0 0)), (3, .ref (a1 0))]) hx hb dX0_costOf_24 hl (by decide) rfl (fun ls hl => ?_)
        refine lv_aload_n hx hb dX0_costOf_26 rfl (lv_at hl 7 rfl) ?_
        refine lv_iload hx hb dX0_costOf_27 (lv_at hl 0 rfl) ?_
        refine lv_iload hx hb dX0_costOf_29 (lv_at hl 6 rfl) ?_
        refine lv_iload_n hx hb dX0_costOf_31 rfl (lv_at hl 2 rfl) ?_
        refine lv_isub hx hb dX0_costOf_32 ?_
        refine lv_aload_n hx hb dX0_costOf_33 rfl (lv_at hl 8 rfl) ?_
        refine lv_iload hx hb dX0_costOf_34 (lv_at hl 3 rfl) ?_
        refine lv_iload hx hb dX0_costOf_36 (lv_at hl 4 rfl) ?_
        refine vp_callSi (rd_wV (wc := bd_w a0 q s0 ++ tp_w a1 q s1) (As := [.int ((z1 * (s0.1 1)) + z7), .int (z7 - z2), .ref (a1 0), .int z4, .int z5]) (rest := []) hx hb hml hown ht (c2_X0_flapFor h) wd_X0_flapFor mw_568 hQ hV va_S.rf (hP.sub [0, 1, 2, 3, 4, 5, 6, 7, 8, 9, 10, 11, 12, 13, 14] rfl) rfl rfl rfl hl.1 rfl (Nat.le_of_ble_eq_true rfl) dX0_costOf_38 ⟨Nat.le_of_ble_eq_true rfl, Nat.le_of_ble_eq_true rfl, rfl, rfl⟩ ⟨Nat.le_of_ble_eq_true rfl, Nat.le_of_ble_eq_true rfl⟩) (fun r_2 h => ?_)
        try dsimp only at h
        refine lv_istore (lv' := [(9, .int r_2), (8, .int ((z1 * (s0.1 1)) + z7)), (1, .int z1), (2, .int z2), (4, .int z4), (5, .int z5), (6, .int z6), (7, .int z7), (0, .ref (a0 0)), (3, .ref (a1 0))]) hx hb dX0_costOf_41 hl (by decide) rfl (fun ls hl => ?_)
        refine lv_iload hx hb dX0_costOf_43 (lv_at hl 6 rfl) ?_
        refine lv_iload hx hb dX0_costOf_45 (lv_at hl 0 rfl) ?_
        refine lv_iconst (v := (-1)) hx hb dX0_costOf_47 (by decide) ?_
        refine lv_icmp_ne (tgt := 55) hx hb dX0_costOf_48 (by decide) (fun c_4 => ?_) (fun c_4 => ?_)
        · replace h := h.1 c_4
          refine lv_aload_n hx hb dX0_costOf_55 rfl (lv_at hl 8 rfl) ?_
          refine lv_iload hx hb dX0_costOf_56 (lv_at hl 1 rfl) ?_
          refine lv_iload hx hb dX0_costOf_58 (lv_at hl 0 rfl) ?_
          refine vp_callSi (rd_wV (wc := bd_w a0 q s0) (As := [.int ((z1 * (s0.1 1)) + z7), .int r_2]) (rest := [.int z6]) hx hb hml hown ht (c2_X0_flapsOnTo h) wd_X0_flapsOnTo mw_1013 hQ hV va_S.rf (hP.sub [0, 1, 2, 3, 4, 5, 6, 7, 8, 9, 10, 11, 12] rfl) rfl rfl rfl hl.1 rfl (Nat.le_of_ble_eq_true rfl) dX0_costOf_60 ⟨Nat.le_of_ble_eq_true rfl, Nat.le_of_ble_eq_true rfl, rfl, rfl⟩ ⟨Nat.le_of_ble_eq_true rfl, Nat.le_of_ble_eq_true rfl⟩) (fun r_5 h => ?_)
          try dsimp only at h
          refine lv_iadd hx hb dX0_costOf_63 ?_
          refine lv_istore (lv' := [(6, .int (z6 + r_5)), (9, .int r_2), (8, .int ((z1 * (s0.1 1)) + z7)), (1, .int z1), (2, .int z2), (4, .int z4), (5, .int z5), (7, .int z7), (0, .ref (a0 0)), (3, .ref (a1 0))]) hx hb dX0_costOf_64 hl (by decide) rfl (fun ls hl => ?_)
          refine lv_iinc (v := (z7 + 1)) (lv' := [(7, .int (z7 + 1)), (6, .int (z6 + r_5)), (9, .int r_2), (8, .int ((z1 * (s0.1 1)) + z7)), (1, .int z1), (2, .int z2), (4, .int z4), (5, .int z5), (0, .ref (a0 0)), (3, .ref (a1 0))]) hx hb dX0_costOf_66 hl (k := 7) rfl rfl (by decide) rfl (fun ls hl => ?_)
          refine lv_goto (tgt := 6) hx hb dX0_costOf_69 (by decide) ?_
          exact ih _ _ _ _ _ _ ls h (lv_sub hl [4, 5, 6, 7, 1, 0, 8, 9] rfl)
        · replace h := h.2 c_4
          refine lv_iconst (v := 0) hx hb dX0_costOf_51 (by decide) ?_
          refine lv_goto (tgt := 63) hx hb dX0_costOf_52 (by decide) ?_
          refine lv_iadd hx hb dX0_costOf_63 ?_
          refine lv_istore (lv' := [(6, .int (z6 + 0)), (9, .int r_2), (8, .int ((z1 * (s0.1 1)) + z7)), (1, .int z1), (2, .int z2), (4, .int z4), (5, .int z5), (7, .int z7), (0, .ref (a0 0)), (3, .ref (a1 0))]) hx hb dX0_costOf_64 hl (by decide) rfl (fun ls hl => ?_)
          refine lv_iinc (v := (z7 + 1)) (lv' := [(7, .int (z7 + 1)), (6, .int (z6 + 0)), (9, .int r_2), (8, .int ((z1 * (s0.1 1)) + z7)), (1, .int z1), (2, .int z2), (4, .int z4), (5, .int z5), (0, .ref (a0 0)), (3, .ref (a1 0))]) hx hb dX0_costOf_66 hl (k := 7) rfl rfl (by decide) rfl (fun ls hl => ?_)
          refine lv_goto (tgt := 6) hx hb dX0_costOf_69 (by decide) ?_
          exact ih _ _ _ _ _ _ ls h (lv_sub hl [4, 5, 6, 7, 1, 0, 8, 9] rfl)
  obtain ⟨n6, h⟩ := h
  refine lp6 _ ?_ n6 _ _ _ _ _ _ ls h (lv_sub hl [3, 4, 6, 7, 1, 0, 2, 5] rfl)
  · intro z1 z2 z4 z5 z6 z7 ls h hl
    try dsimp only at h
    refine lv_iload hx hb dX0_costOf_72 (lv_at hl 4 rfl) ?_
    exact rd_iret hx hb hr hk h dX0_costOf_74

def wp_X0_missesOf_L6 (s0 : Bd) (s1 : Tp) (post : Int32 → Prop) (e50 : Int32 → Int32 → Int32 → Int32 → Int32 → Int32 → Prop) : Nat → Int32 → Int32 → Int32 → Int32 → Int32 → Int32 → Prop
  | 0, _, _, _, _, _, _ => False
  | n6 + 1, z1, z2, z4, z5, z6, z7 => (((s0.1 1) ≤ z7 → e50 z1 z2 z4 z5 z6 z7) ∧ (¬ (s0.1 1) ≤ z7 → wp_X0_flapFor (fun r_2 => ((¬ r_2 = (-1) → wp_X0_missesOf_L6 s0 s1 post e50 n6 z1 z2 z4 z5 z6 (z7 + 1)) ∧ (r_2 = (-1) → wp_X0_missesOf_L6 s0 s1 post e50 n6 z1 z2 z4 z5 (z6 + 1) (z7 + 1)))) s0 s1 ((z1 * (s0.1 1)) + z7) (z7 - z2) z4 z5))
def wp_X0_missesOf (post : Int32 → Prop) (s0 : Bd) (s1 : Tp) (x1 : Int32) (x2 : Int32) (x4 : Int32) (x5 : Int32) : Prop := (∃ n6, wp_X0_missesOf_L6 s0 s1 post (fun z1 z2 z4 z5 z6 z7 => post z6) n6 x1 x2 x4 x5 0 0)
set_option maxHeartbeats 4000000 in
set_option maxRecDepth 100000 in
theorem c2_X0_missesOf {l : Launch} {D : va_G} {q : Nat → ClassId} {a0 : Nat → Nat} {a1 : Nat → Nat} {s0 : Bd} {s1 : Tp} {x1 : Int32} {x2 : Int32} {x4 : Int32} {x5 : Int32} {post : Int32 → Prop} (h : wp_X0_missesOf post s0 s1 x1 x2 x4 x5) : Met l yX0_missesOf (Cond.code yX0_missesOf cX0_missesOf 8 (some .int) :: w_all) ({ frames := 2, cells := 0, slots := 0, locals := 54 } : Room) (rd_P D q [.ref (a0 0), .int x1, .int x2, .ref (a1 0), .int x4, .int x5] (bd_w a0 q s0 ++ tp_w a1 q s1)) (vp_Si post) 0 0 (fun _ => False) := by
  refine rd_start (by decide) (Nat.le_of_ble_eq_true rfl) ?_
  intro p e s m below meth c ls hx hb hr hml hown ht hk hP hQ hV hl
  have hK := hQ.1
  have hown : s.vm.findClass RX0 = some m.cls := hown
  have hl : lv_has ls 8 [(0, .ref (a0 0)), (1, .int x1), (2, .int x2), (3, .ref (a1 0)), (4, .int x4), (5, .int x5)] := hl
  have hP : va_P D vwCl [((a0 0), .inr (0, [.int (s0.1 0), .int (s0.1 1), .int (s0.1 2), .int (s0.1 3), .int (s0.1 4), .int (s0.1 5), .ref (a0 1), .ref (a0 2), .ref (a0 3), .ref (a0 4), .ref (a0 5), .ref (a0 6), .ref (a0 7), .ref (a0 8), .ref (a0 9), .ref (a0 10), .ref (a0 11), .ref (a0 12)])), ((a0 1), .inl (q 0, 4, .inl (s0.2.1 0))), ((a0 2), .inl (q 0, 4, .inl (s0.2.1 1))), ((a0 3), .inl (q 0, 160, .inl (s0.2.1 2))), ((a0 4), .inl (q 0, 40, .inl (s0.2.1 3))), ((a0 5), .inl (q 0, 40, .inl (s0.2.1 4))), ((a0 6), .inl (q 0, 40, .inl (s0.2.1 5))), ((a0 7), .inl (q 0, 40, .inl (s0.2.1 6))), ((a0 8), .inl (q 0, 40, .inl (s0.2.1 7))), ((a0 9), .inl (q 0, 40, .inl (s0.2.1 8))), ((a0 10), .inl (q 0, 40, .inl (s0.2.1 9))), ((a0 11), .inl (q 1, 40, .inr (.inl s0.2.2.1))), ((a0 12), .inl (q 0, s0.2.2.2.1, .inl s0.2.2.2.2)), ((a1 0), .inr (4, [.ref (a1 1), .int (s1.1 0), .int (s1.1 1), .int (s1.1 2), .int (s1.1 3), .int (s1.1 4), .int (s1.1 5)])), ((a1 1), .inl (q 0, 400, .inl s1.2))] s.heap := hP
  unfold wp_X0_missesOf at h
  refine lv_iconst (v := 0) hx hb dX0_missesOf_0 (by decide) ?_
  refine lv_istore (lv' := [(6, .int 0), (0, .ref (a0 0)), (1, .int x1), (2, .int x2), (3, .ref (a1 0)), (4, .int x4), (5, .int x5)]) hx hb dX0_missesOf_1 hl (by decide) rfl (fun ls hl => ?_)
  refine lv_iconst (v := 0) hx hb dX0_missesOf_3 (by decide) ?_
  refine lv_istore (lv' := [(7, .int 0), (6, .int 0), (0, .ref (a0 0)), (1, .int x1), (2, .int x2), (3, .ref (a1 0)), (4, .int x4), (5, .int x5)]) hx hb dX0_missesOf_4 hl (by decide) rfl (fun ls hl => ?_)
  have lp6 : ∀ (e50 : Int32 → Int32 → Int32 → Int32 → Int32 → Int32 → Prop) (k50 : ∀ (z1 : Int32) (z2 : Int32) (z4 : Int32) (z5 : Int32) (z6 : Int32) (z7 : Int32) (ls : Array Slot), e50 z1 z2 z4 z5 z6 z7 → lv_has ls 8 [(1, .int z1), (2, .int z2), (4, .int z4), (5, .int z5), (6, .int z6), (7, .int z7), (0, .ref (a0 0)), (3, .ref (a1 0))] → W p l e ({ frames := 2, cells := 0, slots := 0, locals := 54 } : Room) s m [.ref (a0 0), .int x1, .int x2, .ref (a1 0), .int x4, .int x5].toArray below meth c s.heap [] 0 0 (MQ below (vp_Si post) [.ref (a0 0), .int x1, .int x2, .ref (a1 0), .int x4, .int x5].toArray s 0 0 (fun _ => False)) (F0 m 50 ls [])) (n : Nat) (z1 : Int32) (z2 : Int32) (z4 : Int32) (z5 : Int32) (z6 : Int32) (z7 : Int32) (ls : Array Slot), wp_X0_missesOf_L6 s0 s1 post e50 n z1 z2 z4 z5 z6 z7 → lv_has ls 8 [(1, .int z1), (2, .int z2), (4, .int z4), (5, .int z5), (6, .int z6), (7, .int z7), (0, .ref (a0 0)), (3, .ref (a1 0))] → W p l e ({ frames := 2, cells := 0, slots := 0, locals := 54 } : Room) s m [.ref (a0 0), .int x1, .int x2, .ref (a1 0), .int x4, .int x5].toArray below meth c s.heap [] 0 0 (MQ below (vp_Si post) [.ref (a0 0), .int x1, .int x2, .ref (a1 0), .int x4, .int x5].toArray s 0 0 (fun _ => False)) (F0 m 6 ls []) := by
    intro e50 k50 n
    induction n with
    | zero =>
      intro z1 z2 z4 z5 z6 z7 ls h
      exact h.elim
    | succ n ih =>
      intro z1 z2 z4 z5 z6 z7 ls h hl
      unfold wp_X0_missesOf_L6 at h
      refine lv_iload hx hb dX0_missesOf_6 (lv_at hl 5 rfl) ?_
      refine lv_aload_n hx hb dX0_missesOf_8 rfl (lv_at hl 6 rfl) ?_
      refine fl_get (C := RX0) (T := TX0) (N := 18) (ci := 0) (v := .int (s0.1 1)) hx hb ht in_X0 hown hK hP 0 rfl rfl 1 (by decide) mw_171 rfl dX0_missesOf_9 ?_
      refine lv_icmp_ge (tgt := 50) hx hb dX0_missesOf_12 (by decide) (fun c_1 => ?_) (fun c_1 => ?_)
      · replace h := h.1 c_1
        exact k50 _ _ _ _ _ _ ls h (lv_sub hl [0, 1, 2, 3, 4, 5, 6, 7] rfl)
      · replace h := h.2 c_1
        refine lv_aload_n hx hb dX0_missesOf_15 rfl (lv_at hl 6 rfl) ?_
        refine lv_iload_n hx hb dX0_missesOf_16 rfl (lv_at hl 0 rfl) ?_
        refine lv_aload_n hx hb dX0_missesOf_17 rfl (lv_at hl 6 rfl) ?_
        refine fl_get (C := RX0) (T := TX0) (N := 18) (ci := 0) (v := .int (s0.1 1)) hx hb ht in_X0 hown hK hP 0 rfl rfl 1 (by decide) mw_171 rfl dX0_missesOf_18 ?_
        refine lv_imul hx hb dX0_missesOf_21 ?_
        refine lv_iload hx hb dX0_missesOf_22 (lv_at hl 5 rfl) ?_
        refine lv_iadd hx hb dX0_missesOf_24 ?_
        refine lv_iload hx hb dX0_missesOf_25 (lv_at hl 5 rfl) ?_
        refine lv_iload_n hx hb dX0_missesOf_27 rfl (lv_at hl 1 rfl) ?_
        refine lv_isub hx hb dX0_missesOf_28 ?_
        refine lv_aload_n hx hb dX0_missesOf_29 rfl (lv_at hl 7 rfl) ?_
        refine lv_iload hx hb dX0_missesOf_30 (lv_at hl 2 rfl) ?_
        refine lv_iload hx hb dX0_missesOf_32 (lv_at hl 3 rfl) ?_
        refine vp_callSi (rd_wV (wc := bd_w a0 q s0 ++ tp_w a1 q s1) (As := [.int ((z1 * (s0.1 1)) + z7), .int (z7 - z2), .ref (a1 0), .int z4, .int z5]) (rest := []) hx hb hml hown ht (c2_X0_flapFor h) wd_X0_flapFor mw_568 hQ hV va_S.rf (hP.sub [0, 1, 2, 3, 4, 5, 6, 7, 8, 9, 10, 11, 12, 13, 14] rfl) rfl rfl rfl hl.1 rfl (Nat.le_of_ble_eq_true rfl) dX0_missesOf_34 ⟨Nat.le_of_ble_eq_true rfl, Nat.le_of_ble_eq_true rfl, rfl, rfl⟩ ⟨Nat.le_of_ble_eq_true rfl, Nat.le_of_ble_eq_true rfl⟩) (fun r_2 h => ?_)
        try dsimp only at h
        refine lv_iconst (v := (-1)) hx hb dX0_missesOf_37 (by decide) ?_
        refine lv_icmp_ne (tgt := 44) hx hb dX0_missesOf_38 (by decide) (fun c_4 => ?_) (fun c_4 => ?_)
        · replace h := h.1 c_4
          refine lv_iinc (v := (z7 + 1)) (lv' := [(7, .int (z7 + 1)), (1, .int z1), (2, .int z2), (4, .int z4), (5, .int z5), (6, .int z6), (0, .ref (a0 0)), (3, .ref (a1 0))]) hx hb dX0_missesOf_44 hl (k := 5) rfl rfl (by decide) rfl (fun ls hl => ?_)
          refine lv_goto (tgt := 6) hx hb dX0_missesOf_47 (by decide) ?_
          exact ih _ _ _ _ _ _ ls h (lv_sub hl [1, 2, 3, 4, 5, 0, 6, 7] rfl)
        · replace h := h.2 c_4
          refine lv_iinc (v := (z6 + 1)) (lv' := [(6, .int (z6 + 1)), (1, .int z1), (2, .int z2), (4, .int z4), (5, .int z5), (7, .int z7), (0, .ref (a0 0)), (3, .ref (a1 0))]) hx hb dX0_missesOf_41 hl (k := 4) rfl rfl (by decide) rfl (fun ls hl => ?_)
          refine lv_iinc (v := (z7 + 1)) (lv' := [(7, .int (z7 + 1)), (6, .int (z6 + 1)), (1, .int z1), (2, .int z2), (4, .int z4), (5, .int z5), (0, .ref (a0 0)), (3, .ref (a1 0))]) hx hb dX0_missesOf_44 hl (k := 5) rfl rfl (by decide) rfl (fun ls hl => ?_)
          refine lv_goto (tgt := 6) hx hb dX0_missesOf_47 (by decide) ?_
          exact ih _ _ _ _ _ _ ls h (lv_sub hl [2, 3, 4, 5, 1, 0, 6, 7] rfl)
  obtain ⟨n6, h⟩ := h
  refine lp6 _ ?_ n6 _ _ _ _ _ _ ls h (lv_sub hl [3, 4, 6, 7, 1, 0, 2, 5] rfl)
  · intro z1 z2 z4 z5 z6 z7 ls h hl
    try dsimp only at h
    refine lv_iload hx hb dX0_missesOf_50 (lv_at hl 4 rfl) ?_
    exact rd_iret hx hb hr hk h dX0_missesOf_52

def wp_X0_wantFlap (post : Int32 → Bd → Prop) (s0 : Bd) (x1 : Int32) (x2 : Int32) : Prop := ((¬ x2 = (-1) → vp_in x1 40 ∧ vp_in x1 40 ∧ vp_in x1 40 ∧ wp_X0_entryStart (fun r_5 => wp_X0_flapsOf (fun r_7 => ((x2 = ((s0.2.1 5) (Int32.toNatClampNeg x1)) → post 0 (s0.1, (va_up s0.2.1 6 (upd (s0.2.1 6) (Int32.toNatClampNeg x1) x2)), s0.2.2.1, s0.2.2.2.1, s0.2.2.2.2)) ∧ (¬ x2 = ((s0.2.1 5) (Int32.toNatClampNeg x1)) → ((((r_5 + (((s0.2.1 5) (Int32.toNatClampNeg x1)) * r_7)) + x2) < 0 → post 0 (s0.1, (va_up s0.2.1 6 (upd (s0.2.1 6) (Int32.toNatClampNeg x1) x2)), s0.2.2.1, s0.2.2.2.1, s0.2.2.2.2)) ∧ (¬ ((r_5 + (((s0.2.1 5) (Int32.toNatClampNeg x1)) * r_7)) + x2) < 0 → (((Int32.ofNat s0.2.2.2.1) ≤ ((r_5 + (((s0.2.1 5) (Int32.toNatClampNeg x1)) * r_7)) + x2) → post 0 (s0.1, (va_up s0.2.1 6 (upd (s0.2.1 6) (Int32.toNatClampNeg x1) x2)), s0.2.2.1, s0.2.2.2.1, s0.2.2.2.2)) ∧ (¬ (Int32.ofNat s0.2.2.2.1) ≤ ((r_5 + (((s0.2.1 5) (Int32.toNatClampNeg x1)) * r_7)) + x2) → vp_in ((r_5 + (((s0.2.1 5) (Int32.toNatClampNeg x1)) * r_7)) + x2) s0.2.2.2.1 ∧ vp_in ((r_5 + (((s0.2.1 5) (Int32.toNatClampNeg x1)) * r_7)) + x2) s0.2.2.2.1 ∧ post 0 (s0.1, (va_up s0.2.1 6 (upd (s0.2.1 6) (Int32.toNatClampNeg x1) x2)), s0.2.2.1, s0.2.2.2.1, (upd s0.2.2.2.2 (Int32.toNatClampNeg ((r_5 + (((s0.2.1 5) (Int32.toNatClampNeg x1)) * r_7)) + x2)) ((s0.2.2.2.2 (Int32.toNatClampNeg ((r_5 + (((s0.2.1 5) (Int32.toNatClampNeg x1)) * r_7)) + x2))) + 1)))))))))) (s0.1, (va_up s0.2.1 6 (upd (s0.2.1 6) (Int32.toNatClampNeg x1) x2)), s0.2.2.1, s0.2.2.2.1, s0.2.2.2.2) x1) (s0.1, (va_up s0.2.1 6 (upd (s0.2.1 6) (Int32.toNatClampNeg x1) x2)), s0.2.2.1, s0.2.2.2.1, s0.2.2.2.2) ((s0.2.1 3) (Int32.toNatClampNeg x1))) ∧ (x2 = (-1) → post 1 s0))
set_option maxHeartbeats 4000000 in
set_option maxRecDepth 100000 in
theorem c2_X0_wantFlap {l : Launch} {D : va_G} {q : Nat → ClassId} {sz : Nat} {a0 : Nat → Nat} {s0 : Bd} {x1 : Int32} {x2 : Int32} {post : Int32 → Bd → Prop} (h : wp_X0_wantFlap post s0 x1 x2) : Met l yX0_wantFlap (Cond.code yX0_wantFlap cX0_wantFlap 5 (some .int) :: w_all) ({ frames := 1, cells := 0, slots := 0, locals := 23 } : Room) (mt_P D q [.ref (a0 0), .int x1, .int x2] (bd_w a0 q s0) sz) (va_Qi (fun r (u : Bd) => post r u) (mt_B D (bd_w a0 q s0) sz (fun u : Bd => bd_w a0 q u)) (va_A (bd_w a0 q s0) sz)) 0 0 (va_A (bd_w a0 q s0) sz) := by
  refine mt_start (by decide) (Nat.le_of_ble_eq_true rfl) ?_
  intro p e s m below meth c ls hx hb hr hml hown ht hk hin hP hQ hD hA hS hV hl
  have hK := hQ.1
  have hown : s.vm.findClass RX0 = some m.cls := hown
  have hl : lv_has ls 5 [(0, .ref (a0 0)), (1, .int x1), (2, .int x2)] := hl
  have hP : va_P D vwCl [((a0 0), .inr (0, [.int (s0.1 0), .int (s0.1 1), .int (s0.1 2), .int (s0.1 3), .int (s0.1 4), .int (s0.1 5), .ref (a0 1), .ref (a0 2), .ref (a0 3), .ref (a0 4), .ref (a0 5), .ref (a0 6), .ref (a0 7), .ref (a0 8), .ref (a0 9), .ref (a0 10), .ref (a0 11), .ref (a0 12)])), ((a0 1), .inl (q 0, 4, .inl (s0.2.1 0))), ((a0 2), .inl (q 0, 4, .inl (s0.2.1 1))), ((a0 3), .inl (q 0, 160, .inl (s0.2.1 2))), ((a0 4), .inl (q 0, 40, .inl (s0.2.1 3))), ((a0 5), .inl (q 0, 40, .inl (s0.2.1 4))), ((a0 6), .inl (q 0, 40, .inl (s0.2.1 5))), ((a0 7), .inl (q 0, 40, .inl (s0.2.1 6))), ((a0 8), .inl (q 0, 40, .inl (s0.2.1 7))), ((a0 9), .inl (q 0, 40, .inl (s0.2.1 8))), ((a0 10), .inl (q 0, 40, .inl (s0.2.1 9))), ((a0 11), .inl (q 1, 40, .inr (.inl s0.2.2.1))), ((a0 12), .inl (q 0, s0.2.2.2.1, .inl s0.2.2.2.2))] s.heap := hP
  have hD : va_D _ [((a0 0), .inr (0, [.int (s0.1 0), .int (s0.1 1), .int (s0.1 2), .int (s0.1 3), .int (s0.1 4), .int (s0.1 5), .ref (a0 1), .ref (a0 2), .ref (a0 3), .ref (a0 4), .ref (a0 5), .ref (a0 6), .ref (a0 7), .ref (a0 8), .ref (a0 9), .ref (a0 10), .ref (a0 11), .ref (a0 12)])), ((a0 1), .inl (q 0, 4, .inl (s0.2.1 0))), ((a0 2), .inl (q 0, 4, .inl (s0.2.1 1))), ((a0 3), .inl (q 0, 160, .inl (s0.2.1 2))), ((a0 4), .inl (q 0, 40, .inl (s0.2.1 3))), ((a0 5), .inl (q 0, 40, .inl (s0.2.1 4))), ((a0 6), .inl (q 0, 40, .inl (s0.2.1 5))), ((a0 7), .inl (q 0, 40, .inl (s0.2.1 6))), ((a0 8), .inl (q 0, 40, .inl (s0.2.1 7))), ((a0 9), .inl (q 0, 40, .inl (s0.2.1 8))), ((a0 10), .inl (q 0, 40, .inl (s0.2.1 9))), ((a0 11), .inl (q 1, 40, .inr (.inl s0.2.2.1))), ((a0 12), .inl (q 0, s0.2.2.2.1, .inl s0.2.2.2.2))] := hD
  unfold wp_X0_wantFlap at h
  refine lv_iload_n hx hb dX0_wantFlap_0 rfl (lv_at hl 2 rfl) ?_
  refine lv_iconst (v := (-1)) hx hb dX0_wantFlap_1 (by decide) ?_
  refine lv_icmp_ne (tgt := 7) hx hb dX0_wantFlap_2 (by decide) (fun c_1 => ?_) (fun c_1 => ?_)
  · replace h := h.1 c_1
    refine lv_aload_n hx hb dX0_wantFlap_7 rfl (lv_at hl 0 rfl) ?_
    refine fl_get (C := RX0) (T := TX0) (N := 18) (ci := 0) (v := .ref (a0 7)) hx hb ht in_X0 hown hK hP 0 rfl rfl 12 (by decide) mw_198 rfl dX0_wantFlap_8 ?_
    refine lv_iload_n hx hb dX0_wantFlap_11 rfl (lv_at hl 1 rfl) ?_
    refine lv_iload_n hx hb dX0_wantFlap_12 rfl (lv_at hl 2 rfl) ?_
    obtain ⟨g_2, h⟩ := h
    refine va_iast hx hb hK hP hD hS 7 0 rfl rfl g_2 dX0_wantFlap_13 (fun H locs hP hD hS => ?_)
    have hP : va_P D vwCl [((a0 0), .inr (0, [.int (s0.1 0), .int (s0.1 1), .int (s0.1 2), .int (s0.1 3), .int (s0.1 4), .int (s0.1 5), .ref (a0 1), .ref (a0 2), .ref (a0 3), .ref (a0 4), .ref (a0 5), .ref (a0 6), .ref (a0 7), .ref (a0 8), .ref (a0 9), .ref (a0 10), .ref (a0 11), .ref (a0 12)])), ((a0 1), .inl (q 0, 4, .inl (s0.2.1 0))), ((a0 2), .inl (q 0, 4, .inl (s0.2.1 1))), ((a0 3), .inl (q 0, 160, .inl (s0.2.1 2))), ((a0 4), .inl (q 0, 40, .inl (s0.2.1 3))), ((a0 5), .inl (q 0, 40, .inl (s0.2.1 4))), ((a0 6), .inl (q 0, 40, .inl (s0.2.1 5))), ((a0 7), .inl (q 0, 40, .inl (upd (s0.2.1 6) (Int32.toNatClampNeg x1) x2))), ((a0 8), .inl (q 0, 40, .inl (s0.2.1 7))), ((a0 9), .inl (q 0, 40, .inl (s0.2.1 8))), ((a0 10), .inl (q 0, 40, .inl (s0.2.1 9))), ((a0 11), .inl (q 1, 40, .inr (.inl s0.2.2.1))), ((a0 12), .inl (q 0, s0.2.2.2.1, .inl s0.2.2.2.2))] H := hP
    have hD : va_D _ [((a0 0), .inr (0, [.int (s0.1 0), .int (s0.1 1), .int (s0.1 2), .int (s0.1 3), .int (s0.1 4), .int (s0.1 5), .ref (a0 1), .ref (a0 2), .ref (a0 3), .ref (a0 4), .ref (a0 5), .ref (a0 6), .ref (a0 7), .ref (a0 8), .ref (a0 9), .ref (a0 10), .ref (a0 11), .ref (a0 12)])), ((a0 1), .inl (q 0, 4, .inl (s0.2.1 0))), ((a0 2), .inl (q 0, 4, .inl (s0.2.1 1))), ((a0 3), .inl (q 0, 160, .inl (s0.2.1 2))), ((a0 4), .inl (q 0, 40, .inl (s0.2.1 3))), ((a0 5), .inl (q 0, 40, .inl (s0.2.1 4))), ((a0 6), .inl (q 0, 40, .inl (s0.2.1 5))), ((a0 7), .inl (q 0, 40, .inl (upd (s0.2.1 6) (Int32.toNatClampNeg x1) x2))), ((a0 8), .inl (q 0, 40, .inl (s0.2.1 7))), ((a0 9), .inl (q 0, 40, .inl (s0.2.1 8))), ((a0 10), .inl (q 0, 40, .inl (s0.2.1 9))), ((a0 11), .inl (q 1, 40, .inr (.inl s0.2.2.1))), ((a0 12), .inl (q 0, s0.2.2.2.1, .inl s0.2.2.2.2))] := hD
    refine lv_aload_n hx hb dX0_wantFlap_14 rfl (lv_at hl 0 rfl) ?_
    refine fl_get (C := RX0) (T := TX0) (N := 18) (ci := 0) (v := .ref (a0 6)) hx hb ht in_X0 hown hK hP 0 rfl rfl 11 (by decide) mw_196 rfl dX0_wantFlap_15 ?_
    refine lv_iload_n hx hb dX0_wantFlap_18 rfl (lv_at hl 1 rfl) ?_
    obtain ⟨g_3, h⟩ := h
    refine va_iald hx hb hK hP 6 0 rfl rfl g_3 dX0_wantFlap_19 ?_
    refine lv_istore_n (lv' := [(3, .int ((s0.2.1 5) (Int32.toNatClampNeg x1))), (0, .ref (a0 0)), (1, .int x1), (2, .int x2)]) hx hb dX0_wantFlap_20 rfl hl (by decide) rfl (fun ls hl => ?_)
    refine lv_aload_n hx hb dX0_wantFlap_21 rfl (lv_at hl 1 rfl) ?_
    refine lv_aload_n hx hb dX0_wantFlap_22 rfl (lv_at hl 1 rfl) ?_
    refine fl_get (C := RX0) (T := TX0) (N := 18) (ci := 0) (v := .ref (a0 4)) hx hb ht in_X0 hown hK hP 0 rfl rfl 9 (by decide) mw_192 rfl dX0_wantFlap_23 ?_
    refine lv_iload_n hx hb dX0_wantFlap_26 rfl (lv_at hl 2 rfl) ?_
    obtain ⟨g_4, h⟩ := h
    refine va_iald hx hb hK hP 4 0 rfl rfl g_4 dX0_wantFlap_27 ?_
    refine vp_callSi (rd_wV (wc := bd_w a0 q (s0.1, (va_up s0.2.1 6 (upd (s0.2.1 6) (Int32.toNatClampNeg x1) x2)), s0.2.2.1, s0.2.2.2.1, s0.2.2.2.2)) (As := [.int ((s0.2.1 3) (Int32.toNatClampNeg x1))]) (rest := []) hx hb hml hown ht (c2_X0_entryStart h) wd_X0_entryStart mw_605 hQ hV hS (hP.sub [0, 1, 2, 3, 4, 5, 6, 7, 8, 9, 10, 11, 12] rfl) rfl rfl rfl hl.1 rfl (Nat.le_of_ble_eq_true rfl) dX0_wantFlap_28 ⟨Nat.le_of_ble_eq_true rfl, Nat.le_of_ble_eq_true rfl, rfl, rfl⟩ ⟨Nat.le_of_ble_eq_true rfl, Nat.le_of_ble_eq_true rfl⟩) (fun r_5 h => ?_)
    try dsimp only at h
    refine lv_iload_n hx hb dX0_wantFlap_31 rfl (lv_at hl 0 rfl) ?_
    refine lv_aload_n hx hb dX0_wantFlap_32 rfl (lv_at hl 1 rfl) ?_
    refine lv_iload_n hx hb dX0_wantFlap_33 rfl (lv_at hl 2 rfl) ?_
    refine vp_callSi (rd_wV (wc := bd_w a0 q (s0.1, (va_up s0.2.1 6 (upd (s0.2.1 6) (Int32.toNatClampNeg x1) x2)), s0.2.2.1, s0.2.2.2.1, s0.2.2.2.2)) (As := [.int x1]) (rest := [.int ((s0.2.1 5) (Int32.toNatClampNeg x1)), .int r_5]) hx hb hml hown ht (c2_X0_flapsOf h) wd_X0_flapsOf mw_651 hQ hV hS (hP.sub [0, 1, 2, 3, 4, 5, 6, 7, 8, 9, 10, 11, 12] rfl) rfl rfl rfl hl.1 rfl (Nat.le_of_ble_eq_true rfl) dX0_wantFlap_34 ⟨Nat.le_of_ble_eq_true rfl, Nat.le_of_ble_eq_true rfl, rfl, rfl⟩ ⟨Nat.le_of_ble_eq_true rfl, Nat.le_of_ble_eq_true rfl⟩) (fun r_7 h => ?_)
    try dsimp only at h
    refine lv_imul hx hb dX0_wantFlap_37 ?_
    refine lv_iadd hx hb dX0_wantFlap_38 ?_
    refine lv_iload_n hx hb dX0_wantFlap_39 rfl (lv_at hl 3 rfl) ?_
    refine lv_iadd hx hb dX0_wantFlap_40 ?_
    refine lv_istore (lv' := [(4, .int ((r_5 + (((s0.2.1 5) (Int32.toNatClampNeg x1)) * r_7)) + x2)), (3, .int ((s0.2.1 5) (Int32.toNatClampNeg x1))), (0, .ref (a0 0)), (1, .int x1), (2, .int x2)]) hx hb dX0_wantFlap_41 hl (by decide) rfl (fun ls hl => ?_)
    refine lv_iload_n hx hb dX0_wantFlap_43 rfl (lv_at hl 4 rfl) ?_
    refine lv_iload_n hx hb dX0_wantFlap_44 rfl (lv_at hl 1 rfl) ?_
    refine lv_icmp_eq (tgt := 74) hx hb dX0_wantFlap_45 (by decide) (fun c_9 => ?_) (fun c_9 => ?_)
    · replace h := h.1 c_9
      refine lv_iconst (v := 0) hx hb dX0_wantFlap_74 (by decide) ?_
      exact mt_iret (s0.1, (va_up s0.2.1 6 (upd (s0.2.1 6) (Int32.toNatClampNeg x1) x2)), s0.2.2.1, s0.2.2.2.1, s0.2.2.2.2) hx hb hr hk h (hP.sub (ws' := bd_w a0 q (s0.1, (va_up s0.2.1 6 (upd (s0.2.1 6) (Int32.toNatClampNeg x1) x2)), s0.2.2.1, s0.2.2.2.1, s0.2.2.2.2)) [0, 1, 2, 3, 4, 5, 6, 7, 8, 9, 10, 11, 12] rfl) (hD.sub (ws' := bd_w a0 q (s0.1, (va_up s0.2.1 6 (upd (s0.2.1 6) (Int32.toNatClampNeg x1) x2)), s0.2.2.1, s0.2.2.2.1, s0.2.2.2.2)) [0, 1, 2, 3, 4, 5, 6, 7, 8, 9, 10, 11, 12] (by decide) rfl) hS dX0_wantFlap_75
    · replace h := h.2 c_9
      refine lv_iload hx hb dX0_wantFlap_48 (lv_at hl 0 rfl) ?_
      refine lv_if_lt (tgt := 74) hx hb dX0_wantFlap_50 (by decide) (fun c_10 => ?_) (fun c_10 => ?_)
      · replace h := h.1 c_10
        refine lv_iconst (v := 0) hx hb dX0_wantFlap_74 (by decide) ?_
        exact mt_iret (s0.1, (va_up s0.2.1 6 (upd (s0.2.1 6) (Int32.toNatClampNeg x1) x2)), s0.2.2.1, s0.2.2.2.1, s0.2.2.2.2) hx hb hr hk h (hP.sub (ws' := bd_w a0 q (s0.1, (va_up s0.2.1 6 (upd (s0.2.1 6) (Int32.toNatClampNeg x1) x2)), s0.2.2.1, s0.2.2.2.1, s0.2.2.2.2)) [0, 1, 2, 3, 4, 5, 6, 7, 8, 9, 10, 11, 12] rfl) (hD.sub (ws' := bd_w a0 q (s0.1, (va_up s0.2.1 6 (upd (s0.2.1 6) (Int32.toNatClampNeg x1) x2)), s0.2.2.1, s0.2.2.2.1, s0.2.2.2.2)) [0, 1, 2, 3, 4, 5, 6, 7, 8, 9, 10, 11, 12] (by decide) rfl) hS dX0_wantFlap_75
      · replace h := h.2 c_10
        refine lv_iload hx hb dX0_wantFlap_53 (lv_at hl 0 rfl) ?_
        refine lv_aload_n hx hb dX0_wantFlap_55 rfl (lv_at hl 2 rfl) ?_
        refine fl_get (C := RX0) (T := TX0) (N := 18) (ci := 0) (v := .ref (a0 12)) hx hb ht in_X0 hown hK hP 0 rfl rfl 17 (by decide) mw_208 rfl dX0_wantFlap_56 ?_
        refine va_alen (v := (Int32.ofNat s0.2.2.2.1)) hx hb hK hP 12 0 rfl rfl rfl dX0_wantFlap_59 ?_
        refine lv_icmp_ge (tgt := 74) hx hb dX0_wantFlap_60 (by decide) (fun c_11 => ?_) (fun c_11 => ?_)
        · replace h := h.1 c_11
          refine lv_iconst (v := 0) hx hb dX0_wantFlap_74 (by decide) ?_
          exact mt_iret (s0.1, (va_up s0.2.1 6 (upd (s0.2.1 6) (Int32.toNatClampNeg x1) x2)), s0.2.2.1, s0.2.2.2.1, s0.2.2.2.2) hx hb hr hk h (hP.sub (ws' := bd_w a0 q (s0.1, (va_up s0.2.1 6 (upd (s0.2.1 6) (Int32.toNatClampNeg x1) x2)), s0.2.2.1, s0.2.2.2.1, s0.2.2.2.2)) [0, 1, 2, 3, 4, 5, 6, 7, 8, 9, 10, 11, 12] rfl) (hD.sub (ws' := bd_w a0 q (s0.1, (va_up s0.2.1 6 (upd (s0.2.1 6) (Int32.toNatClampNeg x1) x2)), s0.2.2.1, s0.2.2.2.1, s0.2.2.2.2)) [0, 1, 2, 3, 4, 5, 6, 7, 8, 9, 10, 11, 12] (by decide) rfl) hS dX0_wantFlap_75
        · replace h := h.2 c_11
          refine lv_aload_n hx hb dX0_wantFlap_63 rfl (lv_at hl 2 rfl) ?_
          refine fl_get (C := RX0) (T := TX0) (N := 18) (ci := 0) (v := .ref (a0 12)) hx hb ht in_X0 hown hK hP 0 rfl rfl 17 (by decide) mw_208 rfl dX0_wantFlap_64 ?_
          refine lv_iload hx hb dX0_wantFlap_67 (lv_at hl 0 rfl) ?_
          refine lv_dup2_11 hx hb dX0_wantFlap_69 rfl rfl ?_
          obtain ⟨g_12, h⟩ := h
          refine va_iald hx hb hK hP 12 0 rfl rfl g_12 dX0_wantFlap_70 ?_
          refine lv_iconst (v := 1) hx hb dX0_wantFlap_71 (by decide) ?_
          refine lv_iadd hx hb dX0_wantFlap_72 ?_
          obtain ⟨g_13, h⟩ := h
          refine va_iast hx hb hK hP hD hS 12 0 rfl rfl g_13 dX0_wantFlap_73 (fun H locs hP hD hS => ?_)
          have hP : va_P D vwCl [((a0 0), .inr (0, [.int (s0.1 0), .int (s0.1 1), .int (s0.1 2), .int (s0.1 3), .int (s0.1 4), .int (s0.1 5), .ref (a0 1), .ref (a0 2), .ref (a0 3), .ref (a0 4), .ref (a0 5), .ref (a0 6), .ref (a0 7), .ref (a0 8), .ref (a0 9), .ref (a0 10), .ref (a0 11), .ref (a0 12)])), ((a0 1), .inl (q 0, 4, .inl (s0.2.1 0))), ((a0 2), .inl (q 0, 4, .inl (s0.2.1 1))), ((a0 3), .inl (q 0, 160, .inl (s0.2.1 2))), ((a0 4), .inl (q 0, 40, .inl (s0.2.1 3))), ((a0 5), .inl (q 0, 40, .inl (s0.2.1 4))), ((a0 6), .inl (q 0, 40, .inl (s0.2.1 5))), ((a0 7), .inl (q 0, 40, .inl (upd (s0.2.1 6) (Int32.toNatClampNeg x1) x2))), ((a0 8), .inl (q 0, 40, .inl (s0.2.1 7))), ((a0 9), .inl (q 0, 40, .inl (s0.2.1 8))), ((a0 10), .inl (q 0, 40, .inl (s0.2.1 9))), ((a0 11), .inl (q 1, 40, .inr (.inl s0.2.2.1))), ((a0 12), .inl (q 0, s0.2.2.2.1, .inl (upd s0.2.2.2.2 (Int32.toNatClampNeg ((r_5 + (((s0.2.1 5) (Int32.toNatClampNeg x1)) * r_7)) + x2)) ((s0.2.2.2.2 (Int32.toNatClampNeg ((r_5 + (((s0.2.1 5) (Int32.toNatClampNeg x1)) * r_7)) + x2))) + 1))))] H := hP
          have hD : va_D _ [((a0 0), .inr (0, [.int (s0.1 0), .int (s0.1 1), .int (s0.1 2), .int (s0.1 3), .int (s0.1 4), .int (s0.1 5), .ref (a0 1), .ref (a0 2), .ref (a0 3), .ref (a0 4), .ref (a0 5), .ref (a0 6), .ref (a0 7), .ref (a0 8), .ref (a0 9), .ref (a0 10), .ref (a0 11), .ref (a0 12)])), ((a0 1), .inl (q 0, 4, .inl (s0.2.1 0))), ((a0 2), .inl (q 0, 4, .inl (s0.2.1 1))), ((a0 3), .inl (q 0, 160, .inl (s0.2.1 2))), ((a0 4), .inl (q 0, 40, .inl (s0.2.1 3))), ((a0 5), .inl (q 0, 40, .inl (s0.2.1 4))), ((a0 6), .inl (q 0, 40, .inl (s0.2.1 5))), ((a0 7), .inl (q 0, 40, .inl (upd (s0.2.1 6) (Int32.toNatClampNeg x1) x2))), ((a0 8), .inl (q 0, 40, .inl (s0.2.1 7))), ((a0 9), .inl (q 0, 40, .inl (s0.2.1 8))), ((a0 10), .inl (q 0, 40, .inl (s0.2.1 9))), ((a0 11), .inl (q 1, 40, .inr (.inl s0.2.2.1))), ((a0 12), .inl (q 0, s0.2.2.2.1, .inl (upd s0.2.2.2.2 (Int32.toNatClampNeg ((r_5 + (((s0.2.1 5) (Int32.toNatClampNeg x1)) * r_7)) + x2)) ((s0.2.2.2.2 (Int32.toNatClampNeg ((r_5 + (((s0.2.1 5) (Int32.toNatClampNeg x1)) * r_7)) + x2))) + 1))))] := hD
          refine lv_iconst (v := 0) hx hb dX0_wantFlap_74 (by decide) ?_
          exact mt_iret (s0.1, (va_up s0.2.1 6 (upd (s0.2.1 6) (Int32.toNatClampNeg x1) x2)), s0.2.2.1, s0.2.2.2.1, (upd s0.2.2.2.2 (Int32.toNatClampNeg ((r_5 + (((s0.2.1 5) (Int32.toNatClampNeg x1)) * r_7)) + x2)) ((s0.2.2.2.2 (Int32.toNatClampNeg ((r_5 + (((s0.2.1 5) (Int32.toNatClampNeg x1)) * r_7)) + x2))) + 1))) hx hb hr hk h (hP.sub (ws' := bd_w a0 q (s0.1, (va_up s0.2.1 6 (upd (s0.2.1 6) (Int32.toNatClampNeg x1) x2)), s0.2.2.1, s0.2.2.2.1, (upd s0.2.2.2.2 (Int32.toNatClampNeg ((r_5 + (((s0.2.1 5) (Int32.toNatClampNeg x1)) * r_7)) + x2)) ((s0.2.2.2.2 (Int32.toNatClampNeg ((r_5 + (((s0.2.1 5) (Int32.toNatClampNeg x1)) * r_7)) + x2))) + 1)))) [0, 1, 2, 3, 4, 5, 6, 7, 8, 9, 10, 11, 12] rfl) (hD.sub (ws' := bd_w a0 q (s0.1, (va_up s0.2.1 6 (upd (s0.2.1 6) (Int32.toNatClampNeg x1) x2)), s0.2.2.1, s0.2.2.2.1, (upd s0.2.2.2.2 (Int32.toNatClampNeg ((r_5 + (((s0.2.1 5) (Int32.toNatClampNeg x1)) * r_7)) + x2)) ((s0.2.2.2.2 (Int32.toNatClampNeg ((r_5 + (((s0.2.1 5) (Int32.toNatClampNeg x1)) * r_7)) + x2))) + 1)))) [0, 1, 2, 3, 4, 5, 6, 7, 8, 9, 10, 11, 12] (by decide) rfl) hS dX0_wantFlap_75
  · replace h := h.2 c_1
    refine lv_iconst (v := 1) hx hb dX0_wantFlap_5 (by decide) ?_
    exact mt_iret s0 hx hb hr hk h (hP.sub (ws' := bd_w a0 q s0) [0, 1, 2, 3, 4, 5, 6, 7, 8, 9, 10, 11, 12] rfl) (hD.sub (ws' := bd_w a0 q s0) [0, 1, 2, 3, 4, 5, 6, 7, 8, 9, 10, 11, 12] (by decide) rfl) hS dX0_wantFlap_6

def wp_X0_wantSigns_L6 (s1 : Tp) (post : Int32 → Bd → Prop) (e55 : Bd → Int32 → Int32 → Int32 → Int32 → Int32 → Prop) : Nat → Bd → Int32 → Int32 → Int32 → Int32 → Int32 → Prop
  | 0, _, _, _, _, _, _ => False
  | n6 + 1, t0, z1, z3, z4, z5, z6 => (((t0.1 1) ≤ z6 → e55 t0 z1 z3 z4 z5 z6) ∧ (¬ (t0.1 1) ≤ z6 → wp_X0_flapFor (fun r_2 => wp_X0_wantFlap (fun r_4 u_5 => wp_X0_wantSigns_L6 s1 post e55 n6 u_5 z1 z3 z4 (z5 + r_4) (z6 + 1)) t0 ((z1 * (t0.1 1)) + z6) r_2) t0 s1 ((z1 * (t0.1 1)) + z6) z6 z3 z4))
def wp_X0_wantSigns (post : Int32 → Bd → Prop) (s0 : Bd) (s1 : Tp) (x1 : Int32) (x3 : Int32) (x4 : Int32) : Prop := (∃ n6, wp_X0_wantSigns_L6 s1 post (fun t0 z1 z3 z4 z5 z6 => post z5 t0) n6 s0 x1 x3 x4 0 0)
set_option maxHeartbeats 4000000 in
set_option maxRecDepth 100000 in
theorem c2_X0_wantSigns {l : Launch} {D : va_G} {q : Nat → ClassId} {sz : Nat} {a0 : Nat → Nat} {a1 : Nat → Nat} {s0 : Bd} {s1 : Tp} {x1 : Int32} {x3 : Int32} {x4 : Int32} {post : Int32 → Bd → Prop} (h : wp_X0_wantSigns post s0 s1 x1 x3 x4) : Met l yX0_wantSigns (Cond.code yX0_wantSigns cX0_wantSigns 8 (some .int) :: w_all) ({ frames := 2, cells := 0, slots := 0, locals := 54 } : Room) (mt_P D q [.ref (a0 0), .int x1, .ref (a1 0), .int x3, .int x4] (bd_w a0 q s0 ++ tp_w a1 q s1) sz) (va_Qi (fun r (u : Bd) => post r u) (mt_B D (bd_w a0 q s0 ++ tp_w a1 q s1) sz (fun u : Bd => bd_w a0 q u ++ tp_w a1 q s1)) (va_A (bd_w a0 q s0 ++ tp_w a1 q s1) sz)) 0 0 (va_A (bd_w a0 q s0 ++ tp_w a1 q s1) sz) := by
  refine mt_start (by decide) (Nat.le_of_ble_eq_true rfl) ?_
  intro p e s m below meth c ls hx hb hr hml hown ht hk hin hP hQ hD hA hS hV hl
  have hK := hQ.1
  have hown : s.vm.findClass RX0 = some m.cls := hown
  have hl : lv_has ls 8 [(0, .ref (a0 0)), (1, .int x1), (2, .ref (a1 0)), (3, .int x3), (4, .int x4)] := hl
  have hP : va_P D vwCl [((a0 0), .inr (0, [.int (s0.1 0), .int (s0.1 1), .int (s0.1 2), .int (s0.1 3), .int (s0.1 4), .int (s0.1 5), .ref (a0 1), .ref (a0 2), .ref (a0 3), .ref (a0 4), .ref (a0 5), .ref (a0 6), .ref (a0 7), .ref (a0 8), .ref (a0 9), .ref (a0 10), .ref (a0 11), .ref (a0 12)])), ((a0 1), .inl (q 0, 4, .inl (s0.2.1 0))), ((a0 2), .inl (q 0, 4, .inl (s0.2.1 1))), ((a0 3), .inl (q 0, 160, .inl (s0.2.1 2))), ((a0 4), .inl (q 0, 40, .inl (s0.2.1 3))), ((a0 5), .inl (q 0, 40, .inl (s0.2.1 4))), ((a0 6), .inl (q 0, 40, .inl (s0.2.1 5))), ((a0 7), .inl (q 0, 40, .inl (s0.2.1 6))), ((a0 8), .inl (q 0, 40, .inl (s0.2.1 7))), ((a0 9), .inl (q 0, 40, .inl (s0.2.1 8))), ((a0 10), .inl (q 0, 40, .inl (s0.2.1 9))), ((a0 11), .inl (q 1, 40, .inr (.inl s0.2.2.1))), ((a0 12), .inl (q 0, s0.2.2.2.1, .inl s0.2.2.2.2)), ((a1 0), .inr (4, [.ref (a1 1), .int (s1.1 0), .int (s1.1 1), .int (s1.1 2), .int (s1.1 3), .int (s1.1 4), .int (s1.1 5)])), ((a1 1), .inl (q 0, 400, .inl s1.2))] s.heap := hP
  have hD : va_D _ [((a0 0), .inr (0, [.int (s0.1 0), .int (s0.1 1), .int (s0.1 2), .int (s0.1 3), .int (s0.1 4), .int (s0.1 5), .ref (a0 1), .ref (a0 2), .ref (a0 3), .ref (a0 4), .ref (a0 5), .ref (a0 6), .ref (a0 7), .ref (a0 8), .ref (a0 9), .ref (a0 10), .ref (a0 11), .ref (a0 12)])), ((a0 1), .inl (q 0, 4, .inl (s0.2.1 0))), ((a0 2), .inl (q 0, 4, .inl (s0.2.1 1))), ((a0 3), .inl (q 0, 160, .inl (s0.2.1 2))), ((a0 4), .inl (q 0, 40, .inl (s0.2.1 3))), ((a0 5), .inl (q 0, 40, .inl (s0.2.1 4))), ((a0 6), .inl (q 0, 40, .inl (s0.2.1 5))), ((a0 7), .inl (q 0, 40, .inl (s0.2.1 6))), ((a0 8), .inl (q 0, 40, .inl (s0.2.1 7))), ((a0 9), .inl (q 0, 40, .inl (s0.2.1 8))), ((a0 10), .inl (q 0, 40, .inl (s0.2.1 9))), ((a0 11), .inl (q 1, 40, .inr (.inl s0.2.2.1))), ((a0 12), .inl (q 0, s0.2.2.2.1, .inl s0.2.2.2.2)), ((a1 0), .inr (4, [.ref (a1 1), .int (s1.1 0), .int (s1.1 1), .int (s1.1 2), .int (s1.1 3), .int (s1.1 4), .int (s1.1 5)])), ((a1 1), .inl (q 0, 400, .inl s1.2))] := hD
  unfold wp_X0_wantSigns at h
  refine lv_iconst (v := 0) hx hb dX0_wantSigns_0 (by decide) ?_
  refine lv_istore (lv' := [(5, .int 0), (0, .ref (a0 0)), (1, .int x1), (2, .ref (a1 0)), (3, .int x3), (4, .int x4)]) hx hb dX0_wantSigns_1 hl (by decide) rfl (fun ls hl => ?_)
  refine lv_iconst (v := 0) hx hb dX0_wantSigns_3 (by decide) ?_
  refine lv_istore (lv' := [(6, .int 0), (5, .int 0), (0, .ref (a0 0)), (1, .int x1), (2, .ref (a1 0)), (3, .int x3), (4, .int x4)]) hx hb dX0_wantSigns_4 hl (by decide) rfl (fun ls hl => ?_)
  have lp6 : ∀ (e55 : Bd → Int32 → Int32 → Int32 → Int32 → Int32 → Prop) (k55 : ∀ (t0 : Bd) (z1 : Int32) (z3 : Int32) (z4 : Int32) (z5 : Int32) (z6 : Int32) (H : Heap) (locs : List Loc) (ls : Array Slot), e55 t0 z1 z3 z4 z5 z6 → va_P D vwCl (bd_w a0 q t0 ++ tp_w a1 q s1) H → va_D (va_A (bd_w a0 q s0 ++ tp_w a1 q s1) sz) (bd_w a0 q t0 ++ tp_w a1 q s1) → va_S (va_A (bd_w a0 q s0 ++ tp_w a1 q s1) sz) s.heap H locs → lv_has ls 8 [(1, .int z1), (3, .int z3), (4, .int z4), (5, .int z5), (6, .int z6), (0, .ref (a0 0)), (2, .ref (a1 0))] → W p l e ({ frames := 2, cells := 0, slots := 0, locals := 54 } : Room) s m [.ref (a0 0), .int x1, .ref (a1 0), .int x3, .int x4].toArray below meth c H locs 0 0 (MQ below (va_Qi (fun r (u : Bd) => post r u) (mt_B D (bd_w a0 q s0 ++ tp_w a1 q s1) sz (fun u : Bd => bd_w a0 q u ++ tp_w a1 q s1)) (va_A (bd_w a0 q s0 ++ tp_w a1 q s1) sz)) [.ref (a0 0), .int x1, .ref (a1 0), .int x3, .int x4].toArray s 0 0 (va_A (bd_w a0 q s0 ++ tp_w a1 q s1) sz)) (F0 m 55 ls [])) (n : Nat) (t0 : Bd) (z1 : Int32) (z3 : Int32) (z4 : Int32) (z5 : Int32) (z6 : Int32) (H : Heap) (locs : List Loc) (ls : Array Slot), wp_X0_wantSigns_L6 s1 post e55 n t0 z1 z3 z4 z5 z6 → va_P D vwCl (bd_w a0 q t0 ++ tp_w a1 q s1) H → va_D (va_A (bd_w a0 q s0 ++ tp_w a1 q s1) sz) (bd_w a0 q t0 ++ tp_w a1 q s1) → va_S (va_A (bd_w a0 q s0 ++ tp_w a1 q s1) sz) s.heap H locs → lv_has ls 8 [(1, .int z1), (3, .int z3), (4, .int z4), (5, .int z5), (6, .int z6), (0, .ref (a0 0)), (2, .ref (a1 0))] → W p l e ({ frames := 2, cells := 0, slots := 0, locals := 54 } : Room) s m [.ref (a0 0), .int x1, .ref (a1 0), .int x3, .int x4].toArray below meth c H locs 0 0 (MQ below (va_Qi (fun r (u : Bd) => post r u) (mt_B D (bd_w a0 q s0 ++ tp_w a1 q s1) sz (fun u : Bd => bd_w a0 q u ++ tp_w a1 q s1)) (va_A (bd_w a0 q s0 ++ tp_w a1 q s1) sz)) [.ref (a0 0), .int x1, .ref (a1 0), .int x3, .int x4].toArray s 0 0 (va_A (bd_w a0 q s0 ++ tp_w a1 q s1) sz)) (F0 m 6 ls []) := by
    intro e55 k55 n
    induction n with
    | zero =>
      intro t0 z1 z3 z4 z5 z6 H locs ls h
      exact h.elim
    | succ n ih =>
      intro t0 z1 z3 z4 z5 z6 H locs ls h hP hD hS hl
      have hP : va_P D vwCl [((a0 0), .inr (0, [.int (t0.1 0), .int (t0.1 1), .int (t0.1 2), .int (t0.1 3), .int (t0.1 4), .int (t0.1 5), .ref (a0 1), .ref (a0 2), .ref (a0 3), .ref (a0 4), .ref (a0 5), .ref (a0 6), .ref (a0 7), .ref (a0 8), .ref (a0 9), .ref (a0 10), .ref (a0 11), .ref (a0 12)])), ((a0 1), .inl (q 0, 4, .inl (t0.2.1 0))), ((a0 2), .inl (q 0, 4, .inl (t0.2.1 1))), ((a0 3), .inl (q 0, 160, .inl (t0.2.1 2))), ((a0 4), .inl (q 0, 40, .inl (t0.2.1 3))), ((a0 5), .inl (q 0, 40, .inl (t0.2.1 4))), ((a0 6), .inl (q 0, 40, .inl (t0.2.1 5))), ((a0 7), .inl (q 0, 40, .inl (t0.2.1 6))), ((a0 8), .inl (q 0, 40, .inl (t0.2.1 7))), ((a0 9), .inl (q 0, 40, .inl (t0.2.1 8))), ((a0 10), .inl (q 0, 40, .inl (t0.2.1 9))), ((a0 11), .inl (q 1, 40, .inr (.inl t0.2.2.1))), ((a0 12), .inl (q 0, t0.2.2.2.1, .inl t0.2.2.2.2)), ((a1 0), .inr (4, [.ref (a1 1), .int (s1.1 0), .int (s1.1 1), .int (s1.1 2), .int (s1.1 3), .int (s1.1 4), .int (s1.1 5)])), ((a1 1), .inl (q 0, 400, .inl s1.2))] H := hP
      have hD : va_D _ [((a0 0), .inr (0, [.int (t0.1 0), .int (t0.1 1), .int (t0.1 2), .int (t0.1 3), .int (t0.1 4), .int (t0.1 5), .ref (a0 1), .ref (a0 2), .ref (a0 3), .ref (a0 4), .ref (a0 5), .ref (a0 6), .ref (a0 7), .ref (a0 8), .ref (a0 9), .ref (a0 10), .ref (a0 11), .ref (a0 12)])), ((a0 1), .inl (q 0, 4, .inl (t0.2.1 0))), ((a0 2), .inl (q 0, 4, .inl (t0.2.1 1))), ((a0 3), .inl (q 0, 160, .inl (t0.2.1 2))), ((a0 4), .inl (q 0, 40, .inl (t0.2.1 3))), ((a0 5), .inl (q 0, 40, .inl (t0.2.1 4))), ((a0 6), .inl (q 0, 40, .inl (t0.2.1 5))), ((a0 7), .inl (q 0, 40, .inl (t0.2.1 6))), ((a0 8), .inl (q 0, 40, .inl (t0.2.1 7))), ((a0 9), .inl (q 0, 40, .inl (t0.2.1 8))), ((a0 10), .inl (q 0, 40, .inl (t0.2.1 9))), ((a0 11), .inl (q 1, 40, .inr (.inl t0.2.2.1))), ((a0 12), .inl (q 0, t0.2.2.2.1, .inl t0.2.2.2.2)), ((a1 0), .inr (4, [.ref (a1 1), .int (s1.1 0), .int (s1.1 1), .int (s1.1 2), .int (s1.1 3), .int (s1.1 4), .int (s1.1 5)])), ((a1 1), .inl (q 0, 400, .inl s1.2))] := hD
      unfold wp_X0_wantSigns_L6 at h
      refine lv_iload hx hb dX0_wantSigns_6 (lv_at hl 4 rfl) ?_
      refine lv_aload_n hx hb dX0_wantSigns_8 rfl (lv_at hl 5 rfl) ?_
      refine fl_get (C := RX0) (T := TX0) (N := 18) (ci := 0) (v := .int (t0.1 1)) hx hb ht in_X0 hown hK hP 0 rfl rfl 1 (by decide) mw_171 rfl dX0_wantSigns_9 ?_
      refine lv_icmp_ge (tgt := 55) hx hb dX0_wantSigns_12 (by decide) (fun c_1 => ?_) (fun c_1 => ?_)
      · replace h := h.1 c_1
        exact k55 _ _ _ _ _ _ _ _ ls h (hP.sub (ws' := bd_w a0 q t0 ++ tp_w a1 q s1) [0, 1, 2, 3, 4, 5, 6, 7, 8, 9, 10, 11, 12, 13, 14] rfl) (hD.sub (ws' := bd_w a0 q t0 ++ tp_w a1 q s1) [0, 1, 2, 3, 4, 5, 6, 7, 8, 9, 10, 11, 12, 13, 14] (by decide) rfl) hS (lv_sub hl [0, 1, 2, 3, 4, 5, 6] rfl)
      · replace h := h.2 c_1
        refine lv_iload_n hx hb dX0_wantSigns_15 rfl (lv_at hl 0 rfl) ?_
        refine lv_aload_n hx hb dX0_wantSigns_16 rfl (lv_at hl 5 rfl) ?_
        refine fl_get (C := RX0) (T := TX0) (N := 18) (ci := 0) (v := .int (t0.1 1)) hx hb ht in_X0 hown hK hP 0 rfl rfl 1 (by decide) mw_171 rfl dX0_wantSigns_17 ?_
        refine lv_imul hx hb dX0_wantSigns_20 ?_
        refine lv_iload hx hb dX0_wantSigns_21 (lv_at hl 4 rfl) ?_
        refine lv_iadd hx hb dX0_wantSigns_23 ?_
        refine lv_istore (lv' := [(7, .int ((z1 * (t0.1 1)) + z6)), (1, .int z1), (3, .int z3), (4, .int z4), (5, .int z5), (6, .int z6), (0, .ref (a0 0)), (2, .ref (a1 0))]) hx hb dX0_wantSigns_24 hl (by decide) rfl (fun ls hl => ?_)
        refine lv_iload hx hb dX0_wantSigns_26 (lv_at hl 4 rfl) ?_
        refine lv_aload_n hx hb dX0_wantSigns_28 rfl (lv_at hl 6 rfl) ?_
        refine lv_iload hx hb dX0_wantSigns_29 (lv_at hl 0 rfl) ?_
        refine lv_aload_n hx hb dX0_wantSigns_31 rfl (lv_at hl 6 rfl) ?_
        refine lv_iload hx hb dX0_wantSigns_32 (lv_at hl 0 rfl) ?_
        refine lv_iload hx hb dX0_wantSigns_34 (lv_at hl 5 rfl) ?_
        refine lv_aload_n hx hb dX0_wantSigns_36 rfl (lv_at hl 7 rfl) ?_
        refine lv_iload_n hx hb dX0_wantSigns_37 rfl (lv_at hl 2 rfl) ?_
        refine lv_iload hx hb dX0_wantSigns_38 (lv_at hl 3 rfl) ?_
        refine vp_callSi (rd_wV (wc := bd_w a0 q t0 ++ tp_w a1 q s1) (As := [.int ((z1 * (t0.1 1)) + z6), .int z6, .ref (a1 0), .int z3, .int z4]) (rest := [.int ((z1 * (t0.1 1)) + z6), .ref (a0 0), .int z5]) hx hb hml hown ht (c2_X0_flapFor h) wd_X0_flapFor mw_568 hQ hV hS (hP.sub [0, 1, 2, 3, 4, 5, 6, 7, 8, 9, 10, 11, 12, 13, 14] rfl) rfl rfl rfl hl.1 rfl (Nat.le_of_ble_eq_true rfl) dX0_wantSigns_40 ⟨Nat.le_of_ble_eq_true rfl, Nat.le_of_ble_eq_true rfl, rfl, rfl⟩ ⟨Nat.le_of_ble_eq_true rfl, Nat.le_of_ble_eq_true rfl⟩) (fun r_2 h => ?_)
        try dsimp only at h
        refine mt_goi (mt_wV (wc := bd_w a0 q t0) (As := [.int ((z1 * (t0.1 1)) + z6), .int r_2]) (rest := [.int z5]) hx hb hml hown ht (c2_X0_wantFlap h) wd_X0_wantFlap mw_647 hQ hV hS hA (hP.sub [0, 1, 2, 3, 4, 5, 6, 7, 8, 9, 10, 11, 12] rfl) (hD.sub [0, 1, 2, 3, 4, 5, 6, 7, 8, 9, 10, 11, 12] (by decide) rfl) rfl rfl rfl hl.1 rfl (Nat.le_of_ble_eq_true rfl) dX0_wantSigns_43 ⟨Nat.le_of_ble_eq_true rfl, Nat.le_of_ble_eq_true rfl, rfl, rfl⟩ ⟨Nat.le_of_ble_eq_true rfl, Nat.le_of_ble_eq_true rfl⟩) (wr := [((a1 0), .inr (4, [.ref (a1 1), .int (s1.1 0), .int (s1.1 1), .int (s1.1 2), .int (s1.1 3), .int (s1.1 4), .int (s1.1 5)])), ((a1 1), .inl (q 0, 400, .inl s1.2))]) hP hD hS hA [0, 1, 2, 3, 4, 5, 6, 7, 8, 9, 10, 11, 12] [13, 14] rfl rfl (by decide) (by decide) (fun r_4 u_5 H locs h hP hD hS => ?_)
        try dsimp only at h
        have hP : va_P D vwCl [((a1 0), .inr (4, [.ref (a1 1), .int (s1.1 0), .int (s1.1 1), .int (s1.1 2), .int (s1.1 3), .int (s1.1 4), .int (s1.1 5)])), ((a1 1), .inl (q 0, 400, .inl s1.2)), ((a0 0), .inr (0, [.int (u_5.1 0), .int (u_5.1 1), .int (u_5.1 2), .int (u_5.1 3), .int (u_5.1 4), .int (u_5.1 5), .ref (a0 1), .ref (a0 2), .ref (a0 3), .ref (a0 4), .ref (a0 5), .ref (a0 6), .ref (a0 7), .ref (a0 8), .ref (a0 9), .ref (a0 10), .ref (a0 11), .ref (a0 12)])), ((a0 1), .inl (q 0, 4, .inl (u_5.2.1 0))), ((a0 2), .inl (q 0, 4, .inl (u_5.2.1 1))), ((a0 3), .inl (q 0, 160, .inl (u_5.2.1 2))), ((a0 4), .inl (q 0, 40, .inl (u_5.2.1 3))), ((a0 5), .inl (q 0, 40, .inl (u_5.2.1 4))), ((a0 6), .inl (q 0, 40, .inl (u_5.2.1 5))), ((a0 7), .inl (q 0, 40, .inl (u_5.2.1 6))), ((a0 8), .inl (q 0, 40, .inl (u_5.2.1 7))), ((a0 9), .inl (q 0, 40, .inl (u_5.2.1 8))), ((a0 10), .inl (q 0, 40, .inl (u_5.2.1 9))), ((a0 11), .inl (q 1, 40, .inr (.inl u_5.2.2.1))), ((a0 12), .inl (q 0, u_5.2.2.2.1, .inl u_5.2.2.2.2))] H := hP
        have hD : va_D _ [((a1 0), .inr (4, [.ref (a1 1), .int (s1.1 0), .int (s1.1 1), .int (s1.1 2), .int (s1.1 3), .int (s1.1 4), .int (s1.1 5)])), ((a1 1), .inl (q 0, 400, .inl s1.2)), ((a0 0), .inr (0, [.int (u_5.1 0), .int (u_5.1 1), .int (u_5.1 2), .int (u_5.1 3), .int (u_5.1 4), .int (u_5.1 5), .ref (a0 1), .ref (a0 2), .ref (a0 3), .ref (a0 4), .ref (a0 5), .ref (a0 6), .ref (a0 7), .ref (a0 8), .ref (a0 9), .ref (a0 10), .ref (a0 11), .ref (a0 12)])), ((a0 1), .inl (q 0, 4, .inl (u_5.2.1 0))), ((a0 2), .inl (q 0, 4, .inl (u_5.2.1 1))), ((a0 3), .inl (q 0, 160, .inl (u_5.2.1 2))), ((a0 4), .inl (q 0, 40, .inl (u_5.2.1 3))), ((a0 5), .inl (q 0, 40, .inl (u_5.2.1 4))), ((a0 6), .inl (q 0, 40, .inl (u_5.2.1 5))), ((a0 7), .inl (q 0, 40, .inl (u_5.2.1 6))), ((a0 8), .inl (q 0, 40, .inl (u_5.2.1 7))), ((a0 9), .inl (q 0, 40, .inl (u_5.2.1 8))), ((a0 10), .inl (q 0, 40, .inl (u_5.2.1 9))), ((a0 11), .inl (q 1, 40, .inr (.inl u_5.2.2.1))), ((a0 12), .inl (q 0, u_5.2.2.2.1, .inl u_5.2.2.2.2))] := hD
        refine lv_iadd hx hb dX0_wantSigns_46 ?_
        refine lv_istore (lv' := [(5, .int (z5 + r_4)), (7, .int ((z1 * (t0.1 1)) + z6)), (1, .int z1), (3, .int z3), (4, .int z4), (6, .int z6), (0, .ref (a0 0)), (2, .ref (a1 0))]) hx hb dX0_wantSigns_47 hl (by decide) rfl (fun ls hl => ?_)
        refine lv_iinc (v := (z6 + 1)) (lv' := [(6, .int (z6 + 1)), (5, .int (z5 + r_4)), (7, .int ((z1 * (t0.1 1)) + z6)), (1, .int z1), (3, .int z3), (4, .int z4), (0, .ref (a0 0)), (2, .ref (a1 0))]) hx hb dX0_wantSigns_49 hl (k := 5) rfl rfl (by decide) rfl (fun ls hl => ?_)
        refine lv_goto (tgt := 6) hx hb dX0_wantSigns_52 (by decide) ?_
        exact ih _ _ _ _ _ _ _ _ ls h (hP.sub (ws' := bd_w a0 q u_5 ++ tp_w a1 q s1) [2, 3, 4, 5, 6, 7, 8, 9, 10, 11, 12, 13, 14, 0, 1] rfl) (hD.sub (ws' := bd_w a0 q u_5 ++ tp_w a1 q s1) [2, 3, 4, 5, 6, 7, 8, 9, 10, 11, 12, 13, 14, 0, 1] (by decide) rfl) hS (lv_sub hl [3, 4, 5, 1, 0, 6, 7] rfl)
  obtain ⟨n6, h⟩ := h
  refine lp6 _ ?_ n6 _ _ _ _ _ _ _ _ ls h (hP.sub (ws' := bd_w a0 q s0 ++ tp_w a1 q s1) [0, 1, 2, 3, 4, 5, 6, 7, 8, 9, 10, 11, 12, 13, 14] rfl) (hD.sub (ws' := bd_w a0 q s0 ++ tp_w a1 q s1) [0, 1, 2, 3, 4, 5, 6, 7, 8, 9, 10, 11, 12, 13, 14] (by decide) rfl) hS (lv_sub hl [3, 5, 6, 1, 0, 2, 4] rfl)
  · intro t0 z1 z3 z4 z5 z6 H locs ls h hP hD hS hl
    try dsimp only at h
    have hP : va_P D vwCl [((a0 0), .inr (0, [.int (t0.1 0), .int (t0.1 1), .int (t0.1 2), .int (t0.1 3), .int (t0.1 4), .int (t0.1 5), .ref (a0 1), .ref (a0 2), .ref (a0 3), .ref (a0 4), .ref (a0 5), .ref (a0 6), .ref (a0 7), .ref (a0 8), .ref (a0 9), .ref (a0 10), .ref (a0 11), .ref (a0 12)])), ((a0 1), .inl (q 0, 4, .inl (t0.2.1 0))), ((a0 2), .inl (q 0, 4, .inl (t0.2.1 1))), ((a0 3), .inl (q 0, 160, .inl (t0.2.1 2))), ((a0 4), .inl (q 0, 40, .inl (t0.2.1 3))), ((a0 5), .inl (q 0, 40, .inl (t0.2.1 4))), ((a0 6), .inl (q 0, 40, .inl (t0.2.1 5))), ((a0 7), .inl (q 0, 40, .inl (t0.2.1 6))), ((a0 8), .inl (q 0, 40, .inl (t0.2.1 7))), ((a0 9), .inl (q 0, 40, .inl (t0.2.1 8))), ((a0 10), .inl (q 0, 40, .inl (t0.2.1 9))), ((a0 11), .inl (q 1, 40, .inr (.inl t0.2.2.1))), ((a0 12), .inl (q 0, t0.2.2.2.1, .inl t0.2.2.2.2)), ((a1 0), .inr (4, [.ref (a1 1), .int (s1.1 0), .int (s1.1 1), .int (s1.1 2), .int (s1.1 3), .int (s1.1 4), .int (s1.1 5)])), ((a1 1), .inl (q 0, 400, .inl s1.2))] H := hP
    have hD : va_D _ [((a0 0), .inr (0, [.int (t0.1 0), .int (t0.1 1), .int (t0.1 2), .int (t0.1 3), .int (t0.1 4), .int (t0.1 5), .ref (a0 1), .ref (a0 2), .ref (a0 3), .ref (a0 4), .ref (a0 5), .ref (a0 6), .ref (a0 7), .ref (a0 8), .ref (a0 9), .ref (a0 10), .ref (a0 11), .ref (a0 12)])), ((a0 1), .inl (q 0, 4, .inl (t0.2.1 0))), ((a0 2), .inl (q 0, 4, .inl (t0.2.1 1))), ((a0 3), .inl (q 0, 160, .inl (t0.2.1 2))), ((a0 4), .inl (q 0, 40, .inl (t0.2.1 3))), ((a0 5), .inl (q 0, 40, .inl (t0.2.1 4))), ((a0 6), .inl (q 0, 40, .inl (t0.2.1 5))), ((a0 7), .inl (q 0, 40, .inl (t0.2.1 6))), ((a0 8), .inl (q 0, 40, .inl (t0.2.1 7))), ((a0 9), .inl (q 0, 40, .inl (t0.2.1 8))), ((a0 10), .inl (q 0, 40, .inl (t0.2.1 9))), ((a0 11), .inl (q 1, 40, .inr (.inl t0.2.2.1))), ((a0 12), .inl (q 0, t0.2.2.2.1, .inl t0.2.2.2.2)), ((a1 0), .inr (4, [.ref (a1 1), .int (s1.1 0), .int (s1.1 1), .int (s1.1 2), .int (s1.1 3), .int (s1.1 4), .int (s1.1 5)])), ((a1 1), .inl (q 0, 400, .inl s1.2))] := hD
    refine lv_iload hx hb dX0_wantSigns_55 (lv_at hl 3 rfl) ?_
    exact mt_iret t0 hx hb hr hk h (hP.sub (ws' := bd_w a0 q t0 ++ tp_w a1 q s1) [0, 1, 2, 3, 4, 5, 6, 7, 8, 9, 10, 11, 12, 13, 14] rfl) (hD.sub (ws' := bd_w a0 q t0 ++ tp_w a1 q s1) [0, 1, 2, 3, 4, 5, 6, 7, 8, 9, 10, 11, 12, 13, 14] (by decide) rfl) hS dX0_wantSigns_57

def wp_X0_scrollUp_L6 (s1 : Tp) (post : Int32 → Bd → Prop) (e54 : Bd → Int32 → Int32 → Int32 → Int32 → Prop) : Nat → Bd → Int32 → Int32 → Int32 → Int32 → Prop
  | 0, _, _, _, _, _ => False
  | n6 + 1, t0, z2, z3, z4, z5 => wp_X0_cells (fun r_1 => (((r_1 - (t0.1 1)) ≤ z5 → e54 t0 z2 z3 z4 z5) ∧ (¬ (r_1 - (t0.1 1)) ≤ z5 → wp_X0_wantedSign (fun r_4 => wp_X0_nearest (fun r_6 => wp_X0_wantFlap (fun r_8 u_9 => wp_X0_scrollUp_L6 s1 post e54 n6 u_9 z2 z3 (z4 + r_8) (z5 + 1)) t0 z5 r_6) t0 z5 r_4) t0 (z5 + (t0.1 1))))) t0
def wp_X0_scrollUp (post : Int32 → Bd → Prop) (s0 : Bd) (s1 : Tp) (x2 : Int32) (x3 : Int32) : Prop := (∃ n6, wp_X0_scrollUp_L6 s1 post (fun t0 z2 z3 z4 z5 => wp_X0_wantSigns (fun r_10 u_11 => post (z4 + r_10) u_11) t0 s1 ((t0.1 0) - 1) z2 z3) n6 s0 x2 x3 0 0)
set_option maxHeartbeats 4000000 in
set_option maxRecDepth 100000 in
theorem c2_X0_scrollUp {l : Launch} {D : va_G} {q : Nat → ClassId} {sz : Nat} {a0 : Nat → Nat} {a1 : Nat → Nat} {s0 : Bd} {s1 : Tp} {x2 : Int32} {x3 : Int32} {post : Int32 → Bd → Prop} (h : wp_X0_scrollUp post s0 s1 x2 x3) : Met l yX0_scrollUp (Cond.code yX0_scrollUp cX0_scrollUp 6 (some .int) :: w_all) ({ frames := 3, cells := 0, slots := 0, locals := 81 } : Room) (mt_P D q [.ref (a0 0), .ref (a1 0), .int x2, .int x3] (bd_w a0 q s0 ++ tp_w a1 q s1) sz) (va_Qi (fun r (u : Bd) => post r u) (mt_B D (bd_w a0 q s0 ++ tp_w a1 q s1) sz (fun u : Bd => bd_w a0 q u ++ tp_w a1 q s1)) (va_A (bd_w a0 q s0 ++ tp_w a1 q s1) sz)) 0 0 (va_A (bd_w a0 q s0 ++ tp_w a1 q s1) sz) := by
  refine mt_start (by decide) (Nat.le_of_ble_eq_true rfl) ?_
  intro p e s m below meth c ls hx hb hr hml hown ht hk hin hP hQ hD hA hS hV hl
  have hK := hQ.1
  have hown : s.vm.findClass RX0 = some m.cls := hown
  have hl : lv_has ls 6 [(0, .ref (a0 0)), (1, .ref (a1 0)), (2, .int x2), (3, .int x3)] := hl
  have hP : va_P D vwCl [((a0 0), .inr (0, [.int (s0.1 0), .int (s0.1 1), .int (s0.1 2), .int (s0.1 3), .int (s0.1 4), .int (s0.1 5), .ref (a0 1), .ref (a0 2), .ref (a0 3), .ref (a0 4), .ref (a0 5), .ref (a0 6), .ref (a0 7), .ref (a0 8), .ref (a0 9), .ref (a0 10), .ref (a0 11), .ref (a0 12)])), ((a0 1), .inl (q 0, 4, .inl (s0.2.1 0))), ((a0 2), .inl (q 0, 4, .inl (s0.2.1 1))), ((a0 3), .inl (q 0, 160, .inl (s0.2.1 2))), ((a0 4), .inl (q 0, 40, .inl (s0.2.1 3))), ((a0 5), .inl (q 0, 40, .inl (s0.2.1 4))), ((a0 6), .inl (q 0, 40, .inl (s0.2.1 5))), ((a0 7), .inl (q 0, 40, .inl (s0.2.1 6))), ((a0 8), .inl (q 0, 40, .inl (s0.2.1 7))), ((a0 9), .inl (q 0, 40, .inl (s0.2.1 8))), ((a0 10), .inl (q 0, 40, .inl (s0.2.1 9))), ((a0 11), .inl (q 1, 40, .inr (.inl s0.2.2.1))), ((a0 12), .inl (q 0, s0.2.2.2.1, .inl s0.2.2.2.2)), ((a1 0), .inr (4, [.ref (a1 1), .int (s1.1 0), .int (s1.1 1), .int (s1.1 2), .int (s1.1 3), .int (s1.1 4), .int (s1.1 5)])), ((a1 1), .inl (q 0, 400, .inl s1.2))] s.heap := hP
  have hD : va_D _ [((a0 0), .inr (0, [.int (s0.1 0), .int (s0.1 1), .int (s0.1 2), .int (s0.1 3), .int (s0.1 4), .int (s0.1 5), .ref (a0 1), .ref (a0 2), .ref (a0 3), .ref (a0 4), .ref (a0 5), .ref (a0 6), .ref (a0 7), .ref (a0 8), .ref (a0 9), .ref (a0 10), .ref (a0 11), .ref (a0 12)])), ((a0 1), .inl (q 0, 4, .inl (s0.2.1 0))), ((a0 2), .inl (q 0, 4, .inl (s0.2.1 1))), ((a0 3), .inl (q 0, 160, .inl (s0.2.1 2))), ((a0 4), .inl (q 0, 40, .inl (s0.2.1 3))), ((a0 5), .inl (q 0, 40, .inl (s0.2.1 4))), ((a0 6), .inl (q 0, 40, .inl (s0.2.1 5))), ((a0 7), .inl (q 0, 40, .inl (s0.2.1 6))), ((a0 8), .inl (q 0, 40, .inl (s0.2.1 7))), ((a0 9), .inl (q 0, 40, .inl (s0.2.1 8))), ((a0 10), .inl (q 0, 40, .inl (s0.2.1 9))), ((a0 11), .inl (q 1, 40, .inr (.inl s0.2.2.1))), ((a0 12), .inl (q 0, s0.2.2.2.1, .inl s0.2.2.2.2)), ((a1 0), .inr (4, [.ref (a1 1), .int (s1.1 0), .int (s1.1 1), .int (s1.1 2), .int (s1.1 3), .int (s1.1 4), .int (s1.1 5)])), ((a1 1), .inl (q 0, 400, .inl s1.2))] := hD
  unfold wp_X0_scrollUp at h
  refine lv_iconst (v := 0) hx hb dX0_scrollUp_0 (by decide) ?_
  refine lv_istore (lv' := [(4, .int 0), (0, .ref (a0 0)), (1, .ref (a1 0)), (2, .int x2), (3, .int x3)]) hx hb dX0_scrollUp_1 hl (by decide) rfl (fun ls hl => ?_)
  refine lv_iconst (v := 0) hx hb dX0_scrollUp_3 (by decide) ?_
  refine lv_istore (lv' := [(5, .int 0), (4, .int 0), (0, .ref (a0 0)), (1, .ref (a1 0)), (2, .int x2), (3, .int x3)]) hx hb dX0_scrollUp_4 hl (by decide) rfl (fun ls hl => ?_)
  have lp6 : ∀ (e54 : Bd → Int32 → Int32 → Int32 → Int32 → Prop) (k54 : ∀ (t0 : Bd) (z2 : Int32) (z3 : Int32) (z4 : Int32) (z5 : Int32) (H : Heap) (locs : List Loc) (ls : Array Slot), e54 t0 z2 z3 z4 z5 → va_P D vwCl (bd_w a0 q t0 ++ tp_w a1 q s1) H → va_D (va_A (bd_w a0 q s0 ++ tp_w a1 q s1) sz) (bd_w a0 q t0 ++ tp_w a1 q s1) → va_S (va_A (bd_w a0 q s0 ++ tp_w a1 q s1) sz) s.heap H locs → lv_has ls 6 [(2, .int z2), (3, .int z3), (4, .int z4), (5, .int z5), (0, .ref (a0 0)), (1, .ref (a1 0))] → W p l e ({ frames := 3, cells := 0, slots := 0, locals := 81 } : Room) s m [.ref (a0 0), .ref (a1 0), .int x2, .int x3].toArray below meth c H locs 0 0 (MQ below (va_Qi (fun r (u : Bd) => post r u) (mt_B D (bd_w a0 q s0 ++ tp_w a1 q s1) sz (fun u : Bd => bd_w a0 q u ++ tp_w a1 q s1)) (va_A (bd_w a0 q s0 ++ tp_w a1 q s1) sz)) [.ref (a0 0), .ref (a1 0), .int x2, .int x3].toArray s 0 0 (va_A (bd_w a0 q s0 ++ tp_w a1 q s1) sz)) (F0 m 54 ls [])) (n : Nat) (t0 : Bd) (z2 : Int32) (z3 : Int32) (z4 : Int32) (z5 : Int32) (H : Heap) (locs : List Loc) (ls : Array Slot), wp_X0_scrollUp_L6 s1 post e54 n t0 z2 z3 z4 z5 → va_P D vwCl (bd_w a0 q t0 ++ tp_w a1 q s1) H → va_D (va_A (bd_w a0 q s0 ++ tp_w a1 q s1) sz) (bd_w a0 q t0 ++ tp_w a1 q s1) → va_S (va_A (bd_w a0 q s0 ++ tp_w a1 q s1) sz) s.heap H locs → lv_has ls 6 [(2, .int z2), (3, .int z3), (4, .int z4), (5, .int z5), (0, .ref (a0 0)), (1, .ref (a1 0))] → W p l e ({ frames := 3, cells := 0, slots := 0, locals := 81 } : Room) s m [.ref (a0 0), .ref (a1 0), .int x2, .int x3].toArray below meth c H locs 0 0 (MQ below (va_Qi (fun r (u : Bd) => post r u) (mt_B D (bd_w a0 q s0 ++ tp_w a1 q s1) sz (fun u : Bd => bd_w a0 q u ++ tp_w a1 q s1)) (va_A (bd_w a0 q s0 ++ tp_w a1 q s1) sz)) [.ref (a0 0), .ref (a1 0), .int x2, .int x3].toArray s 0 0 (va_A (bd_w a0 q s0 ++ tp_w a1 q s1) sz)) (F0 m 6 ls []) := by
    intro e54 k54 n
    induction n with
    | zero =>
      intro t0 z2 z3 z4 z5 H locs ls h
      exact h.elim
    | succ n ih =>
      intro t0 z2 z3 z4 z5 H locs ls h hP hD hS hl
      have hP : va_P D vwCl [((a0 0), .inr (0, [.int (t0.1 0), .int (t0.1 1), .int (t0.1 2), .int (t0.1 3), .int (t0.1 4), .int (t0.1 5), .ref (a0 1), .ref (a0 2), .ref (a0 3), .ref (a0 4), .ref (a0 5), .ref (a0 6), .ref (a0 7), .ref (a0 8), .ref (a0 9), .ref (a0 10), .ref (a0 11), .ref (a0 12)])), ((a0 1), .inl (q 0, 4, .inl (t0.2.1 0))), ((a0 2), .inl (q 0, 4, .inl (t0.2.1 1))), ((a0 3), .inl (q 0, 160, .inl (t0.2.1 2))), ((a0 4), .inl (q 0, 40, .inl (t0.2.1 3))), ((a0 5), .inl (q 0, 40, .inl (t0.2.1 4))), ((a0 6), .inl (q 0, 40, .inl (t0.2.1 5))), ((a0 7), .inl (q 0, 40, .inl (t0.2.1 6))), ((a0 8), .inl (q 0, 40, .inl (t0.2.1 7))), ((a0 9), .inl (q 0, 40, .inl (t0.2.1 8))), ((a0 10), .inl (q 0, 40, .inl (t0.2.1 9))), ((a0 11), .inl (q 1, 40, .inr (.inl t0.2.2.1))), ((a0 12), .inl (q 0, t0.2.2.2.1, .inl t0.2.2.2.2)), ((a1 0), .inr (4, [.ref (a1 1), .int (s1.1 0), .int (s1.1 1), .int (s1.1 2), .int (s1.1 3), .int (s1.1 4), .int (s1.1 5)])), ((a1 1), .inl (q 0, 400, .inl s1.2))] H := hP
      have hD : va_D _ [((a0 0), .inr (0, [.int (t0.1 0), .int (t0.1 1), .int (t0.1 2), .int (t0.1 3), .int (t0.1 4), .int (t0.1 5), .ref (a0 1), .ref (a0 2), .ref (a0 3), .ref (a0 4), .ref (a0 5), .ref (a0 6), .ref (a0 7), .ref (a0 8), .ref (a0 9), .ref (a0 10), .ref (a0 11), .ref (a0 12)])), ((a0 1), .inl (q 0, 4, .inl (t0.2.1 0))), ((a0 2), .inl (q 0, 4, .inl (t0.2.1 1))), ((a0 3), .inl (q 0, 160, .inl (t0.2.1 2))), ((a0 4), .inl (q 0, 40, .inl (t0.2.1 3))), ((a0 5), .inl (q 0, 40, .inl (t0.2.1 4))), ((a0 6), .inl (q 0, 40, .inl (t0.2.1 5))), ((a0 7), .inl (q 0, 40, .inl (t0.2.1 6))), ((a0 8), .inl (q 0, 40, .inl (t0.2.1 7))), ((a0 9), .inl (q 0, 40, .inl (t0.2.1 8))), ((a0 10), .inl (q 0, 40, .inl (t0.2.1 9))), ((a0 11), .inl (q 1, 40, .inr (.inl t0.2.2.1))), ((a0 12), .inl (q 0, t0.2.2.2.1, .inl t0.2.2.2.2)), ((a1 0), .inr (4, [.ref (a1 1), .int (s1.1 0), .int (s1.1 1), .int (s1.1 2), .int (s1.1 3), .int (s1.1 4), .int (s1.1 5)])), ((a1 1), .inl (q 0, 400, .inl s1.2))] := hD
      unfold wp_X0_scrollUp_L6 at h
      refine lv_iload hx hb dX0_scrollUp_6 (lv_at hl 3 rfl) ?_
      refine lv_aload_n hx hb dX0_scrollUp_8 rfl (lv_at hl 4 rfl) ?_
      refine vp_callSi (rd_wV (wc := bd_w a0 q t0) (As := []) (rest := [.int z5]) hx hb hml hown ht (c2_X0_cells h) wd_X0_cells mw_588 hQ hV hS (hP.sub [0, 1, 2, 3, 4, 5, 6, 7, 8, 9, 10, 11, 12] rfl) rfl rfl rfl hl.1 rfl (Nat.le_of_ble_eq_true rfl) dX0_scrollUp_9 ⟨Nat.le_of_ble_eq_true rfl, Nat.le_of_ble_eq_true rfl, rfl, rfl⟩ ⟨Nat.le_of_ble_eq_true rfl, Nat.le_of_ble_eq_true rfl⟩) (fun r_1 h => ?_)
      try dsimp only at h
      refine lv_aload_n hx hb dX0_scrollUp_12 rfl (lv_at hl 4 rfl) ?_
      refine fl_get (C := RX0) (T := TX0) (N := 18) (ci := 0) (v := .int (t0.1 1)) hx hb ht in_X0 hown hK hP 0 rfl rfl 1 (by decide) mw_171 rfl dX0_scrollUp_13 ?_
      refine lv_isub hx hb dX0_scrollUp_16 ?_
      refine lv_icmp_ge (tgt := 54) hx hb dX0_scrollUp_17 (by decide) (fun c_3 => ?_) (fun c_3 => ?_)
      · replace h := h.1 c_3
        exact k54 _ _ _ _ _ _ _ ls h (hP.sub (ws' := bd_w a0 q t0 ++ tp_w a1 q s1) [0, 1, 2, 3, 4, 5, 6, 7, 8, 9, 10, 11, 12, 13, 14] rfl) (hD.sub (ws' := bd_w a0 q t0 ++ tp_w a1 q s1) [0, 1, 2, 3, 4, 5, 6, 7, 8, 9, 10, 11, 12, 13, 14] (by decide) rfl) hS (lv_sub hl [0, 1, 2, 3, 4, 5] rfl)
      · replace h := h.2 c_3
        refine lv_iload hx hb dX0_scrollUp_20 (lv_at hl 2 rfl) ?_
        refine lv_aload_n hx hb dX0_scrollUp_22 rfl (lv_at hl 4 rfl) ?_
        refine lv_iload hx hb dX0_scrollUp_23 (lv_at hl 3 rfl) ?_
        refine lv_aload_n hx hb dX0_scrollUp_25 rfl (lv_at hl 4 rfl) ?_
        refine lv_iload hx hb dX0_scrollUp_26 (lv_at hl 3 rfl) ?_
        refine lv_aload_n hx hb dX0_scrollUp_28 rfl (lv_at hl 4 rfl) ?_
        refine lv_iload hx hb dX0_scrollUp_29 (lv_at hl 3 rfl) ?_
        refine lv_aload_n hx hb dX0_scrollUp_31 rfl (lv_at hl 4 rfl) ?_
        refine fl_get (C := RX0) (T := TX0) (N := 18) (ci := 0) (v := .int (t0.1 1)) hx hb ht in_X0 hown hK hP 0 rfl rfl 1 (by decide) mw_171 rfl dX0_scrollUp_32 ?_
        refine lv_iadd hx hb dX0_scrollUp_35 ?_
        refine vp_callSi (rd_wV (wc := bd_w a0 q t0) (As := [.int (z5 + (t0.1 1))]) (rest := [.int z5, .ref (a0 0), .int z5, .ref (a0 0), .int z4]) hx hb hml hown ht (c2_X0_wantedSign h) wd_X0_wantedSign mw_660 hQ hV hS (hP.sub [0, 1, 2, 3, 4, 5, 6, 7, 8, 9, 10, 11, 12] rfl) rfl rfl rfl hl.1 rfl (Nat.le_of_ble_eq_true rfl) dX0_scrollUp_36 ⟨Nat.le_of_ble_eq_true rfl, Nat.le_of_ble_eq_true rfl, rfl, rfl⟩ ⟨Nat.le_of_ble_eq_true rfl, Nat.le_of_ble_eq_true rfl⟩) (fun r_4 h => ?_)
        try dsimp only at h
        refine vp_callSi (rd_wV (wc := bd_w a0 q t0) (As := [.int z5, .int r_4]) (rest := [.int z5, .ref (a0 0), .int z4]) hx hb hml hown ht (c2_X0_nearest h) wd_X0_nearest mw_572 hQ hV hS (hP.sub [0, 1, 2, 3, 4, 5, 6, 7, 8, 9, 10, 11, 12] rfl) rfl rfl rfl hl.1 rfl (Nat.le_of_ble_eq_true rfl) dX0_scrollUp_39 ⟨Nat.le_of_ble_eq_true rfl, Nat.le_of_ble_eq_true rfl, rfl, rfl⟩ ⟨Nat.le_of_ble_eq_true rfl, Nat.le_of_ble_eq_true rfl⟩) (fun r_6 h => ?_)
        try dsimp only at h
        refine mt_goi (mt_wV (wc := bd_w a0 q t0) (As := [.int z5, .int r_6]) (rest := [.int z4]) hx hb hml hown ht (c2_X0_wantFlap h) wd_X0_wantFlap mw_647 hQ hV hS hA (hP.sub [0, 1, 2, 3, 4, 5, 6, 7, 8, 9, 10, 11, 12] rfl) (hD.sub [0, 1, 2, 3, 4, 5, 6, 7, 8, 9, 10, 11, 12] (by decide) rfl) rfl rfl rfl hl.1 rfl (Nat.le_of_ble_eq_true rfl) dX0_scrollUp_42 ⟨Nat.le_of_ble_eq_true rfl, Nat.le_of_ble_eq_true rfl, rfl, rfl⟩ ⟨Nat.le_of_ble_eq_true rfl, Nat.le_of_ble_eq_true rfl⟩) (wr := [((a1 0), .inr (4, [.ref (a1 1), .int (s1.1 0), .int (s1.1 1), .int (s1.1 2), .int (s1.1 3), .int (s1.1 4), .int (s1.1 5)])), ((a1 1), .inl (q 0, 400, .inl s1.2))]) hP hD hS hA [0, 1, 2, 3, 4, 5, 6, 7, 8, 9, 10, 11, 12] [13, 14] rfl rfl (by decide) (by decide) (fun r_8 u_9 H locs h hP hD hS => ?_)
        try dsimp only at h
        have hP : va_P D vwCl [((a1 0), .inr (4, [.ref (a1 1), .int (s1.1 0), .int (s1.1 1), .int (s1.1 2), .int (s1.1 3), .int (s1.1 4), .int (s1.1 5)])), ((a1 1), .inl (q 0, 400, .inl s1.2)), ((a0 0), .inr (0, [.int (u_9.1 0), .int (u_9.1 1), .int (u_9.1 2), .int (u_9.1 3), .int (u_9.1 4), .int (u_9.1 5), .ref (a0 1), .ref (a0 2), .ref (a0 3), .ref (a0 4), .ref (a0 5), .ref (a0 6), .ref (a0 7), .ref (a0 8), .ref (a0 9), .ref (a0 10), .ref (a0 11), .ref (a0 12)])), ((a0 1), .inl (q 0, 4, .inl (u_9.2.1 0))), ((a0 2), .inl (q 0, 4, .inl (u_9.2.1 1))), ((a0 3), .inl (q 0, 160, .inl (u_9.2.1 2))), ((a0 4), .inl (q 0, 40, .inl (u_9.2.1 3))), ((a0 5), .inl (q 0, 40, .inl (u_9.2.1 4))), ((a0 6), .inl (q 0, 40, .inl (u_9.2.1 5))), ((a0 7), .inl (q 0, 40, .inl (u_9.2.1 6))), ((a0 8), .inl (q 0, 40, .inl (u_9.2.1 7))), ((a0 9), .inl (q 0, 40, .inl (u_9.2.1 8))), ((a0 10), .inl (q 0, 40, .inl (u_9.2.1 9))), ((a0 11), .inl (q 1, 40, .inr (.inl u_9.2.2.1))), ((a0 12), .inl (q 0, u_9.2.2.2.1, .inl u_9.2.2.2.2))] H := hP
        have hD : va_D _ [((a1 0), .inr (4, [.ref (a1 1), .int (s1.1 0), .int (s1.1 1), .int (s1.1 2), .int (s1.1 3), .int (s1.1 4), .int (s1.1 5)])), ((a1 1), .inl (q 0, 400, .inl s1.2)), ((a0 0), .inr (0, [.int (u_9.1 0), .int (u_9.1 1), .int (u_9.1 2), .int (u_9.1 3), .int (u_9.1 4), .int (u_9.1 5), .ref (a0 1), .ref (a0 2), .ref (a0 3), .ref (a0 4), .ref (a0 5), .ref (a0 6), .ref (a0 7), .ref (a0 8), .ref (a0 9), .ref (a0 10), .ref (a0 11), .ref (a0 12)])), ((a0 1), .inl (q 0, 4, .inl (u_9.2.1 0))), ((a0 2), .inl (q 0, 4, .inl (u_9.2.1 1))), ((a0 3), .inl (q 0, 160, .inl (u_9.2.1 2))), ((a0 4), .inl (q 0, 40, .inl (u_9.2.1 3))), ((a0 5), .inl (q 0, 40, .inl (u_9.2.1 4))), ((a0 6), .inl (q 0, 40, .inl (u_9.2.1 5))), ((a0 7), .inl (q 0, 40, .inl (u_9.2.1 6))), ((a0 8), .inl (q 0, 40, .inl (u_9.2.1 7))), ((a0 9), .inl (q 0, 40, .inl (u_9.2.1 8))), ((a0 10), .inl (q 0, 40, .inl (u_9.2.1 9))), ((a0 11), .inl (q 1, 40, .inr (.inl u_9.2.2.1))), ((a0 12), .inl (q 0, u_9.2.2.2.1, .inl u_9.2.2.2.2))] := hD
        refine lv_iadd hx hb dX0_scrollUp_45 ?_
        refine lv_istore (lv' := [(4, .int (z4 + r_8)), (2, .int z2), (3, .int z3), (5, .int z5), (0, .ref (a0 0)), (1, .ref (a1 0))]) hx hb dX0_scrollUp_46 hl (by decide) rfl (fun ls hl => ?_)
        refine lv_iinc (v := (z5 + 1)) (lv' := [(5, .int (z5 + 1)), (4, .int (z4 + r_8)), (2, .int z2), (3, .int z3), (0, .ref (a0 0)), (1, .ref (a1 0))]) hx hb dX0_scrollUp_48 hl (k := 3) rfl rfl (by decide) rfl (fun ls hl => ?_)
        refine lv_goto (tgt := 6) hx hb dX0_scrollUp_51 (by decide) ?_
        exact ih _ _ _ _ _ _ _ ls h (hP.sub (ws' := bd_w a0 q u_9 ++ tp_w a1 q s1) [2, 3, 4, 5, 6, 7, 8, 9, 10, 11, 12, 13, 14, 0, 1] rfl) (hD.sub (ws' := bd_w a0 q u_9 ++ tp_w a1 q s1) [2, 3, 4, 5, 6, 7, 8, 9, 10, 11, 12, 13, 14, 0, 1] (by decide) rfl) hS (lv_sub hl [2, 3, 1, 0, 4, 5] rfl)
  obtain ⟨n6, h⟩ := h
  refine lp6 _ ?_ n6 _ _ _ _ _ _ _ ls h (hP.sub (ws' := bd_w a0 q s0 ++ tp_w a1 q s1) [0, 1, 2, 3, 4, 5, 6, 7, 8, 9, 10, 11, 12, 13, 14] rfl) (hD.sub (ws' := bd_w a0 q s0 ++ tp_w a1 q s1) [0, 1, 2, 3, 4, 5, 6, 7, 8, 9, 10, 11, 12, 13, 14] (by decide) rfl) hS (lv_sub hl [4, 5, 1, 0, 2, 3] rfl)
  · intro t0 z2 z3 z4 z5 H locs ls h hP hD hS hl
    try dsimp only at h
    have hP : va_P D vwCl [((a0 0), .inr (0, [.int (t0.1 0), .int (t0.1 1), .int (t0.1 2), .int (t0.1 3), .int (t0.1 4), .int (t0.1 5), .ref (a0 1), .ref (a0 2), .ref (a0 3), .ref (a0 4), .ref (a0 5), .ref (a0 6), .ref (a0 7), .ref (a0 8), .ref (a0 9), .ref (a0 10), .ref (a0 11), .ref (a0 12)])), ((a0 1), .inl (q 0, 4, .inl (t0.2.1 0))), ((a0 2), .inl (q 0, 4, .inl (t0.2.1 1))), ((a0 3), .inl (q 0, 160, .inl (t0.2.1 2))), ((a0 4), .inl (q 0, 40, .inl (t0.2.1 3))), ((a0 5), .inl (q 0, 40, .inl (t0.2.1 4))), ((a0 6), .inl (q 0, 40, .inl (t0.2.1 5))), ((a0 7), .inl (q 0, 40, .inl (t0.2.1 6))), ((a0 8), .inl (q 0, 40, .inl (t0.2.1 7))), ((a0 9), .inl (q 0, 40, .inl (t0.2.1 8))), ((a0 10), .inl (q 0, 40, .inl (t0.2.1 9))), ((a0 11), .inl (q 1, 40, .inr (.inl t0.2.2.1))), ((a0 12), .inl (q 0, t0.2.2.2.1, .inl t0.2.2.2.2)), ((a1 0), .inr (4, [.ref (a1 1), .int (s1.1 0), .int (s1.1 1), .int (s1.1 2), .int (s1.1 3), .int (s1.1 4), .int (s1.1 5)])), ((a1 1), .inl (q 0, 400, .inl s1.2))] H := hP
    have hD : va_D _ [((a0 0), .inr (0, [.int (t0.1 0), .int (t0.1 1), .int (t0.1 2), .int (t0.1 3), .int (t0.1 4), .int (t0.1 5), .ref (a0 1), .ref (a0 2), .ref (a0 3), .ref (a0 4), .ref (a0 5), .ref (a0 6), .ref (a0 7), .ref (a0 8), .ref (a0 9), .ref (a0 10), .ref (a0 11), .ref (a0 12)])), ((a0 1), .inl (q 0, 4, .inl (t0.2.1 0))), ((a0 2), .inl (q 0, 4, .inl (t0.2.1 1))), ((a0 3), .inl (q 0, 160, .inl (t0.2.1 2))), ((a0 4), .inl (q 0, 40, .inl (t0.2.1 3))), ((a0 5), .inl (q 0, 40, .inl (t0.2.1 4))), ((a0 6), .inl (q 0, 40, .inl (t0.2.1 5))), ((a0 7), .inl (q 0, 40, .inl (t0.2.1 6))), ((a0 8), .inl (q 0, 40, .inl (t0.2.1 7))), ((a0 9), .inl (q 0, 40, .inl (t0.2.1 8))), ((a0 10), .inl (q 0, 40, .inl (t0.2.1 9))), ((a0 11), .inl (q 1, 40, .inr (.inl t0.2.2.1))), ((a0 12), .inl (q 0, t0.2.2.2.1, .inl t0.2.2.2.2)), ((a1 0), .inr (4, [.ref (a1 1), .int (s1.1 0), .int (s1.1 1), .int (s1.1 2), .int (s1.1 3), .int (s1.1 4), .int (s1.1 5)])), ((a1 1), .inl (q 0, 400, .inl s1.2))] := hD
    refine lv_iload hx hb dX0_scrollUp_54 (lv_at hl 2 rfl) ?_
    refine lv_aload_n hx hb dX0_scrollUp_56 rfl (lv_at hl 4 rfl) ?_
    refine lv_aload_n hx hb dX0_scrollUp_57 rfl (lv_at hl 4 rfl) ?_
    refine fl_get (C := RX0) (T := TX0) (N := 18) (ci := 0) (v := .int (t0.1 0)) hx hb ht in_X0 hown hK hP 0 rfl rfl 0 (by decide) mw_167 rfl dX0_scrollUp_58 ?_
    refine lv_iconst (v := 1) hx hb dX0_scrollUp_61 (by decide) ?_
    refine lv_isub hx hb dX0_scrollUp_62 ?_
    refine lv_aload_n hx hb dX0_scrollUp_63 rfl (lv_at hl 5 rfl) ?_
    refine lv_iload_n hx hb dX0_scrollUp_64 rfl (lv_at hl 0 rfl) ?_
    refine lv_iload_n hx hb dX0_scrollUp_65 rfl (lv_at hl 1 rfl) ?_
    refine mt_goi (mt_wV (wc := bd_w a0 q t0 ++ tp_w a1 q s1) (As := [.int ((t0.1 0) - 1), .ref (a1 0), .int z2, .int z3]) (rest := [.int z4]) hx hb hml hown ht (c2_X0_wantSigns h) wd_X0_wantSigns mw_672 hQ hV hS hA (hP.sub [0, 1, 2, 3, 4, 5, 6, 7, 8, 9, 10, 11, 12, 13, 14] rfl) (hD.sub [0, 1, 2, 3, 4, 5, 6, 7, 8, 9, 10, 11, 12, 13, 14] (by decide) rfl) rfl rfl rfl hl.1 rfl (Nat.le_of_ble_eq_true rfl) dX0_scrollUp_66 ⟨Nat.le_of_ble_eq_true rfl, Nat.le_of_ble_eq_true rfl, rfl, rfl⟩ ⟨Nat.le_of_ble_eq_true rfl, Nat.le_of_ble_eq_true rfl⟩) (wr := []) hP hD hS hA [0, 1, 2, 3, 4, 5, 6, 7, 8, 9, 10, 11, 12, 13, 14] [] rfl rfl (by decide) (by decide) (fun r_10 u_11 H locs h hP hD hS => ?_)
    try dsimp only at h
    have hP : va_P D vwCl [((a0 0), .inr (0, [.int (u_11.1 0), .int (u_11.1 1), .int (u_11.1 2), .int (u_11.1 3), .int (u_11.1 4), .int (u_11.1 5), .ref (a0 1), .ref (a0 2), .ref (a0 3), .ref (a0 4), .ref (a0 5), .ref (a0 6), .ref (a0 7), .ref (a0 8), .ref (a0 9), .ref (a0 10), .ref (a0 11), .ref (a0 12)])), ((a0 1), .inl (q 0, 4, .inl (u_11.2.1 0))), ((a0 2), .inl (q 0, 4, .inl (u_11.2.1 1))), ((a0 3), .inl (q 0, 160, .inl (u_11.2.1 2))), ((a0 4), .inl (q 0, 40, .inl (u_11.2.1 3))), ((a0 5), .inl (q 0, 40, .inl (u_11.2.1 4))), ((a0 6), .inl (q 0, 40, .inl (u_11.2.1 5))), ((a0 7), .inl (q 0, 40, .inl (u_11.2.1 6))), ((a0 8), .inl (q 0, 40, .inl (u_11.2.1 7))), ((a0 9), .inl (q 0, 40, .inl (u_11.2.1 8))), ((a0 10), .inl (q 0, 40, .inl (u_11.2.1 9))), ((a0 11), .inl (q 1, 40, .inr (.inl u_11.2.2.1))), ((a0 12), .inl (q 0, u_11.2.2.2.1, .inl u_11.2.2.2.2)), ((a1 0), .inr (4, [.ref (a1 1), .int (s1.1 0), .int (s1.1 1), .int (s1.1 2), .int (s1.1 3), .int (s1.1 4), .int (s1.1 5)])), ((a1 1), .inl (q 0, 400, .inl s1.2))] H := hP
    have hD : va_D _ [((a0 0), .inr (0, [.int (u_11.1 0), .int (u_11.1 1), .int (u_11.1 2), .int (u_11.1 3), .int (u_11.1 4), .int (u_11.1 5), .ref (a0 1), .ref (a0 2), .ref (a0 3), .ref (a0 4), .ref (a0 5), .ref (a0 6), .ref (a0 7), .ref (a0 8), .ref (a0 9), .ref (a0 10), .ref (a0 11), .ref (a0 12)])), ((a0 1), .inl (q 0, 4, .inl (u_11.2.1 0))), ((a0 2), .inl (q 0, 4, .inl (u_11.2.1 1))), ((a0 3), .inl (q 0, 160, .inl (u_11.2.1 2))), ((a0 4), .inl (q 0, 40, .inl (u_11.2.1 3))), ((a0 5), .inl (q 0, 40, .inl (u_11.2.1 4))), ((a0 6), .inl (q 0, 40, .inl (u_11.2.1 5))), ((a0 7), .inl (q 0, 40, .inl (u_11.2.1 6))), ((a0 8), .inl (q 0, 40, .inl (u_11.2.1 7))), ((a0 9), .inl (q 0, 40, .inl (u_11.2.1 8))), ((a0 10), .inl (q 0, 40, .inl (u_11.2.1 9))), ((a0 11), .inl (q 1, 40, .inr (.inl u_11.2.2.1))), ((a0 12), .inl (q 0, u_11.2.2.2.1, .inl u_11.2.2.2.2)), ((a1 0), .inr (4, [.ref (a1 1), .int (s1.1 0), .int (s1.1 1), .int (s1.1 2), .int (s1.1 3), .int (s1.1 4), .int (s1.1 5)])), ((a1 1), .inl (q 0, 400, .inl s1.2))] := hD
    refine lv_iadd hx hb dX0_scrollUp_69 ?_
    exact mt_iret u_11 hx hb hr hk h (hP.sub (ws' := bd_w a0 q u_11 ++ tp_w a1 q s1) [0, 1, 2, 3, 4, 5, 6, 7, 8, 9, 10, 11, 12, 13, 14] rfl) (hD.sub (ws' := bd_w a0 q u_11 ++ tp_w a1 q s1) [0, 1, 2, 3, 4, 5, 6, 7, 8, 9, 10, 11, 12, 13, 14] (by decide) rfl) hS dX0_scrollUp_70

def wp_X0_wantHome_L2 (post : Bd → Prop) (e30 : Bd → Int32 → Int32 → Prop) : Nat → Bd → Int32 → Int32 → Prop
  | 0, _, _, _ => False
  | n2 + 1, t0, z1, z2 => (((t0.1 1) ≤ z2 → e30 t0 z1 z2) ∧ (¬ (t0.1 1) ≤ z2 → vp_in ((z1 * (t0.1 1)) + z2) 40 ∧ wp_X0_wantHome_L2 post e30 n2 (t0.1, (va_up t0.2.1 6 (upd (t0.2.1 6) (Int32.toNatClampNeg ((z1 * (t0.1 1)) + z2)) 0)), t0.2.2.1, t0.2.2.2.1, t0.2.2.2.2) z1 (z2 + 1)))
def wp_X0_wantHome (post : Bd → Prop) (s0 : Bd) (x1 : Int32) : Prop := (∃ n2, wp_X0_wantHome_L2 post (fun t0 z1 z2 => post t0) n2 s0 x1 0)
set_option maxHeartbeats 4000000 in
set_option maxRecDepth 100000 in
theorem c2_X0_wantHome {l : Launch} {D : va_G} {q : Nat → ClassId} {sz : Nat} {a0 : Nat → Nat} {s0 : Bd} {x1 : Int32} {post : Bd → Prop} (h : wp_X0_wantHome post s0 x1) : Met l yX0_wantHome (Cond.code yX0_wantHome cX0_wantHome 3 none :: w_all) ({ frames := 0, cells := 0, slots := 0, locals := 0 } : Room) (mt_P D q [.ref (a0 0), .int x1] (bd_w a0 q s0) sz) (va_Qv (fun u : Bd => post u) (mt_B D (bd_w a0 q s0) sz (fun u : Bd => bd_w a0 q u)) (va_A (bd_w a0 q s0) sz)) 0 0 (va_A (bd_w a0 q s0) sz) := by
  refine mt_start (by decide) (Nat.le_of_ble_eq_true rfl) ?_
  intro p e s m below meth c ls hx hb hr hml hown ht hk hin hP hQ hD hA hS hV hl
  have hK := hQ.1
  have hown : s.vm.findClass RX0 = some m.cls := hown
  have hl : lv_has ls 3 [(0, .ref (a0 0)), (1, .int x1)] := hl
  have hP : va_P D vwCl [((a0 0), .inr (0, [.int (s0.1 0), .int (s0.1 1), .int (s0.1 2), .int (s0.1 3), .int (s0.1 4), .int (s0.1 5), .ref (a0 1), .ref (a0 2), .ref (a0 3), .ref (a0 4), .ref (a0 5), .ref (a0 6), .ref (a0 7), .ref (a0 8), .ref (a0 9), .ref (a0 10), .ref (a0 11), .ref (a0 12)])), ((a0 1), .inl (q 0, 4, .inl (s0.2.1 0))), ((a0 2), .inl (q 0, 4, .inl (s0.2.1 1))), ((a0 3), .inl (q 0, 160, .inl (s0.2.1 2))), ((a0 4), .inl (q 0, 40, .inl (s0.2.1 3))), ((a0 5), .inl (q 0, 40, .inl (s0.2.1 4))), ((a0 6), .inl (q 0, 40, .inl (s0.2.1 5))), ((a0 7), .inl (q 0, 40, .inl (s0.2.1 6))), ((a0 8), .inl (q 0, 40, .inl (s0.2.1 7))), ((a0 9), .inl (q 0, 40, .inl (s0.2.1 8))), ((a0 10), .inl (q 0, 40, .inl (s0.2.1 9))), ((a0 11), .inl (q 1, 40, .inr (.inl s0.2.2.1))), ((a0 12), .inl (q 0, s0.2.2.2.1, .inl s0.2.2.2.2))] s.heap := hP
  have hD : va_D _ [((a0 0), .inr (0, [.int (s0.1 0), .int (s0.1 1), .int (s0.1 2), .int (s0.1 3), .int (s0.1 4), .int (s0.1 5), .ref (a0 1), .ref (a0 2), .ref (a0 3), .ref (a0 4), .ref (a0 5), .ref (a0 6), .ref (a0 7), .ref (a0 8), .ref (a0 9), .ref (a0 10), .ref (a0 11), .ref (a0 12)])), ((a0 1), .inl (q 0, 4, .inl (s0.2.1 0))), ((a0 2), .inl (q 0, 4, .inl (s0.2.1 1))), ((a0 3), .inl (q 0, 160, .inl (s0.2.1 2))), ((a0 4), .inl (q 0, 40, .inl (s0.2.1 3))), ((a0 5), .inl (q 0, 40, .inl (s0.2.1 4))), ((a0 6), .inl (q 0, 40, .inl (s0.2.1 5))), ((a0 7), .inl (q 0, 40, .inl (s0.2.1 6))), ((a0 8), .inl (q 0, 40, .inl (s0.2.1 7))), ((a0 9), .inl (q 0, 40, .inl (s0.2.1 8))), ((a0 10), .inl (q 0, 40, .inl (s0.2.1 9))), ((a0 11), .inl (q 1, 40, .inr (.inl s0.2.2.1))), ((a0 12), .inl (q 0, s0.2.2.2.1, .inl s0.2.2.2.2))] := hD
  unfold wp_X0_wantHome at h
  refine lv_iconst (v := 0) hx hb dX0_wantHome_0 (by decide) ?_
  refine lv_istore_n (lv' := [(2, .int 0), (0, .ref (a0 0)), (1, .int x1)]) hx hb dX0_wantHome_1 rfl hl (by decide) rfl (fun ls hl => ?_)
  have lp2 : ∀ (e30 : Bd → Int32 → Int32 → Prop) (k30 : ∀ (t0 : Bd) (z1 : Int32) (z2 : Int32) (H : Heap) (locs : List Loc) (ls : Array Slot), e30 t0 z1 z2 → va_P D vwCl (bd_w a0 q t0) H → va_D (va_A (bd_w a0 q s0) sz) (bd_w a0 q t0) → va_S (va_A (bd_w a0 q s0) sz) s.heap H locs → lv_has ls 3 [(1, .int z1), (2, .int z2), (0, .ref (a0 0))] → W p l e ({ frames := 0, cells := 0, slots := 0, locals := 0 } : Room) s m [.ref (a0 0), .int x1].toArray below meth c H locs 0 0 (MQ below (va_Qv (fun u : Bd => post u) (mt_B D (bd_w a0 q s0) sz (fun u : Bd => bd_w a0 q u)) (va_A (bd_w a0 q s0) sz)) [.ref (a0 0), .int x1].toArray s 0 0 (va_A (bd_w a0 q s0) sz)) (F0 m 30 ls [])) (n : Nat) (t0 : Bd) (z1 : Int32) (z2 : Int32) (H : Heap) (locs : List Loc) (ls : Array Slot), wp_X0_wantHome_L2 post e30 n t0 z1 z2 → va_P D vwCl (bd_w a0 q t0) H → va_D (va_A (bd_w a0 q s0) sz) (bd_w a0 q t0) → va_S (va_A (bd_w a0 q s0) sz) s.heap H locs → lv_has ls 3 [(1, .int z1), (2, .int z2), (0, .ref (a0 0))] → W p l e ({ frames := 0, cells := 0, slots := 0, locals := 0 } : Room) s m [.ref (a0 0), .int x1].toArray below meth c H locs 0 0 (MQ below (va_Qv (fun u : Bd => post u) (mt_B D (bd_w a0 q s0) sz (fun u : Bd => bd_w a0 q u)) (va_A (bd_w a0 q s0) sz)) [.ref (a0 0), .int x1].toArray s 0 0 (va_A (bd_w a0 q s0) sz)) (F0 m 2 ls []) := by
    intro e30 k30 n
    induction n with
    | zero =>
      intro t0 z1 z2 H locs ls h
      exact h.elim
    | succ n ih =>
      intro t0 z1 z2 H locs ls h hP hD hS hl
      have hP : va_P D vwCl [((a0 0), .inr (0, [.int (t0.1 0), .int (t0.1 1), .int (t0.1 2), .int (t0.1 3), .int (t0.1 4), .int (t0.1 5), .ref (a0 1), .ref (a0 2), .ref (a0 3), .ref (a0 4), .ref (a0 5), .ref (a0 6), .ref (a0 7), .ref (a0 8), .ref (a0 9), .ref (a0 10), .ref (a0 11), .ref (a0 12)])), ((a0 1), .inl (q 0, 4, .inl (t0.2.1 0))), ((a0 2), .inl (q 0, 4, .inl (t0.2.1 1))), ((a0 3), .inl (q 0, 160, .inl (t0.2.1 2))), ((a0 4), .inl (q 0, 40, .inl (t0.2.1 3))), ((a0 5), .inl (q 0, 40, .inl (t0.2.1 4))), ((a0 6), .inl (q 0, 40, .inl (t0.2.1 5))), ((a0 7), .inl (q 0, 40, .inl (t0.2.1 6))), ((a0 8), .inl (q 0, 40, .inl (t0.2.1 7))), ((a0 9), .inl (q 0, 40, .inl (t0.2.1 8))), ((a0 10), .inl (q 0, 40, .inl (t0.2.1 9))), ((a0 11), .inl (q 1, 40, .inr (.inl t0.2.2.1))), ((a0 12), .inl (q 0, t0.2.2.2.1, .inl t0.2.2.2.2))] H := hP
      have hD : va_D _ [((a0 0), .inr (0, [.int (t0.1 0), .int (t0.1 1), .int (t0.1 2), .int (t0.1 3), .int (t0.1 4), .int (t0.1 5), .ref (a0 1), .ref (a0 2), .ref (a0 3), .ref (a0 4), .ref (a0 5), .ref (a0 6), .ref (a0 7), .ref (a0 8), .ref (a0 9), .ref (a0 10), .ref (a0 11), .ref (a0 12)])), ((a0 1), .inl (q 0, 4, .inl (t0.2.1 0))), ((a0 2), .inl (q 0, 4, .inl (t0.2.1 1))), ((a0 3), .inl (q 0, 160, .inl (t0.2.1 2))), ((a0 4), .inl (q 0, 40, .inl (t0.2.1 3))), ((a0 5), .inl (q 0, 40, .inl (t0.2.1 4))), ((a0 6), .inl (q 0, 40, .inl (t0.2.1 5))), ((a0 7), .inl (q 0, 40, .inl (t0.2.1 6))), ((a0 8), .inl (q 0, 40, .inl (t0.2.1 7))), ((a0 9), .inl (q 0, 40, .inl (t0.2.1 8))), ((a0 10), .inl (q 0, 40, .inl (t0.2.1 9))), ((a0 11), .inl (q 1, 40, .inr (.inl t0.2.2.1))), ((a0 12), .inl (q 0, t0.2.2.2.1, .inl t0.2.2.2.2))] := hD
      unfold wp_X0_wantHome_L2 at h
      refine lv_iload_n hx hb dX0_wantHome_2 rfl (lv_at hl 1 rfl) ?_
      refine lv_aload_n hx hb dX0_wantHome_3 rfl (lv_at hl 2 rfl) ?_
      refine fl_get (C := RX0) (T := TX0) (N := 18) (ci := 0) (v := .int (t0.1 1)) hx hb ht in_X0 hown hK hP 0 rfl rfl 1 (by decide) mw_171 rfl dX0_wantHome_4 ?_
      refine lv_icmp_ge (tgt := 30) hx hb dX0_wantHome_7 (by decide) (fun c_1 => ?_) (fun c_1 => ?_)
      · replace h := h.1 c_1
        exact k30 _ _ _ _ _ ls h (hP.sub (ws' := bd_w a0 q t0) [0, 1, 2, 3, 4, 5, 6, 7, 8, 9, 10, 11, 12] rfl) (hD.sub (ws' := bd_w a0 q t0) [0, 1, 2, 3, 4, 5, 6, 7, 8, 9, 10, 11, 12] (by decide) rfl) hS (lv_sub hl [0, 1, 2] rfl)
      · replace h := h.2 c_1
        refine lv_aload_n hx hb dX0_wantHome_10 rfl (lv_at hl 2 rfl) ?_
        refine fl_get (C := RX0) (T := TX0) (N := 18) (ci := 0) (v := .ref (a0 7)) hx hb ht in_X0 hown hK hP 0 rfl rfl 12 (by decide) mw_198 rfl dX0_wantHome_11 ?_
        refine lv_iload_n hx hb dX0_wantHome_14 rfl (lv_at hl 0 rfl) ?_
        refine lv_aload_n hx hb dX0_wantHome_15 rfl (lv_at hl 2 rfl) ?_
        refine fl_get (C := RX0) (T := TX0) (N := 18) (ci := 0) (v := .int (t0.1 1)) hx hb ht in_X0 hown hK hP 0 rfl rfl 1 (by decide) mw_171 rfl dX0_wantHome_16 ?_
        refine lv_imul hx hb dX0_wantHome_19 ?_
        refine lv_iload_n hx hb dX0_wantHome_20 rfl (lv_at hl 1 rfl) ?_
        refine lv_iadd hx hb dX0_wantHome_21 ?_
        refine lv_iconst (v := 0) hx hb dX0_wantHome_22 (by decide) ?_
        obtain ⟨g_2, h⟩ := h
        refine va_iast hx hb hK hP hD hS 7 0 rfl rfl g_2 dX0_wantHome_23 (fun H locs hP hD hS => ?_)
        have hP : va_P D vwCl [((a0 0), .inr (0, [.int (t0.1 0), .int (t0.1 1), .int (t0.1 2), .int (t0.1 3), .int (t0.1 4), .int (t0.1 5), .ref (a0 1), .ref (a0 2), .ref (a0 3), .ref (a0 4), .ref (a0 5), .ref (a0 6), .ref (a0 7), .ref (a0 8), .ref (a0 9), .ref (a0 10), .ref (a0 11), .ref (a0 12)])), ((a0 1), .inl (q 0, 4, .inl (t0.2.1 0))), ((a0 2), .inl (q 0, 4, .inl (t0.2.1 1))), ((a0 3), .inl (q 0, 160, .inl (t0.2.1 2))), ((a0 4), .inl (q 0, 40, .inl (t0.2.1 3))), ((a0 5), .inl (q 0, 40, .inl (t0.2.1 4))), ((a0 6), .inl (q 0, 40, .inl (t0.2.1 5))), ((a0 7), .inl (q 0, 40, .inl (upd (t0.2.1 6) (Int32.toNatClampNeg ((z1 * (t0.1 1)) + z2)) 0))), ((a0 8), .inl (q 0, 40, .inl (t0.2.1 7))), ((a0 9), .inl (q 0, 40, .inl (t0.2.1 8))), ((a0 10), .inl (q 0, 40, .inl (t0.2.1 9))), ((a0 11), .inl (q 1, 40, .inr (.inl t0.2.2.1))), ((a0 12), .inl (q 0, t0.2.2.2.1, .inl t0.2.2.2.2))] H := hP
        have hD : va_D _ [((a0 0), .inr (0, [.int (t0.1 0), .int (t0.1 1), .int (t0.1 2), .int (t0.1 3), .int (t0.1 4), .int (t0.1 5), .ref (a0 1), .ref (a0 2), .ref (a0 3), .ref (a0 4), .ref (a0 5), .ref (a0 6), .ref (a0 7), .ref (a0 8), .ref (a0 9), .ref (a0 10), .ref (a0 11), .ref (a0 12)])), ((a0 1), .inl (q 0, 4, .inl (t0.2.1 0))), ((a0 2), .inl (q 0, 4, .inl (t0.2.1 1))), ((a0 3), .inl (q 0, 160, .inl (t0.2.1 2))), ((a0 4), .inl (q 0, 40, .inl (t0.2.1 3))), ((a0 5), .inl (q 0, 40, .inl (t0.2.1 4))), ((a0 6), .inl (q 0, 40, .inl (t0.2.1 5))), ((a0 7), .inl (q 0, 40, .inl (upd (t0.2.1 6) (Int32.toNatClampNeg ((z1 * (t0.1 1)) + z2)) 0))), ((a0 8), .inl (q 0, 40, .inl (t0.2.1 7))), ((a0 9), .inl (q 0, 40, .inl (t0.2.1 8))), ((a0 10), .inl (q 0, 40, .inl (t0.2.1 9))), ((a0 11), .inl (q 1, 40, .inr (.inl t0.2.2.1))), ((a0 12), .inl (q 0, t0.2.2.2.1, .inl t0.2.2.2.2))] := hD
        refine lv_iinc (v := (z2 + 1)) (lv' := [(2, .int (z2 + 1)), (1, .int z1), (0, .ref (a0 0))]) hx hb dX0_wantHome_24 hl (k := 1) rfl rfl (by decide) rfl (fun ls hl => ?_)
        refine lv_goto (tgt := 2) hx hb dX0_wantHome_27 (by decide) ?_
        exact ih _ _ _ _ _ ls h (hP.sub (ws' := bd_w a0 q (t0.1, (va_up t0.2.1 6 (upd (t0.2.1 6) (Int32.toNatClampNeg ((z1 * (t0.1 1)) + z2)) 0)), t0.2.2.1, t0.2.2.2.1, t0.2.2.2.2)) [0, 1, 2, 3, 4, 5, 6, 7, 8, 9, 10, 11, 12] rfl) (hD.sub (ws' := bd_w a0 q (t0.1, (va_up t0.2.1 6 (upd (t0.2.1 6) (Int32.toNatClampNeg ((z1 * (t0.1 1)) + z2)) 0)), t0.2.2.1, t0.2.2.2.1, t0.2.2.2.2)) [0, 1, 2, 3, 4, 5, 6, 7, 8, 9, 10, 11, 12] (by decide) rfl) hS (lv_sub hl [1, 0, 2] rfl)
  obtain ⟨n2, h⟩ := h
  refine lp2 _ ?_ n2 _ _ _ _ _ ls h (hP.sub (ws' := bd_w a0 q s0) [0, 1, 2, 3, 4, 5, 6, 7, 8, 9, 10, 11, 12] rfl) (hD.sub (ws' := bd_w a0 q s0) [0, 1, 2, 3, 4, 5, 6, 7, 8, 9, 10, 11, 12] (by decide) rfl) hS (lv_sub hl [2, 0, 1] rfl)
  · intro t0 z1 z2 H locs ls h hP hD hS hl
    try dsimp only at h
    have hP : va_P D vwCl [((a0 0), .inr (0, [.int (t0.1 0), .int (t0.1 1), .int (t0.1 2), .int (t0.1 3), .int (t0.1 4), .int (t0.1 5), .ref (a0 1), .ref (a0 2), .ref (a0 3), .ref (a0 4), .ref (a0 5), .ref (a0 6), .ref (a0 7), .ref (a0 8), .ref (a0 9), .ref (a0 10), .ref (a0 11), .ref (a0 12)])), ((a0 1), .inl (q 0, 4, .inl (t0.2.1 0))), ((a0 2), .inl (q 0, 4, .inl (t0.2.1 1))), ((a0 3), .inl (q 0, 160, .inl (t0.2.1 2))), ((a0 4), .inl (q 0, 40, .inl (t0.2.1 3))), ((a0 5), .inl (q 0, 40, .inl (t0.2.1 4))), ((a0 6), .inl (q 0, 40, .inl (t0.2.1 5))), ((a0 7), .inl (q 0, 40, .inl (t0.2.1 6))), ((a0 8), .inl (q 0, 40, .inl (t0.2.1 7))), ((a0 9), .inl (q 0, 40, .inl (t0.2.1 8))), ((a0 10), .inl (q 0, 40, .inl (t0.2.1 9))), ((a0 11), .inl (q 1, 40, .inr (.inl t0.2.2.1))), ((a0 12), .inl (q 0, t0.2.2.2.1, .inl t0.2.2.2.2))] H := hP
    have hD : va_D _ [((a0 0), .inr (0, [.int (t0.1 0), .int (t0.1 1), .int (t0.1 2), .int (t0.1 3), .int (t0.1 4), .int (t0.1 5), .ref (a0 1), .ref (a0 2), .ref (a0 3), .ref (a0 4), .ref (a0 5), .ref (a0 6), .ref (a0 7), .ref (a0 8), .ref (a0 9), .ref (a0 10), .ref (a0 11), .ref (a0 12)])), ((a0 1), .inl (q 0, 4, .inl (t0.2.1 0))), ((a0 2), .inl (q 0, 4, .inl (t0.2.1 1))), ((a0 3), .inl (q 0, 160, .inl (t0.2.1 2))), ((a0 4), .inl (q 0, 40, .inl (t0.2.1 3))), ((a0 5), .inl (q 0, 40, .inl (t0.2.1 4))), ((a0 6), .inl (q 0, 40, .inl (t0.2.1 5))), ((a0 7), .inl (q 0, 40, .inl (t0.2.1 6))), ((a0 8), .inl (q 0, 40, .inl (t0.2.1 7))), ((a0 9), .inl (q 0, 40, .inl (t0.2.1 8))), ((a0 10), .inl (q 0, 40, .inl (t0.2.1 9))), ((a0 11), .inl (q 1, 40, .inr (.inl t0.2.2.1))), ((a0 12), .inl (q 0, t0.2.2.2.1, .inl t0.2.2.2.2))] := hD
    exact mt_vret t0 hx hb hr hk h (hP.sub (ws' := bd_w a0 q t0) [0, 1, 2, 3, 4, 5, 6, 7, 8, 9, 10, 11, 12] rfl) (hD.sub (ws' := bd_w a0 q t0) [0, 1, 2, 3, 4, 5, 6, 7, 8, 9, 10, 11, 12] (by decide) rfl) hS dX0_wantHome_30

def wp_X0_showSigns_L3 (s1 : Tp) (post : Bd → Prop) (e86 : Bd → Int32 → Int32 → Int32 → Int32 → Prop) : Nat → Bd → Int32 → Int32 → Int32 → Int32 → Prop
  | 0, _, _, _, _, _ => False
  | n3 + 1, t0, z1, z3, z4, z5 => (((t0.1 1) ≤ z5 → e86 t0 z1 z3 z4 z5) ∧ (¬ (t0.1 1) ≤ z5 → wp_X0_flapFor (fun r_2 => ((r_2 = (-1) → vp_in ((z1 * (t0.1 1)) + z5) 40 ∧ vp_in ((z1 * (t0.1 1)) + z5) 40 ∧ vp_in ((z1 * (t0.1 1)) + z5) 40 ∧ vp_in ((z1 * (t0.1 1)) + z5) 40 ∧ wp_X0_showSigns_L3 s1 post e86 n3 (t0.1, (va_up (va_up t0.2.1 4 (upd (t0.2.1 4) (Int32.toNatClampNeg ((z1 * (t0.1 1)) + z5)) ((t0.2.1 6) (Int32.toNatClampNeg ((z1 * (t0.1 1)) + z5))))) 5 (upd (t0.2.1 5) (Int32.toNatClampNeg ((z1 * (t0.1 1)) + z5)) ((t0.2.1 6) (Int32.toNatClampNeg ((z1 * (t0.1 1)) + z5))))), t0.2.2.1, t0.2.2.2.1, t0.2.2.2.2) z1 z3 z4 (z5 + 1)) ∧ (¬ r_2 = (-1) → vp_in ((z1 * (t0.1 1)) + z5) 40 ∧ vp_in ((z1 * (t0.1 1)) + z5) 40 ∧ vp_in ((z1 * (t0.1 1)) + z5) 40 ∧ vp_in ((z1 * (t0.1 1)) + z5) 40 ∧ vp_in ((z1 * (t0.1 1)) + z5) 40 ∧ wp_X0_showSigns_L3 s1 post e86 n3 (t0.1, (va_up (va_up (va_up t0.2.1 4 (upd (t0.2.1 4) (Int32.toNatClampNeg ((z1 * (t0.1 1)) + z5)) ((upd (t0.2.1 6) (Int32.toNatClampNeg ((z1 * (t0.1 1)) + z5)) r_2) (Int32.toNatClampNeg ((z1 * (t0.1 1)) + z5))))) 5 (upd (t0.2.1 5) (Int32.toNatClampNeg ((z1 * (t0.1 1)) + z5)) ((upd (t0.2.1 6) (Int32.toNatClampNeg ((z1 * (t0.1 1)) + z5)) r_2) (Int32.toNatClampNeg ((z1 * (t0.1 1)) + z5))))) 6 (upd (t0.2.1 6) (Int32.toNatClampNeg ((z1 * (t0.1 1)) + z5)) r_2)), t0.2.2.1, t0.2.2.2.1, t0.2.2.2.2) z1 z3 z4 (z5 + 1)))) t0 s1 ((z1 * (t0.1 1)) + z5) z5 z3 z4))
def wp_X0_showSigns (post : Bd → Prop) (s0 : Bd) (s1 : Tp) (x1 : Int32) (x3 : Int32) (x4 : Int32) : Prop := (∃ n3, wp_X0_showSigns_L3 s1 post (fun t0 z1 z3 z4 z5 => post t0) n3 s0 x1 x3 x4 0)
set_option maxHeartbeats 4000000 in
set_option maxRecDepth 100000 in
theorem c2_X0_showSigns {l : Launch} {D : va_G} {q : Nat → ClassId} {sz : Nat} {a0 : Nat → Nat} {a1 : Nat → Nat} {s0 : Bd} {s1 : Tp} {x1 : Int32} {x3 : Int32} {x4 : Int32} {post : Bd → Prop} (h : wp_X0_showSigns post s0 s1 x1 x3 x4) : Met l yX0_showSigns (Cond.code yX0_showSigns cX0_showSigns 8 none :: w_all) ({ frames := 2, cells := 0, slots := 0, locals := 54 } : Room) (mt_P D q [.ref (a0 0), .int x1, .ref (a1 0), .int x3, .int x4] (bd_w a0 q s0 ++ tp_w a1 q s1) sz) (va_Qv (fun u : Bd => post u) (mt_B D (bd_w a0 q s0 ++ tp_w a1 q s1) sz (fun u : Bd => bd_w a0 q u ++ tp_w a1 q s1)) (va_A (bd_w a0 q s0 ++ tp_w a1 q s1) sz)) 0 0 (va_A (bd_w a0 q s0 ++ tp_w a1 q s1) sz) := by
  refine mt_start (by decide) (Nat.le_of_ble_eq_true rfl) ?_
  intro p e s m below meth c ls hx hb hr hml hown ht hk hin hP hQ hD hA hS hV hl
  have hK := hQ.1
  have hown : s.vm.findClass RX0 = some m.cls := hown
  have hl : lv_has ls 8 [(0, .ref (a0 0)), (1, .int x1), (2, .ref (a1 0)), (3, .int x3), (4, .int x4)] := hl
  have hP : va_P D vwCl [((a0 0), .inr (0, [.int (s0.1 0), .int (s0.1 1), .int (s0.1 2), .int (s0.1 3), .int (s0.1 4), .int (s0.1 5), .ref (a0 1), .ref (a0 2), .ref (a0 3), .ref (a0 4), .ref (a0 5), .ref (a0 6), .ref (a0 7), .ref (a0 8), .ref (a0 9), .ref (a0 10), .ref (a0 11), .ref (a0 12)])), ((a0 1), .inl (q 0, 4, .inl (s0.2.1 0))), ((a0 2), .inl (q 0, 4, .inl (s0.2.1 1))), ((a0 3), .inl (q 0, 160, .inl (s0.2.1 2))), ((a0 4), .inl (q 0, 40, .inl (s0.2.1 3))), ((a0 5), .inl (q 0, 40, .inl (s0.2.1 4))), ((a0 6), .inl (q 0, 40, .inl (s0.2.1 5))), ((a0 7), .inl (q 0, 40, .inl (s0.2.1 6))), ((a0 8), .inl (q 0, 40, .inl (s0.2.1 7))), ((a0 9), .inl (q 0, 40, .inl (s0.2.1 8))), ((a0 10), .inl (q 0, 40, .inl (s0.2.1 9))), ((a0 11), .inl (q 1, 40, .inr (.inl s0.2.2.1))), ((a0 12), .inl (q 0, s0.2.2.2.1, .inl s0.2.2.2.2)), ((a1 0), .inr (4, [.ref (a1 1), .int (s1.1 0), .int (s1.1 1), .int (s1.1 2), .int (s1.1 3), .int (s1.1 4), .int (s1.1 5)])), ((a1 1), .inl (q 0, 400, .inl s1.2))] s.heap := hP
  have hD : va_D _ [((a0 0), .inr (0, [.int (s0.1 0), .int (s0.1 1), .int (s0.1 2), .int (s0.1 3), .int (s0.1 4), .int (s0.1 5), .ref (a0 1), .ref (a0 2), .ref (a0 3), .ref (a0 4), .ref (a0 5), .ref (a0 6), .ref (a0 7), .ref (a0 8), .ref (a0 9), .ref (a0 10), .ref (a0 11), .ref (a0 12)])), ((a0 1), .inl (q 0, 4, .inl (s0.2.1 0))), ((a0 2), .inl (q 0, 4, .inl (s0.2.1 1))), ((a0 3), .inl (q 0, 160, .inl (s0.2.1 2))), ((a0 4), .inl (q 0, 40, .inl (s0.2.1 3))), ((a0 5), .inl (q 0, 40, .inl (s0.2.1 4))), ((a0 6), .inl (q 0, 40, .inl (s0.2.1 5))), ((a0 7), .inl (q 0, 40, .inl (s0.2.1 6))), ((a0 8), .inl (q 0, 40, .inl (s0.2.1 7))), ((a0 9), .inl (q 0, 40, .inl (s0.2.1 8))), ((a0 10), .inl (q 0, 40, .inl (s0.2.1 9))), ((a0 11), .inl (q 1, 40, .inr (.inl s0.2.2.1))), ((a0 12), .inl (q 0, s0.2.2.2.1, .inl s0.2.2.2.2)), ((a1 0), .inr (4, [.ref (a1 1), .int (s1.1 0), .int (s1.1 1), .int (s1.1 2), .int (s1.1 3), .int (s1.1 4), .int (s1.1 5)])), ((a1 1), .inl (q 0, 400, .inl s1.2))] := hD
  unfold wp_X0_showSigns at h
  refine lv_iconst (v := 0) hx hb dX0_showSigns_0 (by decide) ?_
  refine lv_istore (lv' := [(5, .int 0), (0, .ref (a0 0)), (1, .int x1), (2, .ref (a1 0)), (3, .int x3), (4, .int x4)]) hx hb dX0_showSigns_1 hl (by decide) rfl (fun ls hl => ?_)
  have lp3 : ∀ (e86 : Bd → Int32 → Int32 → Int32 → Int32 → Prop) (k86 : ∀ (t0 : Bd) (z1 : Int32) (z3 : Int32) (z4 : Int32) (z5 : Int32) (H : Heap) (locs : List Loc) (ls : Array Slot), e86 t0 z1 z3 z4 z5 → va_P D vwCl (bd_w a0 q t0 ++ tp_w a1 q s1) H → va_D (va_A (bd_w a0 q s0 ++ tp_w a1 q s1) sz) (bd_w a0 q t0 ++ tp_w a1 q s1) → va_S (va_A (bd_w a0 q s0 ++ tp_w a1 q s1) sz) s.heap H locs → lv_has ls 8 [(1, .int z1), (3, .int z3), (4, .int z4), (5, .int z5), (0, .ref (a0 0)), (2, .ref (a1 0))] → W p l e ({ frames := 2, cells := 0, slots := 0, locals := 54 } : Room) s m [.ref (a0 0), .int x1, .ref (a1 0), .int x3, .int x4].toArray below meth c H locs 0 0 (MQ below (va_Qv (fun u : Bd => post u) (mt_B D (bd_w a0 q s0 ++ tp_w a1 q s1) sz (fun u : Bd => bd_w a0 q u ++ tp_w a1 q s1)) (va_A (bd_w a0 q s0 ++ tp_w a1 q s1) sz)) [.ref (a0 0), .int x1, .ref (a1 0), .int x3, .int x4].toArray s 0 0 (va_A (bd_w a0 q s0 ++ tp_w a1 q s1) sz)) (F0 m 86 ls [])) (n : Nat) (t0 : Bd) (z1 : Int32) (z3 : Int32) (z4 : Int32) (z5 : Int32) (H : Heap) (locs : List Loc) (ls : Array Slot), wp_X0_showSigns_L3 s1 post e86 n t0 z1 z3 z4 z5 → va_P D vwCl (bd_w a0 q t0 ++ tp_w a1 q s1) H → va_D (va_A (bd_w a0 q s0 ++ tp_w a1 q s1) sz) (bd_w a0 q t0 ++ tp_w a1 q s1) → va_S (va_A (bd_w a0 q s0 ++ tp_w a1 q s1) sz) s.heap H locs → lv_has ls 8 [(1, .int z1), (3, .int z3), (4, .int z4), (5, .int z5), (0, .ref (a0 0)), (2, .ref (a1 0))] → W p l e ({ frames := 2, cells := 0, slots := 0, locals := 54 } : Room) s m [.ref (a0 0), .int x1, .ref (a1 0), .int x3, .int x4].toArray below meth c H locs 0 0 (MQ below (va_Qv (fun u : Bd => post u) (mt_B D (bd_w a0 q s0 ++ tp_w a1 q s1) sz (fun u : Bd => bd_w a0 q u ++ tp_w a1 q s1)) (va_A (bd_w a0 q s0 ++ tp_w a1 q s1) sz)) [.ref (a0 0), .int x1, .ref (a1 0), .int x3, .int x4].toArray s 0 0 (va_A (bd_w a0 q s0 ++ tp_w a1 q s1) sz)) (F0 m 3 ls []) := by
    intro e86 k86 n
    induction n with
    | zero =>
      intro t0 z1 z3 z4 z5 H locs ls h
      exact h.elim
    | succ n ih =>
      intro t0 z1 z3 z4 z5 H locs ls h hP hD hS hl
      have hP : va_P D vwCl [((a0 0), .inr (0, [.int (t0.1 0), .int (t0.1 1), .int (t0.1 2), .int (t0.1 3), .int (t0.1 4), .int (t0.1 5), .ref (a0 1), .ref (a0 2), .ref (a0 3), .ref (a0 4), .ref (a0 5), .ref (a0 6), .ref (a0 7), .ref (a0 8), .ref (a0 9), .ref (a0 10), .ref (a0 11), .ref (a0 12)])), ((a0 1), .inl (q 0, 4, .inl (t0.2.1 0))), ((a0 2), .inl (q 0, 4, .inl (t0.2.1 1))), ((a0 3), .inl (q 0, 160, .inl (t0.2.1 2))), ((a0 4), .inl (q 0, 40, .inl (t0.2.1 3))), ((a0 5), .inl (q 0, 40, .inl (t0.2.1 4))), ((a0 6), .inl (q 0, 40, .inl (t0.2.1 5))), ((a0 7), .inl (q 0, 40, .inl (t0.2.1 6))), ((a0 8), .inl (q 0, 40, .inl (t0.2.1 7))), ((a0 9), .inl (q 0, 40, .inl (t0.2.1 8))), ((a0 10), .inl (q 0, 40, .inl (t0.2.1 9))), ((a0 11), .inl (q 1, 40, .inr (.inl t0.2.2.1))), ((a0 12), .inl (q 0, t0.2.2.2.1, .inl t0.2.2.2.2)), ((a1 0), .inr (4, [.ref (a1 1), .int (s1.1 0), .int (s1.1 1), .int (s1.1 2), .int (s1.1 3), .int (s1.1 4), .int (s1.1 5)])), ((a1 1), .inl (q 0, 400, .inl s1.2))] H := hP
      have hD : va_D _ [((a0 0), .inr (0, [.int (t0.1 0), .int (t0.1 1), .int (t0.1 2), .int (t0.1 3), .int (t0.1 4), .int (t0.1 5), .ref (a0 1), .ref (a0 2), .ref (a0 3), .ref (a0 4), .ref (a0 5), .ref (a0 6), .ref (a0 7), .ref (a0 8), .ref (a0 9), .ref (a0 10), .ref (a0 11), .ref (a0 12)])), ((a0 1), .inl (q 0, 4, .inl (t0.2.1 0))), ((a0 2), .inl (q 0, 4, .inl (t0.2.1 1))), ((a0 3), .inl (q 0, 160, .inl (t0.2.1 2))), ((a0 4), .inl (q 0, 40, .inl (t0.2.1 3))), ((a0 5), .inl (q 0, 40, .inl (t0.2.1 4))), ((a0 6), .inl (q 0, 40, .inl (t0.2.1 5))), ((a0 7), .inl (q 0, 40, .inl (t0.2.1 6))), ((a0 8), .inl (q 0, 40, .inl (t0.2.1 7))), ((a0 9), .inl (q 0, 40, .inl (t0.2.1 8))), ((a0 10), .inl (q 0, 40, .inl (t0.2.1 9))), ((a0 11), .inl (q 1, 40, .inr (.inl t0.2.2.1))), ((a0 12), .inl (q 0, t0.2.2.2.1, .inl t0.2.2.2.2)), ((a1 0), .inr (4, [.ref (a1 1), .int (s1.1 0), .int (s1.1 1), .int (s1.1 2), .int (s1.1 3), .int (s1.1 4), .int (s1.1 5)])), ((a1 1), .inl (q 0, 400, .inl s1.2))] := hD
      unfold wp_X0_showSigns_L3 at h
      refine lv_iload hx hb dX0_showSigns_3 (lv_at hl 3 rfl) ?_
      refine lv_aload_n hx hb dX0_showSigns_5 rfl (lv_at hl 4 rfl) ?_
      refine fl_get (C := RX0) (T := TX0) (N := 18) (ci := 0) (v := .int (t0.1 1)) hx hb ht in_X0 hown hK hP 0 rfl rfl 1 (by decide) mw_171 rfl dX0_showSigns_6 ?_
      refine lv_icmp_ge (tgt := 86) hx hb dX0_showSigns_9 (by decide) (fun c_1 => ?_) (fun c_1 => ?_)
      · replace h := h.1 c_1
        exact k86 _ _ _ _ _ _ _ ls h (hP.sub (ws' := bd_w a0 q t0 ++ tp_w a1 q s1) [0, 1, 2, 3, 4, 5, 6, 7, 8, 9, 10, 11, 12, 13, 14] rfl) (hD.sub (ws' := bd_w a0 q t0 ++ tp_w a1 q s1) [0, 1, 2, 3, 4, 5, 6, 7, 8, 9, 10, 11, 12, 13, 14] (by decide) rfl) hS (lv_sub hl [0, 1, 2, 3, 4, 5] rfl)
      · replace h := h.2 c_1
        refine lv_iload_n hx hb dX0_showSigns_12 rfl (lv_at hl 0 rfl) ?_
        refine lv_aload_n hx hb dX0_showSigns_13 rfl (lv_at hl 4 rfl) ?_
        refine fl_get (C := RX0) (T := TX0) (N := 18) (ci := 0) (v := .int (t0.1 1)) hx hb ht in_X0 hown hK hP 0 rfl rfl 1 (by decide) mw_171 rfl dX0_showSigns_14 ?_
        refine lv_imul hx hb dX0_showSigns_17 ?_
        refine lv_iload hx hb dX0_showSigns_18 (lv_at hl 3 rfl) ?_
        refine lv_iadd hx hb dX0_showSigns_20 ?_
        refine lv_istore (lv' := [(6, .int ((z1 * (t0.1 1)) + z5)), (1, .int z1), (3, .int z3), (4, .int z4), (5, .int z5), (0, .ref (a0 0)), (2, .ref (a1 0))]) hx hb dX0_showSigns_21 hl (by decide) rfl (fun ls hl => ?_)
        refine lv_aload_n hx hb dX0_showSigns_23 rfl (lv_at hl 5 rfl) ?_
        refine lv_iload hx hb dX0_showSigns_24 (lv_at hl 0 rfl) ?_
        refine lv_iload hx hb dX0_showSigns_26 (lv_at hl 4 rfl) ?_
        refine lv_aload_n hx hb dX0_showSigns_28 rfl (lv_at hl 6 rfl) ?_
        refine lv_iload_n hx hb dX0_showSigns_29 rfl (lv_at hl 2 rfl) ?_
        refine lv_iload hx hb dX0_showSigns_30 (lv_at hl 3 rfl) ?_
        refine vp_callSi (rd_wV (wc := bd_w a0 q t0 ++ tp_w a1 q s1) (As := [.int ((z1 * (t0.1 1)) + z5), .int z5, .ref (a1 0), .int z3, .int z4]) (rest := []) hx hb hml hown ht (c2_X0_flapFor h) wd_X0_flapFor mw_568 hQ hV hS (hP.sub [0, 1, 2, 3, 4, 5, 6, 7, 8, 9, 10, 11, 12, 13, 14] rfl) rfl rfl rfl hl.1 rfl (Nat.le_of_ble_eq_true rfl) dX0_showSigns_32 ⟨Nat.le_of_ble_eq_true rfl, Nat.le_of_ble_eq_true rfl, rfl, rfl⟩ ⟨Nat.le_of_ble_eq_true rfl, Nat.le_of_ble_eq_true rfl⟩) (fun r_2 h => ?_)
        try dsimp only at h
        refine lv_istore (lv' := [(7, .int r_2), (6, .int ((z1 * (t0.1 1)) + z5)), (1, .int z1), (3, .int z3), (4, .int z4), (5, .int z5), (0, .ref (a0 0)), (2, .ref (a1 0))]) hx hb dX0_showSigns_35 hl (by decide) rfl (fun ls hl => ?_)
        refine lv_iload hx hb dX0_showSigns_37 (lv_at hl 0 rfl) ?_
        refine lv_iconst (v := (-1)) hx hb dX0_showSigns_39 (by decide) ?_
        refine lv_icmp_eq (tgt := 52) hx hb dX0_showSigns_40 (by decide) (fun c_4 => ?_) (fun c_4 => ?_)
        · replace h := h.1 c_4
          refine lv_aload_n hx hb dX0_showSigns_52 rfl (lv_at hl 6 rfl) ?_
          refine fl_get (C := RX0) (T := TX0) (N := 18) (ci := 0) (v := .ref (a0 5)) hx hb ht in_X0 hown hK hP 0 rfl rfl 10 (by decide) mw_194 rfl dX0_showSigns_53 ?_
          refine lv_iload hx hb dX0_showSigns_56 (lv_at hl 1 rfl) ?_
          refine lv_aload_n hx hb dX0_showSigns_58 rfl (lv_at hl 6 rfl) ?_
          refine fl_get (C := RX0) (T := TX0) (N := 18) (ci := 0) (v := .ref (a0 7)) hx hb ht in_X0 hown hK hP 0 rfl rfl 12 (by decide) mw_198 rfl dX0_showSigns_59 ?_
          refine lv_iload hx hb dX0_showSigns_62 (lv_at hl 1 rfl) ?_
          obtain ⟨g_5, h⟩ := h
          refine va_iald hx hb hK hP 7 0 rfl rfl g_5 dX0_showSigns_64 ?_
          obtain ⟨g_6, h⟩ := h
          refine va_iast hx hb hK hP hD hS 5 0 rfl rfl g_6 dX0_showSigns_65 (fun H locs hP hD hS => ?_)
          have hP : va_P D vwCl [((a0 0), .inr (0, [.int (t0.1 0), .int (t0.1 1), .int (t0.1 2), .int (t0.1 3), .int (t0.1 4), .int (t0.1 5), .ref (a0 1), .ref (a0 2), .ref (a0 3), .ref (a0 4), .ref (a0 5), .ref (a0 6), .ref (a0 7), .ref (a0 8), .ref (a0 9), .ref (a0 10), .ref (a0 11), .ref (a0 12)])), ((a0 1), .inl (q 0, 4, .inl (t0.2.1 0))), ((a0 2), .inl (q 0, 4, .inl (t0.2.1 1))), ((a0 3), .inl (q 0, 160, .inl (t0.2.1 2))), ((a0 4), .inl (q 0, 40, .inl (t0.2.1 3))), ((a0 5), .inl (q 0, 40, .inl (upd (t0.2.1 4) (Int32.toNatClampNeg ((z1 * (t0.1 1)) + z5)) ((t0.2.1 6) (Int32.toNatClampNeg ((z1 * (t0.1 1)) + z5)))))), ((a0 6), .inl (q 0, 40, .inl (t0.2.1 5))), ((a0 7), .inl (q 0, 40, .inl (t0.2.1 6))), ((a0 8), .inl (q 0, 40, .inl (t0.2.1 7))), ((a0 9), .inl (q 0, 40, .inl (t0.2.1 8))), ((a0 10), .inl (q 0, 40, .inl (t0.2.1 9))), ((a0 11), .inl (q 1, 40, .inr (.inl t0.2.2.1))), ((a0 12), .inl (q 0, t0.2.2.2.1, .inl t0.2.2.2.2)), ((a1 0), .inr (4, [.ref (a1 1), .int (s1.1 0), .int (s1.1 1), .int (s1.1 2), .int (s1.1 3), .int (s1.1 4), .int (s1.1 5)])), ((a1 1), .inl (q 0, 400, .inl s1.2))] H := hP
          have hD : va_D _ [((a0 0), .inr (0, [.int (t0.1 0), .int (t0.1 1), .int (t0.1 2), .int (t0.1 3), .int (t0.1 4), .int (t0.1 5), .ref (a0 1), .ref (a0 2), .ref (a0 3), .ref (a0 4), .ref (a0 5), .ref (a0 6), .ref (a0 7), .ref (a0 8), .ref (a0 9), .ref (a0 10), .ref (a0 11), .ref (a0 12)])), ((a0 1), .inl (q 0, 4, .inl (t0.2.1 0))), ((a0 2), .inl (q 0, 4, .inl (t0.2.1 1))), ((a0 3), .inl (q 0, 160, .inl (t0.2.1 2))), ((a0 4), .inl (q 0, 40, .inl (t0.2.1 3))), ((a0 5), .inl (q 0, 40, .inl (upd (t0.2.1 4) (Int32.toNatClampNeg ((z1 * (t0.1 1)) + z5)) ((t0.2.1 6) (Int32.toNatClampNeg ((z1 * (t0.1 1)) + z5)))))), ((a0 6), .inl (q 0, 40, .inl (t0.2.1 5))), ((a0 7), .inl (q 0, 40, .inl (t0.2.1 6))), ((a0 8), .inl (q 0, 40, .inl (t0.2.1 7))), ((a0 9), .inl (q 0, 40, .inl (t0.2.1 8))), ((a0 10), .inl (q 0, 40, .inl (t0.2.1 9))), ((a0 11), .inl (q 1, 40, .inr (.inl t0.2.2.1))), ((a0 12), .inl (q 0, t0.2.2.2.1, .inl t0.2.2.2.2)), ((a1 0), .inr (4, [.ref (a1 1), .int (s1.1 0), .int (s1.1 1), .int (s1.1 2), .int (s1.1 3), .int (s1.1 4), .int (s1.1 5)])), ((a1 1), .inl (q 0, 400, .inl s1.2))] := hD
          refine lv_aload_n hx hb dX0_showSigns_66 rfl (lv_at hl 6 rfl) ?_
          refine fl_get (C := RX0) (T := TX0) (N := 18) (ci := 0) (v := .ref (a0 6)) hx hb ht in_X0 hown hK hP 0 rfl rfl 11 (by decide) mw_196 rfl dX0_showSigns_67 ?_
          refine lv_iload hx hb dX0_showSigns_70 (lv_at hl 1 rfl) ?_
          refine lv_aload_n hx hb dX0_showSigns_72 rfl (lv_at hl 6 rfl) ?_
          refine fl_get (C := RX0) (T := TX0) (N := 18) (ci := 0) (v := .ref (a0 7)) hx hb ht in_X0 hown hK hP 0 rfl rfl 12 (by decide) mw_198 rfl dX0_showSigns_73 ?_
          refine lv_iload hx hb dX0_showSigns_76 (lv_at hl 1 rfl) ?_
          obtain ⟨g_7, h⟩ := h
          refine va_iald hx hb hK hP 7 0 rfl rfl g_7 dX0_showSigns_78 ?_
          obtain ⟨g_8, h⟩ := h
          refine va_iast hx hb hK hP hD hS 6 0 rfl rfl g_8 dX0_showSigns_79 (fun H locs hP hD hS => ?_)
          have hP : va_P D vwCl [((a0 0), .inr (0, [.int (t0.1 0), .int (t0.1 1), .int (t0.1 2), .int (t0.1 3), .int (t0.1 4), .int (t0.1 5), .ref (a0 1), .ref (a0 2), .ref (a0 3), .ref (a0 4), .ref (a0 5), .ref (a0 6), .ref (a0 7), .ref (a0 8), .ref (a0 9), .ref (a0 10), .ref (a0 11), .ref (a0 12)])), ((a0 1), .inl (q 0, 4, .inl (t0.2.1 0))), ((a0 2), .inl (q 0, 4, .inl (t0.2.1 1))), ((a0 3), .inl (q 0, 160, .inl (t0.2.1 2))), ((a0 4), .inl (q 0, 40, .inl (t0.2.1 3))), ((a0 5), .inl (q 0, 40, .inl (upd (t0.2.1 4) (Int32.toNatClampNeg ((z1 * (t0.1 1)) + z5)) ((t0.2.1 6) (Int32.toNatClampNeg ((z1 * (t0.1 1)) + z5)))))), ((a0 6), .inl (q 0, 40, .inl (upd (t0.2.1 5) (Int32.toNatClampNeg ((z1 * (t0.1 1)) + z5)) ((t0.2.1 6) (Int32.toNatClampNeg ((z1 * (t0.1 1)) + z5)))))), ((a0 7), .inl (q 0, 40, .inl (t0.2.1 6))), ((a0 8), .inl (q 0, 40, .inl (t0.2.1 7))), ((a0 9), .inl (q 0, 40, .inl (t0.2.1 8))), ((a0 10), .inl (q 0, 40, .inl (t0.2.1 9))), ((a0 11), .inl (q 1, 40, .inr (.inl t0.2.2.1))), ((a0 12), .inl (q 0, t0.2.2.2.1, .inl t0.2.2.2.2)), ((a1 0), .inr (4, [.ref (a1 1), .int (s1.1 0), .int (s1.1 1), .int (s1.1 2), .int (s1.1 3), .int (s1.1 4), .int (s1.1 5)])), ((a1 1), .inl (q 0, 400, .inl s1.2))] H := hP
          have hD : va_D _ [((a0 0), .inr (0, [.int (t0.1 0), .int (t0.1 1), .int (t0.1 2), .int (t0.1 3), .int (t0.1 4), .int (t0.1 5), .ref (a0 1), .ref (a0 2), .ref (a0 3), .ref (a0 4), .ref (a0 5), .ref (a0 6), .ref (a0 7), .ref (a0 8), .ref (a0 9), .ref (a0 10), .ref (a0 11), .ref (a0 12)])), ((a0 1), .inl (q 0, 4, .inl (t0.2.1 0))), ((a0 2), .inl (q 0, 4, .inl (t0.2.1 1))), ((a0 3), .inl (q 0, 160, .inl (t0.2.1 2))), ((a0 4), .inl (q 0, 40, .inl (t0.2.1 3))), ((a0 5), .inl (q 0, 40, .inl (upd (t0.2.1 4) (Int32.toNatClampNeg ((z1 * (t0.1 1)) + z5)) ((t0.2.1 6) (Int32.toNatClampNeg ((z1 * (t0.1 1)) + z5)))))), ((a0 6), .inl (q 0, 40, .inl (upd (t0.2.1 5) (Int32.toNatClampNeg ((z1 * (t0.1 1)) + z5)) ((t0.2.1 6) (Int32.toNatClampNeg ((z1 * (t0.1 1)) + z5)))))), ((a0 7), .inl (q 0, 40, .inl (t0.2.1 6))), ((a0 8), .inl (q 0, 40, .inl (t0.2.1 7))), ((a0 9), .inl (q 0, 40, .inl (t0.2.1 8))), ((a0 10), .inl (q 0, 40, .inl (t0.2.1 9))), ((a0 11), .inl (q 1, 40, .inr (.inl t0.2.2.1))), ((a0 12), .inl (q 0, t0.2.2.2.1, .inl t0.2.2.2.2)), ((a1 0), .inr (4, [.ref (a1 1), .int (s1.1 0), .int (s1.1 1), .int (s1.1 2), .int (s1.1 3), .int (s1.1 4), .int (s1.1 5)])), ((a1 1), .inl (q 0, 400, .inl s1.2))] := hD
          refine lv_iinc (v := (z5 + 1)) (lv' := [(5, .int (z5 + 1)), (7, .int r_2), (6, .int ((z1 * (t0.1 1)) + z5)), (1, .int z1), (3, .int z3), (4, .int z4), (0, .ref (a0 0)), (2, .ref (a1 0))]) hx hb dX0_showSigns_80 hl (k := 5) rfl rfl (by decide) rfl (fun ls hl => ?_)
          refine lv_goto (tgt := 3) hx hb dX0_showSigns_83 (by decide) ?_
          exact ih _ _ _ _ _ _ _ ls h (hP.sub (ws' := bd_w a0 q (t0.1, (va_up (va_up t0.2.1 4 (upd (t0.2.1 4) (Int32.toNatClampNeg ((z1 * (t0.1 1)) + z5)) ((t0.2.1 6) (Int32.toNatClampNeg ((z1 * (t0.1 1)) + z5))))) 5 (upd (t0.2.1 5) (Int32.toNatClampNeg ((z1 * (t0.1 1)) + z5)) ((t0.2.1 6) (Int32.toNatClampNeg ((z1 * (t0.1 1)) + z5))))), t0.2.2.1, t0.2.2.2.1, t0.2.2.2.2) ++ tp_w a1 q s1) [0, 1, 2, 3, 4, 5, 6, 7, 8, 9, 10, 11, 12, 13, 14] rfl) (hD.sub (ws' := bd_w a0 q (t0.1, (va_up (va_up t0.2.1 4 (upd (t0.2.1 4) (Int32.toNatClampNeg ((z1 * (t0.1 1)) + z5)) ((t0.2.1 6) (Int32.toNatClampNeg ((z1 * (t0.1 1)) + z5))))) 5 (upd (t0.2.1 5) (Int32.toNatClampNeg ((z1 * (t0.1 1)) + z5)) ((t0.2.1 6) (Int32.toNatClampNeg ((z1 * (t0.1 1)) + z5))))), t0.2.2.1, t0.2.2.2.1, t0.2.2.2.2) ++ tp_w a1 q s1) [0, 1, 2, 3, 4, 5, 6, 7, 8, 9, 10, 11, 12, 13, 14] (by decide) rfl) hS (lv_sub hl [3, 4, 5, 0, 6, 7] rfl)
        · replace h := h.2 c_4
          refine lv_aload_n hx hb dX0_showSigns_43 rfl (lv_at hl 6 rfl) ?_
          refine fl_get (C := RX0) (T := TX0) (N := 18) (ci := 0) (v := .ref (a0 7)) hx hb ht in_X0 hown hK hP 0 rfl rfl 12 (by decide) mw_198 rfl dX0_showSigns_44 ?_
          refine lv_iload hx hb dX0_showSigns_47 (lv_at hl 1 rfl) ?_
          refine lv_iload hx hb dX0_showSigns_49 (lv_at hl 0 rfl) ?_
          obtain ⟨g_9, h⟩ := h
          refine va_iast hx hb hK hP hD hS 7 0 rfl rfl g_9 dX0_showSigns_51 (fun H locs hP hD hS => ?_)
          have hP : va_P D vwCl [((a0 0), .inr (0, [.int (t0.1 0), .int (t0.1 1), .int (t0.1 2), .int (t0.1 3), .int (t0.1 4), .int (t0.1 5), .ref (a0 1), .ref (a0 2), .ref (a0 3), .ref (a0 4), .ref (a0 5), .ref (a0 6), .ref (a0 7), .ref (a0 8), .ref (a0 9), .ref (a0 10), .ref (a0 11), .ref (a0 12)])), ((a0 1), .inl (q 0, 4, .inl (t0.2.1 0))), ((a0 2), .inl (q 0, 4, .inl (t0.2.1 1))), ((a0 3), .inl (q 0, 160, .inl (t0.2.1 2))), ((a0 4), .inl (q 0, 40, .inl (t0.2.1 3))), ((a0 5), .inl (q 0, 40, .inl (t0.2.1 4))), ((a0 6), .inl (q 0, 40, .inl (t0.2.1 5))), ((a0 7), .inl (q 0, 40, .inl (upd (t0.2.1 6) (Int32.toNatClampNeg ((z1 * (t0.1 1)) + z5)) r_2))), ((a0 8), .inl (q 0, 40, .inl (t0.2.1 7))), ((a0 9), .inl (q 0, 40, .inl (t0.2.1 8))), ((a0 10), .inl (q 0, 40, .inl (t0.2.1 9))), ((a0 11), .inl (q 1, 40, .inr (.inl t0.2.2.1))), ((a0 12), .inl (q 0, t0.2.2.2.1, .inl t0.2.2.2.2)), ((a1 0), .inr (4, [.ref (a1 1), .int (s1.1 0), .int (s1.1 1), .int (s1.1 2), .int (s1.1 3), .int (s1.1 4), .int (s1.1 5)])), ((a1 1), .inl (q 0, 400, .inl s1.2))] H := hP
          have hD : va_D _ [((a0 0), .inr (0, [.int (t0.1 0), .int (t0.1 1), .int (t0.1 2), .int (t0.1 3), .int (t0.1 4), .int (t0.1 5), .ref (a0 1), .ref (a0 2), .ref (a0 3), .ref (a0 4), .ref (a0 5), .ref (a0 6), .ref (a0 7), .ref (a0 8), .ref (a0 9), .ref (a0 10), .ref (a0 11), .ref (a0 12)])), ((a0 1), .inl (q 0, 4, .inl (t0.2.1 0))), ((a0 2), .inl (q 0, 4, .inl (t0.2.1 1))), ((a0 3), .inl (q 0, 160, .inl (t0.2.1 2))), ((a0 4), .inl (q 0, 40, .inl (t0.2.1 3))), ((a0 5), .inl (q 0, 40, .inl (t0.2.1 4))), ((a0 6), .inl (q 0, 40, .inl (t0.2.1 5))), ((a0 7), .inl (q 0, 40, .inl (upd (t0.2.1 6) (Int32.toNatClampNeg ((z1 * (t0.1 1)) + z5)) r_2))), ((a0 8), .inl (q 0, 40, .inl (t0.2.1 7))), ((a0 9), .inl (q 0, 40, .inl (t0.2.1 8))), ((a0 10), .inl (q 0, 40, .inl (t0.2.1 9))), ((a0 11), .inl (q 1, 40, .inr (.inl t0.2.2.1))), ((a0 12), .inl (q 0, t0.2.2.2.1, .inl t0.2.2.2.2)), ((a1 0), .inr (4, [.ref (a1 1), .int (s1.1 0), .int (s1.1 1), .int (s1.1 2), .int (s1.1 3), .int (s1.1 4), .int (s1.1 5)])), ((a1 1), .inl (q 0, 400, .inl s1.2))] := hD
          refine lv_aload_n hx hb dX0_showSigns_52 rfl (lv_at hl 6 rfl) ?_
          refine fl_get (C := RX0) (T := TX0) (N := 18) (ci := 0) (v := .ref (a0 5)) hx hb ht in_X0 hown hK hP 0 rfl rfl 10 (by decide) mw_194 rfl dX0_showSigns_53 ?_
          refine lv_iload hx hb dX0_showSigns_56 (lv_at hl 1 rfl) ?_
          refine lv_aload_n hx hb dX0_showSigns_58 rfl (lv_at hl 6 rfl) ?_
          refine fl_get (C := RX0) (T := TX0) (N := 18) (ci := 0) (v := .ref (a0 7)) hx hb ht in_X0 hown hK hP 0 rfl rfl 12 (by decide) mw_198 rfl dX0_showSigns_59 ?_
          refine lv_iload hx hb dX0_showSigns_62 (lv_at hl 1 rfl) ?_
          obtain ⟨g_10, h⟩ := h
          refine va_iald hx hb hK hP 7 0 rfl rfl g_10 dX0_showSigns_64 ?_
          obtain ⟨g_11, h⟩ := h
          refine va_iast hx hb hK hP hD hS 5 0 rfl rfl g_11 dX0_showSigns_65 (fun H locs hP hD hS => ?_)
          have hP : va_P D vwCl [((a0 0), .inr (0, [.int (t0.1 0), .int (t0.1 1), .int (t0.1 2), .int (t0.1 3), .int (t0.1 4), .int (t0.1 5), .ref (a0 1), .ref (a0 2), .ref (a0 3), .ref (a0 4), .ref (a0 5), .ref (a0 6), .ref (a0 7), .ref (a0 8), .ref (a0 9), .ref (a0 10), .ref (a0 11), .ref (a0 12)])), ((a0 1), .inl (q 0, 4, .inl (t0.2.1 0))), ((a0 2), .inl (q 0, 4, .inl (t0.2.1 1))), ((a0 3), .inl (q 0, 160, .inl (t0.2.1 2))), ((a0 4), .inl (q 0, 40, .inl (t0.2.1 3))), ((a0 5), .inl (q 0, 40, .inl (upd (t0.2.1 4) (Int32.toNatClampNeg ((z1 * (t0.1 1)) + z5)) ((upd (t0.2.1 6) (Int32.toNatClampNeg ((z1 * (t0.1 1)) + z5)) r_2) (Int32.toNatClampNeg ((z1 * (t0.1 1)) + z5)))))), ((a0 6), .inl (q 0, 40, .inl (t0.2.1 5))), ((a0 7), .inl (q 0, 40, .inl (upd (t0.2.1 6) (Int32.toNatClampNeg ((z1 * (t0.1 1)) + z5)) r_2))), ((a0 8), .inl (q 0, 40, .inl (t0.2.1 7))), ((a0 9), .inl (q 0, 40, .inl (t0.2.1 8))), ((a0 10), .inl (q 0, 40, .inl (t0.2.1 9))), ((a0 11), .inl (q 1, 40, .inr (.inl t0.2.2.1))), ((a0 12), .inl (q 0, t0.2.2.2.1, .inl t0.2.2.2.2)), ((a1 0), .inr (4, [.ref (a1 1), .int (s1.1 0), .int (s1.1 1), .int (s1.1 2), .int (s1.1 3), .int (s1.1 4), .int (s1.1 5)])), ((a1 1), .inl (q 0, 400, .inl s1.2))] H := hP
          have hD : va_D _ [((a0 0), .inr (0, [.int (t0.1 0), .int (t0.1 1), .int (t0.1 2), .int (t0.1 3), .int (t0.1 4), .int (t0.1 5), .ref (a0 1), .ref (a0 2), .ref (a0 3), .ref (a0 4), .ref (a0 5), .ref (a0 6), .ref (a0 7), .ref (a0 8), .ref (a0 9), .ref (a0 10), .ref (a0 11), .ref (a0 12)])), ((a0 1), .inl (q 0, 4, .inl (t0.2.1 0))), ((a0 2), .inl (q 0, 4, .inl (t0.2.1 1))), ((a0 3), .inl (q 0, 160, .inl (t0.2.1 2))), ((a0 4), .inl (q 0, 40, .inl (t0.2.1 3))), ((a0 5), .inl (q 0, 40, .inl (upd (t0.2.1 4) (Int32.toNatClampNeg ((z1 * (t0.1 1)) + z5)) ((upd (t0.2.1 6) (Int32.toNatClampNeg ((z1 * (t0.1 1)) + z5)) r_2) (Int32.toNatClampNeg ((z1 * (t0.1 1)) + z5)))))), ((a0 6), .inl (q 0, 40, .inl (t0.2.1 5))), ((a0 7), .inl (q 0, 40, .inl (upd (t0.2.1 6) (Int32.toNatClampNeg ((z1 * (t0.1 1)) + z5)) r_2))), ((a0 8), .inl (q 0, 40, .inl (t0.2.1 7))), ((a0 9), .inl (q 0, 40, .inl (t0.2.1 8))), ((a0 10), .inl (q 0, 40, .inl (t0.2.1 9))), ((a0 11), .inl (q 1, 40, .inr (.inl t0.2.2.1))), ((a0 12), .inl (q 0, t0.2.2.2.1, .inl t0.2.2.2.2)), ((a1 0), .inr (4, [.ref (a1 1), .int (s1.1 0), .int (s1.1 1), .int (s1.1 2), .int (s1.1 3), .int (s1.1 4), .int (s1.1 5)])), ((a1 1), .inl (q 0, 400, .inl s1.2))] := hD
          refine lv_aload_n hx hb dX0_showSigns_66 rfl (lv_at hl 6 rfl) ?_
          refine fl_get (C := RX0) (T := TX0) (N := 18) (ci := 0) (v := .ref (a0 6)) hx hb ht in_X0 hown hK hP 0 rfl rfl 11 (by decide) mw_196 rfl dX0_showSigns_67 ?_
          refine lv_iload hx hb dX0_showSigns_70 (lv_at hl 1 rfl) ?_
          refine lv_aload_n hx hb dX0_showSigns_72 rfl (lv_at hl 6 rfl) ?_
          refine fl_get (C := RX0) (T := TX0) (N := 18) (ci := 0) (v := .ref (a0 7)) hx hb ht in_X0 hown hK hP 0 rfl rfl 12 (by decide) mw_198 rfl dX0_showSigns_73 ?_
          refine lv_iload hx hb dX0_showSigns_76 (lv_at hl 1 rfl) ?_
          obtain ⟨g_12, h⟩ := h
          refine va_iald hx hb hK hP 7 0 rfl rfl g_12 dX0_showSigns_78 ?_
          obtain ⟨g_13, h⟩ := h
          refine va_iast hx hb hK hP hD hS 6 0 rfl rfl g_13 dX0_showSigns_79 (fun H locs hP hD hS => ?_)
          have hP : va_P D vwCl [((a0 0), .inr (0, [.int (t0.1 0), .int (t0.1 1), .int (t0.1 2), .int (t0.1 3), .int (t0.1 4), .int (t0.1 5), .ref (a0 1), .ref (a0 2), .ref (a0 3), .ref (a0 4), .ref (a0 5), .ref (a0 6), .ref (a0 7), .ref (a0 8), .ref (a0 9), .ref (a0 10), .ref (a0 11), .ref (a0 12)])), ((a0 1), .inl (q 0, 4, .inl (t0.2.1 0))), ((a0 2), .inl (q 0, 4, .inl (t0.2.1 1))), ((a0 3), .inl (q 0, 160, .inl (t0.2.1 2))), ((a0 4), .inl (q 0, 40, .inl (t0.2.1 3))), ((a0 5), .inl (q 0, 40, .inl (upd (t0.2.1 4) (Int32.toNatClampNeg ((z1 * (t0.1 1)) + z5)) ((upd (t0.2.1 6) (Int32.toNatClampNeg ((z1 * (t0.1 1)) + z5)) r_2) (Int32.toNatClampNeg ((z1 * (t0.1 1)) + z5)))))), ((a0 6), .inl (q 0, 40, .inl (upd (t0.2.1 5) (Int32.toNatClampNeg ((z1 * (t0.1 1)) + z5)) ((upd (t0.2.1 6) (Int32.toNatClampNeg ((z1 * (t0.1 1)) + z5)) r_2) (Int32.toNatClampNeg ((z1 * (t0.1 1)) + z5)))))), ((a0 7), .inl (q 0, 40, .inl (upd (t0.2.1 6) (Int32.toNatClampNeg ((z1 * (t0.1 1)) + z5)) r_2))), ((a0 8), .inl (q 0, 40, .inl (t0.2.1 7))), ((a0 9), .inl (q 0, 40, .inl (t0.2.1 8))), ((a0 10), .inl (q 0, 40, .inl (t0.2.1 9))), ((a0 11), .inl (q 1, 40, .inr (.inl t0.2.2.1))), ((a0 12), .inl (q 0, t0.2.2.2.1, .inl t0.2.2.2.2)), ((a1 0), .inr (4, [.ref (a1 1), .int (s1.1 0), .int (s1.1 1), .int (s1.1 2), .int (s1.1 3), .int (s1.1 4), .int (s1.1 5)])), ((a1 1), .inl (q 0, 400, .inl s1.2))] H := hP
          have hD : va_D _ [((a0 0), .inr (0, [.int (t0.1 0), .int (t0.1 1), .int (t0.1 2), .int (t0.1 3), .int (t0.1 4), .int (t0.1 5), .ref (a0 1), .ref (a0 2), .ref (a0 3), .ref (a0 4), .ref (a0 5), .ref (a0 6), .ref (a0 7), .ref (a0 8), .ref (a0 9), .ref (a0 10), .ref (a0 11), .ref (a0 12)])), ((a0 1), .inl (q 0, 4, .inl (t0.2.1 0))), ((a0 2), .inl (q 0, 4, .inl (t0.2.1 1))), ((a0 3), .inl (q 0, 160, .inl (t0.2.1 2))), ((a0 4), .inl (q 0, 40, .inl (t0.2.1 3))), ((a0 5), .inl (q 0, 40, .inl (upd (t0.2.1 4) (Int32.toNatClampNeg ((z1 * (t0.1 1)) + z5)) ((upd (t0.2.1 6) (Int32.toNatClampNeg ((z1 * (t0.1 1)) + z5)) r_2) (Int32.toNatClampNeg ((z1 * (t0.1 1)) + z5)))))), ((a0 6), .inl (q 0, 40, .inl (upd (t0.2.1 5) (Int32.toNatClampNeg ((z1 * (t0.1 1)) + z5)) ((upd (t0.2.1 6) (Int32.toNatClampNeg ((z1 * (t0.1 1)) + z5)) r_2) (Int32.toNatClampNeg ((z1 * (t0.1 1)) + z5)))))), ((a0 7), .inl (q 0, 40, .inl (upd (t0.2.1 6) (Int32.toNatClampNeg ((z1 * (t0.1 1)) + z5)) r_2))), ((a0 8), .inl (q 0, 40, .inl (t0.2.1 7))), ((a0 9), .inl (q 0, 40, .inl (t0.2.1 8))), ((a0 10), .inl (q 0, 40, .inl (t0.2.1 9))), ((a0 11), .inl (q 1, 40, .inr (.inl t0.2.2.1))), ((a0 12), .inl (q 0, t0.2.2.2.1, .inl t0.2.2.2.2)), ((a1 0), .inr (4, [.ref (a1 1), .int (s1.1 0), .int (s1.1 1), .int (s1.1 2), .int (s1.1 3), .int (s1.1 4), .int (s1.1 5)])), ((a1 1), .inl (q 0, 400, .inl s1.2))] := hD
          refine lv_iinc (v := (z5 + 1)) (lv' := [(5, .int (z5 + 1)), (7, .int r_2), (6, .int ((z1 * (t0.1 1)) + z5)), (1, .int z1), (3, .int z3), (4, .int z4), (0, .ref (a0 0)), (2, .ref (a1 0))]) hx hb dX0_showSigns_80 hl (k := 5) rfl rfl (by decide) rfl (fun ls hl => ?_)
          refine lv_goto (tgt := 3) hx hb dX0_showSigns_83 (by decide) ?_
          exact ih _ _ _ _ _ _ _ ls h (hP.sub (ws' := bd_w a0 q (t0.1, (va_up (va_up (va_up t0.2.1 4 (upd (t0.2.1 4) (Int32.toNatClampNeg ((z1 * (t0.1 1)) + z5)) ((upd (t0.2.1 6) (Int32.toNatClampNeg ((z1 * (t0.1 1)) + z5)) r_2) (Int32.toNatClampNeg ((z1 * (t0.1 1)) + z5))))) 5 (upd (t0.2.1 5) (Int32.toNatClampNeg ((z1 * (t0.1 1)) + z5)) ((upd (t0.2.1 6) (Int32.toNatClampNeg ((z1 * (t0.1 1)) + z5)) r_2) (Int32.toNatClampNeg ((z1 * (t0.1 1)) + z5))))) 6 (upd (t0.2.1 6) (Int32.toNatClampNeg ((z1 * (t0.1 1)) + z5)) r_2)), t0.2.2.1, t0.2.2.2.1, t0.2.2.2.2) ++ tp_w a1 q s1) [0, 1, 2, 3, 4, 5, 6, 7, 8, 9, 10, 11, 12, 13, 14] rfl) (hD.sub (ws' := bd_w a0 q (t0.1, (va_up (va_up (va_up t0.2.1 4 (upd (t0.2.1 4) (Int32.toNatClampNeg ((z1 * (t0.1 1)) + z5)) ((upd (t0.2.1 6) (Int32.toNatClampNeg ((z1 * (t0.1 1)) + z5)) r_2) (Int32.toNatClampNeg ((z1 * (t0.1 1)) + z5))))) 5 (upd (t0.2.1 5) (Int32.toNatClampNeg ((z1 * (t0.1 1)) + z5)) ((upd (t0.2.1 6) (Int32.toNatClampNeg ((z1 * (t0.1 1)) + z5)) r_2) (Int32.toNatClampNeg ((z1 * (t0.1 1)) + z5))))) 6 (upd (t0.2.1 6) (Int32.toNatClampNeg ((z1 * (t0.1 1)) + z5)) r_2)), t0.2.2.1, t0.2.2.2.1, t0.2.2.2.2) ++ tp_w a1 q s1) [0, 1, 2, 3, 4, 5, 6, 7, 8, 9, 10, 11, 12, 13, 14] (by decide) rfl) hS (lv_sub hl [3, 4, 5, 0, 6, 7] rfl)
  obtain ⟨n3, h⟩ := h
  refine lp3 _ ?_ n3 _ _ _ _ _ _ _ ls h (hP.sub (ws' := bd_w a0 q s0 ++ tp_w a1 q s1) [0, 1, 2, 3, 4, 5, 6, 7, 8, 9, 10, 11, 12, 13, 14] rfl) (hD.sub (ws' := bd_w a0 q s0 ++ tp_w a1 q s1) [0, 1, 2, 3, 4, 5, 6, 7, 8, 9, 10, 11, 12, 13, 14] (by decide) rfl) hS (lv_sub hl [2, 4, 5, 0, 1, 3] rfl)
  · intro t0 z1 z3 z4 z5 H locs ls h hP hD hS hl
    try dsimp only at h
    have hP : va_P D vwCl [((a0 0), .inr (0, [.int (t0.1 0), .int (t0.1 1), .int (t0.1 2), .int (t0.1 3), .int (t0.1 4), .int (t0.1 5), .ref (a0 1), .ref (a0 2), .ref (a0 3), .ref (a0 4), .ref (a0 5), .ref (a0 6), .ref (a0 7), .ref (a0 8), .ref (a0 9), .ref (a0 10), .ref (a0 11), .ref (a0 12)])), ((a0 1), .inl (q 0, 4, .inl (t0.2.1 0))), ((a0 2), .inl (q 0, 4, .inl (t0.2.1 1))), ((a0 3), .inl (q 0, 160, .inl (t0.2.1 2))), ((a0 4), .inl (q 0, 40, .inl (t0.2.1 3))), ((a0 5), .inl (q 0, 40, .inl (t0.2.1 4))), ((a0 6), .inl (q 0, 40, .inl (t0.2.1 5))), ((a0 7), .inl (q 0, 40, .inl (t0.2.1 6))), ((a0 8), .inl (q 0, 40, .inl (t0.2.1 7))), ((a0 9), .inl (q 0, 40, .inl (t0.2.1 8))), ((a0 10), .inl (q 0, 40, .inl (t0.2.1 9))), ((a0 11), .inl (q 1, 40, .inr (.inl t0.2.2.1))), ((a0 12), .inl (q 0, t0.2.2.2.1, .inl t0.2.2.2.2)), ((a1 0), .inr (4, [.ref (a1 1), .int (s1.1 0), .int (s1.1 1), .int (s1.1 2), .int (s1.1 3), .int (s1.1 4), .int (s1.1 5)])), ((a1 1), .inl (q 0, 400, .inl s1.2))] H := hP
    have hD : va_D _ [((a0 0), .inr (0, [.int (t0.1 0), .int (t0.1 1), .int (t0.1 2), .int (t0.1 3), .int (t0.1 4), .int (t0.1 5), .ref (a0 1), .ref (a0 2), .ref (a0 3), .ref (a0 4), .ref (a0 5), .ref (a0 6), .ref (a0 7), .ref (a0 8), .ref (a0 9), .ref (a0 10), .ref (a0 11), .ref (a0 12)])), ((a0 1), .inl (q 0, 4, .inl (t0.2.1 0))), ((a0 2), .inl (q 0, 4, .inl (t0.2.1 1))), ((a0 3), .inl (q 0, 160, .inl (t0.2.1 2))), ((a0 4), .inl (q 0, 40, .inl (t0.2.1 3))), ((a0 5), .inl (q 0, 40, .inl (t0.2.1 4))), ((a0 6), .inl (q 0, 40, .inl (t0.2.1 5))), ((a0 7), .inl (q 0, 40, .inl (t0.2.1 6))), ((a0 8), .inl (q 0, 40, .inl (t0.2.1 7))), ((a0 9), .inl (q 0, 40, .inl (t0.2.1 8))), ((a0 10), .inl (q 0, 40, .inl (t0.2.1 9))), ((a0 11), .inl (q 1, 40, .inr (.inl t0.2.2.1))), ((a0 12), .inl (q 0, t0.2.2.2.1, .inl t0.2.2.2.2)), ((a1 0), .inr (4, [.ref (a1 1), .int (s1.1 0), .int (s1.1 1), .int (s1.1 2), .int (s1.1 3), .int (s1.1 4), .int (s1.1 5)])), ((a1 1), .inl (q 0, 400, .inl s1.2))] := hD
    exact mt_vret t0 hx hb hr hk h (hP.sub (ws' := bd_w a0 q t0 ++ tp_w a1 q s1) [0, 1, 2, 3, 4, 5, 6, 7, 8, 9, 10, 11, 12, 13, 14] rfl) (hD.sub (ws' := bd_w a0 q t0 ++ tp_w a1 q s1) [0, 1, 2, 3, 4, 5, 6, 7, 8, 9, 10, 11, 12, 13, 14] (by decide) rfl) hS dX0_showSigns_86

def wp_X6_behind (post : Int32 → Prop) (x0 : Int32) (x1 : Int32) : Prop := ((x1 ≤ (x0 + 1) → post 0) ∧ (¬ x1 ≤ (x0 + 1) → post (x0 + 1)))
set_option maxHeartbeats 4000000 in
set_option maxRecDepth 100000 in
theorem c2_X6_behind {l : Launch} {D : va_G} {q : Nat → ClassId} {x0 : Int32} {x1 : Int32} {post : Int32 → Prop} (h : wp_X6_behind post x0 x1) : Met l yX6_behind (Cond.code yX6_behind cX6_behind 2 (some .int) :: w_all) ({ frames := 0, cells := 0, slots := 0, locals := 0 } : Room) (rd_P D q [.int x0, .int x1] (([] : va_W))) (vp_Si post) 0 0 (fun _ => False) := by
  refine rd_start (by decide) (Nat.le_of_ble_eq_true rfl) ?_
  intro p e s m below meth c ls hx hb hr hml hown ht hk hP hQ hV hl
  have hK := hQ.1
  have hown : s.vm.findClass RX6 = some m.cls := hown
  have hl : lv_has ls 2 [(0, .int x0), (1, .int x1)] := hl
  unfold wp_X6_behind at h
  refine lv_iload_n hx hb dX6_behind_0 rfl (lv_at hl 0 rfl) ?_
  refine lv_iconst (v := 1) hx hb dX6_behind_1 (by decide) ?_
  refine lv_iadd hx hb dX6_behind_2 ?_
  refine lv_iload_n hx hb dX6_behind_3 rfl (lv_at hl 1 rfl) ?_
  refine lv_icmp_ge (tgt := 13) hx hb dX6_behind_4 (by decide) (fun c_1 => ?_) (fun c_1 => ?_)
  · replace h := h.1 c_1
    refine lv_iconst (v := 0) hx hb dX6_behind_13 (by decide) ?_
    exact rd_iret hx hb hr hk h dX6_behind_14
  · replace h := h.2 c_1
    refine lv_iload_n hx hb dX6_behind_7 rfl (lv_at hl 0 rfl) ?_
    refine lv_iconst (v := 1) hx hb dX6_behind_8 (by decide) ?_
    refine lv_iadd hx hb dX6_behind_9 ?_
    refine lv_goto (tgt := 14) hx hb dX6_behind_10 (by decide) ?_
    exact rd_iret hx hb hr hk h dX6_behind_14

def wp_X0_stepOn (post : Int32 → Bd → Prop) (s0 : Bd) (x1 : Int32) : Prop := wp_X0_flapsOf (fun r_1 => vp_in x1 40 ∧ wp_X6_behind (fun r_4 => vp_in x1 40 ∧ ((((s0.2.1 7) (Int32.toNatClampNeg x1)) ≤ 0 → vp_in x1 40 ∧ wp_X6_behind (fun r_9 => vp_in x1 40 ∧ vp_in x1 40 ∧ ((¬ ((upd (s0.2.1 4) (Int32.toNatClampNeg x1) r_9) (Int32.toNatClampNeg x1)) = 0 → vp_in x1 40 ∧ vp_in x1 40 ∧ vp_in x1 40 ∧ vp_in x1 40 ∧ vp_in x1 40 ∧ post 0 (s0.1, (va_up (va_up (va_up (va_up s0.2.1 4 (upd (s0.2.1 4) (Int32.toNatClampNeg x1) r_9)) 5 (upd (s0.2.1 5) (Int32.toNatClampNeg x1) r_4)) 8 (upd (s0.2.1 8) (Int32.toNatClampNeg x1) (((s0.2.1 8) (Int32.toNatClampNeg x1)) + 1))) 9 (upd (s0.2.1 9) (Int32.toNatClampNeg x1) (((s0.2.1 9) (Int32.toNatClampNeg x1)) + 0))), s0.2.2.1, s0.2.2.2.1, s0.2.2.2.2)) ∧ (((upd (s0.2.1 4) (Int32.toNatClampNeg x1) r_9) (Int32.toNatClampNeg x1)) = 0 → vp_in x1 40 ∧ vp_in x1 40 ∧ vp_in x1 40 ∧ vp_in x1 40 ∧ vp_in x1 40 ∧ post r_4 (s0.1, (va_up (va_up (va_up (va_up s0.2.1 4 (upd (s0.2.1 4) (Int32.toNatClampNeg x1) r_9)) 5 (upd (s0.2.1 5) (Int32.toNatClampNeg x1) 0)) 8 (upd (s0.2.1 8) (Int32.toNatClampNeg x1) (((s0.2.1 8) (Int32.toNatClampNeg x1)) + 1))) 9 (upd (s0.2.1 9) (Int32.toNatClampNeg x1) (((s0.2.1 9) (Int32.toNatClampNeg x1)) + r_4))), s0.2.2.1, s0.2.2.2.1, s0.2.2.2.2)))) ((s0.2.1 4) (Int32.toNatClampNeg x1)) r_1) ∧ (¬ ((s0.2.1 7) (Int32.toNatClampNeg x1)) ≤ 0 → vp_in x1 40 ∧ vp_in x1 40 ∧ vp_in x1 40 ∧ vp_in x1 40 ∧ vp_in x1 40 ∧ vp_in x1 40 ∧ vp_in x1 40 ∧ post 0 (s0.1, (va_up (va_up (va_up (va_up s0.2.1 5 (upd (s0.2.1 5) (Int32.toNatClampNeg x1) r_4)) 7 (upd (s0.2.1 7) (Int32.toNatClampNeg x1) (((s0.2.1 7) (Int32.toNatClampNeg x1)) - 1))) 8 (upd (s0.2.1 8) (Int32.toNatClampNeg x1) (((s0.2.1 8) (Int32.toNatClampNeg x1)) + 1))) 9 (upd (s0.2.1 9) (Int32.toNatClampNeg x1) (((s0.2.1 9) (Int32.toNatClampNeg x1)) + 0))), s0.2.2.1, s0.2.2.2.1, s0.2.2.2.2)))) ((s0.2.1 5) (Int32.toNatClampNeg x1)) r_1) s0 x1
set_option maxHeartbeats 4000000 in
set_option maxRecDepth 100000 in
theorem c2_X0_stepOn {l : Launch} {D : va_G} {q : Nat → ClassId} {sz : Nat} {a0 : Nat → Nat} {s0 : Bd} {x1 : Int32} {post : Int32 → Bd → Prop} (h : wp_X0_stepOn post s0 x1) : Met l yX0_stepOn (Cond.code yX0_stepOn cX0_stepOn 5 (some .int) :: w_all) ({ frames := 1, cells := 0, slots := 0, locals := 22 } : Room) (mt_P D q [.ref (a0 0), .int x1] (bd_w a0 q s0) sz) (va_Qi (fun r (u : Bd) => post r u) (mt_B D (bd_w a0 q s0) sz (fun u : Bd => bd_w a0 q u)) (va_A (bd_w a0 q s0) sz)) 0 0 (va_A (bd_w a0 q s0) sz) := by
  refine mt_start (by decide) (Nat.le_of_ble_eq_true rfl) ?_
  intro p e s m below meth c ls hx hb hr hml hown ht hk hin hP hQ hD hA hS hV hl
  have hK := hQ.1
  have hown : s.vm.findClass RX0 = some m.cls := hown
  have hl : lv_has ls 5 [(0, .ref (a0 0)), (1, .int x1)] := hl
  have hP : va_P D vwCl [((a0 0), .inr (0, [.int (s0.1 0), .int (s0.1 1), .int (s0.1 2), .int (s0.1 3), .int (s0.1 4), .int (s0.1 5), .ref (a0 1), .ref (a0 2), .ref (a0 3), .ref (a0 4), .ref (a0 5), .ref (a0 6), .ref (a0 7), .ref (a0 8), .ref (a0 9), .ref (a0 10), .ref (a0 11), .ref (a0 12)])), ((a0 1), .inl (q 0, 4, .inl (s0.2.1 0))), ((a0 2), .inl (q 0, 4, .inl (s0.2.1 1))), ((a0 3), .inl (q 0, 160, .inl (s0.2.1 2))), ((a0 4), .inl (q 0, 40, .inl (s0.2.1 3))), ((a0 5), .inl (q 0, 40, .inl (s0.2.1 4))), ((a0 6), .inl (q 0, 40, .inl (s0.2.1 5))), ((a0 7), .inl (q 0, 40, .inl (s0.2.1 6))), ((a0 8), .inl (q 0, 40, .inl (s0.2.1 7))), ((a0 9), .inl (q 0, 40, .inl (s0.2.1 8))), ((a0 10), .inl (q 0, 40, .inl (s0.2.1 9))), ((a0 11), .inl (q 1, 40, .inr (.inl s0.2.2.1))), ((a0 12), .inl (q 0, s0.2.2.2.1, .inl s0.2.2.2.2))] s.heap := hP
  have hD : va_D _ [((a0 0), .inr (0, [.int (s0.1 0), .int (s0.1 1), .int (s0.1 2), .int (s0.1 3), .int (s0.1 4), .int (s0.1 5), .ref (a0 1), .ref (a0 2), .ref (a0 3), .ref (a0 4), .ref (a0 5), .ref (a0 6), .ref (a0 7), .ref (a0 8), .ref (a0 9), .ref (a0 10), .ref (a0 11), .ref (a0 12)])), ((a0 1), .inl (q 0, 4, .inl (s0.2.1 0))), ((a0 2), .inl (q 0, 4, .inl (s0.2.1 1))), ((a0 3), .inl (q 0, 160, .inl (s0.2.1 2))), ((a0 4), .inl (q 0, 40, .inl (s0.2.1 3))), ((a0 5), .inl (q 0, 40, .inl (s0.2.1 4))), ((a0 6), .inl (q 0, 40, .inl (s0.2.1 5))), ((a0 7), .inl (q 0, 40, .inl (s0.2.1 6))), ((a0 8), .inl (q 0, 40, .inl (s0.2.1 7))), ((a0 9), .inl (q 0, 40, .inl (s0.2.1 8))), ((a0 10), .inl (q 0, 40, .inl (s0.2.1 9))), ((a0 11), .inl (q 1, 40, .inr (.inl s0.2.2.1))), ((a0 12), .inl (q 0, s0.2.2.2.1, .inl s0.2.2.2.2))] := hD
  unfold wp_X0_stepOn at h
  refine lv_aload_n hx hb dX0_stepOn_0 rfl (lv_at hl 0 rfl) ?_
  refine lv_iload_n hx hb dX0_stepOn_1 rfl (lv_at hl 1 rfl) ?_
  refine vp_callSi (rd_wV (wc := bd_w a0 q s0) (As := [.int x1]) (rest := []) hx hb hml hown ht (c2_X0_flapsOf h) wd_X0_flapsOf mw_651 hQ hV hS (hP.sub [0, 1, 2, 3, 4, 5, 6, 7, 8, 9, 10, 11, 12] rfl) rfl rfl rfl hl.1 rfl (Nat.le_of_ble_eq_true rfl) dX0_stepOn_2 ⟨Nat.le_of_ble_eq_true rfl, Nat.le_of_ble_eq_true rfl, rfl, rfl⟩ ⟨Nat.le_of_ble_eq_true rfl, Nat.le_of_ble_eq_true rfl⟩) (fun r_1 h => ?_)
  try dsimp only at h
  refine lv_istore_n (lv' := [(2, .int r_1), (0, .ref (a0 0)), (1, .int x1)]) hx hb dX0_stepOn_5 rfl hl (by decide) rfl (fun ls hl => ?_)
  refine lv_aload_n hx hb dX0_stepOn_6 rfl (lv_at hl 1 rfl) ?_
  refine fl_get (C := RX0) (T := TX0) (N := 18) (ci := 0) (v := .ref (a0 6)) hx hb ht in_X0 hown hK hP 0 rfl rfl 11 (by decide) mw_196 rfl dX0_stepOn_7 ?_
  refine lv_iload_n hx hb dX0_stepOn_10 rfl (lv_at hl 2 rfl) ?_
  obtain ⟨g_3, h⟩ := h
  refine va_iald hx hb hK hP 6 0 rfl rfl g_3 dX0_stepOn_11 ?_
  refine lv_iload_n hx hb dX0_stepOn_12 rfl (lv_at hl 0 rfl) ?_
  refine vp_callSi (rd_wSN (wc := ([] : va_W)) (As := [.int ((s0.2.1 5) (Int32.toNatClampNeg x1)), .int r_1]) (rest := []) hx hb hml hown ht (c2_X6_behind h) wd_X6_behind (hQ.2.2.2.2.1) hQ hV hS (hP.sub [] rfl) rfl hl.1 rfl (Nat.le_of_ble_eq_true rfl) dX0_stepOn_13 ⟨Nat.le_of_ble_eq_true rfl, Nat.le_of_ble_eq_true rfl, rfl, rfl⟩ ⟨Nat.le_of_ble_eq_true rfl, Nat.le_of_ble_eq_true rfl⟩) (fun r_4 h => ?_)
  try dsimp only at h
  refine lv_istore_n (lv' := [(3, .int r_4), (2, .int r_1), (0, .ref (a0 0)), (1, .int x1)]) hx hb dX0_stepOn_16 rfl hl (by decide) rfl (fun ls hl => ?_)
  refine lv_iconst (v := 0) hx hb dX0_stepOn_17 (by decide) ?_
  refine lv_istore (lv' := [(4, .int 0), (3, .int r_4), (2, .int r_1), (0, .ref (a0 0)), (1, .int x1)]) hx hb dX0_stepOn_18 hl (by decide) rfl (fun ls hl => ?_)
  refine lv_aload_n hx hb dX0_stepOn_20 rfl (lv_at hl 3 rfl) ?_
  refine fl_get (C := RX0) (T := TX0) (N := 18) (ci := 0) (v := .ref (a0 8)) hx hb ht in_X0 hown hK hP 0 rfl rfl 13 (by decide) mw_200 rfl dX0_stepOn_21 ?_
  refine lv_iload_n hx hb dX0_stepOn_24 rfl (lv_at hl 4 rfl) ?_
  obtain ⟨g_6, h⟩ := h
  refine va_iald hx hb hK hP 8 0 rfl rfl g_6 dX0_stepOn_25 ?_
  refine lv_if_le (tgt := 42) hx hb dX0_stepOn_26 (by decide) (fun c_7 => ?_) (fun c_7 => ?_)
  · replace h := h.1 c_7
    refine lv_aload_n hx hb dX0_stepOn_42 rfl (lv_at hl 3 rfl) ?_
    refine fl_get (C := RX0) (T := TX0) (N := 18) (ci := 0) (v := .ref (a0 5)) hx hb ht in_X0 hown hK hP 0 rfl rfl 10 (by decide) mw_194 rfl dX0_stepOn_43 ?_
    refine lv_iload_n hx hb dX0_stepOn_46 rfl (lv_at hl 4 rfl) ?_
    refine lv_aload_n hx hb dX0_stepOn_47 rfl (lv_at hl 3 rfl) ?_
    refine fl_get (C := RX0) (T := TX0) (N := 18) (ci := 0) (v := .ref (a0 5)) hx hb ht in_X0 hown hK hP 0 rfl rfl 10 (by decide) mw_194 rfl dX0_stepOn_48 ?_
    refine lv_iload_n hx hb dX0_stepOn_51 rfl (lv_at hl 4 rfl) ?_
    obtain ⟨g_8, h⟩ := h
    refine va_iald hx hb hK hP 5 0 rfl rfl g_8 dX0_stepOn_52 ?_
    refine lv_iload_n hx hb dX0_stepOn_53 rfl (lv_at hl 2 rfl) ?_
    refine vp_callSi (rd_wSN (wc := ([] : va_W)) (As := [.int ((s0.2.1 4) (Int32.toNatClampNeg x1)), .int r_1]) (rest := [.int x1, .ref (a0 5)]) hx hb hml hown ht (c2_X6_behind h) wd_X6_behind (hQ.2.2.2.2.1) hQ hV hS (hP.sub [] rfl) rfl hl.1 rfl (Nat.le_of_ble_eq_true rfl) dX0_stepOn_54 ⟨Nat.le_of_ble_eq_true rfl, Nat.le_of_ble_eq_true rfl, rfl, rfl⟩ ⟨Nat.le_of_ble_eq_true rfl, Nat.le_of_ble_eq_true rfl⟩) (fun r_9 h => ?_)
    try dsimp only at h
    obtain ⟨g_11, h⟩ := h
    refine va_iast hx hb hK hP hD hS 5 0 rfl rfl g_11 dX0_stepOn_57 (fun H locs hP hD hS => ?_)
    have hP : va_P D vwCl [((a0 0), .inr (0, [.int (s0.1 0), .int (s0.1 1), .int (s0.1 2), .int (s0.1 3), .int (s0.1 4), .int (s0.1 5), .ref (a0 1), .ref (a0 2), .ref (a0 3), .ref (a0 4), .ref (a0 5), .ref (a0 6), .ref (a0 7), .ref (a0 8), .ref (a0 9), .ref (a0 10), .ref (a0 11), .ref (a0 12)])), ((a0 1), .inl (q 0, 4, .inl (s0.2.1 0))), ((a0 2), .inl (q 0, 4, .inl (s0.2.1 1))), ((a0 3), .inl (q 0, 160, .inl (s0.2.1 2))), ((a0 4), .inl (q 0, 40, .inl (s0.2.1 3))), ((a0 5), .inl (q 0, 40, .inl (upd (s0.2.1 4) (Int32.toNatClampNeg x1) r_9))), ((a0 6), .inl (q 0, 40, .inl (s0.2.1 5))), ((a0 7), .inl (q 0, 40, .inl (s0.2.1 6))), ((a0 8), .inl (q 0, 40, .inl (s0.2.1 7))), ((a0 9), .inl (q 0, 40, .inl (s0.2.1 8))), ((a0 10), .inl (q 0, 40, .inl (s0.2.1 9))), ((a0 11), .inl (q 1, 40, .inr (.inl s0.2.2.1))), ((a0 12), .inl (q 0, s0.2.2.2.1, .inl s0.2.2.2.2))] H := hP
    have hD : va_D _ [((a0 0), .inr (0, [.int (s0.1 0), .int (s0.1 1), .int (s0.1 2), .int (s0.1 3), .int (s0.1 4), .int (s0.1 5), .ref (a0 1), .ref (a0 2), .ref (a0 3), .ref (a0 4), .ref (a0 5), .ref (a0 6), .ref (a0 7), .ref (a0 8), .ref (a0 9), .ref (a0 10), .ref (a0 11), .ref (a0 12)])), ((a0 1), .inl (q 0, 4, .inl (s0.2.1 0))), ((a0 2), .inl (q 0, 4, .inl (s0.2.1 1))), ((a0 3), .inl (q 0, 160, .inl (s0.2.1 2))), ((a0 4), .inl (q 0, 40, .inl (s0.2.1 3))), ((a0 5), .inl (q 0, 40, .inl (upd (s0.2.1 4) (Int32.toNatClampNeg x1) r_9))), ((a0 6), .inl (q 0, 40, .inl (s0.2.1 5))), ((a0 7), .inl (q 0, 40, .inl (s0.2.1 6))), ((a0 8), .inl (q 0, 40, .inl (s0.2.1 7))), ((a0 9), .inl (q 0, 40, .inl (s0.2.1 8))), ((a0 10), .inl (q 0, 40, .inl (s0.2.1 9))), ((a0 11), .inl (q 1, 40, .inr (.inl s0.2.2.1))), ((a0 12), .inl (q 0, s0.2.2.2.1, .inl s0.2.2.2.2))] := hD
    refine lv_aload_n hx hb dX0_stepOn_58 rfl (lv_at hl 3 rfl) ?_
    refine fl_get (C := RX0) (T := TX0) (N := 18) (ci := 0) (v := .ref (a0 5)) hx hb ht in_X0 hown hK hP 0 rfl rfl 10 (by decide) mw_194 rfl dX0_stepOn_59 ?_
    refine lv_iload_n hx hb dX0_stepOn_62 rfl (lv_at hl 4 rfl) ?_
    obtain ⟨g_12, h⟩ := h
    refine va_iald hx hb hK hP 5 0 rfl rfl g_12 dX0_stepOn_63 ?_
    refine lv_if_ne (tgt := 72) hx hb dX0_stepOn_64 (by decide) (fun c_13 => ?_) (fun c_13 => ?_)
    · replace h := h.1 c_13
      refine lv_aload_n hx hb dX0_stepOn_72 rfl (lv_at hl 3 rfl) ?_
      refine fl_get (C := RX0) (T := TX0) (N := 18) (ci := 0) (v := .ref (a0 6)) hx hb ht in_X0 hown hK hP 0 rfl rfl 11 (by decide) mw_196 rfl dX0_stepOn_73 ?_
      refine lv_iload_n hx hb dX0_stepOn_76 rfl (lv_at hl 4 rfl) ?_
      refine lv_iload_n hx hb dX0_stepOn_77 rfl (lv_at hl 1 rfl) ?_
      obtain ⟨g_14, h⟩ := h
      refine va_iast hx hb hK hP hD hS 6 0 rfl rfl g_14 dX0_stepOn_78 (fun H locs hP hD hS => ?_)
      have hP : va_P D vwCl [((a0 0), .inr (0, [.int (s0.1 0), .int (s0.1 1), .int (s0.1 2), .int (s0.1 3), .int (s0.1 4), .int (s0.1 5), .ref (a0 1), .ref (a0 2), .ref (a0 3), .ref (a0 4), .ref (a0 5), .ref (a0 6), .ref (a0 7), .ref (a0 8), .ref (a0 9), .ref (a0 10), .ref (a0 11), .ref (a0 12)])), ((a0 1), .inl (q 0, 4, .inl (s0.2.1 0))), ((a0 2), .inl (q 0, 4, .inl (s0.2.1 1))), ((a0 3), .inl (q 0, 160, .inl (s0.2.1 2))), ((a0 4), .inl (q 0, 40, .inl (s0.2.1 3))), ((a0 5), .inl (q 0, 40, .inl (upd (s0.2.1 4) (Int32.toNatClampNeg x1) r_9))), ((a0 6), .inl (q 0, 40, .inl (upd (s0.2.1 5) (Int32.toNatClampNeg x1) r_4))), ((a0 7), .inl (q 0, 40, .inl (s0.2.1 6))), ((a0 8), .inl (q 0, 40, .inl (s0.2.1 7))), ((a0 9), .inl (q 0, 40, .inl (s0.2.1 8))), ((a0 10), .inl (q 0, 40, .inl (s0.2.1 9))), ((a0 11), .inl (q 1, 40, .inr (.inl s0.2.2.1))), ((a0 12), .inl (q 0, s0.2.2.2.1, .inl s0.2.2.2.2))] H := hP
      have hD : va_D _ [((a0 0), .inr (0, [.int (s0.1 0), .int (s0.1 1), .int (s0.1 2), .int (s0.1 3), .int (s0.1 4), .int (s0.1 5), .ref (a0 1), .ref (a0 2), .ref (a0 3), .ref (a0 4), .ref (a0 5), .ref (a0 6), .ref (a0 7), .ref (a0 8), .ref (a0 9), .ref (a0 10), .ref (a0 11), .ref (a0 12)])), ((a0 1), .inl (q 0, 4, .inl (s0.2.1 0))), ((a0 2), .inl (q 0, 4, .inl (s0.2.1 1))), ((a0 3), .inl (q 0, 160, .inl (s0.2.1 2))), ((a0 4), .inl (q 0, 40, .inl (s0.2.1 3))), ((a0 5), .inl (q 0, 40, .inl (upd (s0.2.1 4) (Int32.toNatClampNeg x1) r_9))), ((a0 6), .inl (q 0, 40, .inl (upd (s0.2.1 5) (Int32.toNatClampNeg x1) r_4))), ((a0 7), .inl (q 0, 40, .inl (s0.2.1 6))), ((a0 8), .inl (q 0, 40, .inl (s0.2.1 7))), ((a0 9), .inl (q 0, 40, .inl (s0.2.1 8))), ((a0 10), .inl (q 0, 40, .inl (s0.2.1 9))), ((a0 11), .inl (q 1, 40, .inr (.inl s0.2.2.1))), ((a0 12), .inl (q 0, s0.2.2.2.1, .inl s0.2.2.2.2))] := hD
      refine lv_aload_n hx hb dX0_stepOn_79 rfl (lv_at hl 3 rfl) ?_
      refine fl_get (C := RX0) (T := TX0) (N := 18) (ci := 0) (v := .ref (a0 9)) hx hb ht in_X0 hown hK hP 0 rfl rfl 14 (by decide) mw_202 rfl dX0_stepOn_80 ?_
      refine lv_iload_n hx hb dX0_stepOn_83 rfl (lv_at hl 4 rfl) ?_
      refine lv_dup2_11 hx hb dX0_stepOn_84 rfl rfl ?_
      obtain ⟨g_15, h⟩ := h
      refine va_iald hx hb hK hP 9 0 rfl rfl g_15 dX0_stepOn_85 ?_
      refine lv_iconst (v := 1) hx hb dX0_stepOn_86 (by decide) ?_
      refine lv_iadd hx hb dX0_stepOn_87 ?_
      obtain ⟨g_16, h⟩ := h
      refine va_iast hx hb hK hP hD hS 9 0 rfl rfl g_16 dX0_stepOn_88 (fun H locs hP hD hS => ?_)
      have hP : va_P D vwCl [((a0 0), .inr (0, [.int (s0.1 0), .int (s0.1 1), .int (s0.1 2), .int (s0.1 3), .int (s0.1 4), .int (s0.1 5), .ref (a0 1), .ref (a0 2), .ref (a0 3), .ref (a0 4), .ref (a0 5), .ref (a0 6), .ref (a0 7), .ref (a0 8), .ref (a0 9), .ref (a0 10), .ref (a0 11), .ref (a0 12)])), ((a0 1), .inl (q 0, 4, .inl (s0.2.1 0))), ((a0 2), .inl (q 0, 4, .inl (s0.2.1 1))), ((a0 3), .inl (q 0, 160, .inl (s0.2.1 2))), ((a0 4), .inl (q 0, 40, .inl (s0.2.1 3))), ((a0 5), .inl (q 0, 40, .inl (upd (s0.2.1 4) (Int32.toNatClampNeg x1) r_9))), ((a0 6), .inl (q 0, 40, .inl (upd (s0.2.1 5) (Int32.toNatClampNeg x1) r_4))), ((a0 7), .inl (q 0, 40, .inl (s0.2.1 6))), ((a0 8), .inl (q 0, 40, .inl (s0.2.1 7))), ((a0 9), .inl (q 0, 40, .inl (upd (s0.2.1 8) (Int32.toNatClampNeg x1) (((s0.2.1 8) (Int32.toNatClampNeg x1)) + 1)))), ((a0 10), .inl (q 0, 40, .inl (s0.2.1 9))), ((a0 11), .inl (q 1, 40, .inr (.inl s0.2.2.1))), ((a0 12), .inl (q 0, s0.2.2.2.1, .inl s0.2.2.2.2))] H := hP
      have hD : va_D _ [((a0 0), .inr (0, [.int (s0.1 0), .int (s0.1 1), .int (s0.1 2), .int (s0.1 3), .int (s0.1 4), .int (s0.1 5), .ref (a0 1), .ref (a0 2), .ref (a0 3), .ref (a0 4), .ref (a0 5), .ref (a0 6), .ref (a0 7), .ref (a0 8), .ref (a0 9), .ref (a0 10), .ref (a0 11), .ref (a0 12)])), ((a0 1), .inl (q 0, 4, .inl (s0.2.1 0))), ((a0 2), .inl (q 0, 4, .inl (s0.2.1 1))), ((a0 3), .inl (q 0, 160, .inl (s0.2.1 2))), ((a0 4), .inl (q 0, 40, .inl (s0.2.1 3))), ((a0 5), .inl (q 0, 40, .inl (upd (s0.2.1 4) (Int32.toNatClampNeg x1) r_9))), ((a0 6), .inl (q 0, 40, .inl (upd (s0.2.1 5) (Int32.toNatClampNeg x1) r_4))), ((a0 7), .inl (q 0, 40, .inl (s0.2.1 6))), ((a0 8), .inl (q 0, 40, .inl (s0.2.1 7))), ((a0 9), .inl (q 0, 40, .inl (upd (s0.2.1 8) (Int32.toNatClampNeg x1) (((s0.2.1 8) (Int32.toNatClampNeg x1)) + 1)))), ((a0 10), .inl (q 0, 40, .inl (s0.2.1 9))), ((a0 11), .inl (q 1, 40, .inr (.inl s0.2.2.1))), ((a0 12), .inl (q 0, s0.2.2.2.1, .inl s0.2.2.2.2))] := hD
      refine lv_aload_n hx hb dX0_stepOn_89 rfl (lv_at hl 3 rfl) ?_
      refine fl_get (C := RX0) (T := TX0) (N := 18) (ci := 0) (v := .ref (a0 10)) hx hb ht in_X0 hown hK hP 0 rfl rfl 15 (by decide) mw_204 rfl dX0_stepOn_90 ?_
      refine lv_iload_n hx hb dX0_stepOn_93 rfl (lv_at hl 4 rfl) ?_
      refine lv_dup2_11 hx hb dX0_stepOn_94 rfl rfl ?_
      obtain ⟨g_17, h⟩ := h
      refine va_iald hx hb hK hP 10 0 rfl rfl g_17 dX0_stepOn_95 ?_
      refine lv_iload hx hb dX0_stepOn_96 (lv_at hl 0 rfl) ?_
      refine lv_iadd hx hb dX0_stepOn_98 ?_
      obtain ⟨g_18, h⟩ := h
      refine va_iast hx hb hK hP hD hS 10 0 rfl rfl g_18 dX0_stepOn_99 (fun H locs hP hD hS => ?_)
      have hP : va_P D vwCl [((a0 0), .inr (0, [.int (s0.1 0), .int (s0.1 1), .int (s0.1 2), .int (s0.1 3), .int (s0.1 4), .int (s0.1 5), .ref (a0 1), .ref (a0 2), .ref (a0 3), .ref (a0 4), .ref (a0 5), .ref (a0 6), .ref (a0 7), .ref (a0 8), .ref (a0 9), .ref (a0 10), .ref (a0 11), .ref (a0 12)])), ((a0 1), .inl (q 0, 4, .inl (s0.2.1 0))), ((a0 2), .inl (q 0, 4, .inl (s0.2.1 1))), ((a0 3), .inl (q 0, 160, .inl (s0.2.1 2))), ((a0 4), .inl (q 0, 40, .inl (s0.2.1 3))), ((a0 5), .inl (q 0, 40, .inl (upd (s0.2.1 4) (Int32.toNatClampNeg x1) r_9))), ((a0 6), .inl (q 0, 40, .inl (upd (s0.2.1 5) (Int32.toNatClampNeg x1) r_4))), ((a0 7), .inl (q 0, 40, .inl (s0.2.1 6))), ((a0 8), .inl (q 0, 40, .inl (s0.2.1 7))), ((a0 9), .inl (q 0, 40, .inl (upd (s0.2.1 8) (Int32.toNatClampNeg x1) (((s0.2.1 8) (Int32.toNatClampNeg x1)) + 1)))), ((a0 10), .inl (q 0, 40, .inl (upd (s0.2.1 9) (Int32.toNatClampNeg x1) (((s0.2.1 9) (Int32.toNatClampNeg x1)) + 0)))), ((a0 11), .inl (q 1, 40, .inr (.inl s0.2.2.1))), ((a0 12), .inl (q 0, s0.2.2.2.1, .inl s0.2.2.2.2))] H := hP
      have hD : va_D _ [((a0 0), .inr (0, [.int (s0.1 0), .int (s0.1 1), .int (s0.1 2), .int (s0.1 3), .int (s0.1 4), .int (s0.1 5), .ref (a0 1), .ref (a0 2), .ref (a0 3), .ref (a0 4), .ref (a0 5), .ref (a0 6), .ref (a0 7), .ref (a0 8), .ref (a0 9), .ref (a0 10), .ref (a0 11), .ref (a0 12)])), ((a0 1), .inl (q 0, 4, .inl (s0.2.1 0))), ((a0 2), .inl (q 0, 4, .inl (s0.2.1 1))), ((a0 3), .inl (q 0, 160, .inl (s0.2.1 2))), ((a0 4), .inl (q 0, 40, .inl (s0.2.1 3))), ((a0 5), .inl (q 0, 40, .inl (upd (s0.2.1 4) (Int32.toNatClampNeg x1) r_9))), ((a0 6), .inl (q 0, 40, .inl (upd (s0.2.1 5) (Int32.toNatClampNeg x1) r_4))), ((a0 7), .inl (q 0, 40, .inl (s0.2.1 6))), ((a0 8), .inl (q 0, 40, .inl (s0.2.1 7))), ((a0 9), .inl (q 0, 40, .inl (upd (s0.2.1 8) (Int32.toNatClampNeg x1) (((s0.2.1 8) (Int32.toNatClampNeg x1)) + 1)))), ((a0 10), .inl (q 0, 40, .inl (upd (s0.2.1 9) (Int32.toNatClampNeg x1) (((s0.2.1 9) (Int32.toNatClampNeg x1)) + 0)))), ((a0 11), .inl (q 1, 40, .inr (.inl s0.2.2.1))), ((a0 12), .inl (q 0, s0.2.2.2.1, .inl s0.2.2.2.2))] := hD
      refine lv_iload hx hb dX0_stepOn_100 (lv_at hl 0 rfl) ?_
      exact mt_iret (s0.1, (va_up (va_up (va_up (va_up s0.2.1 4 (upd (s0.2.1 4) (Int32.toNatClampNeg x1) r_9)) 5 (upd (s0.2.1 5) (Int32.toNatClampNeg x1) r_4)) 8 (upd (s0.2.1 8) (Int32.toNatClampNeg x1) (((s0.2.1 8) (Int32.toNatClampNeg x1)) + 1))) 9 (upd (s0.2.1 9) (Int32.toNatClampNeg x1) (((s0.2.1 9) (Int32.toNatClampNeg x1)) + 0))), s0.2.2.1, s0.2.2.2.1, s0.2.2.2.2) hx hb hr hk h (hP.sub (ws' := bd_w a0 q (s0.1, (va_up (va_up (va_up (va_up s0.2.1 4 (upd (s0.2.1 4) (Int32.toNatClampNeg x1) r_9)) 5 (upd (s0.2.1 5) (Int32.toNatClampNeg x1) r_4)) 8 (upd (s0.2.1 8) (Int32.toNatClampNeg x1) (((s0.2.1 8) (Int32.toNatClampNeg x1)) + 1))) 9 (upd (s0.2.1 9) (Int32.toNatClampNeg x1) (((s0.2.1 9) (Int32.toNatClampNeg x1)) + 0))), s0.2.2.1, s0.2.2.2.1, s0.2.2.2.2)) [0, 1, 2, 3, 4, 5, 6, 7, 8, 9, 10, 11, 12] rfl) (hD.sub (ws' := bd_w a0 q (s0.1, (va_up (va_up (va_up (va_up s0.2.1 4 (upd (s0.2.1 4) (Int32.toNatClampNeg x1) r_9)) 5 (upd (s0.2.1 5) (Int32.toNatClampNeg x1) r_4)) 8 (upd (s0.2.1 8) (Int32.toNatClampNeg x1) (((s0.2.1 8) (Int32.toNatClampNeg x1)) + 1))) 9 (upd (s0.2.1 9) (Int32.toNatClampNeg x1) (((s0.2.1 9) (Int32.toNatClampNeg x1)) + 0))), s0.2.2.1, s0.2.2.2.1, s0.2.2.2.2)) [0, 1, 2, 3, 4, 5, 6, 7, 8, 9, 10, 11, 12] (by decide) rfl) hS dX0_stepOn_102
    · replace h := h.2 c_13
      refine lv_iload_n hx hb dX0_stepOn_67 rfl (lv_at hl 1 rfl) ?_
      refine lv_istore (lv' := [(4, .int r_4), (3, .int r_4), (2, .int r_1), (0, .ref (a0 0)), (1, .int x1)]) hx hb dX0_stepOn_68 hl (by decide) rfl (fun ls hl => ?_)
      refine lv_iconst (v := 0) hx hb dX0_stepOn_70 (by decide) ?_
      refine lv_istore_n (lv' := [(3, .int 0), (4, .int r_4), (2, .int r_1), (0, .ref (a0 0)), (1, .int x1)]) hx hb dX0_stepOn_71 rfl hl (by decide) rfl (fun ls hl => ?_)
      refine lv_aload_n hx hb dX0_stepOn_72 rfl (lv_at hl 3 rfl) ?_
      refine fl_get (C := RX0) (T := TX0) (N := 18) (ci := 0) (v := .ref (a0 6)) hx hb ht in_X0 hown hK hP 0 rfl rfl 11 (by decide) mw_196 rfl dX0_stepOn_73 ?_
      refine lv_iload_n hx hb dX0_stepOn_76 rfl (lv_at hl 4 rfl) ?_
      refine lv_iload_n hx hb dX0_stepOn_77 rfl (lv_at hl 0 rfl) ?_
      obtain ⟨g_19, h⟩ := h
      refine va_iast hx hb hK hP hD hS 6 0 rfl rfl g_19 dX0_stepOn_78 (fun H locs hP hD hS => ?_)
      have hP : va_P D vwCl [((a0 0), .inr (0, [.int (s0.1 0), .int (s0.1 1), .int (s0.1 2), .int (s0.1 3), .int (s0.1 4), .int (s0.1 5), .ref (a0 1), .ref (a0 2), .ref (a0 3), .ref (a0 4), .ref (a0 5), .ref (a0 6), .ref (a0 7), .ref (a0 8), .ref (a0 9), .ref (a0 10), .ref (a0 11), .ref (a0 12)])), ((a0 1), .inl (q 0, 4, .inl (s0.2.1 0))), ((a0 2), .inl (q 0, 4, .inl (s0.2.1 1))), ((a0 3), .inl (q 0, 160, .inl (s0.2.1 2))), ((a0 4), .inl (q 0, 40, .inl (s0.2.1 3))), ((a0 5), .inl (q 0, 40, .inl (upd (s0.2.1 4) (Int32.toNatClampNeg x1) r_9))), ((a0 6), .inl (q 0, 40, .inl (upd (s0.2.1 5) (Int32.toNatClampNeg x1) 0))), ((a0 7), .inl (q 0, 40, .inl (s0.2.1 6))), ((a0 8), .inl (q 0, 40, .inl (s0.2.1 7))), ((a0 9), .inl (q 0, 40, .inl (s0.2.1 8))), ((a0 10), .inl (q 0, 40, .inl (s0.2.1 9))), ((a0 11), .inl (q 1, 40, .inr (.inl s0.2.2.1))), ((a0 12), .inl (q 0, s0.2.2.2.1, .inl s0.2.2.2.2))] H := hP
      have hD : va_D _ [((a0 0), .inr (0, [.int (s0.1 0), .int (s0.1 1), .int (s0.1 2), .int (s0.1 3), .int (s0.1 4), .int (s0.1 5), .ref (a0 1), .ref (a0 2), .ref (a0 3), .ref (a0 4), .ref (a0 5), .ref (a0 6), .ref (a0 7), .ref (a0 8), .ref (a0 9), .ref (a0 10), .ref (a0 11), .ref (a0 12)])), ((a0 1), .inl (q 0, 4, .inl (s0.2.1 0))), ((a0 2), .inl (q 0, 4, .inl (s0.2.1 1))), ((a0 3), .inl (q 0, 160, .inl (s0.2.1 2))), ((a0 4), .inl (q 0, 40, .inl (s0.2.1 3))), ((a0 5), .inl (q 0, 40, .inl (upd (s0.2.1 4) (Int32.toNatClampNeg x1) r_9))), ((a0 6), .inl (q 0, 40, .inl (upd (s0.2.1 5) (Int32.toNatClampNeg x1) 0))), ((a0 7), .inl (q 0, 40, .inl (s0.2.1 6))), ((a0 8), .inl (q 0, 40, .inl (s0.2.1 7))), ((a0 9), .inl (q 0, 40, .inl (s0.2.1 8))), ((a0 10), .inl (q 0, 40, .inl (s0.2.1 9))), ((a0 11), .inl (q 1, 40, .inr (.inl s0.2.2.1))), ((a0 12), .inl (q 0, s0.2.2.2.1, .inl s0.2.2.2.2))] := hD
      refine lv_aload_n hx hb dX0_stepOn_79 rfl (lv_at hl 3 rfl) ?_
      refine fl_get (C := RX0) (T := TX0) (N := 18) (ci := 0) (v := .ref (a0 9)) hx hb ht in_X0 hown hK hP 0 rfl rfl 14 (by decide) mw_202 rfl dX0_stepOn_80 ?_
      refine lv_iload_n hx hb dX0_stepOn_83 rfl (lv_at hl 4 rfl) ?_
      refine lv_dup2_11 hx hb dX0_stepOn_84 rfl rfl ?_
      obtain ⟨g_20, h⟩ := h
      refine va_iald hx hb hK hP 9 0 rfl rfl g_20 dX0_stepOn_85 ?_
      refine lv_iconst (v := 1) hx hb dX0_stepOn_86 (by decide) ?_
      refine lv_iadd hx hb dX0_stepOn_87 ?_
      obtain ⟨g_21, h⟩ := h
      refine va_iast hx hb hK hP hD hS 9 0 rfl rfl g_21 dX0_stepOn_88 (fun H locs hP hD hS => ?_)
      have hP : va_P D vwCl [((a0 0), .inr (0, [.int (s0.1 0), .int (s0.1 1), .int (s0.1 2), .int (s0.1 3), .int (s0.1 4), .int (s0.1 5), .ref (a0 1), .ref (a0 2), .ref (a0 3), .ref (a0 4), .ref (a0 5), .ref (a0 6), .ref (a0 7), .ref (a0 8), .ref (a0 9), .ref (a0 10), .ref (a0 11), .ref (a0 12)])), ((a0 1), .inl (q 0, 4, .inl (s0.2.1 0))), ((a0 2), .inl (q 0, 4, .inl (s0.2.1 1))), ((a0 3), .inl (q 0, 160, .inl (s0.2.1 2))), ((a0 4), .inl (q 0, 40, .inl (s0.2.1 3))), ((a0 5), .inl (q 0, 40, .inl (upd (s0.2.1 4) (Int32.toNatClampNeg x1) r_9))), ((a0 6), .inl (q 0, 40, .inl (upd (s0.2.1 5) (Int32.toNatClampNeg x1) 0))), ((a0 7), .inl (q 0, 40, .inl (s0.2.1 6))), ((a0 8), .inl (q 0, 40, .inl (s0.2.1 7))), ((a0 9), .inl (q 0, 40, .inl (upd (s0.2.1 8) (Int32.toNatClampNeg x1) (((s0.2.1 8) (Int32.toNatClampNeg x1)) + 1)))), ((a0 10), .inl (q 0, 40, .inl (s0.2.1 9))), ((a0 11), .inl (q 1, 40, .inr (.inl s0.2.2.1))), ((a0 12), .inl (q 0, s0.2.2.2.1, .inl s0.2.2.2.2))] H := hP
      have hD : va_D _ [((a0 0), .inr (0, [.int (s0.1 0), .int (s0.1 1), .int (s0.1 2), .int (s0.1 3), .int (s0.1 4), .int (s0.1 5), .ref (a0 1), .ref (a0 2), .ref (a0 3), .ref (a0 4), .ref (a0 5), .ref (a0 6), .ref (a0 7), .ref (a0 8), .ref (a0 9), .ref (a0 10), .ref (a0 11), .ref (a0 12)])), ((a0 1), .inl (q 0, 4, .inl (s0.2.1 0))), ((a0 2), .inl (q 0, 4, .inl (s0.2.1 1))), ((a0 3), .inl (q 0, 160, .inl (s0.2.1 2))), ((a0 4), .inl (q 0, 40, .inl (s0.2.1 3))), ((a0 5), .inl (q 0, 40, .inl (upd (s0.2.1 4) (Int32.toNatClampNeg x1) r_9))), ((a0 6), .inl (q 0, 40, .inl (upd (s0.2.1 5) (Int32.toNatClampNeg x1) 0))), ((a0 7), .inl (q 0, 40, .inl (s0.2.1 6))), ((a0 8), .inl (q 0, 40, .inl (s0.2.1 7))), ((a0 9), .inl (q 0, 40, .inl (upd (s0.2.1 8) (Int32.toNatClampNeg x1) (((s0.2.1 8) (Int32.toNatClampNeg x1)) + 1)))), ((a0 10), .inl (q 0, 40, .inl (s0.2.1 9))), ((a0 11), .inl (q 1, 40, .inr (.inl s0.2.2.1))), ((a0 12), .inl (q 0, s0.2.2.2.1, .inl s0.2.2.2.2))] := hD
      refine lv_aload_n hx hb dX0_stepOn_89 rfl (lv_at hl 3 rfl) ?_
      refine fl_get (C := RX0) (T := TX0) (N := 18) (ci := 0) (v := .ref (a0 10)) hx hb ht in_X0 hown hK hP 0 rfl rfl 15 (by decide) mw_204 rfl dX0_stepOn_90 ?_
      refine lv_iload_n hx hb dX0_stepOn_93 rfl (lv_at hl 4 rfl) ?_
      refine lv_dup2_11 hx hb dX0_stepOn_94 rfl rfl ?_
      obtain ⟨g_22, h⟩ := h
      refine va_iald hx hb hK hP 10 0 rfl rfl g_22 dX0_stepOn_95 ?_
      refine lv_iload hx hb dX0_stepOn_96 (lv_at hl 1 rfl) ?_
      refine lv_iadd hx hb dX0_stepOn_98 ?_
      obtain ⟨g_23, h⟩ := h
      refine va_iast hx hb hK hP hD hS 10 0 rfl rfl g_23 dX0_stepOn_99 (fun H locs hP hD hS => ?_)
      have hP : va_P D vwCl [((a0 0), .inr (0, [.int (s0.1 0), .int (s0.1 1), .int (s0.1 2), .int (s0.1 3), .int (s0.1 4), .int (s0.1 5), .ref (a0 1), .ref (a0 2), .ref (a0 3), .ref (a0 4), .ref (a0 5), .ref (a0 6), .ref (a0 7), .ref (a0 8), .ref (a0 9), .ref (a0 10), .ref (a0 11), .ref (a0 12)])), ((a0 1), .inl (q 0, 4, .inl (s0.2.1 0))), ((a0 2), .inl (q 0, 4, .inl (s0.2.1 1))), ((a0 3), .inl (q 0, 160, .inl (s0.2.1 2))), ((a0 4), .inl (q 0, 40, .inl (s0.2.1 3))), ((a0 5), .inl (q 0, 40, .inl (upd (s0.2.1 4) (Int32.toNatClampNeg x1) r_9))), ((a0 6), .inl (q 0, 40, .inl (upd (s0.2.1 5) (Int32.toNatClampNeg x1) 0))), ((a0 7), .inl (q 0, 40, .inl (s0.2.1 6))), ((a0 8), .inl (q 0, 40, .inl (s0.2.1 7))), ((a0 9), .inl (q 0, 40, .inl (upd (s0.2.1 8) (Int32.toNatClampNeg x1) (((s0.2.1 8) (Int32.toNatClampNeg x1)) + 1)))), ((a0 10), .inl (q 0, 40, .inl (upd (s0.2.1 9) (Int32.toNatClampNeg x1) (((s0.2.1 9) (Int32.toNatClampNeg x1)) + r_4)))), ((a0 11), .inl (q 1, 40, .inr (.inl s0.2.2.1))), ((a0 12), .inl (q 0, s0.2.2.2.1, .inl s0.2.2.2.2))] H := hP
      have hD : va_D _ [((a0 0), .inr (0, [.int (s0.1 0), .int (s0.1 1), .int (s0.1 2), .int (s0.1 3), .int (s0.1 4), .int (s0.1 5), .ref (a0 1), .ref (a0 2), .ref (a0 3), .ref (a0 4), .ref (a0 5), .ref (a0 6), .ref (a0 7), .ref (a0 8), .ref (a0 9), .ref (a0 10), .ref (a0 11), .ref (a0 12)])), ((a0 1), .inl (q 0, 4, .inl (s0.2.1 0))), ((a0 2), .inl (q 0, 4, .inl (s0.2.1 1))), ((a0 3), .inl (q 0, 160, .inl (s0.2.1 2))), ((a0 4), .inl (q 0, 40, .inl (s0.2.1 3))), ((a0 5), .inl (q 0, 40, .inl (upd (s0.2.1 4) (Int32.toNatClampNeg x1) r_9))), ((a0 6), .inl (q 0, 40, .inl (upd (s0.2.1 5) (Int32.toNatClampNeg x1) 0))), ((a0 7), .inl (q 0, 40, .inl (s0.2.1 6))), ((a0 8), .inl (q 0, 40, .inl (s0.2.1 7))), ((a0 9), .inl (q 0, 40, .inl (upd (s0.2.1 8) (Int32.toNatClampNeg x1) (((s0.2.1 8) (Int32.toNatClampNeg x1)) + 1)))), ((a0 10), .inl (q 0, 40, .inl (upd (s0.2.1 9) (Int32.toNatClampNeg x1) (((s0.2.1 9) (Int32.toNatClampNeg x1)) + r_4)))), ((a0 11), .inl (q 1, 40, .inr (.inl s0.2.2.1))), ((a0 12), .inl (q 0, s0.2.2.2.1, .inl s0.2.2.2.2))] := hD
      refine lv_iload hx hb dX0_stepOn_100 (lv_at hl 1 rfl) ?_
      exact mt_iret (s0.1, (va_up (va_up (va_up (va_up s0.2.1 4 (upd (s0.2.1 4) (Int32.toNatClampNeg x1) r_9)) 5 (upd (s0.2.1 5) (Int32.toNatClampNeg x1) 0)) 8 (upd (s0.2.1 8) (Int32.toNatClampNeg x1) (((s0.2.1 8) (Int32.toNatClampNeg x1)) + 1))) 9 (upd (s0.2.1 9) (Int32.toNatClampNeg x1) (((s0.2.1 9) (Int32.toNatClampNeg x1)) + r_4))), s0.2.2.1, s0.2.2.2.1, s0.2.2.2.2) hx hb hr hk h (hP.sub (ws' := bd_w a0 q (s0.1, (va_up (va_up (va_up (va_up s0.2.1 4 (upd (s0.2.1 4) (Int32.toNatClampNeg x1) r_9)) 5 (upd (s0.2.1 5) (Int32.toNatClampNeg x1) 0)) 8 (upd (s0.2.1 8) (Int32.toNatClampNeg x1) (((s0.2.1 8) (Int32.toNatClampNeg x1)) + 1))) 9 (upd (s0.2.1 9) (Int32.toNatClampNeg x1) (((s0.2.1 9) (Int32.toNatClampNeg x1)) + r_4))), s0.2.2.1, s0.2.2.2.1, s0.2.2.2.2)) [0, 1, 2, 3, 4, 5, 6, 7, 8, 9, 10, 11, 12] rfl) (hD.sub (ws' := bd_w a0 q (s0.1, (va_up (va_up (va_up (va_up s0.2.1 4 (upd (s0.2.1 4) (Int32.toNatClampNeg x1) r_9)) 5 (upd (s0.2.1 5) (Int32.toNatClampNeg x1) 0)) 8 (upd (s0.2.1 8) (Int32.toNatClampNeg x1) (((s0.2.1 8) (Int32.toNatClampNeg x1)) + 1))) 9 (upd (s0.2.1 9) (Int32.toNatClampNeg x1) (((s0.2.1 9) (Int32.toNatClampNeg x1)) + r_4))), s0.2.2.1, s0.2.2.2.1, s0.2.2.2.2)) [0, 1, 2, 3, 4, 5, 6, 7, 8, 9, 10, 11, 12] (by decide) rfl) hS dX0_stepOn_102
  · replace h := h.2 c_7
    refine lv_aload_n hx hb dX0_stepOn_29 rfl (lv_at hl 3 rfl) ?_
    refine fl_get (C := RX0) (T := TX0) (N := 18) (ci := 0) (v := .ref (a0 8)) hx hb ht in_X0 hown hK hP 0 rfl rfl 13 (by decide) mw_200 rfl dX0_stepOn_30 ?_
    refine lv_iload_n hx hb dX0_stepOn_33 rfl (lv_at hl 4 rfl) ?_
    refine lv_dup2_11 hx hb dX0_stepOn_34 rfl rfl ?_
    obtain ⟨g_24, h⟩ := h
    refine va_iald hx hb hK hP 8 0 rfl rfl g_24 dX0_stepOn_35 ?_
    refine lv_iconst (v := 1) hx hb dX0_stepOn_36 (by decide) ?_
    refine lv_isub hx hb dX0_stepOn_37 ?_
    obtain ⟨g_25, h⟩ := h
    refine va_iast hx hb hK hP hD hS 8 0 rfl rfl g_25 dX0_stepOn_38 (fun H locs hP hD hS => ?_)
    have hP : va_P D vwCl [((a0 0), .inr (0, [.int (s0.1 0), .int (s0.1 1), .int (s0.1 2), .int (s0.1 3), .int (s0.1 4), .int (s0.1 5), .ref (a0 1), .ref (a0 2), .ref (a0 3), .ref (a0 4), .ref (a0 5), .ref (a0 6), .ref (a0 7), .ref (a0 8), .ref (a0 9), .ref (a0 10), .ref (a0 11), .ref (a0 12)])), ((a0 1), .inl (q 0, 4, .inl (s0.2.1 0))), ((a0 2), .inl (q 0, 4, .inl (s0.2.1 1))), ((a0 3), .inl (q 0, 160, .inl (s0.2.1 2))), ((a0 4), .inl (q 0, 40, .inl (s0.2.1 3))), ((a0 5), .inl (q 0, 40, .inl (s0.2.1 4))), ((a0 6), .inl (q 0, 40, .inl (s0.2.1 5))), ((a0 7), .inl (q 0, 40, .inl (s0.2.1 6))), ((a0 8), .inl (q 0, 40, .inl (upd (s0.2.1 7) (Int32.toNatClampNeg x1) (((s0.2.1 7) (Int32.toNatClampNeg x1)) - 1)))), ((a0 9), .inl (q 0, 40, .inl (s0.2.1 8))), ((a0 10), .inl (q 0, 40, .inl (s0.2.1 9))), ((a0 11), .inl (q 1, 40, .inr (.inl s0.2.2.1))), ((a0 12), .inl (q 0, s0.2.2.2.1, .inl s0.2.2.2.2))] H := hP
    have hD : va_D _ [((a0 0), .inr (0, [.int (s0.1 0), .int (s0.1 1), .int (s0.1 2), .int (s0.1 3), .int (s0.1 4), .int (s0.1 5), .ref (a0 1), .ref (a0 2), .ref (a0 3), .ref (a0 4), .ref (a0 5), .ref (a0 6), .ref (a0 7), .ref (a0 8), .ref (a0 9), .ref (a0 10), .ref (a0 11), .ref (a0 12)])), ((a0 1), .inl (q 0, 4, .inl (s0.2.1 0))), ((a0 2), .inl (q 0, 4, .inl (s0.2.1 1))), ((a0 3), .inl (q 0, 160, .inl (s0.2.1 2))), ((a0 4), .inl (q 0, 40, .inl (s0.2.1 3))), ((a0 5), .inl (q 0, 40, .inl (s0.2.1 4))), ((a0 6), .inl (q 0, 40, .inl (s0.2.1 5))), ((a0 7), .inl (q 0, 40, .inl (s0.2.1 6))), ((a0 8), .inl (q 0, 40, .inl (upd (s0.2.1 7) (Int32.toNatClampNeg x1) (((s0.2.1 7) (Int32.toNatClampNeg x1)) - 1)))), ((a0 9), .inl (q 0, 40, .inl (s0.2.1 8))), ((a0 10), .inl (q 0, 40, .inl (s0.2.1 9))), ((a0 11), .inl (q 1, 40, .inr (.inl s0.2.2.1))), ((a0 12), .inl (q 0, s0.2.2.2.1, .inl s0.2.2.2.2))] := hD
    refine lv_goto (tgt := 72) hx hb dX0_stepOn_39 (by decide) ?_
    refine lv_aload_n hx hb dX0_stepOn_72 rfl (lv_at hl 3 rfl) ?_
    refine fl_get (C := RX0) (T := TX0) (N := 18) (ci := 0) (v := .ref (a0 6)) hx hb ht in_X0 hown hK hP 0 rfl rfl 11 (by decide) mw_196 rfl dX0_stepOn_73 ?_
    refine lv_iload_n hx hb dX0_stepOn_76 rfl (lv_at hl 4 rfl) ?_
    refine lv_iload_n hx hb dX0_stepOn_77 rfl (lv_at hl 1 rfl) ?_
    obtain ⟨g_26, h⟩ := h
    refine va_iast hx hb hK hP hD hS 6 0 rfl rfl g_26 dX0_stepOn_78 (fun H locs hP hD hS => ?_)
    have hP : va_P D vwCl [((a0 0), .inr (0, [.int (s0.1 0), .int (s0.1 1), .int (s0.1 2), .int (s0.1 3), .int (s0.1 4), .int (s0.1 5), .ref (a0 1), .ref (a0 2), .ref (a0 3), .ref (a0 4), .ref (a0 5), .ref (a0 6), .ref (a0 7), .ref (a0 8), .ref (a0 9), .ref (a0 10), .ref (a0 11), .ref (a0 12)])), ((a0 1), .inl (q 0, 4, .inl (s0.2.1 0))), ((a0 2), .inl (q 0, 4, .inl (s0.2.1 1))), ((a0 3), .inl (q 0, 160, .inl (s0.2.1 2))), ((a0 4), .inl (q 0, 40, .inl (s0.2.1 3))), ((a0 5), .inl (q 0, 40, .inl (s0.2.1 4))), ((a0 6), .inl (q 0, 40, .inl (upd (s0.2.1 5) (Int32.toNatClampNeg x1) r_4))), ((a0 7), .inl (q 0, 40, .inl (s0.2.1 6))), ((a0 8), .inl (q 0, 40, .inl (upd (s0.2.1 7) (Int32.toNatClampNeg x1) (((s0.2.1 7) (Int32.toNatClampNeg x1)) - 1)))), ((a0 9), .inl (q 0, 40, .inl (s0.2.1 8))), ((a0 10), .inl (q 0, 40, .inl (s0.2.1 9))), ((a0 11), .inl (q 1, 40, .inr (.inl s0.2.2.1))), ((a0 12), .inl (q 0, s0.2.2.2.1, .inl s0.2.2.2.2))] H := hP
    have hD : va_D _ [((a0 0), .inr (0, [.int (s0.1 0), .int (s0.1 1), .int (s0.1 2), .int (s0.1 3), .int (s0.1 4), .int (s0.1 5), .ref (a0 1), .ref (a0 2), .ref (a0 3), .ref (a0 4), .ref (a0 5), .ref (a0 6), .ref (a0 7), .ref (a0 8), .ref (a0 9), .ref (a0 10), .ref (a0 11), .ref (a0 12)])), ((a0 1), .inl (q 0, 4, .inl (s0.2.1 0))), ((a0 2), .inl (q 0, 4, .inl (s0.2.1 1))), ((a0 3), .inl (q 0, 160, .inl (s0.2.1 2))), ((a0 4), .inl (q 0, 40, .inl (s0.2.1 3))), ((a0 5), .inl (q 0, 40, .inl (s0.2.1 4))), ((a0 6), .inl (q 0, 40, .inl (upd (s0.2.1 5) (Int32.toNatClampNeg x1) r_4))), ((a0 7), .inl (q 0, 40, .inl (s0.2.1 6))), ((a0 8), .inl (q 0, 40, .inl (upd (s0.2.1 7) (Int32.toNatClampNeg x1) (((s0.2.1 7) (Int32.toNatClampNeg x1)) - 1)))), ((a0 9), .inl (q 0, 40, .inl (s0.2.1 8))), ((a0 10), .inl (q 0, 40, .inl (s0.2.1 9))), ((a0 11), .inl (q 1, 40, .inr (.inl s0.2.2.1))), ((a0 12), .inl (q 0, s0.2.2.2.1, .inl s0.2.2.2.2))] := hD
    refine lv_aload_n hx hb dX0_stepOn_79 rfl (lv_at hl 3 rfl) ?_
    refine fl_get (C := RX0) (T := TX0) (N := 18) (ci := 0) (v := .ref (a0 9)) hx hb ht in_X0 hown hK hP 0 rfl rfl 14 (by decide) mw_202 rfl dX0_stepOn_80 ?_
    refine lv_iload_n hx hb dX0_stepOn_83 rfl (lv_at hl 4 rfl) ?_
    refine lv_dup2_11 hx hb dX0_stepOn_84 rfl rfl ?_
    obtain ⟨g_27, h⟩ := h
    refine va_iald hx hb hK hP 9 0 rfl rfl g_27 dX0_stepOn_85 ?_
    refine lv_iconst (v := 1) hx hb dX0_stepOn_86 (by decide) ?_
    refine lv_iadd hx hb dX0_stepOn_87 ?_
    obtain ⟨g_28, h⟩ := h
    refine va_iast hx hb hK hP hD hS 9 0 rfl rfl g_28 dX0_stepOn_88 (fun H locs hP hD hS => ?_)
    have hP : va_P D vwCl [((a0 0), .inr (0, [.int (s0.1 0), .int (s0.1 1), .int (s0.1 2), .int (s0.1 3), .int (s0.1 4), .int (s0.1 5), .ref (a0 1), .ref (a0 2), .ref (a0 3), .ref (a0 4), .ref (a0 5), .ref (a0 6), .ref (a0 7), .ref (a0 8), .ref (a0 9), .ref (a0 10), .ref (a0 11), .ref (a0 12)])), ((a0 1), .inl (q 0, 4, .inl (s0.2.1 0))), ((a0 2), .inl (q 0, 4, .inl (s0.2.1 1))), ((a0 3), .inl (q 0, 160, .inl (s0.2.1 2))), ((a0 4), .inl (q 0, 40, .inl (s0.2.1 3))), ((a0 5), .inl (q 0, 40, .inl (s0.2.1 4))), ((a0 6), .inl (q 0, 40, .inl (upd (s0.2.1 5) (Int32.toNatClampNeg x1) r_4))), ((a0 7), .inl (q 0, 40, .inl (s0.2.1 6))), ((a0 8), .inl (q 0, 40, .inl (upd (s0.2.1 7) (Int32.toNatClampNeg x1) (((s0.2.1 7) (Int32.toNatClampNeg x1)) - 1)))), ((a0 9), .inl (q 0, 40, .inl (upd (s0.2.1 8) (Int32.toNatClampNeg x1) (((s0.2.1 8) (Int32.toNatClampNeg x1)) + 1)))), ((a0 10), .inl (q 0, 40, .inl (s0.2.1 9))), ((a0 11), .inl (q 1, 40, .inr (.inl s0.2.2.1))), ((a0 12), .inl (q 0, s0.2.2.2.1, .inl s0.2.2.2.2))] H := hP
    have hD : va_D _ [((a0 0), .inr (0, [.int (s0.1 0), .int (s0.1 1), .int (s0.1 2), .int (s0.1 3), .int (s0.1 4), .int (s0.1 5), .ref (a0 1), .ref (a0 2), .ref (a0 3), .ref (a0 4), .ref (a0 5), .ref (a0 6), .ref (a0 7), .ref (a0 8), .ref (a0 9), .ref (a0 10), .ref (a0 11), .ref (a0 12)])), ((a0 1), .inl (q 0, 4, .inl (s0.2.1 0))), ((a0 2), .inl (q 0, 4, .inl (s0.2.1 1))), ((a0 3), .inl (q 0, 160, .inl (s0.2.1 2))), ((a0 4), .inl (q 0, 40, .inl (s0.2.1 3))), ((a0 5), .inl (q 0, 40, .inl (s0.2.1 4))), ((a0 6), .inl (q 0, 40, .inl (upd (s0.2.1 5) (Int32.toNatClampNeg x1) r_4))), ((a0 7), .inl (q 0, 40, .inl (s0.2.1 6))), ((a0 8), .inl (q 0, 40, .inl (upd (s0.2.1 7) (Int32.toNatClampNeg x1) (((s0.2.1 7) (Int32.toNatClampNeg x1)) - 1)))), ((a0 9), .inl (q 0, 40, .inl (upd (s0.2.1 8) (Int32.toNatClampNeg x1) (((s0.2.1 8) (Int32.toNatClampNeg x1)) + 1)))), ((a0 10), .inl (q 0, 40, .inl (s0.2.1 9))), ((a0 11), .inl (q 1, 40, .inr (.inl s0.2.2.1))), ((a0 12), .inl (q 0, s0.2.2.2.1, .inl s0.2.2.2.2))] := hD
    refine lv_aload_n hx hb dX0_stepOn_89 rfl (lv_at hl 3 rfl) ?_
    refine fl_get (C := RX0) (T := TX0) (N := 18) (ci := 0) (v := .ref (a0 10)) hx hb ht in_X0 hown hK hP 0 rfl rfl 15 (by decide) mw_204 rfl dX0_stepOn_90 ?_
    refine lv_iload_n hx hb dX0_stepOn_93 rfl (lv_at hl 4 rfl) ?_
    refine lv_dup2_11 hx hb dX0_stepOn_94 rfl rfl ?_
    obtain ⟨g_29, h⟩ := h
    refine va_iald hx hb hK hP 10 0 rfl rfl g_29 dX0_stepOn_95 ?_
    refine lv_iload hx hb dX0_stepOn_96 (lv_at hl 0 rfl) ?_
    refine lv_iadd hx hb dX0_stepOn_98 ?_
    obtain ⟨g_30, h⟩ := h
    refine va_iast hx hb hK hP hD hS 10 0 rfl rfl g_30 dX0_stepOn_99 (fun H locs hP hD hS => ?_)
    have hP : va_P D vwCl [((a0 0), .inr (0, [.int (s0.1 0), .int (s0.1 1), .int (s0.1 2), .int (s0.1 3), .int (s0.1 4), .int (s0.1 5), .ref (a0 1), .ref (a0 2), .ref (a0 3), .ref (a0 4), .ref (a0 5), .ref (a0 6), .ref (a0 7), .ref (a0 8), .ref (a0 9), .ref (a0 10), .ref (a0 11), .ref (a0 12)])), ((a0 1), .inl (q 0, 4, .inl (s0.2.1 0))), ((a0 2), .inl (q 0, 4, .inl (s0.2.1 1))), ((a0 3), .inl (q 0, 160, .inl (s0.2.1 2))), ((a0 4), .inl (q 0, 40, .inl (s0.2.1 3))), ((a0 5), .inl (q 0, 40, .inl (s0.2.1 4))), ((a0 6), .inl (q 0, 40, .inl (upd (s0.2.1 5) (Int32.toNatClampNeg x1) r_4))), ((a0 7), .inl (q 0, 40, .inl (s0.2.1 6))), ((a0 8), .inl (q 0, 40, .inl (upd (s0.2.1 7) (Int32.toNatClampNeg x1) (((s0.2.1 7) (Int32.toNatClampNeg x1)) - 1)))), ((a0 9), .inl (q 0, 40, .inl (upd (s0.2.1 8) (Int32.toNatClampNeg x1) (((s0.2.1 8) (Int32.toNatClampNeg x1)) + 1)))), ((a0 10), .inl (q 0, 40, .inl (upd (s0.2.1 9) (Int32.toNatClampNeg x1) (((s0.2.1 9) (Int32.toNatClampNeg x1)) + 0)))), ((a0 11), .inl (q 1, 40, .inr (.inl s0.2.2.1))), ((a0 12), .inl (q 0, s0.2.2.2.1, .inl s0.2.2.2.2))] H := hP
    have hD : va_D _ [((a0 0), .inr (0, [.int (s0.1 0), .int (s0.1 1), .int (s0.1 2), .int (s0.1 3), .int (s0.1 4), .int (s0.1 5), .ref (a0 1), .ref (a0 2), .ref (a0 3), .ref (a0 4), .ref (a0 5), .ref (a0 6), .ref (a0 7), .ref (a0 8), .ref (a0 9), .ref (a0 10), .ref (a0 11), .ref (a0 12)])), ((a0 1), .inl (q 0, 4, .inl (s0.2.1 0))), ((a0 2), .inl (q 0, 4, .inl (s0.2.1 1))), ((a0 3), .inl (q 0, 160, .inl (s0.2.1 2))), ((a0 4), .inl (q 0, 40, .inl (s0.2.1 3))), ((a0 5), .inl (q 0, 40, .inl (s0.2.1 4))), ((a0 6), .inl (q 0, 40, .inl (upd (s0.2.1 5) (Int32.toNatClampNeg x1) r_4))), ((a0 7), .inl (q 0, 40, .inl (s0.2.1 6))), ((a0 8), .inl (q 0, 40, .inl (upd (s0.2.1 7) (Int32.toNatClampNeg x1) (((s0.2.1 7) (Int32.toNatClampNeg x1)) - 1)))), ((a0 9), .inl (q 0, 40, .inl (upd (s0.2.1 8) (Int32.toNatClampNeg x1) (((s0.2.1 8) (Int32.toNatClampNeg x1)) + 1)))), ((a0 10), .inl (q 0, 40, .inl (upd (s0.2.1 9) (Int32.toNatClampNeg x1) (((s0.2.1 9) (Int32.toNatClampNeg x1)) + 0)))), ((a0 11), .inl (q 1, 40, .inr (.inl s0.2.2.1))), ((a0 12), .inl (q 0, s0.2.2.2.1, .inl s0.2.2.2.2))] := hD
    refine lv_iload hx hb dX0_stepOn_100 (lv_at hl 0 rfl) ?_
    exact mt_iret (s0.1, (va_up (va_up (va_up (va_up s0.2.1 5 (upd (s0.2.1 5) (Int32.toNatClampNeg x1) r_4)) 7 (upd (s0.2.1 7) (Int32.toNatClampNeg x1) (((s0.2.1 7) (Int32.toNatClampNeg x1)) - 1))) 8 (upd (s0.2.1 8) (Int32.toNatClampNeg x1) (((s0.2.1 8) (Int32.toNatClampNeg x1)) + 1))) 9 (upd (s0.2.1 9) (Int32.toNatClampNeg x1) (((s0.2.1 9) (Int32.toNatClampNeg x1)) + 0))), s0.2.2.1, s0.2.2.2.1, s0.2.2.2.2) hx hb hr hk h (hP.sub (ws' := bd_w a0 q (s0.1, (va_up (va_up (va_up (va_up s0.2.1 5 (upd (s0.2.1 5) (Int32.toNatClampNeg x1) r_4)) 7 (upd (s0.2.1 7) (Int32.toNatClampNeg x1) (((s0.2.1 7) (Int32.toNatClampNeg x1)) - 1))) 8 (upd (s0.2.1 8) (Int32.toNatClampNeg x1) (((s0.2.1 8) (Int32.toNatClampNeg x1)) + 1))) 9 (upd (s0.2.1 9) (Int32.toNatClampNeg x1) (((s0.2.1 9) (Int32.toNatClampNeg x1)) + 0))), s0.2.2.1, s0.2.2.2.1, s0.2.2.2.2)) [0, 1, 2, 3, 4, 5, 6, 7, 8, 9, 10, 11, 12] rfl) (hD.sub (ws' := bd_w a0 q (s0.1, (va_up (va_up (va_up (va_up s0.2.1 5 (upd (s0.2.1 5) (Int32.toNatClampNeg x1) r_4)) 7 (upd (s0.2.1 7) (Int32.toNatClampNeg x1) (((s0.2.1 7) (Int32.toNatClampNeg x1)) - 1))) 8 (upd (s0.2.1 8) (Int32.toNatClampNeg x1) (((s0.2.1 8) (Int32.toNatClampNeg x1)) + 1))) 9 (upd (s0.2.1 9) (Int32.toNatClampNeg x1) (((s0.2.1 9) (Int32.toNatClampNeg x1)) + 0))), s0.2.2.1, s0.2.2.2.1, s0.2.2.2.2)) [0, 1, 2, 3, 4, 5, 6, 7, 8, 9, 10, 11, 12] (by decide) rfl) hS dX0_stepOn_102

def wp_X0_leftOfAll_L4 (s0 : Bd) (post : Int32 → Prop) (e40 : Int32 → Int32 → Int32 → Prop) : Nat → Int32 → Int32 → Int32 → Prop
  | 0, _, _, _ => False
  | n4 + 1, z1, z2, z3 => wp_X0_cells (fun r_1 => ((r_1 ≤ z3 → e40 z1 z2 z3) ∧ (¬ r_1 ≤ z3 → wp_X0_leftOf (fun r_4 => ((z1 = 0 → wp_X0_leftOfAll_L4 s0 post e40 n4 z1 (z2 + (r_4 * 1)) (z3 + 1)) ∧ (¬ z1 = 0 → wp_X0_currentOf (fun r_7 => wp_X0_leftOfAll_L4 s0 post e40 n4 z1 (z2 + (r_4 * r_7)) (z3 + 1)) s0 z3))) s0 z3))) s0
def wp_X0_leftOfAll (post : Int32 → Prop) (s0 : Bd) (x1 : Int32) : Prop := (∃ n4, wp_X0_leftOfAll_L4 s0 post (fun z1 z2 z3 => post z2) n4 x1 0 0)
set_option maxHeartbeats 4000000 in
set_option maxRecDepth 100000 in
theorem c2_X0_leftOfAll {l : Launch} {D : va_G} {q : Nat → ClassId} {a0 : Nat → Nat} {s0 : Bd} {x1 : Int32} {post : Int32 → Prop} (h : wp_X0_leftOfAll post s0 x1) : Met l yX0_leftOfAll (Cond.code yX0_leftOfAll cX0_leftOfAll 4 (some .int) :: w_all) ({ frames := 1, cells := 0, slots := 0, locals := 23 } : Room) (rd_P D q [.ref (a0 0), .int x1] (bd_w a0 q s0)) (vp_Si post) 0 0 (fun _ => False) := by
  refine rd_start (by decide) (Nat.le_of_ble_eq_true rfl) ?_
  intro p e s m below meth c ls hx hb hr hml hown ht hk hP hQ hV hl
  have hK := hQ.1
  have hown : s.vm.findClass RX0 = some m.cls := hown
  have hl : lv_has ls 4 [(0, .ref (a0 0)), (1, .int x1)] := hl
  have hP : va_P D vwCl [((a0 0), .inr (0, [.int (s0.1 0), .int (s0.1 1), .int (s0.1 2), .int (s0.1 3), .int (s0.1 4), .int (s0.1 5), .ref (a0 1), .ref (a0 2), .ref (a0 3), .ref (a0 4), .ref (a0 5), .ref (a0 6), .ref (a0 7), .ref (a0 8), .ref (a0 9), .ref (a0 10), .ref (a0 11), .ref (a0 12)])), ((a0 1), .inl (q 0, 4, .inl (s0.2.1 0))), ((a0 2), .inl (q 0, 4, .inl (s0.2.1 1))), ((a0 3), .inl (q 0, 160, .inl (s0.2.1 2))), ((a0 4), .inl (q 0, 40, .inl (s0.2.1 3))), ((a0 5), .inl (q 0, 40, .inl (s0.2.1 4))), ((a0 6), .inl (q 0, 40, .inl (s0.2.1 5))), ((a0 7), .inl (q 0, 40, .inl (s0.2.1 6))), ((a0 8), .inl (q 0, 40, .inl (s0.2.1 7))), ((a0 9), .inl (q 0, 40, .inl (s0.2.1 8))), ((a0 10), .inl (q 0, 40, .inl (s0.2.1 9))), ((a0 11), .inl (q 1, 40, .inr (.inl s0.2.2.1))), ((a0 12), .inl (q 0, s0.2.2.2.1, .inl s0.2.2.2.2))] s.heap := hP
  unfold wp_X0_leftOfAll at h
  refine lv_iconst (v := 0) hx hb dX0_leftOfAll_0 (by decide) ?_
  refine lv_istore_n (lv' := [(2, .int 0), (0, .ref (a0 0)), (1, .int x1)]) hx hb dX0_leftOfAll_1 rfl hl (by decide) rfl (fun ls hl => ?_)
  refine lv_iconst (v := 0) hx hb dX0_leftOfAll_2 (by decide) ?_
  refine lv_istore_n (lv' := [(3, .int 0), (2, .int 0), (0, .ref (a0 0)), (1, .int x1)]) hx hb dX0_leftOfAll_3 rfl hl (by decide) rfl (fun ls hl => ?_)
  have lp4 : ∀ (e40 : Int32 → Int32 → Int32 → Prop) (k40 : ∀ (z1 : Int32) (z2 : Int32) (z3 : Int32) (ls : Array Slot), e40 z1 z2 z3 → lv_has ls 4 [(1, .int z1), (2, .int z2), (3, .int z3), (0, .ref (a0 0))] → W p l e ({ frames := 1, cells := 0, slots := 0, locals := 23 } : Room) s m [.ref (a0 0), .int x1].toArray below meth c s.heap [] 0 0 (MQ below (vp_Si post) [.ref (a0 0), .int x1].toArray s 0 0 (fun _ => False)) (F0 m 40 ls [])) (n : Nat) (z1 : Int32) (z2 : Int32) (z3 : Int32) (ls : Array Slot), wp_X0_leftOfAll_L4 s0 post e40 n z1 z2 z3 → lv_has ls 4 [(1, .int z1), (2, .int z2), (3, .int z3), (0, .ref (a0 0))] → W p l e ({ frames := 1, cells := 0, slots := 0, locals := 23 } : Room) s m [.ref (a0 0), .int x1].toArray below meth c s.heap [] 0 0 (MQ below (vp_Si post) [.ref (a0 0), .int x1].toArray s 0 0 (fun _ => False)) (F0 m 4 ls []) := by
    intro e40 k40 n
    induction n with
    | zero =>
      intro z1 z2 z3 ls h
      exact h.elim
    | succ n ih =>
      intro z1 z2 z3 ls h hl
      unfold wp_X0_leftOfAll_L4 at h
      refine lv_iload_n hx hb dX0_leftOfAll_4 rfl (lv_at hl 2 rfl) ?_
      refine lv_aload_n hx hb dX0_leftOfAll_5 rfl (lv_at hl 3 rfl) ?_
      refine vp_callSi (rd_wV (wc := bd_w a0 q s0) (As := []) (rest := [.int z3]) hx hb hml hown ht (c2_X0_cells h) wd_X0_cells mw_588 hQ hV va_S.rf (hP.sub [0, 1, 2, 3, 4, 5, 6, 7, 8, 9, 10, 11, 12] rfl) rfl rfl rfl hl.1 rfl (Nat.le_of_ble_eq_true rfl) dX0_leftOfAll_6 ⟨Nat.le_of_ble_eq_true rfl, Nat.le_of_ble_eq_true rfl, rfl, rfl⟩ ⟨Nat.le_of_ble_eq_true rfl, Nat.le_of_ble_eq_true rfl⟩) (fun r_1 h => ?_)
      try dsimp only at h
      refine lv_icmp_ge (tgt := 40) hx hb dX0_leftOfAll_9 (by decide) (fun c_3 => ?_) (fun c_3 => ?_)
      · replace h := h.1 c_3
        exact k40 _ _ _ ls h (lv_sub hl [0, 1, 2, 3] rfl)
      · replace h := h.2 c_3
        refine lv_iload_n hx hb dX0_leftOfAll_12 rfl (lv_at hl 1 rfl) ?_
        refine lv_aload_n hx hb dX0_leftOfAll_13 rfl (lv_at hl 3 rfl) ?_
        refine lv_iload_n hx hb dX0_leftOfAll_14 rfl (lv_at hl 2 rfl) ?_
        refine vp_callSi (rd_wV (wc := bd_w a0 q s0) (As := [.int z3]) (rest := [.int z2]) hx hb hml hown ht (c2_X0_leftOf h) wd_X0_leftOf mw_965 hQ hV va_S.rf (hP.sub [0, 1, 2, 3, 4, 5, 6, 7, 8, 9, 10, 11, 12] rfl) rfl rfl rfl hl.1 rfl (Nat.le_of_ble_eq_true rfl) dX0_leftOfAll_15 ⟨Nat.le_of_ble_eq_true rfl, Nat.le_of_ble_eq_true rfl, rfl, rfl⟩ ⟨Nat.le_of_ble_eq_true rfl, Nat.le_of_ble_eq_true rfl⟩) (fun r_4 h => ?_)
        try dsimp only at h
        refine lv_iload_n hx hb dX0_leftOfAll_18 rfl (lv_at hl 0 rfl) ?_
        refine lv_if_eq (tgt := 30) hx hb dX0_leftOfAll_19 (by decide) (fun c_6 => ?_) (fun c_6 => ?_)
        · replace h := h.1 c_6
          refine lv_iconst (v := 1) hx hb dX0_leftOfAll_30 (by decide) ?_
          refine lv_imul hx hb dX0_leftOfAll_31 ?_
          refine lv_iadd hx hb dX0_leftOfAll_32 ?_
          refine lv_istore_n (lv' := [(2, .int (z2 + (r_4 * 1))), (1, .int z1), (3, .int z3), (0, .ref (a0 0))]) hx hb dX0_leftOfAll_33 rfl hl (by decide) rfl (fun ls hl => ?_)
          refine lv_iinc (v := (z3 + 1)) (lv' := [(3, .int (z3 + 1)), (2, .int (z2 + (r_4 * 1))), (1, .int z1), (0, .ref (a0 0))]) hx hb dX0_leftOfAll_34 hl (k := 2) rfl rfl (by decide) rfl (fun ls hl => ?_)
          refine lv_goto (tgt := 4) hx hb dX0_leftOfAll_37 (by decide) ?_
          exact ih _ _ _ ls h (lv_sub hl [2, 1, 0, 3] rfl)
        · replace h := h.2 c_6
          refine lv_aload_n hx hb dX0_leftOfAll_22 rfl (lv_at hl 3 rfl) ?_
          refine lv_iload_n hx hb dX0_leftOfAll_23 rfl (lv_at hl 2 rfl) ?_
          refine vp_callSi (rd_wV (wc := bd_w a0 q s0) (As := [.int z3]) (rest := [.int r_4, .int z2]) hx hb hml hown ht (c2_X0_currentOf h) wd_X0_currentOf mw_966 hQ hV va_S.rf (hP.sub [0, 1, 2, 3, 4, 5, 6, 7, 8, 9, 10, 11, 12] rfl) rfl rfl rfl hl.1 rfl (Nat.le_of_ble_eq_true rfl) dX0_leftOfAll_24 ⟨Nat.le_of_ble_eq_true rfl, Nat.le_of_ble_eq_true rfl, rfl, rfl⟩ ⟨Nat.le_of_ble_eq_true rfl, Nat.le_of_ble_eq_true rfl⟩) (fun r_7 h => ?_)
          try dsimp only at h
          refine lv_goto (tgt := 31) hx hb dX0_leftOfAll_27 (by decide) ?_
          refine lv_imul hx hb dX0_leftOfAll_31 ?_
          refine lv_iadd hx hb dX0_leftOfAll_32 ?_
          refine lv_istore_n (lv' := [(2, .int (z2 + (r_4 * r_7))), (1, .int z1), (3, .int z3), (0, .ref (a0 0))]) hx hb dX0_leftOfAll_33 rfl hl (by decide) rfl (fun ls hl => ?_)
          refine lv_iinc (v := (z3 + 1)) (lv' := [(3, .int (z3 + 1)), (2, .int (z2 + (r_4 * r_7))), (1, .int z1), (0, .ref (a0 0))]) hx hb dX0_leftOfAll_34 hl (k := 2) rfl rfl (by decide) rfl (fun ls hl => ?_)
          refine lv_goto (tgt := 4) hx hb dX0_leftOfAll_37 (by decide) ?_
          exact ih _ _ _ ls h (lv_sub hl [2, 1, 0, 3] rfl)
  obtain ⟨n4, h⟩ := h
  refine lp4 _ ?_ n4 _ _ _ ls h (lv_sub hl [3, 1, 0, 2] rfl)
  · intro z1 z2 z3 ls h hl
    try dsimp only at h
    refine lv_iload_n hx hb dX0_leftOfAll_40 rfl (lv_at hl 1 rfl) ?_
    exact rd_iret hx hb hr hk h dX0_leftOfAll_41

def wp_X0_mostLeft_L4 (s0 : Bd) (post : Int32 → Prop) (e28 : Int32 → Int32 → Prop) : Nat → Int32 → Int32 → Prop
  | 0, _, _ => False
  | n4 + 1, z1, z2 => wp_X0_cells (fun r_1 => ((r_1 ≤ z2 → e28 z1 z2) ∧ (¬ r_1 ≤ z2 → wp_X0_leftOf (fun r_4 => wp_X0_mostLeft_L4 s0 post e28 n4 (if z1 < r_4 then r_4 else z1) (z2 + 1)) s0 z2))) s0
def wp_X0_mostLeft (post : Int32 → Prop) (s0 : Bd) : Prop := (∃ n4, wp_X0_mostLeft_L4 s0 post (fun z1 z2 => post z1) n4 0 0)
set_option maxHeartbeats 4000000 in
set_option maxRecDepth 100000 in
theorem c2_X0_mostLeft {l : Launch} {D : va_G} {q : Nat → ClassId} {a0 : Nat → Nat} {s0 : Bd} {post : Int32 → Prop} (h : wp_X0_mostLeft post s0) : Met l yX0_mostLeft (Cond.code yX0_mostLeft cX0_mostLeft 3 (some .int) :: w_all) ({ frames := 1, cells := 0, slots := 0, locals := 40 } : Room) (rd_P D q [.ref (a0 0)] (bd_w a0 q s0)) (vp_Si post) 0 0 (fun _ => False) := by
  refine rd_start (by decide) (Nat.le_of_ble_eq_true rfl) ?_
  intro p e s m below meth c ls hx hb hr hml hown ht hk hP hQ hV hl
  have hK := hQ.1
  have hown : s.vm.findClass RX0 = some m.cls := hown
  have hl : lv_has ls 3 [(0, .ref (a0 0))] := hl
  have hP : va_P D vwCl [((a0 0), .inr (0, [.int (s0.1 0), .int (s0.1 1), .int (s0.1 2), .int (s0.1 3), .int (s0.1 4), .int (s0.1 5), .ref (a0 1), .ref (a0 2), .ref (a0 3), .ref (a0 4), .ref (a0 5), .ref (a0 6), .ref (a0 7), .ref (a0 8), .ref (a0 9), .ref (a0 10), .ref (a0 11), .ref (a0 12)])), ((a0 1), .inl (q 0, 4, .inl (s0.2.1 0))), ((a0 2), .inl (q 0, 4, .inl (s0.2.1 1))), ((a0 3), .inl (q 0, 160, .inl (s0.2.1 2))), ((a0 4), .inl (q 0, 40, .inl (s0.2.1 3))), ((a0 5), .inl (q 0, 40, .inl (s0.2.1 4))), ((a0 6), .inl (q 0, 40, .inl (s0.2.1 5))), ((a0 7), .inl (q 0, 40, .inl (s0.2.1 6))), ((a0 8), .inl (q 0, 40, .inl (s0.2.1 7))), ((a0 9), .inl (q 0, 40, .inl (s0.2.1 8))), ((a0 10), .inl (q 0, 40, .inl (s0.2.1 9))), ((a0 11), .inl (q 1, 40, .inr (.inl s0.2.2.1))), ((a0 12), .inl (q 0, s0.2.2.2.1, .inl s0.2.2.2.2))] s.heap := hP
  unfold wp_X0_mostLeft at h
  refine lv_iconst (v := 0) hx hb dX0_mostLeft_0 (by decide) ?_
  refine lv_istore_n (lv' := [(1, .int 0), (0, .ref (a0 0))]) hx hb dX0_mostLeft_1 rfl hl (by decide) rfl (fun ls hl => ?_)
  refine lv_iconst (v := 0) hx hb dX0_mostLeft_2 (by decide) ?_
  refine lv_istore_n (lv' := [(2, .int 0), (1, .int 0), (0, .ref (a0 0))]) hx hb dX0_mostLeft_3 rfl hl (by decide) rfl (fun ls hl => ?_)
  have lp4 : ∀ (e28 : Int32 → Int32 → Prop) (k28 : ∀ (z1 : Int32) (z2 : Int32) (ls : Array Slot), e28 z1 z2 → lv_has ls 3 [(1, .int z1), (2, .int z2), (0, .ref (a0 0))] → W p l e ({ frames := 1, cells := 0, slots := 0, locals := 40 } : Room) s m [.ref (a0 0)].toArray below meth c s.heap [] 0 0 (MQ below (vp_Si post) [.ref (a0 0)].toArray s 0 0 (fun _ => False)) (F0 m 28 ls [])) (n : Nat) (z1 : Int32) (z2 : Int32) (ls : Array Slot), wp_X0_mostLeft_L4 s0 post e28 n z1 z2 → lv_has ls 3 [(1, .int z1), (2, .int z2), (0, .ref (a0 0))] → W p l e ({ frames := 1, cells := 0, slots := 0, locals := 40 } : Room) s m [.ref (a0 0)].toArray below meth c s.heap [] 0 0 (MQ below (vp_Si post) [.ref (a0 0)].toArray s 0 0 (fun _ => False)) (F0 m 4 ls []) := by
    intro e28 k28 n
    induction n with
    | zero =>
      intro z1 z2 ls h
      exact h.elim
    | succ n ih =>
      intro z1 z2 ls h hl
      unfold wp_X0_mostLeft_L4 at h
      refine lv_iload_n hx hb dX0_mostLeft_4 rfl (lv_at hl 1 rfl) ?_
      refine lv_aload_n hx hb dX0_mostLeft_5 rfl (lv_at hl 2 rfl) ?_
      refine vp_callSi (rd_wV (wc := bd_w a0 q s0) (As := []) (rest := [.int z2]) hx hb hml hown ht (c2_X0_cells h) wd_X0_cells mw_588 hQ hV va_S.rf (hP.sub [0, 1, 2, 3, 4, 5, 6, 7, 8, 9, 10, 11, 12] rfl) rfl rfl rfl hl.1 rfl (Nat.le_of_ble_eq_true rfl) dX0_mostLeft_6 ⟨Nat.le_of_ble_eq_true rfl, Nat.le_of_ble_eq_true rfl, rfl, rfl⟩ ⟨Nat.le_of_ble_eq_true rfl, Nat.le_of_ble_eq_true rfl⟩) (fun r_1 h => ?_)
      try dsimp only at h
      refine lv_icmp_ge (tgt := 28) hx hb dX0_mostLeft_9 (by decide) (fun c_3 => ?_) (fun c_3 => ?_)
      · replace h := h.1 c_3
        exact k28 _ _ ls h (lv_sub hl [0, 1, 2] rfl)
      · replace h := h.2 c_3
        refine lv_iload_n hx hb dX0_mostLeft_12 rfl (lv_at hl 0 rfl) ?_
        refine lv_aload_n hx hb dX0_mostLeft_13 rfl (lv_at hl 2 rfl) ?_
        refine lv_iload_n hx hb dX0_mostLeft_14 rfl (lv_at hl 1 rfl) ?_
        refine vp_callSi (rd_wV (wc := bd_w a0 q s0) (As := [.int z2]) (rest := [.int z1]) hx hb hml hown ht (c2_X0_leftOf h) wd_X0_leftOf mw_965 hQ hV va_S.rf (hP.sub [0, 1, 2, 3, 4, 5, 6, 7, 8, 9, 10, 11, 12] rfl) rfl rfl rfl hl.1 rfl (Nat.le_of_ble_eq_true rfl) dX0_mostLeft_15 ⟨Nat.le_of_ble_eq_true rfl, Nat.le_of_ble_eq_true rfl, rfl, rfl⟩ ⟨Nat.le_of_ble_eq_true rfl, Nat.le_of_ble_eq_true rfl⟩) (fun r_4 h => ?_)
        try dsimp only at h
        refine va_mmax hx hb (hml.trans hl.1.symm) hown (ht _ mw_929) (ht _ mw_704) (ht _ mw_110) (ht _ mw_705) (Nat.le_of_ble_eq_true rfl) (Nat.le_of_ble_eq_true rfl) (Nat.le_of_ble_eq_true rfl) (Nat.le_of_ble_eq_true rfl) dX0_mostLeft_18 ?_
        refine lv_istore_n (lv' := [(1, .int (if z1 < r_4 then r_4 else z1)), (2, .int z2), (0, .ref (a0 0))]) hx hb dX0_mostLeft_21 rfl hl (by decide) rfl (fun ls hl => ?_)
        refine lv_iinc (v := (z2 + 1)) (lv' := [(2, .int (z2 + 1)), (1, .int (if z1 < r_4 then r_4 else z1)), (0, .ref (a0 0))]) hx hb dX0_mostLeft_22 hl (k := 1) rfl rfl (by decide) rfl (fun ls hl => ?_)
        refine lv_goto (tgt := 4) hx hb dX0_mostLeft_25 (by decide) ?_
        exact ih _ _ ls h (lv_sub hl [1, 0, 2] rfl)
  obtain ⟨n4, h⟩ := h
  refine lp4 _ ?_ n4 _ _ ls h (lv_sub hl [1, 0, 2] rfl)
  · intro z1 z2 ls h hl
    try dsimp only at h
    refine lv_iload_n hx hb dX0_mostLeft_28 rfl (lv_at hl 0 rfl) ?_
    exact rd_iret hx hb hr hk h dX0_mostLeft_29

def wp_X0_emptyLog (post : Bd → Prop) (s0 : Bd) : Prop := wp_X0_entryCount (fun r_1 => ((r_1 ≤ (Int32.ofNat s0.2.2.2.1) → s0.2.2.2.1 ≤ 6400 ∧ post (s0.1, s0.2.1, s0.2.2.1, s0.2.2.2.1, (fl_f s0.2.2.2.1 0 s0.2.2.2.2))) ∧ (¬ r_1 ≤ (Int32.ofNat s0.2.2.2.1) → ¬ r_1 < 0 ∧ Int32.toNatClampNeg r_1 ≤ 6400 ∧ post (s0.1, s0.2.1, s0.2.2.1, (Int32.toNatClampNeg r_1), (fun _ => 0))))) s0
set_option maxHeartbeats 4000000 in
set_option maxRecDepth 100000 in
theorem c2_X0_emptyLog {l : Launch} {D : va_G} {q : Nat → ClassId} {sz : Nat} {a0 : Nat → Nat} {s0 : Bd} {post : Bd → Prop} (h : wp_X0_emptyLog post s0) : Met l yX0_emptyLog (Cond.code yX0_emptyLog cX0_emptyLog 2 none :: w_all) ({ frames := 2, cells := 1, slots := 6400, locals := 43 } : Room) (mt_P D q [.ref (a0 0)] (bd_w a0 q s0) sz) (va_Qv (fun u : Nat × Bd => post u.2) (mt_B D (bd_w a0 q s0) sz (fun u : Nat × Bd => bd_w (va_up a0 12 u.1) q u.2)) (va_A (bd_w a0 q s0) sz)) 1 6400 (va_A (bd_w a0 q s0) sz) := by
  refine mt_start (by decide) (Nat.le_of_ble_eq_true rfl) ?_
  intro p e s m below meth c ls hx hb hr hml hown ht hk hin hP hQ hD hA hS hV hl
  have hK := hQ.1
  have hown : s.vm.findClass RX0 = some m.cls := hown
  have hl : lv_has ls 2 [(0, .ref (a0 0))] := hl
  have hP : va_P D vwCl [((a0 0), .inr (0, [.int (s0.1 0), .int (s0.1 1), .int (s0.1 2), .int (s0.1 3), .int (s0.1 4), .int (s0.1 5), .ref (a0 1), .ref (a0 2), .ref (a0 3), .ref (a0 4), .ref (a0 5), .ref (a0 6), .ref (a0 7), .ref (a0 8), .ref (a0 9), .ref (a0 10), .ref (a0 11), .ref (a0 12)])), ((a0 1), .inl (q 0, 4, .inl (s0.2.1 0))), ((a0 2), .inl (q 0, 4, .inl (s0.2.1 1))), ((a0 3), .inl (q 0, 160, .inl (s0.2.1 2))), ((a0 4), .inl (q 0, 40, .inl (s0.2.1 3))), ((a0 5), .inl (q 0, 40, .inl (s0.2.1 4))), ((a0 6), .inl (q 0, 40, .inl (s0.2.1 5))), ((a0 7), .inl (q 0, 40, .inl (s0.2.1 6))), ((a0 8), .inl (q 0, 40, .inl (s0.2.1 7))), ((a0 9), .inl (q 0, 40, .inl (s0.2.1 8))), ((a0 10), .inl (q 0, 40, .inl (s0.2.1 9))), ((a0 11), .inl (q 1, 40, .inr (.inl s0.2.2.1))), ((a0 12), .inl (q 0, s0.2.2.2.1, .inl s0.2.2.2.2))] s.heap := hP
  have hD : va_D _ [((a0 0), .inr (0, [.int (s0.1 0), .int (s0.1 1), .int (s0.1 2), .int (s0.1 3), .int (s0.1 4), .int (s0.1 5), .ref (a0 1), .ref (a0 2), .ref (a0 3), .ref (a0 4), .ref (a0 5), .ref (a0 6), .ref (a0 7), .ref (a0 8), .ref (a0 9), .ref (a0 10), .ref (a0 11), .ref (a0 12)])), ((a0 1), .inl (q 0, 4, .inl (s0.2.1 0))), ((a0 2), .inl (q 0, 4, .inl (s0.2.1 1))), ((a0 3), .inl (q 0, 160, .inl (s0.2.1 2))), ((a0 4), .inl (q 0, 40, .inl (s0.2.1 3))), ((a0 5), .inl (q 0, 40, .inl (s0.2.1 4))), ((a0 6), .inl (q 0, 40, .inl (s0.2.1 5))), ((a0 7), .inl (q 0, 40, .inl (s0.2.1 6))), ((a0 8), .inl (q 0, 40, .inl (s0.2.1 7))), ((a0 9), .inl (q 0, 40, .inl (s0.2.1 8))), ((a0 10), .inl (q 0, 40, .inl (s0.2.1 9))), ((a0 11), .inl (q 1, 40, .inr (.inl s0.2.2.1))), ((a0 12), .inl (q 0, s0.2.2.2.1, .inl s0.2.2.2.2))] := hD
  unfold wp_X0_emptyLog at h
  refine lv_aload_n hx hb dX0_emptyLog_0 rfl (lv_at hl 0 rfl) ?_
  refine vp_callSi (rd_wV (wc := bd_w a0 q s0) (As := []) (rest := []) hx hb hml hown ht (c2_X0_entryCount h) wd_X0_entryCount mw_601 hQ hV hS (hP.sub [0, 1, 2, 3, 4, 5, 6, 7, 8, 9, 10, 11, 12] rfl) rfl rfl rfl hl.1 rfl (Nat.le_of_ble_eq_true rfl) dX0_emptyLog_1 ⟨Nat.le_of_ble_eq_true rfl, Nat.le_of_ble_eq_true rfl, rfl, rfl⟩ ⟨Nat.le_of_ble_eq_true rfl, Nat.le_of_ble_eq_true rfl⟩) (fun r_1 h => ?_)
  try dsimp only at h
  refine lv_istore_n (lv' := [(1, .int r_1), (0, .ref (a0 0))]) hx hb dX0_emptyLog_4 rfl hl (by decide) rfl (fun ls hl => ?_)
  refine lv_aload_n hx hb dX0_emptyLog_5 rfl (lv_at hl 1 rfl) ?_
  refine fl_get (C := RX0) (T := TX0) (N := 18) (ci := 0) (v := .ref (a0 12)) hx hb ht in_X0 hown hK hP 0 rfl rfl 17 (by decide) mw_208 rfl dX0_emptyLog_6 ?_
  refine va_alen (v := (Int32.ofNat s0.2.2.2.1)) hx hb hK hP 12 0 rfl rfl rfl dX0_emptyLog_9 ?_
  refine lv_iload_n hx hb dX0_emptyLog_10 rfl (lv_at hl 0 rfl) ?_
  refine lv_icmp_ge (tgt := 24) hx hb dX0_emptyLog_11 (by decide) (fun c_3 => ?_) (fun c_3 => ?_)
  · replace h := h.1 c_3
    refine lv_aload_n hx hb dX0_emptyLog_24 rfl (lv_at hl 1 rfl) ?_
    refine fl_get (C := RX0) (T := TX0) (N := 18) (ci := 0) (v := .ref (a0 12)) hx hb ht in_X0 hown hK hP 0 rfl rfl 17 (by decide) mw_208 rfl dX0_emptyLog_25 ?_
    refine lv_iconst (v := 0) hx hb dX0_emptyLog_28 (by decide) ?_
    obtain ⟨g_4, h⟩ := h
    refine mt_gov (mt_wS (wc := [((a0 12), .inl (q 0, s0.2.2.2.1, .inl s0.2.2.2.2))]) (As := [.ref (a0 12), .int 0]) (rest := []) hx hb hml hown ht (c2_fill g_4) wd_J7_fill_53178 mw_609 hQ hV hS hA (hP.sub [12] rfl) (hD.sub [12] (by decide) rfl) rfl hl.1 rfl (Nat.le_of_ble_eq_true rfl) dX0_emptyLog_29 ⟨Nat.le_of_ble_eq_true rfl, Nat.le_of_ble_eq_true rfl, rfl, rfl⟩ ⟨Nat.le_of_ble_eq_true rfl, Nat.le_of_ble_eq_true rfl⟩) (wr := [((a0 0), .inr (0, [.int (s0.1 0), .int (s0.1 1), .int (s0.1 2), .int (s0.1 3), .int (s0.1 4), .int (s0.1 5), .ref (a0 1), .ref (a0 2), .ref (a0 3), .ref (a0 4), .ref (a0 5), .ref (a0 6), .ref (a0 7), .ref (a0 8), .ref (a0 9), .ref (a0 10), .ref (a0 11), .ref (a0 12)])), ((a0 1), .inl (q 0, 4, .inl (s0.2.1 0))), ((a0 2), .inl (q 0, 4, .inl (s0.2.1 1))), ((a0 3), .inl (q 0, 160, .inl (s0.2.1 2))), ((a0 4), .inl (q 0, 40, .inl (s0.2.1 3))), ((a0 5), .inl (q 0, 40, .inl (s0.2.1 4))), ((a0 6), .inl (q 0, 40, .inl (s0.2.1 5))), ((a0 7), .inl (q 0, 40, .inl (s0.2.1 6))), ((a0 8), .inl (q 0, 40, .inl (s0.2.1 7))), ((a0 9), .inl (q 0, 40, .inl (s0.2.1 8))), ((a0 10), .inl (q 0, 40, .inl (s0.2.1 9))), ((a0 11), .inl (q 1, 40, .inr (.inl s0.2.2.1)))]) hP hD hS hA [12] [0, 1, 2, 3, 4, 5, 6, 7, 8, 9, 10, 11] rfl rfl (by decide) (by decide) (fun u_5 H locs hw hP hD hS => ?_)
    subst hw
    have hP : va_P D vwCl [((a0 0), .inr (0, [.int (s0.1 0), .int (s0.1 1), .int (s0.1 2), .int (s0.1 3), .int (s0.1 4), .int (s0.1 5), .ref (a0 1), .ref (a0 2), .ref (a0 3), .ref (a0 4), .ref (a0 5), .ref (a0 6), .ref (a0 7), .ref (a0 8), .ref (a0 9), .ref (a0 10), .ref (a0 11), .ref (a0 12)])), ((a0 1), .inl (q 0, 4, .inl (s0.2.1 0))), ((a0 2), .inl (q 0, 4, .inl (s0.2.1 1))), ((a0 3), .inl (q 0, 160, .inl (s0.2.1 2))), ((a0 4), .inl (q 0, 40, .inl (s0.2.1 3))), ((a0 5), .inl (q 0, 40, .inl (s0.2.1 4))), ((a0 6), .inl (q 0, 40, .inl (s0.2.1 5))), ((a0 7), .inl (q 0, 40, .inl (s0.2.1 6))), ((a0 8), .inl (q 0, 40, .inl (s0.2.1 7))), ((a0 9), .inl (q 0, 40, .inl (s0.2.1 8))), ((a0 10), .inl (q 0, 40, .inl (s0.2.1 9))), ((a0 11), .inl (q 1, 40, .inr (.inl s0.2.2.1))), ((a0 12), .inl (q 0, s0.2.2.2.1, .inl (fl_f s0.2.2.2.1 0 s0.2.2.2.2)))] H := hP
    have hD : va_D _ [((a0 0), .inr (0, [.int (s0.1 0), .int (s0.1 1), .int (s0.1 2), .int (s0.1 3), .int (s0.1 4), .int (s0.1 5), .ref (a0 1), .ref (a0 2), .ref (a0 3), .ref (a0 4), .ref (a0 5), .ref (a0 6), .ref (a0 7), .ref (a0 8), .ref (a0 9), .ref (a0 10), .ref (a0 11), .ref (a0 12)])), ((a0 1), .inl (q 0, 4, .inl (s0.2.1 0))), ((a0 2), .inl (q 0, 4, .inl (s0.2.1 1))), ((a0 3), .inl (q 0, 160, .inl (s0.2.1 2))), ((a0 4), .inl (q 0, 40, .inl (s0.2.1 3))), ((a0 5), .inl (q 0, 40, .inl (s0.2.1 4))), ((a0 6), .inl (q 0, 40, .inl (s0.2.1 5))), ((a0 7), .inl (q 0, 40, .inl (s0.2.1 6))), ((a0 8), .inl (q 0, 40, .inl (s0.2.1 7))), ((a0 9), .inl (q 0, 40, .inl (s0.2.1 8))), ((a0 10), .inl (q 0, 40, .inl (s0.2.1 9))), ((a0 11), .inl (q 1, 40, .inr (.inl s0.2.2.1))), ((a0 12), .inl (q 0, s0.2.2.2.1, .inl (fl_f s0.2.2.2.1 0 s0.2.2.2.2)))] := hD
    refine W.widen (k := 1) (n := 6400) (Nat.le_of_ble_eq_true rfl) (Nat.le_of_ble_eq_true rfl) ?_
    exact mt_vret ((a0 12), (s0.1, s0.2.1, s0.2.2.1, s0.2.2.2.1, (fl_f s0.2.2.2.1 0 s0.2.2.2.2))) hx hb hr hk h (hP.sub (ws' := bd_w (va_up a0 12 (a0 12)) q (s0.1, s0.2.1, s0.2.2.1, s0.2.2.2.1, (fl_f s0.2.2.2.1 0 s0.2.2.2.2))) [0, 1, 2, 3, 4, 5, 6, 7, 8, 9, 10, 11, 12] rfl) (hD.sub (ws' := bd_w (va_up a0 12 (a0 12)) q (s0.1, s0.2.1, s0.2.2.1, s0.2.2.2.1, (fl_f s0.2.2.2.1 0 s0.2.2.2.2))) [0, 1, 2, 3, 4, 5, 6, 7, 8, 9, 10, 11, 12] (by decide) rfl) hS dX0_emptyLog_32
  · replace h := h.2 c_3
    refine lv_aload_n hx hb dX0_emptyLog_14 rfl (lv_at hl 1 rfl) ?_
    refine lv_iload_n hx hb dX0_emptyLog_15 rfl (lv_at hl 0 rfl) ?_
    obtain ⟨g_7, h⟩ := h
    obtain ⟨g_8, h⟩ := h
    refine nw_i (N := (Int32.toNatClampNeg r_1)) hx hb ht mw_160 hK hP hD hS hA g_7 rfl (Nat.le_trans (Nat.mul_le_mul_right _ g_8) (by decide)) ⟨Nat.le_of_ble_eq_true rfl, by show 0 + _ ≤ 6400; omega⟩ dX0_emptyLog_16 (fun e_6 H hP hD hS => ?_)
    have hP : va_P D vwCl [((a0 0), .inr (0, [.int (s0.1 0), .int (s0.1 1), .int (s0.1 2), .int (s0.1 3), .int (s0.1 4), .int (s0.1 5), .ref (a0 1), .ref (a0 2), .ref (a0 3), .ref (a0 4), .ref (a0 5), .ref (a0 6), .ref (a0 7), .ref (a0 8), .ref (a0 9), .ref (a0 10), .ref (a0 11), .ref (a0 12)])), ((a0 1), .inl (q 0, 4, .inl (s0.2.1 0))), ((a0 2), .inl (q 0, 4, .inl (s0.2.1 1))), ((a0 3), .inl (q 0, 160, .inl (s0.2.1 2))), ((a0 4), .inl (q 0, 40, .inl (s0.2.1 3))), ((a0 5), .inl (q 0, 40, .inl (s0.2.1 4))), ((a0 6), .inl (q 0, 40, .inl (s0.2.1 5))), ((a0 7), .inl (q 0, 40, .inl (s0.2.1 6))), ((a0 8), .inl (q 0, 40, .inl (s0.2.1 7))), ((a0 9), .inl (q 0, 40, .inl (s0.2.1 8))), ((a0 10), .inl (q 0, 40, .inl (s0.2.1 9))), ((a0 11), .inl (q 1, 40, .inr (.inl s0.2.2.1))), ((a0 12), .inl (q 0, s0.2.2.2.1, .inl s0.2.2.2.2)), (e_6, .inl (q 0, (Int32.toNatClampNeg r_1), .inl (fun _ => 0)))] H := hP
    have hD : va_D _ [((a0 0), .inr (0, [.int (s0.1 0), .int (s0.1 1), .int (s0.1 2), .int (s0.1 3), .int (s0.1 4), .int (s0.1 5), .ref (a0 1), .ref (a0 2), .ref (a0 3), .ref (a0 4), .ref (a0 5), .ref (a0 6), .ref (a0 7), .ref (a0 8), .ref (a0 9), .ref (a0 10), .ref (a0 11), .ref (a0 12)])), ((a0 1), .inl (q 0, 4, .inl (s0.2.1 0))), ((a0 2), .inl (q 0, 4, .inl (s0.2.1 1))), ((a0 3), .inl (q 0, 160, .inl (s0.2.1 2))), ((a0 4), .inl (q 0, 40, .inl (s0.2.1 3))), ((a0 5), .inl (q 0, 40, .inl (s0.2.1 4))), ((a0 6), .inl (q 0, 40, .inl (s0.2.1 5))), ((a0 7), .inl (q 0, 40, .inl (s0.2.1 6))), ((a0 8), .inl (q 0, 40, .inl (s0.2.1 7))), ((a0 9), .inl (q 0, 40, .inl (s0.2.1 8))), ((a0 10), .inl (q 0, 40, .inl (s0.2.1 9))), ((a0 11), .inl (q 1, 40, .inr (.inl s0.2.2.1))), ((a0 12), .inl (q 0, s0.2.2.2.1, .inl s0.2.2.2.2)), (e_6, .inl (q 0, (Int32.toNatClampNeg r_1), .inl (fun _ => 0)))] := hD
    refine W.widen (k := 1) (n := 6400) (Nat.le_refl _) (by omega) ?_
    refine fl_put (C := RX0) (T := TX0) (N := 18) (ci := 0) (v := .ref e_6) (ws2 := [((a0 0), .inr (0, [.int (s0.1 0), .int (s0.1 1), .int (s0.1 2), .int (s0.1 3), .int (s0.1 4), .int (s0.1 5), .ref (a0 1), .ref (a0 2), .ref (a0 3), .ref (a0 4), .ref (a0 5), .ref (a0 6), .ref (a0 7), .ref (a0 8), .ref (a0 9), .ref (a0 10), .ref (a0 11), .ref e_6])), ((a0 1), .inl (q 0, 4, .inl (s0.2.1 0))), ((a0 2), .inl (q 0, 4, .inl (s0.2.1 1))), ((a0 3), .inl (q 0, 160, .inl (s0.2.1 2))), ((a0 4), .inl (q 0, 40, .inl (s0.2.1 3))), ((a0 5), .inl (q 0, 40, .inl (s0.2.1 4))), ((a0 6), .inl (q 0, 40, .inl (s0.2.1 5))), ((a0 7), .inl (q 0, 40, .inl (s0.2.1 6))), ((a0 8), .inl (q 0, 40, .inl (s0.2.1 7))), ((a0 9), .inl (q 0, 40, .inl (s0.2.1 8))), ((a0 10), .inl (q 0, 40, .inl (s0.2.1 9))), ((a0 11), .inl (q 1, 40, .inr (.inl s0.2.2.1))), ((a0 12), .inl (q 0, s0.2.2.2.1, .inl s0.2.2.2.2)), (e_6, .inl (q 0, (Int32.toNatClampNeg r_1), .inl (fun _ => 0)))]) hx hb ht in_X0 tyX0_ok nmX0 hown hK hP hD hS 0 rfl rfl 17 (by decide) mw_208 rfl rfl rfl (Nat.le_of_ble_eq_true rfl) dX0_emptyLog_18 rfl (fun H locs hP hD hS => ?_)
    refine lv_goto (tgt := 32) hx hb dX0_emptyLog_21 (by decide) ?_
    exact mt_vret (e_6, (s0.1, s0.2.1, s0.2.2.1, (Int32.toNatClampNeg r_1), (fun _ => 0))) hx hb hr hk h (hP.sub (ws' := bd_w (va_up a0 12 e_6) q (s0.1, s0.2.1, s0.2.2.1, (Int32.toNatClampNeg r_1), (fun _ => 0))) [0, 1, 2, 3, 4, 5, 6, 7, 8, 9, 10, 11, 13] rfl) (hD.sub (ws' := bd_w (va_up a0 12 e_6) q (s0.1, s0.2.1, s0.2.2.1, (Int32.toNatClampNeg r_1), (fun _ => 0))) [0, 1, 2, 3, 4, 5, 6, 7, 8, 9, 10, 11, 13] (by decide) rfl) hS dX0_emptyLog_32

def wp_X0_entryAt (post : Int32 → Prop) (s0 : Bd) (x1 : Int32) (x2 : Int32) (x3 : Int32) (x4 : Int32) : Prop := ((((x1 + (x3 * x2)) + x4) < 0 → post 0) ∧ (¬ ((x1 + (x3 * x2)) + x4) < 0 → (((Int32.ofNat s0.2.2.2.1) ≤ ((x1 + (x3 * x2)) + x4) → post 0) ∧ (¬ (Int32.ofNat s0.2.2.2.1) ≤ ((x1 + (x3 * x2)) + x4) → vp_in ((x1 + (x3 * x2)) + x4) s0.2.2.2.1 ∧ post (s0.2.2.2.2 (Int32.toNatClampNeg ((x1 + (x3 * x2)) + x4)))))))
set_option maxHeartbeats 4000000 in
set_option maxRecDepth 100000 in
theorem c2_X0_entryAt {l : Launch} {D : va_G} {q : Nat → ClassId} {a0 : Nat → Nat} {s0 : Bd} {x1 : Int32} {x2 : Int32} {x3 : Int32} {x4 : Int32} {post : Int32 → Prop} (h : wp_X0_entryAt post s0 x1 x2 x3 x4) : Met l yX0_entryAt (Cond.code yX0_entryAt cX0_entryAt 6 (some .int) :: w_all) ({ frames := 0, cells := 0, slots := 0, locals := 0 } : Room) (rd_P D q [.ref (a0 0), .int x1, .int x2, .int x3, .int x4] (bd_w a0 q s0)) (vp_Si post) 0 0 (fun _ => False) := by
  refine rd_start (by decide) (Nat.le_of_ble_eq_true rfl) ?_
  intro p e s m below meth c ls hx hb hr hml hown ht hk hP hQ hV hl
  have hK := hQ.1
  have hown : s.vm.findClass RX0 = some m.cls := hown
  have hl : lv_has ls 6 [(0, .ref (a0 0)), (1, .int x1), (2, .int x2), (3, .int x3), (4, .int x4)] := hl
  have hP : va_P D vwCl [((a0 0), .inr (0, [.int (s0.1 0), .int (s0.1 1), .int (s0.1 2), .int (s0.1 3), .int (s0.1 4), .int (s0.1 5), .ref (a0 1), .ref (a0 2), .ref (a0 3), .ref (a0 4), .ref (a0 5), .ref (a0 6), .ref (a0 7), .ref (a0 8), .ref (a0 9), .ref (a0 10), .ref (a0 11), .ref (a0 12)])), ((a0 1), .inl (q 0, 4, .inl (s0.2.1 0))), ((a0 2), .inl (q 0, 4, .inl (s0.2.1 1))), ((a0 3), .inl (q 0, 160, .inl (s0.2.1 2))), ((a0 4), .inl (q 0, 40, .inl (s0.2.1 3))), ((a0 5), .inl (q 0, 40, .inl (s0.2.1 4))), ((a0 6), .inl (q 0, 40, .inl (s0.2.1 5))), ((a0 7), .inl (q 0, 40, .inl (s0.2.1 6))), ((a0 8), .inl (q 0, 40, .inl (s0.2.1 7))), ((a0 9), .inl (q 0, 40, .inl (s0.2.1 8))), ((a0 10), .inl (q 0, 40, .inl (s0.2.1 9))), ((a0 11), .inl (q 1, 40, .inr (.inl s0.2.2.1))), ((a0 12), .inl (q 0, s0.2.2.2.1, .inl s0.2.2.2.2))] s.heap := hP
  unfold wp_X0_entryAt at h
  refine lv_iload_n hx hb dX0_entryAt_0 rfl (lv_at hl 1 rfl) ?_
  refine lv_iload_n hx hb dX0_entryAt_1 rfl (lv_at hl 3 rfl) ?_
  refine lv_iload_n hx hb dX0_entryAt_2 rfl (lv_at hl 2 rfl) ?_
  refine lv_imul hx hb dX0_entryAt_3 ?_
  refine lv_iadd hx hb dX0_entryAt_4 ?_
  refine lv_iload hx hb dX0_entryAt_5 (lv_at hl 4 rfl) ?_
  refine lv_iadd hx hb dX0_entryAt_7 ?_
  refine lv_istore (lv' := [(5, .int ((x1 + (x3 * x2)) + x4)), (0, .ref (a0 0)), (1, .int x1), (2, .int x2), (3, .int x3), (4, .int x4)]) hx hb dX0_entryAt_8 hl (by decide) rfl (fun ls hl => ?_)
  refine lv_iload hx hb dX0_entryAt_10 (lv_at hl 0 rfl) ?_
  refine lv_if_lt (tgt := 35) hx hb dX0_entryAt_12 (by decide) (fun c_1 => ?_) (fun c_1 => ?_)
  · replace h := h.1 c_1
    refine lv_iconst (v := 0) hx hb dX0_entryAt_35 (by decide) ?_
    exact rd_iret hx hb hr hk h dX0_entryAt_36
  · replace h := h.2 c_1
    refine lv_iload hx hb dX0_entryAt_15 (lv_at hl 0 rfl) ?_
    refine lv_aload_n hx hb dX0_entryAt_17 rfl (lv_at hl 1 rfl) ?_
    refine fl_get (C := RX0) (T := TX0) (N := 18) (ci := 0) (v := .ref (a0 12)) hx hb ht in_X0 hown hK hP 0 rfl rfl 17 (by decide) mw_208 rfl dX0_entryAt_18 ?_
    refine va_alen (v := (Int32.ofNat s0.2.2.2.1)) hx hb hK hP 12 0 rfl rfl rfl dX0_entryAt_21 ?_
    refine lv_icmp_ge (tgt := 35) hx hb dX0_entryAt_22 (by decide) (fun c_2 => ?_) (fun c_2 => ?_)
    · replace h := h.1 c_2
      refine lv_iconst (v := 0) hx hb dX0_entryAt_35 (by decide) ?_
      exact rd_iret hx hb hr hk h dX0_entryAt_36
    · replace h := h.2 c_2
      refine lv_aload_n hx hb dX0_entryAt_25 rfl (lv_at hl 1 rfl) ?_
      refine fl_get (C := RX0) (T := TX0) (N := 18) (ci := 0) (v := .ref (a0 12)) hx hb ht in_X0 hown hK hP 0 rfl rfl 17 (by decide) mw_208 rfl dX0_entryAt_26 ?_
      refine lv_iload hx hb dX0_entryAt_29 (lv_at hl 0 rfl) ?_
      obtain ⟨g_3, h⟩ := h
      refine va_iald hx hb hK hP 12 0 rfl rfl g_3 dX0_entryAt_31 ?_
      refine lv_goto (tgt := 36) hx hb dX0_entryAt_32 (by decide) ?_
      exact rd_iret hx hb hr hk h dX0_entryAt_36

def wp_X0_journey_L27 (s0 : Bd) (post : Int32 → Prop) (e63 : Int32 → Int32 → Int32 → Int32 → Int32 → Int32 → Prop) : Nat → Int32 → Int32 → Int32 → Int32 → Int32 → Int32 → Prop
  | 0, _, _, _, _, _, _ => False
  | n27 + 1, z1, z2, z3, z4, z5, z6 => ((z3 ≤ z6 → e63 z1 z2 z3 z4 z5 z6) ∧ (¬ z3 ≤ z6 → wp_X0_entryAt (fun r_7 => wp_X6_onFrom (fun r_9 => wp_X0_journey_L27 s0 post e63 n27 z1 z2 z3 (z4 + (r_7 * r_9)) z5 (z6 + 1)) z5 z6 z3) s0 z2 z3 z5 z6))
def wp_X0_journey_L18 (s0 : Bd) (post : Int32 → Prop) (e69 : Int32 → Int32 → Int32 → Int32 → Int32 → Prop) : Nat → Int32 → Int32 → Int32 → Int32 → Int32 → Prop
  | 0, _, _, _, _, _ => False
  | n18 + 1, z1, z2, z3, z4, z5 => ((z3 ≤ z5 → e69 z1 z2 z3 z4 z5) ∧ (¬ z3 ≤ z5 → (∃ n27, wp_X0_journey_L27 s0 post (fun z1 z2 z3 z4 z5 z6 => wp_X0_journey_L18 s0 post e69 n18 z1 z2 z3 z4 (z5 + 1)) n27 z1 z2 z3 z4 z5 0)))
def wp_X0_journey (post : Int32 → Prop) (s0 : Bd) (x1 : Int32) : Prop := wp_X0_entryStart (fun r_1 => wp_X0_flapsOn (fun r_3 => (∃ n18, wp_X0_journey_L18 s0 post (fun z1 z2 z3 z4 z5 => post z4) n18 x1 r_1 r_3 0 0)) s0 x1) s0 x1
set_option maxHeartbeats 4000000 in
set_option maxRecDepth 100000 in
theorem c2_X0_journey {l : Launch} {D : va_G} {q : Nat → ClassId} {a0 : Nat → Nat} {s0 : Bd} {x1 : Int32} {post : Int32 → Prop} (h : wp_X0_journey post s0 x1) : Met l yX0_journey (Cond.code yX0_journey cX0_journey 7 (some .int) :: w_all) ({ frames := 1, cells := 0, slots := 0, locals := 25 } : Room) (rd_P D q [.ref (a0 0), .int x1] (bd_w a0 q s0)) (vp_Si post) 0 0 (fun _ => False) := by
  refine rd_start (by decide) (Nat.le_of_ble_eq_true rfl) ?_
  intro p e s m below meth c ls hx hb hr hml hown ht hk hP hQ hV hl
  have hK := hQ.1
  have hown : s.vm.findClass RX0 = some m.cls := hown
  have hl : lv_has ls 7 [(0, .ref (a0 0)), (1, .int x1)] := hl
  have hP : va_P D vwCl [((a0 0), .inr (0, [.int (s0.1 0), .int (s0.1 1), .int (s0.1 2), .int (s0.1 3), .int (s0.1 4), .int (s0.1 5), .ref (a0 1), .ref (a0 2), .ref (a0 3), .ref (a0 4), .ref (a0 5), .ref (a0 6), .ref (a0 7), .ref (a0 8), .ref (a0 9), .ref (a0 10), .ref (a0 11), .ref (a0 12)])), ((a0 1), .inl (q 0, 4, .inl (s0.2.1 0))), ((a0 2), .inl (q 0, 4, .inl (s0.2.1 1))), ((a0 3), .inl (q 0, 160, .inl (s0.2.1 2))), ((a0 4), .inl (q 0, 40, .inl (s0.2.1 3))), ((a0 5), .inl (q 0, 40, .inl (s0.2.1 4))), ((a0 6), .inl (q 0, 40, .inl (s0.2.1 5))), ((a0 7), .inl (q 0, 40, .inl (s0.2.1 6))), ((a0 8), .inl (q 0, 40, .inl (s0.2.1 7))), ((a0 9), .inl (q 0, 40, .inl (s0.2.1 8))), ((a0 10), .inl (q 0, 40, .inl (s0.2.1 9))), ((a0 11), .inl (q 1, 40, .inr (.inl s0.2.2.1))), ((a0 12), .inl (q 0, s0.2.2.2.1, .inl s0.2.2.2.2))] s.heap := hP
  unfold wp_X0_journey at h
  refine lv_aload_n hx hb dX0_journey_0 rfl (lv_at hl 0 rfl) ?_
  refine lv_iload_n hx hb dX0_journey_1 rfl (lv_at hl 1 rfl) ?_
  refine vp_callSi (rd_wV (wc := bd_w a0 q s0) (As := [.int x1]) (rest := []) hx hb hml hown ht (c2_X0_entryStart h) wd_X0_entryStart mw_605 hQ hV va_S.rf (hP.sub [0, 1, 2, 3, 4, 5, 6, 7, 8, 9, 10, 11, 12] rfl) rfl rfl rfl hl.1 rfl (Nat.le_of_ble_eq_true rfl) dX0_journey_2 ⟨Nat.le_of_ble_eq_true rfl, Nat.le_of_ble_eq_true rfl, rfl, rfl⟩ ⟨Nat.le_of_ble_eq_true rfl, Nat.le_of_ble_eq_true rfl⟩) (fun r_1 h => ?_)
  try dsimp only at h
  refine lv_istore_n (lv' := [(2, .int r_1), (0, .ref (a0 0)), (1, .int x1)]) hx hb dX0_journey_5 rfl hl (by decide) rfl (fun ls hl => ?_)
  refine lv_aload_n hx hb dX0_journey_6 rfl (lv_at hl 1 rfl) ?_
  refine lv_iload_n hx hb dX0_journey_7 rfl (lv_at hl 2 rfl) ?_
  refine vp_callSi (rd_wV (wc := bd_w a0 q s0) (As := [.int x1]) (rest := []) hx hb hml hown ht (c2_X0_flapsOn h) wd_X0_flapsOn mw_772 hQ hV va_S.rf (hP.sub [0, 1, 2, 3, 4, 5, 6, 7, 8, 9, 10, 11, 12] rfl) rfl rfl rfl hl.1 rfl (Nat.le_of_ble_eq_true rfl) dX0_journey_8 ⟨Nat.le_of_ble_eq_true rfl, Nat.le_of_ble_eq_true rfl, rfl, rfl⟩ ⟨Nat.le_of_ble_eq_true rfl, Nat.le_of_ble_eq_true rfl⟩) (fun r_3 h => ?_)
  try dsimp only at h
  refine lv_istore_n (lv' := [(3, .int r_3), (2, .int r_1), (0, .ref (a0 0)), (1, .int x1)]) hx hb dX0_journey_11 rfl hl (by decide) rfl (fun ls hl => ?_)
  refine lv_iconst (v := 0) hx hb dX0_journey_12 (by decide) ?_
  refine lv_istore (lv' := [(4, .int 0), (3, .int r_3), (2, .int r_1), (0, .ref (a0 0)), (1, .int x1)]) hx hb dX0_journey_13 hl (by decide) rfl (fun ls hl => ?_)
  refine lv_iconst (v := 0) hx hb dX0_journey_15 (by decide) ?_
  refine lv_istore (lv' := [(5, .int 0), (4, .int 0), (3, .int r_3), (2, .int r_1), (0, .ref (a0 0)), (1, .int x1)]) hx hb dX0_journey_16 hl (by decide) rfl (fun ls hl => ?_)
  have lp18 : ∀ (e69 : Int32 → Int32 → Int32 → Int32 → Int32 → Prop) (k69 : ∀ (z1 : Int32) (z2 : Int32) (z3 : Int32) (z4 : Int32) (z5 : Int32) (ls : Array Slot), e69 z1 z2 z3 z4 z5 → lv_has ls 7 [(1, .int z1), (2, .int z2), (3, .int z3), (4, .int z4), (5, .int z5), (0, .ref (a0 0))] → W p l e ({ frames := 1, cells := 0, slots := 0, locals := 25 } : Room) s m [.ref (a0 0), .int x1].toArray below meth c s.heap [] 0 0 (MQ below (vp_Si post) [.ref (a0 0), .int x1].toArray s 0 0 (fun _ => False)) (F0 m 69 ls [])) (n : Nat) (z1 : Int32) (z2 : Int32) (z3 : Int32) (z4 : Int32) (z5 : Int32) (ls : Array Slot), wp_X0_journey_L18 s0 post e69 n z1 z2 z3 z4 z5 → lv_has ls 7 [(1, .int z1), (2, .int z2), (3, .int z3), (4, .int z4), (5, .int z5), (0, .ref (a0 0))] → W p l e ({ frames := 1, cells := 0, slots := 0, locals := 25 } : Room) s m [.ref (a0 0), .int x1].toArray below meth c s.heap [] 0 0 (MQ below (vp_Si post) [.ref (a0 0), .int x1].toArray s 0 0 (fun _ => False)) (F0 m 18 ls []) := by
    intro e69 k69 n
    induction n with
    | zero =>
      intro z1 z2 z3 z4 z5 ls h
      exact h.elim
    | succ n ih =>
      intro z1 z2 z3 z4 z5 ls h hl
      unfold wp_X0_journey_L18 at h
      refine lv_iload hx hb dX0_journey_18 (lv_at hl 4 rfl) ?_
      refine lv_iload_n hx hb dX0_journey_20 rfl (lv_at hl 2 rfl) ?_
      refine lv_icmp_ge (tgt := 69) hx hb dX0_journey_21 (by decide) (fun c_5 => ?_) (fun c_5 => ?_)
      · replace h := h.1 c_5
        exact k69 _ _ _ _ _ ls h (lv_sub hl [0, 1, 2, 3, 4, 5] rfl)
      · replace h := h.2 c_5
        refine lv_iconst (v := 0) hx hb dX0_journey_24 (by decide) ?_
        refine lv_istore (lv' := [(6, .int 0), (1, .int z1), (2, .int z2), (3, .int z3), (4, .int z4), (5, .int z5), (0, .ref (a0 0))]) hx hb dX0_journey_25 hl (by decide) rfl (fun ls hl => ?_)
        have lp27 : ∀ (e63 : Int32 → Int32 → Int32 → Int32 → Int32 → Int32 → Prop) (k63 : ∀ (z1 : Int32) (z2 : Int32) (z3 : Int32) (z4 : Int32) (z5 : Int32) (z6 : Int32) (ls : Array Slot), e63 z1 z2 z3 z4 z5 z6 → lv_has ls 7 [(1, .int z1), (2, .int z2), (3, .int z3), (4, .int z4), (5, .int z5), (6, .int z6), (0, .ref (a0 0))] → W p l e ({ frames := 1, cells := 0, slots := 0, locals := 25 } : Room) s m [.ref (a0 0), .int x1].toArray below meth c s.heap [] 0 0 (MQ below (vp_Si post) [.ref (a0 0), .int x1].toArray s 0 0 (fun _ => False)) (F0 m 63 ls [])) (n : Nat) (z1 : Int32) (z2 : Int32) (z3 : Int32) (z4 : Int32) (z5 : Int32) (z6 : Int32) (ls : Array Slot), wp_X0_journey_L27 s0 post e63 n z1 z2 z3 z4 z5 z6 → lv_has ls 7 [(1, .int z1), (2, .int z2), (3, .int z3), (4, .int z4), (5, .int z5), (6, .int z6), (0, .ref (a0 0))] → W p l e ({ frames := 1, cells := 0, slots := 0, locals := 25 } : Room) s m [.ref (a0 0), .int x1].toArray below meth c s.heap [] 0 0 (MQ below (vp_Si post) [.ref (a0 0), .int x1].toArray s 0 0 (fun _ => False)) (F0 m 27 ls []) := by
          intro e63 k63 n
          induction n with
          | zero =>
            intro z1 z2 z3 z4 z5 z6 ls h
            exact h.elim
          | succ n ih =>
            intro z1 z2 z3 z4 z5 z6 ls h hl
            unfold wp_X0_journey_L27 at h
            refine lv_iload hx hb dX0_journey_27 (lv_at hl 5 rfl) ?_
            refine lv_iload_n hx hb dX0_journey_29 rfl (lv_at hl 2 rfl) ?_
            refine lv_icmp_ge (tgt := 63) hx hb dX0_journey_30 (by decide) (fun c_6 => ?_) (fun c_6 => ?_)
            · replace h := h.1 c_6
              exact k63 _ _ _ _ _ _ ls h (lv_sub hl [0, 1, 2, 3, 4, 5, 6] rfl)
            · replace h := h.2 c_6
              refine lv_iload hx hb dX0_journey_33 (lv_at hl 3 rfl) ?_
              refine lv_aload_n hx hb dX0_journey_35 rfl (lv_at hl 6 rfl) ?_
              refine lv_iload_n hx hb dX0_journey_36 rfl (lv_at hl 1 rfl) ?_
              refine lv_iload_n hx hb dX0_journey_37 rfl (lv_at hl 2 rfl) ?_
              refine lv_iload hx hb dX0_journey_38 (lv_at hl 4 rfl) ?_
              refine lv_iload hx hb dX0_journey_40 (lv_at hl 5 rfl) ?_
              refine vp_callSi (rd_wV (wc := bd_w a0 q s0) (As := [.int z2, .int z3, .int z5, .int z6]) (rest := [.int z4]) hx hb hml hown ht (c2_X0_entryAt h) wd_X0_entryAt mw_1040 hQ hV va_S.rf (hP.sub [0, 1, 2, 3, 4, 5, 6, 7, 8, 9, 10, 11, 12] rfl) rfl rfl rfl hl.1 rfl (Nat.le_of_ble_eq_true rfl) dX0_journey_42 ⟨Nat.le_of_ble_eq_true rfl, Nat.le_of_ble_eq_true rfl, rfl, rfl⟩ ⟨Nat.le_of_ble_eq_true rfl, Nat.le_of_ble_eq_true rfl⟩) (fun r_7 h => ?_)
              try dsimp only at h
              refine lv_iload hx hb dX0_journey_45 (lv_at hl 4 rfl) ?_
              refine lv_iload hx hb dX0_journey_47 (lv_at hl 5 rfl) ?_
              refine lv_iload_n hx hb dX0_journey_49 rfl (lv_at hl 2 rfl) ?_
              refine vp_callSi (rd_wSN (wc := ([] : va_W)) (As := [.int z5, .int z6, .int z3]) (rest := [.int r_7, .int z4]) hx hb hml hown ht (c2_X6_onFrom h) wd_X6_onFrom (hQ.2.2.2.2.2) hQ hV va_S.rf (hP.sub [] rfl) rfl hl.1 rfl (Nat.le_of_ble_eq_true rfl) dX0_journey_50 ⟨Nat.le_of_ble_eq_true rfl, Nat.le_of_ble_eq_true rfl, rfl, rfl⟩ ⟨Nat.le_of_ble_eq_true rfl, Nat.le_of_ble_eq_true rfl⟩) (fun r_9 h => ?_)
              try dsimp only at h
              refine lv_imul hx hb dX0_journey_53 ?_
              refine lv_iadd hx hb dX0_journey_54 ?_
              refine lv_istore (lv' := [(4, .int (z4 + (r_7 * r_9))), (1, .int z1), (2, .int z2), (3, .int z3), (5, .int z5), (6, .int z6), (0, .ref (a0 0))]) hx hb dX0_journey_55 hl (by decide) rfl (fun ls hl => ?_)
              refine lv_iinc (v := (z6 + 1)) (lv' := [(6, .int (z6 + 1)), (4, .int (z4 + (r_7 * r_9))), (1, .int z1), (2, .int z2), (3, .int z3), (5, .int z5), (0, .ref (a0 0))]) hx hb dX0_journey_57 hl (k := 5) rfl rfl (by decide) rfl (fun ls hl => ?_)
              refine lv_goto (tgt := 27) hx hb dX0_journey_60 (by decide) ?_
              exact ih _ _ _ _ _ _ ls h (lv_sub hl [2, 3, 4, 1, 5, 0, 6] rfl)
        obtain ⟨n27, h⟩ := h
        refine lp27 _ ?_ n27 _ _ _ _ _ _ ls h (lv_sub hl [1, 2, 3, 4, 5, 0, 6] rfl)
        · intro z1 z2 z3 z4 z5 z6 ls h hl
          try dsimp only at h
          refine lv_iinc (v := (z5 + 1)) (lv' := [(5, .int (z5 + 1)), (1, .int z1), (2, .int z2), (3, .int z3), (4, .int z4), (6, .int z6), (0, .ref (a0 0))]) hx hb dX0_journey_63 hl (k := 4) rfl rfl (by decide) rfl (fun ls hl => ?_)
          refine lv_goto (tgt := 18) hx hb dX0_journey_66 (by decide) ?_
          exact ih _ _ _ _ _ ls h (lv_sub hl [1, 2, 3, 4, 0, 6] rfl)
  obtain ⟨n18, h⟩ := h
  refine lp18 _ ?_ n18 _ _ _ _ _ ls h (lv_sub hl [5, 3, 2, 1, 0, 4] rfl)
  · intro z1 z2 z3 z4 z5 ls h hl
    try dsimp only at h
    refine lv_iload hx hb dX0_journey_69 (lv_at hl 3 rfl) ?_
    exact rd_iret hx hb hr hk h dX0_journey_71

def wp_X0_entriesOf_L20 (s0 : Bd) (post : Int32 → Prop) (e67 : Int32 → Int32 → Int32 → Int32 → Int32 → Int32 → Int32 → Prop) : Nat → Int32 → Int32 → Int32 → Int32 → Int32 → Int32 → Int32 → Prop
  | 0, _, _, _, _, _, _, _ => False
  | n20 + 1, z1, z2, z3, z4, z5, z6, z7 => ((z5 ≤ z7 → e67 z1 z2 z3 z4 z5 z6 z7) ∧ (¬ z5 ≤ z7 → ((z3 = 0 → wp_X0_entryAt (fun r_7 => wp_X0_entriesOf_L20 s0 post e67 n20 z1 z2 z3 z4 z5 (z6 + r_7) (z7 + 1)) s0 z4 z5 z2 z7) ∧ (¬ z3 = 0 → wp_X0_entryAt (fun r_9 => wp_X0_entriesOf_L20 s0 post e67 n20 z1 z2 z3 z4 z5 (z6 + r_9) (z7 + 1)) s0 z4 z5 z7 z2))))
def wp_X0_entriesOf (post : Int32 → Prop) (s0 : Bd) (x1 : Int32) (x2 : Int32) (x3 : Int32) : Prop := wp_X0_entryStart (fun r_1 => wp_X0_flapsOn (fun r_3 => (∃ n20, wp_X0_entriesOf_L20 s0 post (fun z1 z2 z3 z4 z5 z6 z7 => post z6) n20 x1 x2 x3 r_1 r_3 0 0)) s0 x1) s0 x1
set_option maxHeartbeats 4000000 in
set_option maxRecDepth 100000 in
theorem c2_X0_entriesOf {l : Launch} {D : va_G} {q : Nat → ClassId} {a0 : Nat → Nat} {s0 : Bd} {x1 : Int32} {x2 : Int32} {x3 : Int32} {post : Int32 → Prop} (h : wp_X0_entriesOf post s0 x1 x2 x3) : Met l yX0_entriesOf (Cond.code yX0_entriesOf cX0_entriesOf 8 (some .int) :: w_all) ({ frames := 1, cells := 0, slots := 0, locals := 25 } : Room) (rd_P D q [.ref (a0 0), .int x1, .int x2, .int x3] (bd_w a0 q s0)) (vp_Si post) 0 0 (fun _ => False) := by
  refine rd_start (by decide) (Nat.le_of_ble_eq_true rfl) ?_
  intro p e s m below meth c ls hx hb hr hml hown ht hk hP hQ hV hl
  have hK := hQ.1
  have hown : s.vm.findClass RX0 = some m.cls := hown
  have hl : lv_has ls 8 [(0, .ref (a0 0)), (1, .int x1), (2, .int x2), (3, .int x3)] := hl
  have hP : va_P D vwCl [((a0 0), .inr (0, [.int (s0.1 0), .int (s0.1 1), .int (s0.1 2), .int (s0.1 3), .int (s0.1 4), .int (s0.1 5), .ref (a0 1), .ref (a0 2), .ref (a0 3), .ref (a0 4), .ref (a0 5), .ref (a0 6), .ref (a0 7), .ref (a0 8), .ref (a0 9), .ref (a0 10), .ref (a0 11), .ref (a0 12)])), ((a0 1), .inl (q 0, 4, .inl (s0.2.1 0))), ((a0 2), .inl (q 0, 4, .inl (s0.2.1 1))), ((a0 3), .inl (q 0, 160, .inl (s0.2.1 2))), ((a0 4), .inl (q 0, 40, .inl (s0.2.1 3))), ((a0 5), .inl (q 0, 40, .inl (s0.2.1 4))), ((a0 6), .inl (q 0, 40, .inl (s0.2.1 5))), ((a0 7), .inl (q 0, 40, .inl (s0.2.1 6))), ((a0 8), .inl (q 0, 40, .inl (s0.2.1 7))), ((a0 9), .inl (q 0, 40, .inl (s0.2.1 8))), ((a0 10), .inl (q 0, 40, .inl (s0.2.1 9))), ((a0 11), .inl (q 1, 40, .inr (.inl s0.2.2.1))), ((a0 12), .inl (q 0, s0.2.2.2.1, .inl s0.2.2.2.2))] s.heap := hP
  unfold wp_X0_entriesOf at h
  refine lv_aload_n hx hb dX0_entriesOf_0 rfl (lv_at hl 0 rfl) ?_
  refine lv_iload_n hx hb dX0_entriesOf_1 rfl (lv_at hl 1 rfl) ?_
  refine vp_callSi (rd_wV (wc := bd_w a0 q s0) (As := [.int x1]) (rest := []) hx hb hml hown ht (c2_X0_entryStart h) wd_X0_entryStart mw_605 hQ hV va_S.rf (hP.sub [0, 1, 2, 3, 4, 5, 6, 7, 8, 9, 10, 11, 12] rfl) rfl rfl rfl hl.1 rfl (Nat.le_of_ble_eq_true rfl) dX0_entriesOf_2 ⟨Nat.le_of_ble_eq_true rfl, Nat.le_of_ble_eq_true rfl, rfl, rfl⟩ ⟨Nat.le_of_ble_eq_true rfl, Nat.le_of_ble_eq_true rfl⟩) (fun r_1 h => ?_)
  try dsimp only at h
  refine lv_istore (lv' := [(4, .int r_1), (0, .ref (a0 0)), (1, .int x1), (2, .int x2), (3, .int x3)]) hx hb dX0_entriesOf_5 hl (by decide) rfl (fun ls hl => ?_)
  refine lv_aload_n hx hb dX0_entriesOf_7 rfl (lv_at hl 1 rfl) ?_
  refine lv_iload_n hx hb dX0_entriesOf_8 rfl (lv_at hl 2 rfl) ?_
  refine vp_callSi (rd_wV (wc := bd_w a0 q s0) (As := [.int x1]) (rest := []) hx hb hml hown ht (c2_X0_flapsOn h) wd_X0_flapsOn mw_772 hQ hV va_S.rf (hP.sub [0, 1, 2, 3, 4, 5, 6, 7, 8, 9, 10, 11, 12] rfl) rfl rfl rfl hl.1 rfl (Nat.le_of_ble_eq_true rfl) dX0_entriesOf_9 ⟨Nat.le_of_ble_eq_true rfl, Nat.le_of_ble_eq_true rfl, rfl, rfl⟩ ⟨Nat.le_of_ble_eq_true rfl, Nat.le_of_ble_eq_true rfl⟩) (fun r_3 h => ?_)
  try dsimp only at h
  refine lv_istore (lv' := [(5, .int r_3), (4, .int r_1), (0, .ref (a0 0)), (1, .int x1), (2, .int x2), (3, .int x3)]) hx hb dX0_entriesOf_12 hl (by decide) rfl (fun ls hl => ?_)
  refine lv_iconst (v := 0) hx hb dX0_entriesOf_14 (by decide) ?_
  refine lv_istore (lv' := [(6, .int 0), (5, .int r_3), (4, .int r_1), (0, .ref (a0 0)), (1, .int x1), (2, .int x2), (3, .int x3)]) hx hb dX0_entriesOf_15 hl (by decide) rfl (fun ls hl => ?_)
  refine lv_iconst (v := 0) hx hb dX0_entriesOf_17 (by decide) ?_
  refine lv_istore (lv' := [(7, .int 0), (6, .int 0), (5, .int r_3), (4, .int r_1), (0, .ref (a0 0)), (1, .int x1), (2, .int x2), (3, .int x3)]) hx hb dX0_entriesOf_18 hl (by decide) rfl (fun ls hl => ?_)
  have lp20 : ∀ (e67 : Int32 → Int32 → Int32 → Int32 → Int32 → Int32 → Int32 → Prop) (k67 : ∀ (z1 : Int32) (z2 : Int32) (z3 : Int32) (z4 : Int32) (z5 : Int32) (z6 : Int32) (z7 : Int32) (ls : Array Slot), e67 z1 z2 z3 z4 z5 z6 z7 → lv_has ls 8 [(1, .int z1), (2, .int z2), (3, .int z3), (4, .int z4), (5, .int z5), (6, .int z6), (7, .int z7), (0, .ref (a0 0))] → W p l e ({ frames := 1, cells := 0, slots := 0, locals := 25 } : Room) s m [.ref (a0 0), .int x1, .int x2, .int x3].toArray below meth c s.heap [] 0 0 (MQ below (vp_Si post) [.ref (a0 0), .int x1, .int x2, .int x3].toArray s 0 0 (fun _ => False)) (F0 m 67 ls [])) (n : Nat) (z1 : Int32) (z2 : Int32) (z3 : Int32) (z4 : Int32) (z5 : Int32) (z6 : Int32) (z7 : Int32) (ls : Array Slot), wp_X0_entriesOf_L20 s0 post e67 n z1 z2 z3 z4 z5 z6 z7 → lv_has ls 8 [(1, .int z1), (2, .int z2), (3, .int z3), (4, .int z4), (5, .int z5), (6, .int z6), (7, .int z7), (0, .ref (a0 0))] → W p l e ({ frames := 1, cells := 0, slots := 0, locals := 25 } : Room) s m [.ref (a0 0), .int x1, .int x2, .int x3].toArray below meth c s.heap [] 0 0 (MQ below (vp_Si post) [.ref (a0 0), .int x1, .int x2, .int x3].toArray s 0 0 (fun _ => False)) (F0 m 20 ls []) := by
    intro e67 k67 n
    induction n with
    | zero =>
      intro z1 z2 z3 z4 z5 z6 z7 ls h
      exact h.elim
    | succ n ih =>
      intro z1 z2 z3 z4 z5 z6 z7 ls h hl
      unfold wp_X0_entriesOf_L20 at h
      refine lv_iload hx hb dX0_entriesOf_20 (lv_at hl 6 rfl) ?_
      refine lv_iload hx hb dX0_entriesOf_22 (lv_at hl 4 rfl) ?_
      refine lv_icmp_ge (tgt := 67) hx hb dX0_entriesOf_24 (by decide) (fun c_5 => ?_) (fun c_5 => ?_)
      · replace h := h.1 c_5
        exact k67 _ _ _ _ _ _ _ ls h (lv_sub hl [0, 1, 2, 3, 4, 5, 6, 7] rfl)
      · replace h := h.2 c_5
        refine lv_iload hx hb dX0_entriesOf_27 (lv_at hl 5 rfl) ?_
        refine lv_iload_n hx hb dX0_entriesOf_29 rfl (lv_at hl 2 rfl) ?_
        refine lv_if_eq (tgt := 47) hx hb dX0_entriesOf_30 (by decide) (fun c_6 => ?_) (fun c_6 => ?_)
        · replace h := h.1 c_6
          refine lv_aload_n hx hb dX0_entriesOf_47 rfl (lv_at hl 7 rfl) ?_
          refine lv_iload hx hb dX0_entriesOf_48 (lv_at hl 3 rfl) ?_
          refine lv_iload hx hb dX0_entriesOf_50 (lv_at hl 4 rfl) ?_
          refine lv_iload_n hx hb dX0_entriesOf_52 rfl (lv_at hl 1 rfl) ?_
          refine lv_iload hx hb dX0_entriesOf_53 (lv_at hl 6 rfl) ?_
          refine vp_callSi (rd_wV (wc := bd_w a0 q s0) (As := [.int z4, .int z5, .int z2, .int z7]) (rest := [.int z6]) hx hb hml hown ht (c2_X0_entryAt h) wd_X0_entryAt mw_1040 hQ hV va_S.rf (hP.sub [0, 1, 2, 3, 4, 5, 6, 7, 8, 9, 10, 11, 12] rfl) rfl rfl rfl hl.1 rfl (Nat.le_of_ble_eq_true rfl) dX0_entriesOf_55 ⟨Nat.le_of_ble_eq_true rfl, Nat.le_of_ble_eq_true rfl, rfl, rfl⟩ ⟨Nat.le_of_ble_eq_true rfl, Nat.le_of_ble_eq_true rfl⟩) (fun r_7 h => ?_)
          try dsimp only at h
          refine lv_iadd hx hb dX0_entriesOf_58 ?_
          refine lv_istore (lv' := [(6, .int (z6 + r_7)), (1, .int z1), (2, .int z2), (3, .int z3), (4, .int z4), (5, .int z5), (7, .int z7), (0, .ref (a0 0))]) hx hb dX0_entriesOf_59 hl (by decide) rfl (fun ls hl => ?_)
          refine lv_iinc (v := (z7 + 1)) (lv' := [(7, .int (z7 + 1)), (6, .int (z6 + r_7)), (1, .int z1), (2, .int z2), (3, .int z3), (4, .int z4), (5, .int z5), (0, .ref (a0 0))]) hx hb dX0_entriesOf_61 hl (k := 6) rfl rfl (by decide) rfl (fun ls hl => ?_)
          refine lv_goto (tgt := 20) hx hb dX0_entriesOf_64 (by decide) ?_
          exact ih _ _ _ _ _ _ _ ls h (lv_sub hl [2, 3, 4, 5, 6, 1, 0, 7] rfl)
        · replace h := h.2 c_6
          refine lv_aload_n hx hb dX0_entriesOf_33 rfl (lv_at hl 7 rfl) ?_
          refine lv_iload hx hb dX0_entriesOf_34 (lv_at hl 3 rfl) ?_
          refine lv_iload hx hb dX0_entriesOf_36 (lv_at hl 4 rfl) ?_
          refine lv_iload hx hb dX0_entriesOf_38 (lv_at hl 6 rfl) ?_
          refine lv_iload_n hx hb dX0_entriesOf_40 rfl (lv_at hl 1 rfl) ?_
          refine vp_callSi (rd_wV (wc := bd_w a0 q s0) (As := [.int z4, .int z5, .int z7, .int z2]) (rest := [.int z6]) hx hb hml hown ht (c2_X0_entryAt h) wd_X0_entryAt mw_1040 hQ hV va_S.rf (hP.sub [0, 1, 2, 3, 4, 5, 6, 7, 8, 9, 10, 11, 12] rfl) rfl rfl rfl hl.1 rfl (Nat.le_of_ble_eq_true rfl) dX0_entriesOf_41 ⟨Nat.le_of_ble_eq_true rfl, Nat.le_of_ble_eq_true rfl, rfl, rfl⟩ ⟨Nat.le_of_ble_eq_true rfl, Nat.le_of_ble_eq_true rfl⟩) (fun r_9 h => ?_)
          try dsimp only at h
          refine lv_goto (tgt := 58) hx hb dX0_entriesOf_44 (by decide) ?_
          refine lv_iadd hx hb dX0_entriesOf_58 ?_
          refine lv_istore (lv' := [(6, .int (z6 + r_9)), (1, .int z1), (2, .int z2), (3, .int z3), (4, .int z4), (5, .int z5), (7, .int z7), (0, .ref (a0 0))]) hx hb dX0_entriesOf_59 hl (by decide) rfl (fun ls hl => ?_)
          refine lv_iinc (v := (z7 + 1)) (lv' := [(7, .int (z7 + 1)), (6, .int (z6 + r_9)), (1, .int z1), (2, .int z2), (3, .int z3), (4, .int z4), (5, .int z5), (0, .ref (a0 0))]) hx hb dX0_entriesOf_61 hl (k := 6) rfl rfl (by decide) rfl (fun ls hl => ?_)
          refine lv_goto (tgt := 20) hx hb dX0_entriesOf_64 (by decide) ?_
          exact ih _ _ _ _ _ _ _ ls h (lv_sub hl [2, 3, 4, 5, 6, 1, 0, 7] rfl)
  obtain ⟨n20, h⟩ := h
  refine lp20 _ ?_ n20 _ _ _ _ _ _ _ ls h (lv_sub hl [5, 6, 7, 3, 2, 1, 0, 4] rfl)
  · intro z1 z2 z3 z4 z5 z6 z7 ls h hl
    try dsimp only at h
    refine lv_iload hx hb dX0_entriesOf_67 (lv_at hl 5 rfl) ?_
    exact rd_iret hx hb hr hk h dX0_entriesOf_69

def wp_X0_logSize_L4 (s0 : Bd) (post : Int32 → Prop) (e29 : Int32 → Int32 → Int32 → Prop) : Nat → Int32 → Int32 → Int32 → Prop
  | 0, _, _, _ => False
  | n4 + 1, z1, z2, z3 => wp_X0_flapsOn (fun r_1 => ((r_1 ≤ z3 → e29 z1 z2 z3) ∧ (¬ r_1 ≤ z3 → wp_X0_entriesOf (fun r_4 => wp_X0_logSize_L4 s0 post e29 n4 z1 (z2 + r_4) (z3 + 1)) s0 z1 z3 (1 : Int32)))) s0 z1
def wp_X0_logSize (post : Int32 → Prop) (s0 : Bd) (x1 : Int32) : Prop := (∃ n4, wp_X0_logSize_L4 s0 post (fun z1 z2 z3 => post z2) n4 x1 0 0)
set_option maxHeartbeats 4000000 in
set_option maxRecDepth 100000 in
theorem c2_X0_logSize {l : Launch} {D : va_G} {q : Nat → ClassId} {a0 : Nat → Nat} {s0 : Bd} {x1 : Int32} {post : Int32 → Prop} (h : wp_X0_logSize post s0 x1) : Met l yX0_logSize (Cond.code yX0_logSize cX0_logSize 4 (some .int) :: w_all) ({ frames := 2, cells := 0, slots := 0, locals := 52 } : Room) (rd_P D q [.ref (a0 0), .int x1] (bd_w a0 q s0)) (vp_Si post) 0 0 (fun _ => False) := by
  refine rd_start (by decide) (Nat.le_of_ble_eq_true rfl) ?_
  intro p e s m below meth c ls hx hb hr hml hown ht hk hP hQ hV hl
  have hK := hQ.1
  have hown : s.vm.findClass RX0 = some m.cls := hown
  have hl : lv_has ls 4 [(0, .ref (a0 0)), (1, .int x1)] := hl
  have hP : va_P D vwCl [((a0 0), .inr (0, [.int (s0.1 0), .int (s0.1 1), .int (s0.1 2), .int (s0.1 3), .int (s0.1 4), .int (s0.1 5), .ref (a0 1), .ref (a0 2), .ref (a0 3), .ref (a0 4), .ref (a0 5), .ref (a0 6), .ref (a0 7), .ref (a0 8), .ref (a0 9), .ref (a0 10), .ref (a0 11), .ref (a0 12)])), ((a0 1), .inl (q 0, 4, .inl (s0.2.1 0))), ((a0 2), .inl (q 0, 4, .inl (s0.2.1 1))), ((a0 3), .inl (q 0, 160, .inl (s0.2.1 2))), ((a0 4), .inl (q 0, 40, .inl (s0.2.1 3))), ((a0 5), .inl (q 0, 40, .inl (s0.2.1 4))), ((a0 6), .inl (q 0, 40, .inl (s0.2.1 5))), ((a0 7), .inl (q 0, 40, .inl (s0.2.1 6))), ((a0 8), .inl (q 0, 40, .inl (s0.2.1 7))), ((a0 9), .inl (q 0, 40, .inl (s0.2.1 8))), ((a0 10), .inl (q 0, 40, .inl (s0.2.1 9))), ((a0 11), .inl (q 1, 40, .inr (.inl s0.2.2.1))), ((a0 12), .inl (q 0, s0.2.2.2.1, .inl s0.2.2.2.2))] s.heap := hP
  unfold wp_X0_logSize at h
  refine lv_iconst (v := 0) hx hb dX0_logSize_0 (by decide) ?_
  refine lv_istore_n (lv' := [(2, .int 0), (0, .ref (a0 0)), (1, .int x1)]) hx hb dX0_logSize_1 rfl hl (by decide) rfl (fun ls hl => ?_)
  refine lv_iconst (v := 0) hx hb dX0_logSize_2 (by decide) ?_
  refine lv_istore_n (lv' := [(3, .int 0), (2, .int 0), (0, .ref (a0 0)), (1, .int x1)]) hx hb dX0_logSize_3 rfl hl (by decide) rfl (fun ls hl => ?_)
  have lp4 : ∀ (e29 : Int32 → Int32 → Int32 → Prop) (k29 : ∀ (z1 : Int32) (z2 : Int32) (z3 : Int32) (ls : Array Slot), e29 z1 z2 z3 → lv_has ls 4 [(1, .int z1), (2, .int z2), (3, .int z3), (0, .ref (a0 0))] → W p l e ({ frames := 2, cells := 0, slots := 0, locals := 52 } : Room) s m [.ref (a0 0), .int x1].toArray below meth c s.heap [] 0 0 (MQ below (vp_Si post) [.ref (a0 0), .int x1].toArray s 0 0 (fun _ => False)) (F0 m 29 ls [])) (n : Nat) (z1 : Int32) (z2 : Int32) (z3 : Int32) (ls : Array Slot), wp_X0_logSize_L4 s0 post e29 n z1 z2 z3 → lv_has ls 4 [(1, .int z1), (2, .int z2), (3, .int z3), (0, .ref (a0 0))] → W p l e ({ frames := 2, cells := 0, slots := 0, locals := 52 } : Room) s m [.ref (a0 0), .int x1].toArray below meth c s.heap [] 0 0 (MQ below (vp_Si post) [.ref (a0 0), .int x1].toArray s 0 0 (fun _ => False)) (F0 m 4 ls []) := by
    intro e29 k29 n
    induction n with
    | zero =>
      intro z1 z2 z3 ls h
      exact h.elim
    | succ n ih =>
      intro z1 z2 z3 ls h hl
      unfold wp_X0_logSize_L4 at h
      refine lv_iload_n hx hb dX0_logSize_4 rfl (lv_at hl 2 rfl) ?_
      refine lv_aload_n hx hb dX0_logSize_5 rfl (lv_at hl 3 rfl) ?_
      refine lv_iload_n hx hb dX0_logSize_6 rfl (lv_at hl 0 rfl) ?_
      refine vp_callSi (rd_wV (wc := bd_w a0 q s0) (As := [.int z1]) (rest := [.int z3]) hx hb hml hown ht (c2_X0_flapsOn h) wd_X0_flapsOn mw_772 hQ hV va_S.rf (hP.sub [0, 1, 2, 3, 4, 5, 6, 7, 8, 9, 10, 11, 12] rfl) rfl rfl rfl hl.1 rfl (Nat.le_of_ble_eq_true rfl) dX0_logSize_7 ⟨Nat.le_of_ble_eq_true rfl, Nat.le_of_ble_eq_true rfl, rfl, rfl⟩ ⟨Nat.le_of_ble_eq_true rfl, Nat.le_of_ble_eq_true rfl⟩) (fun r_1 h => ?_)
      try dsimp only at h
      refine lv_icmp_ge (tgt := 29) hx hb dX0_logSize_10 (by decide) (fun c_3 => ?_) (fun c_3 => ?_)
      · replace h := h.1 c_3
        exact k29 _ _ _ ls h (lv_sub hl [0, 1, 2, 3] rfl)
      · replace h := h.2 c_3
        refine lv_iload_n hx hb dX0_logSize_13 rfl (lv_at hl 1 rfl) ?_
        refine lv_aload_n hx hb dX0_logSize_14 rfl (lv_at hl 3 rfl) ?_
        refine lv_iload_n hx hb dX0_logSize_15 rfl (lv_at hl 0 rfl) ?_
        refine lv_iload_n hx hb dX0_logSize_16 rfl (lv_at hl 2 rfl) ?_
        refine lv_iconst (v := 1) hx hb dX0_logSize_17 (by decide) ?_
        refine vp_callSi (rd_wV (wc := bd_w a0 q s0) (As := [.int z1, .int z3, .int 1]) (rest := [.int z2]) hx hb hml hown ht (c2_X0_entriesOf h) wd_X0_entriesOf mw_1048 hQ hV va_S.rf (hP.sub [0, 1, 2, 3, 4, 5, 6, 7, 8, 9, 10, 11, 12] rfl) rfl rfl rfl hl.1 rfl (Nat.le_of_ble_eq_true rfl) dX0_logSize_18 ⟨Nat.le_of_ble_eq_true rfl, Nat.le_of_ble_eq_true rfl, rfl, rfl⟩ ⟨Nat.le_of_ble_eq_true rfl, Nat.le_of_ble_eq_true rfl⟩) (fun r_4 h => ?_)
        try dsimp only at h
        refine lv_iadd hx hb dX0_logSize_21 ?_
        refine lv_istore_n (lv' := [(2, .int (z2 + r_4)), (1, .int z1), (3, .int z3), (0, .ref (a0 0))]) hx hb dX0_logSize_22 rfl hl (by decide) rfl (fun ls hl => ?_)
        refine lv_iinc (v := (z3 + 1)) (lv' := [(3, .int (z3 + 1)), (2, .int (z2 + r_4)), (1, .int z1), (0, .ref (a0 0))]) hx hb dX0_logSize_23 hl (k := 2) rfl rfl (by decide) rfl (fun ls hl => ?_)
        refine lv_goto (tgt := 4) hx hb dX0_logSize_26 (by decide) ?_
        exact ih _ _ _ ls h (lv_sub hl [2, 1, 0, 3] rfl)
  obtain ⟨n4, h⟩ := h
  refine lp4 _ ?_ n4 _ _ _ ls h (lv_sub hl [3, 1, 0, 2] rfl)
  · intro z1 z2 z3 ls h hl
    try dsimp only at h
    refine lv_iload_n hx hb dX0_logSize_29 rfl (lv_at hl 1 rfl) ?_
    exact rd_iret hx hb hr hk h dX0_logSize_30

def wp_X0_unlikeEntries_L27 (s0 : Bd) (post : Int32 → Prop) (e55 : Int32 → Int32 → Int32 → Int32 → Int32 → Int32 → Prop) : Nat → Int32 → Int32 → Int32 → Int32 → Int32 → Int32 → Prop
  | 0, _, _, _, _, _, _ => False
  | n27 + 1, z1, z2, z3, z4, z5, z6 => ((z3 ≤ z6 → e55 z1 z2 z3 z4 z5 z6) ∧ (¬ z3 ≤ z6 → wp_X0_entryAt (fun r_7 => ((r_7 ≤ 0 → wp_X0_unlikeEntries_L27 s0 post e55 n27 z1 z2 z3 z4 z5 (z6 + 1)) ∧ (¬ r_7 ≤ 0 → wp_X0_unlikeEntries_L27 s0 post e55 n27 z1 z2 z3 (z4 + 1) z5 (z6 + 1)))) s0 z2 z3 z5 z6))
def wp_X0_unlikeEntries_L18 (s0 : Bd) (post : Int32 → Prop) (e61 : Int32 → Int32 → Int32 → Int32 → Int32 → Prop) : Nat → Int32 → Int32 → Int32 → Int32 → Int32 → Prop
  | 0, _, _, _, _, _ => False
  | n18 + 1, z1, z2, z3, z4, z5 => ((z3 ≤ z5 → e61 z1 z2 z3 z4 z5) ∧ (¬ z3 ≤ z5 → (∃ n27, wp_X0_unlikeEntries_L27 s0 post (fun z1 z2 z3 z4 z5 z6 => wp_X0_unlikeEntries_L18 s0 post e61 n18 z1 z2 z3 z4 (z5 + 1)) n27 z1 z2 z3 z4 z5 0)))
def wp_X0_unlikeEntries (post : Int32 → Prop) (s0 : Bd) (x1 : Int32) : Prop := wp_X0_entryStart (fun r_1 => wp_X0_flapsOn (fun r_3 => (∃ n18, wp_X0_unlikeEntries_L18 s0 post (fun z1 z2 z3 z4 z5 => post z4) n18 x1 r_1 r_3 0 0)) s0 x1) s0 x1
set_option maxHeartbeats 4000000 in
set_option maxRecDepth 100000 in
theorem c2_X0_unlikeEntries {l : Launch} {D : va_G} {q : Nat → ClassId} {a0 : Nat → Nat} {s0 : Bd} {x1 : Int32} {post : Int32 → Prop} (h : wp_X0_unlikeEntries post s0 x1) : Met l yX0_unlikeEntries (Cond.code yX0_unlikeEntries cX0_unlikeEntries 7 (some .int) :: w_all) ({ frames := 1, cells := 0, slots := 0, locals := 25 } : Room) (rd_P D q [.ref (a0 0), .int x1] (bd_w a0 q s0)) (vp_Si post) 0 0 (fun _ => False) := by
  refine rd_start (by decide) (Nat.le_of_ble_eq_true rfl) ?_
  intro p e s m below meth c ls hx hb hr hml hown ht hk hP hQ hV hl
  have hK := hQ.1
  have hown : s.vm.findClass RX0 = some m.cls := hown
  have hl : lv_has ls 7 [(0, .ref (a0 0)), (1, .int x1)] := hl
  have hP : va_P D vwCl [((a0 0), .inr (0, [.int (s0.1 0), .int (s0.1 1), .int (s0.1 2), .int (s0.1 3), .int (s0.1 4), .int (s0.1 5), .ref (a0 1), .ref (a0 2), .ref (a0 3), .ref (a0 4), .ref (a0 5), .ref (a0 6), .ref (a0 7), .ref (a0 8), .ref (a0 9), .ref (a0 10), .ref (a0 11), .ref (a0 12)])), ((a0 1), .inl (q 0, 4, .inl (s0.2.1 0))), ((a0 2), .inl (q 0, 4, .inl (s0.2.1 1))), ((a0 3), .inl (q 0, 160, .inl (s0.2.1 2))), ((a0 4), .inl (q 0, 40, .inl (s0.2.1 3))), ((a0 5), .inl (q 0, 40, .inl (s0.2.1 4))), ((a0 6), .inl (q 0, 40, .inl (s0.2.1 5))), ((a0 7), .inl (q 0, 40, .inl (s0.2.1 6))), ((a0 8), .inl (q 0, 40, .inl (s0.2.1 7))), ((a0 9), .inl (q 0, 40, .inl (s0.2.1 8))), ((a0 10), .inl (q 0, 40, .inl (s0.2.1 9))), ((a0 11), .inl (q 1, 40, .inr (.inl s0.2.2.1))), ((a0 12), .inl (q 0, s0.2.2.2.1, .inl s0.2.2.2.2))] s.heap := hP
  unfold wp_X0_unlikeEntries at h
  refine lv_aload_n hx hb dX0_unlikeEntries_0 rfl (lv_at hl 0 rfl) ?_
  refine lv_iload_n hx hb dX0_unlikeEntries_1 rfl (lv_at hl 1 rfl) ?_
  refine vp_callSi (rd_wV (wc := bd_w a0 q s0) (As := [.int x1]) (rest := []) hx hb hml hown ht (c2_X0_entryStart h) wd_X0_entryStart mw_605 hQ hV va_S.rf (hP.sub [0, 1, 2, 3, 4, 5, 6, 7, 8, 9, 10, 11, 12] rfl) rfl rfl rfl hl.1 rfl (Nat.le_of_ble_eq_true rfl) dX0_unlikeEntries_2 ⟨Nat.le_of_ble_eq_true rfl, Nat.le_of_ble_eq_true rfl, rfl, rfl⟩ ⟨Nat.le_of_ble_eq_true rfl, Nat.le_of_ble_eq_true rfl⟩) (fun r_1 h => ?_)
  try dsimp only at h
  refine lv_istore_n (lv' := [(2, .int r_1), (0, .ref (a0 0)), (1, .int x1)]) hx hb dX0_unlikeEntries_5 rfl hl (by decide) rfl (fun ls hl => ?_)
  refine lv_aload_n hx hb dX0_unlikeEntries_6 rfl (lv_at hl 1 rfl) ?_
  refine lv_iload_n hx hb dX0_unlikeEntries_7 rfl (lv_at hl 2 rfl) ?_
  refine vp_callSi (rd_wV (wc := bd_w a0 q s0) (As := [.int x1]) (rest := []) hx hb hml hown ht (c2_X0_flapsOn h) wd_X0_flapsOn mw_772 hQ hV va_S.rf (hP.sub [0, 1, 2, 3, 4, 5, 6, 7, 8, 9, 10, 11, 12] rfl) rfl rfl rfl hl.1 rfl (Nat.le_of_ble_eq_true rfl) dX0_unlikeEntries_8 ⟨Nat.le_of_ble_eq_true rfl, Nat.le_of_ble_eq_true rfl, rfl, rfl⟩ ⟨Nat.le_of_ble_eq_true rfl, Nat.le_of_ble_eq_true rfl⟩) (fun r_3 h => ?_)
  try dsimp only at h
  refine lv_istore_n (lv' := [(3, .int r_3), (2, .int r_1), (0, .ref (a0 0)), (1, .int x1)]) hx hb dX0_unlikeEntries_11 rfl hl (by decide) rfl (fun ls hl => ?_)
  refine lv_iconst (v := 0) hx hb dX0_unlikeEntries_12 (by decide) ?_
  refine lv_istore (lv' := [(4, .int 0), (3, .int r_3), (2, .int r_1), (0, .ref (a0 0)), (1, .int x1)]) hx hb dX0_unlikeEntries_13 hl (by decide) rfl (fun ls hl => ?_)
  refine lv_iconst (v := 0) hx hb dX0_unlikeEntries_15 (by decide) ?_
  refine lv_istore (lv' := [(5, .int 0), (4, .int 0), (3, .int r_3), (2, .int r_1), (0, .ref (a0 0)), (1, .int x1)]) hx hb dX0_unlikeEntries_16 hl (by decide) rfl (fun ls hl => ?_)
  have lp18 : ∀ (e61 : Int32 → Int32 → Int32 → Int32 → Int32 → Prop) (k61 : ∀ (z1 : Int32) (z2 : Int32) (z3 : Int32) (z4 : Int32) (z5 : Int32) (ls : Array Slot), e61 z1 z2 z3 z4 z5 → lv_has ls 7 [(1, .int z1), (2, .int z2), (3, .int z3), (4, .int z4), (5, .int z5), (0, .ref (a0 0))] → W p l e ({ frames := 1, cells := 0, slots := 0, locals := 25 } : Room) s m [.ref (a0 0), .int x1].toArray below meth c s.heap [] 0 0 (MQ below (vp_Si post) [.ref (a0 0), .int x1].toArray s 0 0 (fun _ => False)) (F0 m 61 ls [])) (n : Nat) (z1 : Int32) (z2 : Int32) (z3 : Int32) (z4 : Int32) (z5 : Int32) (ls : Array Slot), wp_X0_unlikeEntries_L18 s0 post e61 n z1 z2 z3 z4 z5 → lv_has ls 7 [(1, .int z1), (2, .int z2), (3, .int z3), (4, .int z4), (5, .int z5), (0, .ref (a0 0))] → W p l e ({ frames := 1, cells := 0, slots := 0, locals := 25 } : Room) s m [.ref (a0 0), .int x1].toArray below meth c s.heap [] 0 0 (MQ below (vp_Si post) [.ref (a0 0), .int x1].toArray s 0 0 (fun _ => False)) (F0 m 18 ls []) := by
    intro e61 k61 n
    induction n with
    | zero =>
      intro z1 z2 z3 z4 z5 ls h
      exact h.elim
    | succ n ih =>
      intro z1 z2 z3 z4 z5 ls h hl
      unfold wp_X0_unlikeEntries_L18 at h
      refine lv_iload hx hb dX0_unlikeEntries_18 (lv_at hl 4 rfl) ?_
      refine lv_iload_n hx hb dX0_unlikeEntries_20 rfl (lv_at hl 2 rfl) ?_
      refine lv_icmp_ge (tgt := 61) hx hb dX0_unlikeEntries_21 (by decide) (fun c_5 => ?_) (fun c_5 => ?_)
      · replace h := h.1 c_5
        exact k61 _ _ _ _ _ ls h (lv_sub hl [0, 1, 2, 3, 4, 5] rfl)
      · replace h := h.2 c_5
        refine lv_iconst (v := 0) hx hb dX0_unlikeEntries_24 (by decide) ?_
        refine lv_istore (lv' := [(6, .int 0), (1, .int z1), (2, .int z2), (3, .int z3), (4, .int z4), (5, .int z5), (0, .ref (a0 0))]) hx hb dX0_unlikeEntries_25 hl (by decide) rfl (fun ls hl => ?_)
        have lp27 : ∀ (e55 : Int32 → Int32 → Int32 → Int32 → Int32 → Int32 → Prop) (k55 : ∀ (z1 : Int32) (z2 : Int32) (z3 : Int32) (z4 : Int32) (z5 : Int32) (z6 : Int32) (ls : Array Slot), e55 z1 z2 z3 z4 z5 z6 → lv_has ls 7 [(1, .int z1), (2, .int z2), (3, .int z3), (4, .int z4), (5, .int z5), (6, .int z6), (0, .ref (a0 0))] → W p l e ({ frames := 1, cells := 0, slots := 0, locals := 25 } : Room) s m [.ref (a0 0), .int x1].toArray below meth c s.heap [] 0 0 (MQ below (vp_Si post) [.ref (a0 0), .int x1].toArray s 0 0 (fun _ => False)) (F0 m 55 ls [])) (n : Nat) (z1 : Int32) (z2 : Int32) (z3 : Int32) (z4 : Int32) (z5 : Int32) (z6 : Int32) (ls : Array Slot), wp_X0_unlikeEntries_L27 s0 post e55 n z1 z2 z3 z4 z5 z6 → lv_has ls 7 [(1, .int z1), (2, .int z2), (3, .int z3), (4, .int z4), (5, .int z5), (6, .int z6), (0, .ref (a0 0))] → W p l e ({ frames := 1, cells := 0, slots := 0, locals := 25 } : Room) s m [.ref (a0 0), .int x1].toArray below meth c s.heap [] 0 0 (MQ below (vp_Si post) [.ref (a0 0), .int x1].toArray s 0 0 (fun _ => False)) (F0 m 27 ls []) := by
          intro e55 k55 n
          induction n with
          | zero =>
            intro z1 z2 z3 z4 z5 z6 ls h
            exact h.elim
          | succ n ih =>
            intro z1 z2 z3 z4 z5 z6 ls h hl
            unfold wp_X0_unlikeEntries_L27 at h
            refine lv_iload hx hb dX0_unlikeEntries_27 (lv_at hl 5 rfl) ?_
            refine lv_iload_n hx hb dX0_unlikeEntries_29 rfl (lv_at hl 2 rfl) ?_
            refine lv_icmp_ge (tgt := 55) hx hb dX0_unlikeEntries_30 (by decide) (fun c_6 => ?_) (fun c_6 => ?_)
            · replace h := h.1 c_6
              exact k55 _ _ _ _ _ _ ls h (lv_sub hl [0, 1, 2, 3, 4, 5, 6] rfl)
            · replace h := h.2 c_6
              refine lv_aload_n hx hb dX0_unlikeEntries_33 rfl (lv_at hl 6 rfl) ?_
              refine lv_iload_n hx hb dX0_unlikeEntries_34 rfl (lv_at hl 1 rfl) ?_
              refine lv_iload_n hx hb dX0_unlikeEntries_35 rfl (lv_at hl 2 rfl) ?_
              refine lv_iload hx hb dX0_unlikeEntries_36 (lv_at hl 4 rfl) ?_
              refine lv_iload hx hb dX0_unlikeEntries_38 (lv_at hl 5 rfl) ?_
              refine vp_callSi (rd_wV (wc := bd_w a0 q s0) (As := [.int z2, .int z3, .int z5, .int z6]) (rest := []) hx hb hml hown ht (c2_X0_entryAt h) wd_X0_entryAt mw_1040 hQ hV va_S.rf (hP.sub [0, 1, 2, 3, 4, 5, 6, 7, 8, 9, 10, 11, 12] rfl) rfl rfl rfl hl.1 rfl (Nat.le_of_ble_eq_true rfl) dX0_unlikeEntries_40 ⟨Nat.le_of_ble_eq_true rfl, Nat.le_of_ble_eq_true rfl, rfl, rfl⟩ ⟨Nat.le_of_ble_eq_true rfl, Nat.le_of_ble_eq_true rfl⟩) (fun r_7 h => ?_)
              try dsimp only at h
              refine lv_if_le (tgt := 49) hx hb dX0_unlikeEntries_43 (by decide) (fun c_9 => ?_) (fun c_9 => ?_)
              · replace h := h.1 c_9
                refine lv_iinc (v := (z6 + 1)) (lv' := [(6, .int (z6 + 1)), (1, .int z1), (2, .int z2), (3, .int z3), (4, .int z4), (5, .int z5), (0, .ref (a0 0))]) hx hb dX0_unlikeEntries_49 hl (k := 5) rfl rfl (by decide) rfl (fun ls hl => ?_)
                refine lv_goto (tgt := 27) hx hb dX0_unlikeEntries_52 (by decide) ?_
                exact ih _ _ _ _ _ _ ls h (lv_sub hl [1, 2, 3, 4, 5, 0, 6] rfl)
              · replace h := h.2 c_9
                refine lv_iinc (v := (z4 + 1)) (lv' := [(4, .int (z4 + 1)), (1, .int z1), (2, .int z2), (3, .int z3), (5, .int z5), (6, .int z6), (0, .ref (a0 0))]) hx hb dX0_unlikeEntries_46 hl (k := 3) rfl rfl (by decide) rfl (fun ls hl => ?_)
                refine lv_iinc (v := (z6 + 1)) (lv' := [(6, .int (z6 + 1)), (4, .int (z4 + 1)), (1, .int z1), (2, .int z2), (3, .int z3), (5, .int z5), (0, .ref (a0 0))]) hx hb dX0_unlikeEntries_49 hl (k := 5) rfl rfl (by decide) rfl (fun ls hl => ?_)
                refine lv_goto (tgt := 27) hx hb dX0_unlikeEntries_52 (by decide) ?_
                exact ih _ _ _ _ _ _ ls h (lv_sub hl [2, 3, 4, 1, 5, 0, 6] rfl)
        obtain ⟨n27, h⟩ := h
        refine lp27 _ ?_ n27 _ _ _ _ _ _ ls h (lv_sub hl [1, 2, 3, 4, 5, 0, 6] rfl)
        · intro z1 z2 z3 z4 z5 z6 ls h hl
          try dsimp only at h
          refine lv_iinc (v := (z5 + 1)) (lv' := [(5, .int (z5 + 1)), (1, .int z1), (2, .int z2), (3, .int z3), (4, .int z4), (6, .int z6), (0, .ref (a0 0))]) hx hb dX0_unlikeEntries_55 hl (k := 4) rfl rfl (by decide) rfl (fun ls hl => ?_)
          refine lv_goto (tgt := 18) hx hb dX0_unlikeEntries_58 (by decide) ?_
          exact ih _ _ _ _ _ ls h (lv_sub hl [1, 2, 3, 4, 0, 6] rfl)
  obtain ⟨n18, h⟩ := h
  refine lp18 _ ?_ n18 _ _ _ _ _ ls h (lv_sub hl [5, 3, 2, 1, 0, 4] rfl)
  · intro z1 z2 z3 z4 z5 ls h hl
    try dsimp only at h
    refine lv_iload hx hb dX0_unlikeEntries_61 (lv_at hl 3 rfl) ?_
    exact rd_iret hx hb hr hk h dX0_unlikeEntries_63

def wp_X0_journeyChange_L60 (s0 : Bd) (post : Int32 → Prop) (e185 : Int32 → Int32 → Int32 → Int32 → Int32 → Int32 → Int32 → Int32 → Prop) : Nat → Int32 → Int32 → Int32 → Int32 → Int32 → Int32 → Int32 → Int32 → Prop
  | 0, _, _, _, _, _, _, _, _ => False
  | n60 + 1, z1, z2, z3, z4, z5, z6, z7, z8 => ((z5 ≤ z8 → e185 z1 z2 z3 z4 z5 z6 z7 z8) ∧ (¬ z5 ≤ z8 → ((z8 = z2 → wp_X0_journeyChange_L60 s0 post e185 n60 z1 z2 z3 z4 z5 z6 z7 (z8 + 1)) ∧ (¬ z8 = z2 → ((z8 = z3 → wp_X0_journeyChange_L60 s0 post e185 n60 z1 z2 z3 z4 z5 z6 z7 (z8 + 1)) ∧ (¬ z8 = z3 → wp_X0_entryAt (fun r_16 => wp_X0_entryAt (fun r_18 => wp_X0_entryAt (fun r_20 => wp_X0_entryAt (fun r_22 => wp_X6_onFrom (fun r_24 => wp_X6_onFrom (fun r_26 => wp_X6_onFrom (fun r_28 => wp_X6_onFrom (fun r_30 => wp_X0_journeyChange_L60 s0 post e185 n60 z1 z2 z3 z4 z5 z6 ((z7 + ((r_16 - r_18) * (r_24 - r_26))) + ((r_20 - r_22) * (r_28 - r_30))) (z8 + 1)) z8 z2 z5) z8 z3 z5) z2 z8 z5) z3 z8 z5) s0 z4 z5 z8 z3) s0 z4 z5 z8 z2) s0 z4 z5 z3 z8) s0 z4 z5 z2 z8))))))
def wp_X0_journeyChange (post : Int32 → Prop) (s0 : Bd) (x1 : Int32) (x2 : Int32) (x3 : Int32) : Prop := wp_X0_entryStart (fun r_1 => wp_X0_flapsOn (fun r_3 => wp_X0_entryAt (fun r_5 => wp_X0_entryAt (fun r_7 => wp_X6_onFrom (fun r_9 => wp_X6_onFrom (fun r_11 => (∃ n60, wp_X0_journeyChange_L60 s0 post (fun z1 z2 z3 z4 z5 z6 z7 z8 => post z7) n60 x1 x2 x3 r_1 r_3 (r_5 - r_7) ((r_5 - r_7) * (r_9 - r_11)) 0)) x2 x3 r_3) x3 x2 r_3) s0 r_1 r_3 x3 x2) s0 r_1 r_3 x2 x3) s0 x1) s0 x1
set_option maxHeartbeats 4000000 in
set_option maxRecDepth 100000 in
theorem c2_X0_journeyChange {l : Launch} {D : va_G} {q : Nat → ClassId} {a0 : Nat → Nat} {s0 : Bd} {x1 : Int32} {x2 : Int32} {x3 : Int32} {post : Int32 → Prop} (h : wp_X0_journeyChange post s0 x1 x2 x3) : Met l yX0_journeyChange (Cond.code yX0_journeyChange cX0_journeyChange 11 (some .int) :: w_all) ({ frames := 1, cells := 0, slots := 0, locals := 25 } : Room) (rd_P D q [.ref (a0 0), .int x1, .int x2, .int x3] (bd_w a0 q s0)) (vp_Si post) 0 0 (fun _ => False) := by
  refine rd_start (by decide) (Nat.le_of_ble_eq_true rfl) ?_
  intro p e s m below meth c ls hx hb hr hml hown ht hk hP hQ hV hl
  have hK := hQ.1
  have hown : s.vm.findClass RX0 = some m.cls := hown
  have hl : lv_has ls 11 [(0, .ref (a0 0)), (1, .int x1), (2, .int x2), (3, .int x3)] := hl
  have hP : va_P D vwCl [((a0 0), .inr (0, [.int (s0.1 0), .int (s0.1 1), .int (s0.1 2), .int (s0.1 3), .int (s0.1 4), .int (s0.1 5), .ref (a0 1), .ref (a0 2), .ref (a0 3), .ref (a0 4), .ref (a0 5), .ref (a0 6), .ref (a0 7), .ref (a0 8), .ref (a0 9), .ref (a0 10), .ref (a0 11), .ref (a0 12)])), ((a0 1), .inl (q 0, 4, .inl (s0.2.1 0))), ((a0 2), .inl (q 0, 4, .inl (s0.2.1 1))), ((a0 3), .inl (q 0, 160, .inl (s0.2.1 2))), ((a0 4), .inl (q 0, 40, .inl (s0.2.1 3))), ((a0 5), .inl (q 0, 40, .inl (s0.2.1 4))), ((a0 6), .inl (q 0, 40, .inl (s0.2.1 5))), ((a0 7), .inl (q 0, 40, .inl (s0.2.1 6))), ((a0 8), .inl (q 0, 40, .inl (s0.2.1 7))), ((a0 9), .inl (q 0, 40, .inl (s0.2.1 8))), ((a0 10), .inl (q 0, 40, .inl (s0.2.1 9))), ((a0 11), .inl (q 1, 40, .inr (.inl s0.2.2.1))), ((a0 12), .inl (q 0, s0.2.2.2.1, .inl s0.2.2.2.2))] s.heap := hP
  unfold wp_X0_journeyChange at h
  refine lv_aload_n hx hb dX0_journeyChange_0 rfl (lv_at hl 0 rfl) ?_
  refine lv_iload_n hx hb dX0_journeyChange_1 rfl (lv_at hl 1 rfl) ?_
  refine vp_callSi (rd_wV (wc := bd_w a0 q s0) (As := [.int x1]) (rest := []) hx hb hml hown ht (c2_X0_entryStart h) wd_X0_entryStart mw_605 hQ hV va_S.rf (hP.sub [0, 1, 2, 3, 4, 5, 6, 7, 8, 9, 10, 11, 12] rfl) rfl rfl rfl hl.1 rfl (Nat.le_of_ble_eq_true rfl) dX0_journeyChange_2 ⟨Nat.le_of_ble_eq_true rfl, Nat.le_of_ble_eq_true rfl, rfl, rfl⟩ ⟨Nat.le_of_ble_eq_true rfl, Nat.le_of_ble_eq_true rfl⟩) (fun r_1 h => ?_)
  try dsimp only at h
  refine lv_istore (lv' := [(4, .int r_1), (0, .ref (a0 0)), (1, .int x1), (2, .int x2), (3, .int x3)]) hx hb dX0_journeyChange_5 hl (by decide) rfl (fun ls hl => ?_)
  refine lv_aload_n hx hb dX0_journeyChange_7 rfl (lv_at hl 1 rfl) ?_
  refine lv_iload_n hx hb dX0_journeyChange_8 rfl (lv_at hl 2 rfl) ?_
  refine vp_callSi (rd_wV (wc := bd_w a0 q s0) (As := [.int x1]) (rest := []) hx hb hml hown ht (c2_X0_flapsOn h) wd_X0_flapsOn mw_772 hQ hV va_S.rf (hP.sub [0, 1, 2, 3, 4, 5, 6, 7, 8, 9, 10, 11, 12] rfl) rfl rfl rfl hl.1 rfl (Nat.le_of_ble_eq_true rfl) dX0_journeyChange_9 ⟨Nat.le_of_ble_eq_true rfl, Nat.le_of_ble_eq_true rfl, rfl, rfl⟩ ⟨Nat.le_of_ble_eq_true rfl, Nat.le_of_ble_eq_true rfl⟩) (fun r_3 h => ?_)
  try dsimp only at h
  refine lv_istore (lv' := [(5, .int r_3), (4, .int r_1), (0, .ref (a0 0)), (1, .int x1), (2, .int x2), (3, .int x3)]) hx hb dX0_journeyChange_12 hl (by decide) rfl (fun ls hl => ?_)
  refine lv_aload_n hx hb dX0_journeyChange_14 rfl (lv_at hl 2 rfl) ?_
  refine lv_iload hx hb dX0_journeyChange_15 (lv_at hl 1 rfl) ?_
  refine lv_iload hx hb dX0_journeyChange_17 (lv_at hl 0 rfl) ?_
  refine lv_iload_n hx hb dX0_journeyChange_19 rfl (lv_at hl 4 rfl) ?_
  refine lv_iload_n hx hb dX0_journeyChange_20 rfl (lv_at hl 5 rfl) ?_
  refine vp_callSi (rd_wV (wc := bd_w a0 q s0) (As := [.int r_1, .int r_3, .int x2, .int x3]) (rest := []) hx hb hml hown ht (c2_X0_entryAt h) wd_X0_entryAt mw_1040 hQ hV va_S.rf (hP.sub [0, 1, 2, 3, 4, 5, 6, 7, 8, 9, 10, 11, 12] rfl) rfl rfl rfl hl.1 rfl (Nat.le_of_ble_eq_true rfl) dX0_journeyChange_21 ⟨Nat.le_of_ble_eq_true rfl, Nat.le_of_ble_eq_true rfl, rfl, rfl⟩ ⟨Nat.le_of_ble_eq_true rfl, Nat.le_of_ble_eq_true rfl⟩) (fun r_5 h => ?_)
  try dsimp only at h
  refine lv_aload_n hx hb dX0_journeyChange_24 rfl (lv_at hl 2 rfl) ?_
  refine lv_iload hx hb dX0_journeyChange_25 (lv_at hl 1 rfl) ?_
  refine lv_iload hx hb dX0_journeyChange_27 (lv_at hl 0 rfl) ?_
  refine lv_iload_n hx hb dX0_journeyChange_29 rfl (lv_at hl 5 rfl) ?_
  refine lv_iload_n hx hb dX0_journeyChange_30 rfl (lv_at hl 4 rfl) ?_
  refine vp_callSi (rd_wV (wc := bd_w a0 q s0) (As := [.int r_1, .int r_3, .int x3, .int x2]) (rest := [.int r_5]) hx hb hml hown ht (c2_X0_entryAt h) wd_X0_entryAt mw_1040 hQ hV va_S.rf (hP.sub [0, 1, 2, 3, 4, 5, 6, 7, 8, 9, 10, 11, 12] rfl) rfl rfl rfl hl.1 rfl (Nat.le_of_ble_eq_true rfl) dX0_journeyChange_31 ⟨Nat.le_of_ble_eq_true rfl, Nat.le_of_ble_eq_true rfl, rfl, rfl⟩ ⟨Nat.le_of_ble_eq_true rfl, Nat.le_of_ble_eq_true rfl⟩) (fun r_7 h => ?_)
  try dsimp only at h
  refine lv_isub hx hb dX0_journeyChange_34 ?_
  refine lv_istore (lv' := [(6, .int (r_5 - r_7)), (5, .int r_3), (4, .int r_1), (0, .ref (a0 0)), (1, .int x1), (2, .int x2), (3, .int x3)]) hx hb dX0_journeyChange_35 hl (by decide) rfl (fun ls hl => ?_)
  refine lv_iload hx hb dX0_journeyChange_37 (lv_at hl 0 rfl) ?_
  refine lv_iload_n hx hb dX0_journeyChange_39 rfl (lv_at hl 6 rfl) ?_
  refine lv_iload_n hx hb dX0_journeyChange_40 rfl (lv_at hl 5 rfl) ?_
  refine lv_iload hx hb dX0_journeyChange_41 (lv_at hl 1 rfl) ?_
  refine vp_callSi (rd_wSN (wc := ([] : va_W)) (As := [.int x3, .int x2, .int r_3]) (rest := [.int (r_5 - r_7)]) hx hb hml hown ht (c2_X6_onFrom h) wd_X6_onFrom (hQ.2.2.2.2.2) hQ hV va_S.rf (hP.sub [] rfl) rfl hl.1 rfl (Nat.le_of_ble_eq_true rfl) dX0_journeyChange_43 ⟨Nat.le_of_ble_eq_true rfl, Nat.le_of_ble_eq_true rfl, rfl, rfl⟩ ⟨Nat.le_of_ble_eq_true rfl, Nat.le_of_ble_eq_true rfl⟩) (fun r_9 h => ?_)
  try dsimp only at h
  refine lv_iload_n hx hb dX0_journeyChange_46 rfl (lv_at hl 5 rfl) ?_
  refine lv_iload_n hx hb dX0_journeyChange_47 rfl (lv_at hl 6 rfl) ?_
  refine lv_iload hx hb dX0_journeyChange_48 (lv_at hl 1 rfl) ?_
  refine vp_callSi (rd_wSN (wc := ([] : va_W)) (As := [.int x2, .int x3, .int r_3]) (rest := [.int r_9, .int (r_5 - r_7)]) hx hb hml hown ht (c2_X6_onFrom h) wd_X6_onFrom (hQ.2.2.2.2.2) hQ hV va_S.rf (hP.sub [] rfl) rfl hl.1 rfl (Nat.le_of_ble_eq_true rfl) dX0_journeyChange_50 ⟨Nat.le_of_ble_eq_true rfl, Nat.le_of_ble_eq_true rfl, rfl, rfl⟩ ⟨Nat.le_of_ble_eq_true rfl, Nat.le_of_ble_eq_true rfl⟩) (fun r_11 h => ?_)
  try dsimp only at h
  refine lv_isub hx hb dX0_journeyChange_53 ?_
  refine lv_imul hx hb dX0_journeyChange_54 ?_
  refine lv_istore (lv' := [(7, .int ((r_5 - r_7) * (r_9 - r_11))), (6, .int (r_5 - r_7)), (5, .int r_3), (4, .int r_1), (0, .ref (a0 0)), (1, .int x1), (2, .int x2), (3, .int x3)]) hx hb dX0_journeyChange_55 hl (by decide) rfl (fun ls hl => ?_)
  refine lv_iconst (v := 0) hx hb dX0_journeyChange_57 (by decide) ?_
  refine lv_istore (lv' := [(8, .int 0), (7, .int ((r_5 - r_7) * (r_9 - r_11))), (6, .int (r_5 - r_7)), (5, .int r_3), (4, .int r_1), (0, .ref (a0 0)), (1, .int x1), (2, .int x2), (3, .int x3)]) hx hb dX0_journeyChange_58 hl (by decide) rfl (fun ls hl => ?_)
  have lp60 : ∀ (e185 : Int32 → Int32 → Int32 → Int32 → Int32 → Int32 → Int32 → Int32 → Prop) (k185 : ∀ (z1 : Int32) (z2 : Int32) (z3 : Int32) (z4 : Int32) (z5 : Int32) (z6 : Int32) (z7 : Int32) (z8 : Int32) (ls : Array Slot), e185 z1 z2 z3 z4 z5 z6 z7 z8 → lv_has ls 11 [(1, .int z1), (2, .int z2), (3, .int z3), (4, .int z4), (5, .int z5), (6, .int z6), (7, .int z7), (8, .int z8), (0, .ref (a0 0))] → W p l e ({ frames := 1, cells := 0, slots := 0, locals := 25 } : Room) s m [.ref (a0 0), .int x1, .int x2, .int x3].toArray below meth c s.heap [] 0 0 (MQ below (vp_Si post) [.ref (a0 0), .int x1, .int x2, .int x3].toArray s 0 0 (fun _ => False)) (F0 m 185 ls [])) (n : Nat) (z1 : Int32) (z2 : Int32) (z3 : Int32) (z4 : Int32) (z5 : Int32) (z6 : Int32) (z7 : Int32) (z8 : Int32) (ls : Array Slot), wp_X0_journeyChange_L60 s0 post e185 n z1 z2 z3 z4 z5 z6 z7 z8 → lv_has ls 11 [(1, .int z1), (2, .int z2), (3, .int z3), (4, .int z4), (5, .int z5), (6, .int z6), (7, .int z7), (8, .int z8), (0, .ref (a0 0))] → W p l e ({ frames := 1, cells := 0, slots := 0, locals := 25 } : Room) s m [.ref (a0 0), .int x1, .int x2, .int x3].toArray below meth c s.heap [] 0 0 (MQ below (vp_Si post) [.ref (a0 0), .int x1, .int x2, .int x3].toArray s 0 0 (fun _ => False)) (F0 m 60 ls []) := by
    intro e185 k185 n
    induction n with
    | zero =>
      intro z1 z2 z3 z4 z5 z6 z7 z8 ls h
      exact h.elim
    | succ n ih =>
      intro z1 z2 z3 z4 z5 z6 z7 z8 ls h hl
      unfold wp_X0_journeyChange_L60 at h
      refine lv_iload hx hb dX0_journeyChange_60 (lv_at hl 7 rfl) ?_
      refine lv_iload hx hb dX0_journeyChange_62 (lv_at hl 4 rfl) ?_
      refine lv_icmp_ge (tgt := 185) hx hb dX0_journeyChange_64 (by decide) (fun c_13 => ?_) (fun c_13 => ?_)
      · replace h := h.1 c_13
        exact k185 _ _ _ _ _ _ _ _ ls h (lv_sub hl [0, 1, 2, 3, 4, 5, 6, 7, 8] rfl)
      · replace h := h.2 c_13
        refine lv_iload hx hb dX0_journeyChange_67 (lv_at hl 7 rfl) ?_
        refine lv_iload_n hx hb dX0_journeyChange_69 rfl (lv_at hl 1 rfl) ?_
        refine lv_icmp_eq (tgt := 179) hx hb dX0_journeyChange_70 (by decide) (fun c_14 => ?_) (fun c_14 => ?_)
        · replace h := h.1 c_14
          refine lv_iinc (v := (z8 + 1)) (lv' := [(8, .int (z8 + 1)), (1, .int z1), (2, .int z2), (3, .int z3), (4, .int z4), (5, .int z5), (6, .int z6), (7, .int z7), (0, .ref (a0 0))]) hx hb dX0_journeyChange_179 hl (k := 7) rfl rfl (by decide) rfl (fun ls hl => ?_)
          refine lv_goto (tgt := 60) hx hb dX0_journeyChange_182 (by decide) ?_
          exact ih _ _ _ _ _ _ _ _ ls h (lv_sub hl [1, 2, 3, 4, 5, 6, 7, 0, 8] rfl)
        · replace h := h.2 c_14
          refine lv_iload hx hb dX0_journeyChange_73 (lv_at hl 7 rfl) ?_
          refine lv_iload_n hx hb dX0_journeyChange_75 rfl (lv_at hl 2 rfl) ?_
          refine lv_icmp_eq (tgt := 179) hx hb dX0_journeyChange_76 (by decide) (fun c_15 => ?_) (fun c_15 => ?_)
          · replace h := h.1 c_15
            refine lv_iinc (v := (z8 + 1)) (lv' := [(8, .int (z8 + 1)), (1, .int z1), (2, .int z2), (3, .int z3), (4, .int z4), (5, .int z5), (6, .int z6), (7, .int z7), (0, .ref (a0 0))]) hx hb dX0_journeyChange_179 hl (k := 7) rfl rfl (by decide) rfl (fun ls hl => ?_)
            refine lv_goto (tgt := 60) hx hb dX0_journeyChange_182 (by decide) ?_
            exact ih _ _ _ _ _ _ _ _ ls h (lv_sub hl [1, 2, 3, 4, 5, 6, 7, 0, 8] rfl)
          · replace h := h.2 c_15
            refine lv_aload_n hx hb dX0_journeyChange_79 rfl (lv_at hl 8 rfl) ?_
            refine lv_iload hx hb dX0_journeyChange_80 (lv_at hl 3 rfl) ?_
            refine lv_iload hx hb dX0_journeyChange_82 (lv_at hl 4 rfl) ?_
            refine lv_iload_n hx hb dX0_journeyChange_84 rfl (lv_at hl 1 rfl) ?_
            refine lv_iload hx hb dX0_journeyChange_85 (lv_at hl 7 rfl) ?_
            refine vp_callSi (rd_wV (wc := bd_w a0 q s0) (As := [.int z4, .int z5, .int z2, .int z8]) (rest := []) hx hb hml hown ht (c2_X0_entryAt h) wd_X0_entryAt mw_1040 hQ hV va_S.rf (hP.sub [0, 1, 2, 3, 4, 5, 6, 7, 8, 9, 10, 11, 12] rfl) rfl rfl rfl hl.1 rfl (Nat.le_of_ble_eq_true rfl) dX0_journeyChange_87 ⟨Nat.le_of_ble_eq_true rfl, Nat.le_of_ble_eq_true rfl, rfl, rfl⟩ ⟨Nat.le_of_ble_eq_true rfl, Nat.le_of_ble_eq_true rfl⟩) (fun r_16 h => ?_)
            try dsimp only at h
            refine lv_aload_n hx hb dX0_journeyChange_90 rfl (lv_at hl 8 rfl) ?_
            refine lv_iload hx hb dX0_journeyChange_91 (lv_at hl 3 rfl) ?_
            refine lv_iload hx hb dX0_journeyChange_93 (lv_at hl 4 rfl) ?_
            refine lv_iload_n hx hb dX0_journeyChange_95 rfl (lv_at hl 2 rfl) ?_
            refine lv_iload hx hb dX0_journeyChange_96 (lv_at hl 7 rfl) ?_
            refine vp_callSi (rd_wV (wc := bd_w a0 q s0) (As := [.int z4, .int z5, .int z3, .int z8]) (rest := [.int r_16]) hx hb hml hown ht (c2_X0_entryAt h) wd_X0_entryAt mw_1040 hQ hV va_S.rf (hP.sub [0, 1, 2, 3, 4, 5, 6, 7, 8, 9, 10, 11, 12] rfl) rfl rfl rfl hl.1 rfl (Nat.le_of_ble_eq_true rfl) dX0_journeyChange_98 ⟨Nat.le_of_ble_eq_true rfl, Nat.le_of_ble_eq_true rfl, rfl, rfl⟩ ⟨Nat.le_of_ble_eq_true rfl, Nat.le_of_ble_eq_true rfl⟩) (fun r_18 h => ?_)
            try dsimp only at h
            refine lv_isub hx hb dX0_journeyChange_101 ?_
            refine lv_istore (lv' := [(9, .int (r_16 - r_18)), (1, .int z1), (2, .int z2), (3, .int z3), (4, .int z4), (5, .int z5), (6, .int z6), (7, .int z7), (8, .int z8), (0, .ref (a0 0))]) hx hb dX0_journeyChange_102 hl (by decide) rfl (fun ls hl => ?_)
            refine lv_aload_n hx hb dX0_journeyChange_104 rfl (lv_at hl 9 rfl) ?_
            refine lv_iload hx hb dX0_journeyChange_105 (lv_at hl 4 rfl) ?_
            refine lv_iload hx hb dX0_journeyChange_107 (lv_at hl 5 rfl) ?_
            refine lv_iload hx hb dX0_journeyChange_109 (lv_at hl 8 rfl) ?_
            refine lv_iload_n hx hb dX0_journeyChange_111 rfl (lv_at hl 2 rfl) ?_
            refine vp_callSi (rd_wV (wc := bd_w a0 q s0) (As := [.int z4, .int z5, .int z8, .int z2]) (rest := []) hx hb hml hown ht (c2_X0_entryAt h) wd_X0_entryAt mw_1040 hQ hV va_S.rf (hP.sub [0, 1, 2, 3, 4, 5, 6, 7, 8, 9, 10, 11, 12] rfl) rfl rfl rfl hl.1 rfl (Nat.le_of_ble_eq_true rfl) dX0_journeyChange_112 ⟨Nat.le_of_ble_eq_true rfl, Nat.le_of_ble_eq_true rfl, rfl, rfl⟩ ⟨Nat.le_of_ble_eq_true rfl, Nat.le_of_ble_eq_true rfl⟩) (fun r_20 h => ?_)
            try dsimp only at h
            refine lv_aload_n hx hb dX0_journeyChange_115 rfl (lv_at hl 9 rfl) ?_
            refine lv_iload hx hb dX0_journeyChange_116 (lv_at hl 4 rfl) ?_
            refine lv_iload hx hb dX0_journeyChange_118 (lv_at hl 5 rfl) ?_
            refine lv_iload hx hb dX0_journeyChange_120 (lv_at hl 8 rfl) ?_
            refine lv_iload_n hx hb dX0_journeyChange_122 rfl (lv_at hl 3 rfl) ?_
            refine vp_callSi (rd_wV (wc := bd_w a0 q s0) (As := [.int z4, .int z5, .int z8, .int z3]) (rest := [.int r_20]) hx hb hml hown ht (c2_X0_entryAt h) wd_X0_entryAt mw_1040 hQ hV va_S.rf (hP.sub [0, 1, 2, 3, 4, 5, 6, 7, 8, 9, 10, 11, 12] rfl) rfl rfl rfl hl.1 rfl (Nat.le_of_ble_eq_true rfl) dX0_journeyChange_123 ⟨Nat.le_of_ble_eq_true rfl, Nat.le_of_ble_eq_true rfl, rfl, rfl⟩ ⟨Nat.le_of_ble_eq_true rfl, Nat.le_of_ble_eq_true rfl⟩) (fun r_22 h => ?_)
            try dsimp only at h
            refine lv_isub hx hb dX0_journeyChange_126 ?_
            refine lv_istore (lv' := [(10, .int (r_20 - r_22)), (9, .int (r_16 - r_18)), (1, .int z1), (2, .int z2), (3, .int z3), (4, .int z4), (5, .int z5), (6, .int z6), (7, .int z7), (8, .int z8), (0, .ref (a0 0))]) hx hb dX0_journeyChange_127 hl (by decide) rfl (fun ls hl => ?_)
            refine lv_iload hx hb dX0_journeyChange_129 (lv_at hl 8 rfl) ?_
            refine lv_iload hx hb dX0_journeyChange_131 (lv_at hl 1 rfl) ?_
            refine lv_iload_n hx hb dX0_journeyChange_133 rfl (lv_at hl 4 rfl) ?_
            refine lv_iload hx hb dX0_journeyChange_134 (lv_at hl 9 rfl) ?_
            refine lv_iload hx hb dX0_journeyChange_136 (lv_at hl 6 rfl) ?_
            refine vp_callSi (rd_wSN (wc := ([] : va_W)) (As := [.int z3, .int z8, .int z5]) (rest := [.int (r_16 - r_18), .int z7]) hx hb hml hown ht (c2_X6_onFrom h) wd_X6_onFrom (hQ.2.2.2.2.2) hQ hV va_S.rf (hP.sub [] rfl) rfl hl.1 rfl (Nat.le_of_ble_eq_true rfl) dX0_journeyChange_138 ⟨Nat.le_of_ble_eq_true rfl, Nat.le_of_ble_eq_true rfl, rfl, rfl⟩ ⟨Nat.le_of_ble_eq_true rfl, Nat.le_of_ble_eq_true rfl⟩) (fun r_24 h => ?_)
            try dsimp only at h
            refine lv_iload_n hx hb dX0_journeyChange_141 rfl (lv_at hl 3 rfl) ?_
            refine lv_iload hx hb dX0_journeyChange_142 (lv_at hl 9 rfl) ?_
            refine lv_iload hx hb dX0_journeyChange_144 (lv_at hl 6 rfl) ?_
            refine vp_callSi (rd_wSN (wc := ([] : va_W)) (As := [.int z2, .int z8, .int z5]) (rest := [.int r_24, .int (r_16 - r_18), .int z7]) hx hb hml hown ht (c2_X6_onFrom h) wd_X6_onFrom (hQ.2.2.2.2.2) hQ hV va_S.rf (hP.sub [] rfl) rfl hl.1 rfl (Nat.le_of_ble_eq_true rfl) dX0_journeyChange_146 ⟨Nat.le_of_ble_eq_true rfl, Nat.le_of_ble_eq_true rfl, rfl, rfl⟩ ⟨Nat.le_of_ble_eq_true rfl, Nat.le_of_ble_eq_true rfl⟩) (fun r_26 h => ?_)
            try dsimp only at h
            refine lv_isub hx hb dX0_journeyChange_149 ?_
            refine lv_imul hx hb dX0_journeyChange_150 ?_
            refine lv_iadd hx hb dX0_journeyChange_151 ?_
            refine lv_istore (lv' := [(7, .int (z7 + ((r_16 - r_18) * (r_24 - r_26)))), (10, .int (r_20 - r_22)), (9, .int (r_16 - r_18)), (1, .int z1), (2, .int z2), (3, .int z3), (4, .int z4), (5, .int z5), (6, .int z6), (8, .int z8), (0, .ref (a0 0))]) hx hb dX0_journeyChange_152 hl (by decide) rfl (fun ls hl => ?_)
            refine lv_iload hx hb dX0_journeyChange_154 (lv_at hl 0 rfl) ?_
            refine lv_iload hx hb dX0_journeyChange_156 (lv_at hl 1 rfl) ?_
            refine lv_iload hx hb dX0_journeyChange_158 (lv_at hl 9 rfl) ?_
            refine lv_iload_n hx hb dX0_journeyChange_160 rfl (lv_at hl 5 rfl) ?_
            refine lv_iload hx hb dX0_journeyChange_161 (lv_at hl 7 rfl) ?_
            refine vp_callSi (rd_wSN (wc := ([] : va_W)) (As := [.int z8, .int z3, .int z5]) (rest := [.int (r_20 - r_22), .int (z7 + ((r_16 - r_18) * (r_24 - r_26)))]) hx hb hml hown ht (c2_X6_onFrom h) wd_X6_onFrom (hQ.2.2.2.2.2) hQ hV va_S.rf (hP.sub [] rfl) rfl hl.1 rfl (Nat.le_of_ble_eq_true rfl) dX0_journeyChange_163 ⟨Nat.le_of_ble_eq_true rfl, Nat.le_of_ble_eq_true rfl, rfl, rfl⟩ ⟨Nat.le_of_ble_eq_true rfl, Nat.le_of_ble_eq_true rfl⟩) (fun r_28 h => ?_)
            try dsimp only at h
            refine lv_iload hx hb dX0_journeyChange_166 (lv_at hl 9 rfl) ?_
            refine lv_iload_n hx hb dX0_journeyChange_168 rfl (lv_at hl 4 rfl) ?_
            refine lv_iload hx hb dX0_journeyChange_169 (lv_at hl 7 rfl) ?_
            refine vp_callSi (rd_wSN (wc := ([] : va_W)) (As := [.int z8, .int z2, .int z5]) (rest := [.int r_28, .int (r_20 - r_22), .int (z7 + ((r_16 - r_18) * (r_24 - r_26)))]) hx hb hml hown ht (c2_X6_onFrom h) wd_X6_onFrom (hQ.2.2.2.2.2) hQ hV va_S.rf (hP.sub [] rfl) rfl hl.1 rfl (Nat.le_of_ble_eq_true rfl) dX0_journeyChange_171 ⟨Nat.le_of_ble_eq_true rfl, Nat.le_of_ble_eq_true rfl, rfl, rfl⟩ ⟨Nat.le_of_ble_eq_true rfl, Nat.le_of_ble_eq_true rfl⟩) (fun r_30 h => ?_)
            try dsimp only at h
            refine lv_isub hx hb dX0_journeyChange_174 ?_
            refine lv_imul hx hb dX0_journeyChange_175 ?_
            refine lv_iadd hx hb dX0_journeyChange_176 ?_
            refine lv_istore (lv' := [(7, .int ((z7 + ((r_16 - r_18) * (r_24 - r_26))) + ((r_20 - r_22) * (r_28 - r_30)))), (10, .int (r_20 - r_22)), (9, .int (r_16 - r_18)), (1, .int z1), (2, .int z2), (3, .int z3), (4, .int z4), (5, .int z5), (6, .int z6), (8, .int z8), (0, .ref (a0 0))]) hx hb dX0_journeyChange_177 hl (by decide) rfl (fun ls hl => ?_)
            refine lv_iinc (v := (z8 + 1)) (lv' := [(8, .int (z8 + 1)), (7, .int ((z7 + ((r_16 - r_18) * (r_24 - r_26))) + ((r_20 - r_22) * (r_28 - r_30)))), (10, .int (r_20 - r_22)), (9, .int (r_16 - r_18)), (1, .int z1), (2, .int z2), (3, .int z3), (4, .int z4), (5, .int z5), (6, .int z6), (0, .ref (a0 0))]) hx hb dX0_journeyChange_179 hl (k := 9) rfl rfl (by decide) rfl (fun ls hl => ?_)
            refine lv_goto (tgt := 60) hx hb dX0_journeyChange_182 (by decide) ?_
            exact ih _ _ _ _ _ _ _ _ ls h (lv_sub hl [4, 5, 6, 7, 8, 9, 1, 0, 10] rfl)
  obtain ⟨n60, h⟩ := h
  refine lp60 _ ?_ n60 _ _ _ _ _ _ _ _ ls h (lv_sub hl [6, 7, 8, 4, 3, 2, 1, 0, 5] rfl)
  · intro z1 z2 z3 z4 z5 z6 z7 z8 ls h hl
    try dsimp only at h
    refine lv_iload hx hb dX0_journeyChange_185 (lv_at hl 6 rfl) ?_
    exact rd_iret hx hb hr hk h dX0_journeyChange_187

def wp_X5_startReading (post : Tp → Prop) (s0 : Tp) : Prop := post ((va_up (va_up (va_up (va_up (va_up s0.1 1 0) 2 0) 3 0) 4 0) 5 0), s0.2)
set_option maxHeartbeats 4000000 in
set_option maxRecDepth 100000 in
theorem c2_X5_startReading {l : Launch} {D : va_G} {q : Nat → ClassId} {sz : Nat} {a0 : Nat → Nat} {s0 : Tp} {post : Tp → Prop} (h : wp_X5_startReading post s0) : Met l yX5_startReading (Cond.code yX5_startReading cX5_startReading 1 none :: w_all) ({ frames := 0, cells := 0, slots := 0, locals := 0 } : Room) (mt_P D q [.ref (a0 0)] (tp_w a0 q s0) sz) (va_Qv (fun u : Tp => post u) (mt_B D (tp_w a0 q s0) sz (fun u : Tp => tp_w a0 q u)) (va_A (tp_w a0 q s0) sz)) 0 0 (va_A (tp_w a0 q s0) sz) := by
  refine mt_start (by decide) (Nat.le_of_ble_eq_true rfl) ?_
  intro p e s m below meth c ls hx hb hr hml hown ht hk hin hP hQ hD hA hS hV hl
  have hK := hQ.1
  have hown : s.vm.findClass RX5 = some m.cls := hown
  have hl : lv_has ls 1 [(0, .ref (a0 0))] := hl
  have hP : va_P D vwCl [((a0 0), .inr (4, [.ref (a0 1), .int (s0.1 0), .int (s0.1 1), .int (s0.1 2), .int (s0.1 3), .int (s0.1 4), .int (s0.1 5)])), ((a0 1), .inl (q 0, 400, .inl s0.2))] s.heap := hP
  have hD : va_D _ [((a0 0), .inr (4, [.ref (a0 1), .int (s0.1 0), .int (s0.1 1), .int (s0.1 2), .int (s0.1 3), .int (s0.1 4), .int (s0.1 5)])), ((a0 1), .inl (q 0, 400, .inl s0.2))] := hD
  unfold wp_X5_startReading at h
  refine lv_aload_n hx hb dX5_startReading_0 rfl (lv_at hl 0 rfl) ?_
  refine lv_iconst (v := 0) hx hb dX5_startReading_1 (by decide) ?_
  refine fl_put (C := RX5) (T := TX5) (N := 7) (ci := 4) (v := .int 0) (ws2 := [((a0 0), .inr (4, [.ref (a0 1), .int (s0.1 0), .int 0, .int (s0.1 2), .int (s0.1 3), .int (s0.1 4), .int (s0.1 5)])), ((a0 1), .inl (q 0, 400, .inl s0.2))]) hx hb ht in_X5 tyX5_ok nmX5 hown hK hP hD hS 0 rfl rfl 2 (by decide) mw_132 rfl rfl rfl (Nat.le_of_ble_eq_true rfl) dX5_startReading_2 rfl (fun H locs hP hD hS => ?_)
  refine lv_aload_n hx hb dX5_startReading_5 rfl (lv_at hl 0 rfl) ?_
  refine lv_iconst (v := 0) hx hb dX5_startReading_6 (by decide) ?_
  refine fl_put (C := RX5) (T := TX5) (N := 7) (ci := 4) (v := .int 0) (ws2 := [((a0 0), .inr (4, [.ref (a0 1), .int (s0.1 0), .int 0, .int 0, .int (s0.1 3), .int (s0.1 4), .int (s0.1 5)])), ((a0 1), .inl (q 0, 400, .inl s0.2))]) hx hb ht in_X5 tyX5_ok nmX5 hown hK hP hD hS 0 rfl rfl 3 (by decide) mw_135 rfl rfl rfl (Nat.le_of_ble_eq_true rfl) dX5_startReading_7 rfl (fun H locs hP hD hS => ?_)
  refine lv_aload_n hx hb dX5_startReading_10 rfl (lv_at hl 0 rfl) ?_
  refine lv_iconst (v := 0) hx hb dX5_startReading_11 (by decide) ?_
  refine fl_put (C := RX5) (T := TX5) (N := 7) (ci := 4) (v := .int 0) (ws2 := [((a0 0), .inr (4, [.ref (a0 1), .int (s0.1 0), .int 0, .int 0, .int 0, .int (s0.1 4), .int (s0.1 5)])), ((a0 1), .inl (q 0, 400, .inl s0.2))]) hx hb ht in_X5 tyX5_ok nmX5 hown hK hP hD hS 0 rfl rfl 4 (by decide) mw_137 rfl rfl rfl (Nat.le_of_ble_eq_true rfl) dX5_startReading_12 rfl (fun H locs hP hD hS => ?_)
  refine lv_aload_n hx hb dX5_startReading_15 rfl (lv_at hl 0 rfl) ?_
  refine lv_iconst (v := 0) hx hb dX5_startReading_16 (by decide) ?_
  refine fl_put (C := RX5) (T := TX5) (N := 7) (ci := 4) (v := .int 0) (ws2 := [((a0 0), .inr (4, [.ref (a0 1), .int (s0.1 0), .int 0, .int 0, .int 0, .int 0, .int (s0.1 5)])), ((a0 1), .inl (q 0, 400, .inl s0.2))]) hx hb ht in_X5 tyX5_ok nmX5 hown hK hP hD hS 0 rfl rfl 5 (by decide) mw_140 rfl rfl rfl (Nat.le_of_ble_eq_true rfl) dX5_startReading_17 rfl (fun H locs hP hD hS => ?_)
  refine lv_aload_n hx hb dX5_startReading_20 rfl (lv_at hl 0 rfl) ?_
  refine lv_iconst (v := 0) hx hb dX5_startReading_21 (by decide) ?_
  refine fl_put (C := RX5) (T := TX5) (N := 7) (ci := 4) (v := .int 0) (ws2 := [((a0 0), .inr (4, [.ref (a0 1), .int (s0.1 0), .int 0, .int 0, .int 0, .int 0, .int 0])), ((a0 1), .inl (q 0, 400, .inl s0.2))]) hx hb ht in_X5 tyX5_ok nmX5 hown hK hP hD hS 0 rfl rfl 6 (by decide) mw_143 rfl rfl rfl (Nat.le_of_ble_eq_true rfl) dX5_startReading_22 rfl (fun H locs hP hD hS => ?_)
  exact mt_vret ((va_up (va_up (va_up (va_up (va_up s0.1 1 0) 2 0) 3 0) 4 0) 5 0), s0.2) hx hb hr hk h (hP.sub (ws' := tp_w a0 q ((va_up (va_up (va_up (va_up (va_up s0.1 1 0) 2 0) 3 0) 4 0) 5 0), s0.2)) [0, 1] rfl) (hD.sub (ws' := tp_w a0 q ((va_up (va_up (va_up (va_up (va_up s0.1 1 0) 2 0) 3 0) 4 0) 5 0), s0.2)) [0, 1] (by decide) rfl) hS dX5_startReading_25

def wp_X5_peek_L0 (post : Int32 → Tp → Prop) (e38 : Tp → Prop) : Nat → Tp → Prop
  | 0, _ => False
  | n0 + 1, t0 => (((t0.1 0) ≤ (t0.1 1) → e38 t0) ∧ (¬ (t0.1 0) ≤ (t0.1 1) → vp_in (t0.1 1) 400 ∧ ((¬ (t0.2 (Int32.toNatClampNeg (t0.1 1))) = 32 → e38 t0) ∧ ((t0.2 (Int32.toNatClampNeg (t0.1 1))) = 32 → wp_X5_peek_L0 post e38 n0 ((va_up t0.1 1 ((t0.1 1) + 1)), t0.2)))))
def wp_X5_peek (post : Int32 → Tp → Prop) (s0 : Tp) : Prop := (∃ n0, wp_X5_peek_L0 post (fun t0 => (((t0.1 0) ≤ (t0.1 1) → post (-1) t0) ∧ (¬ (t0.1 0) ≤ (t0.1 1) → vp_in (t0.1 1) 400 ∧ post (t0.2 (Int32.toNatClampNeg (t0.1 1))) t0))) n0 s0)
set_option maxHeartbeats 4000000 in
set_option maxRecDepth 100000 in
theorem c2_X5_peek {l : Launch} {D : va_G} {q : Nat → ClassId} {sz : Nat} {a0 : Nat → Nat} {s0 : Tp} {post : Int32 → Tp → Prop} (h : wp_X5_peek post s0) : Met l yX5_peek (Cond.code yX5_peek cX5_peek 1 (some .int) :: w_all) ({ frames := 0, cells := 0, slots := 0, locals := 0 } : Room) (mt_P D q [.ref (a0 0)] (tp_w a0 q s0) sz) (va_Qi (fun r (u : Tp) => post r u) (mt_B D (tp_w a0 q s0) sz (fun u : Tp => tp_w a0 q u)) (va_A (tp_w a0 q s0) sz)) 0 0 (va_A (tp_w a0 q s0) sz) := by
  refine mt_start (by decide) (Nat.le_of_ble_eq_true rfl) ?_
  intro p e s m below meth c ls hx hb hr hml hown ht hk hin hP hQ hD hA hS hV hl
  have hK := hQ.1
  have hown : s.vm.findClass RX5 = some m.cls := hown
  have hl : lv_has ls 1 [(0, .ref (a0 0))] := hl
  have hP : va_P D vwCl [((a0 0), .inr (4, [.ref (a0 1), .int (s0.1 0), .int (s0.1 1), .int (s0.1 2), .int (s0.1 3), .int (s0.1 4), .int (s0.1 5)])), ((a0 1), .inl (q 0, 400, .inl s0.2))] s.heap := hP
  have hD : va_D _ [((a0 0), .inr (4, [.ref (a0 1), .int (s0.1 0), .int (s0.1 1), .int (s0.1 2), .int (s0.1 3), .int (s0.1 4), .int (s0.1 5)])), ((a0 1), .inl (q 0, 400, .inl s0.2))] := hD
  unfold wp_X5_peek at h
  have lp0 : ∀ (e38 : Tp → Prop) (k38 : ∀ (t0 : Tp) (H : Heap) (locs : List Loc) (ls : Array Slot), e38 t0 → va_P D vwCl (tp_w a0 q t0) H → va_D (va_A (tp_w a0 q s0) sz) (tp_w a0 q t0) → va_S (va_A (tp_w a0 q s0) sz) s.heap H locs → lv_has ls 1 [(0, .ref (a0 0))] → W p l e ({ frames := 0, cells := 0, slots := 0, locals := 0 } : Room) s m [.ref (a0 0)].toArray below meth c H locs 0 0 (MQ below (va_Qi (fun r (u : Tp) => post r u) (mt_B D (tp_w a0 q s0) sz (fun u : Tp => tp_w a0 q u)) (va_A (tp_w a0 q s0) sz)) [.ref (a0 0)].toArray s 0 0 (va_A (tp_w a0 q s0) sz)) (F0 m 38 ls [])) (n : Nat) (t0 : Tp) (H : Heap) (locs : List Loc) (ls : Array Slot), wp_X5_peek_L0 post e38 n t0 → va_P D vwCl (tp_w a0 q t0) H → va_D (va_A (tp_w a0 q s0) sz) (tp_w a0 q t0) → va_S (va_A (tp_w a0 q s0) sz) s.heap H locs → lv_has ls 1 [(0, .ref (a0 0))] → W p l e ({ frames := 0, cells := 0, slots := 0, locals := 0 } : Room) s m [.ref (a0 0)].toArray below meth c H locs 0 0 (MQ below (va_Qi (fun r (u : Tp) => post r u) (mt_B D (tp_w a0 q s0) sz (fun u : Tp => tp_w a0 q u)) (va_A (tp_w a0 q s0) sz)) [.ref (a0 0)].toArray s 0 0 (va_A (tp_w a0 q s0) sz)) (F0 m 0 ls []) := by
    intro e38 k38 n
    induction n with
    | zero =>
      intro t0 H locs ls h
      exact h.elim
    | succ n ih =>
      intro t0 H locs ls h hP hD hS hl
      have hP : va_P D vwCl [((a0 0), .inr (4, [.ref (a0 1), .int (t0.1 0), .int (t0.1 1), .int (t0.1 2), .int (t0.1 3), .int (t0.1 4), .int (t0.1 5)])), ((a0 1), .inl (q 0, 400, .inl t0.2))] H := hP
      have hD : va_D _ [((a0 0), .inr (4, [.ref (a0 1), .int (t0.1 0), .int (t0.1 1), .int (t0.1 2), .int (t0.1 3), .int (t0.1 4), .int (t0.1 5)])), ((a0 1), .inl (q 0, 400, .inl t0.2))] := hD
      unfold wp_X5_peek_L0 at h
      refine lv_aload_n hx hb dX5_peek_0 rfl (lv_at hl 0 rfl) ?_
      refine fl_get (C := RX5) (T := TX5) (N := 7) (ci := 4) (v := .int (t0.1 1)) hx hb ht in_X5 hown hK hP 0 rfl rfl 2 (by decide) mw_132 rfl dX5_peek_1 ?_
      refine lv_aload_n hx hb dX5_peek_4 rfl (lv_at hl 0 rfl) ?_
      refine fl_get (C := RX5) (T := TX5) (N := 7) (ci := 4) (v := .int (t0.1 0)) hx hb ht in_X5 hown hK hP 0 rfl rfl 1 (by decide) mw_130 rfl dX5_peek_5 ?_
      refine lv_icmp_ge (tgt := 38) hx hb dX5_peek_8 (by decide) (fun c_1 => ?_) (fun c_1 => ?_)
      · replace h := h.1 c_1
        exact k38 _ _ _ ls h (hP.sub (ws' := tp_w a0 q t0) [0, 1] rfl) (hD.sub (ws' := tp_w a0 q t0) [0, 1] (by decide) rfl) hS (lv_sub hl [0] rfl)
      · replace h := h.2 c_1
        refine lv_aload_n hx hb dX5_peek_11 rfl (lv_at hl 0 rfl) ?_
        refine fl_get (C := RX5) (T := TX5) (N := 7) (ci := 4) (v := .ref (a0 1)) hx hb ht in_X5 hown hK hP 0 rfl rfl 0 (by decide) mw_128 rfl dX5_peek_12 ?_
        refine lv_aload_n hx hb dX5_peek_15 rfl (lv_at hl 0 rfl) ?_
        refine fl_get (C := RX5) (T := TX5) (N := 7) (ci := 4) (v := .int (t0.1 1)) hx hb ht in_X5 hown hK hP 0 rfl rfl 2 (by decide) mw_132 rfl dX5_peek_16 ?_
        obtain ⟨g_2, h⟩ := h
        refine va_iald hx hb hK hP 1 0 rfl rfl g_2 dX5_peek_19 ?_
        refine lv_bipush (v := 32) hx hb dX5_peek_20 (by decide) ?_
        refine lv_icmp_ne (tgt := 38) hx hb dX5_peek_22 (by decide) (fun c_3 => ?_) (fun c_3 => ?_)
        · replace h := h.1 c_3
          exact k38 _ _ _ ls h (hP.sub (ws' := tp_w a0 q t0) [0, 1] rfl) (hD.sub (ws' := tp_w a0 q t0) [0, 1] (by decide) rfl) hS (lv_sub hl [0] rfl)
        · replace h := h.2 c_3
          refine lv_aload_n hx hb dX5_peek_25 rfl (lv_at hl 0 rfl) ?_
          refine lv_dup hx hb dX5_peek_26 rfl ?_
          refine fl_get (C := RX5) (T := TX5) (N := 7) (ci := 4) (v := .int (t0.1 1)) hx hb ht in_X5 hown hK hP 0 rfl rfl 2 (by decide) mw_132 rfl dX5_peek_27 ?_
          refine lv_iconst (v := 1) hx hb dX5_peek_30 (by decide) ?_
          refine lv_iadd hx hb dX5_peek_31 ?_
          refine fl_put (C := RX5) (T := TX5) (N := 7) (ci := 4) (v := .int ((t0.1 1) + 1)) (ws2 := [((a0 0), .inr (4, [.ref (a0 1), .int (t0.1 0), .int ((t0.1 1) + 1), .int (t0.1 2), .int (t0.1 3), .int (t0.1 4), .int (t0.1 5)])), ((a0 1), .inl (q 0, 400, .inl t0.2))]) hx hb ht in_X5 tyX5_ok nmX5 hown hK hP hD hS 0 rfl rfl 2 (by decide) mw_132 rfl rfl rfl (Nat.le_of_ble_eq_true rfl) dX5_peek_32 rfl (fun H locs hP hD hS => ?_)
          refine lv_goto (tgt := 0) hx hb dX5_peek_35 (by decide) ?_
          exact ih _ _ _ ls h (hP.sub (ws' := tp_w a0 q ((va_up t0.1 1 ((t0.1 1) + 1)), t0.2)) [0, 1] rfl) (hD.sub (ws' := tp_w a0 q ((va_up t0.1 1 ((t0.1 1) + 1)), t0.2)) [0, 1] (by decide) rfl) hS (lv_sub hl [0] rfl)
  obtain ⟨n0, h⟩ := h
  refine lp0 _ ?_ n0 _ _ _ ls h (hP.sub (ws' := tp_w a0 q s0) [0, 1] rfl) (hD.sub (ws' := tp_w a0 q s0) [0, 1] (by decide) rfl) hS (lv_sub hl [0] rfl)
  · intro t0 H locs ls h hP hD hS hl
    try dsimp only at h
    have hP : va_P D vwCl [((a0 0), .inr (4, [.ref (a0 1), .int (t0.1 0), .int (t0.1 1), .int (t0.1 2), .int (t0.1 3), .int (t0.1 4), .int (t0.1 5)])), ((a0 1), .inl (q 0, 400, .inl t0.2))] H := hP
    have hD : va_D _ [((a0 0), .inr (4, [.ref (a0 1), .int (t0.1 0), .int (t0.1 1), .int (t0.1 2), .int (t0.1 3), .int (t0.1 4), .int (t0.1 5)])), ((a0 1), .inl (q 0, 400, .inl t0.2))] := hD
    refine lv_aload_n hx hb dX5_peek_38 rfl (lv_at hl 0 rfl) ?_
    refine fl_get (C := RX5) (T := TX5) (N := 7) (ci := 4) (v := .int (t0.1 1)) hx hb ht in_X5 hown hK hP 0 rfl rfl 2 (by decide) mw_132 rfl dX5_peek_39 ?_
    refine lv_aload_n hx hb dX5_peek_42 rfl (lv_at hl 0 rfl) ?_
    refine fl_get (C := RX5) (T := TX5) (N := 7) (ci := 4) (v := .int (t0.1 0)) hx hb ht in_X5 hown hK hP 0 rfl rfl 1 (by decide) mw_130 rfl dX5_peek_43 ?_
    refine lv_icmp_ge (tgt := 61) hx hb dX5_peek_46 (by decide) (fun c_4 => ?_) (fun c_4 => ?_)
    · replace h := h.1 c_4
      refine lv_iconst (v := (-1)) hx hb dX5_peek_61 (by decide) ?_
      exact mt_iret t0 hx hb hr hk h (hP.sub (ws' := tp_w a0 q t0) [0, 1] rfl) (hD.sub (ws' := tp_w a0 q t0) [0, 1] (by decide) rfl) hS dX5_peek_62
    · replace h := h.2 c_4
      refine lv_aload_n hx hb dX5_peek_49 rfl (lv_at hl 0 rfl) ?_
      refine fl_get (C := RX5) (T := TX5) (N := 7) (ci := 4) (v := .ref (a0 1)) hx hb ht in_X5 hown hK hP 0 rfl rfl 0 (by decide) mw_128 rfl dX5_peek_50 ?_
      refine lv_aload_n hx hb dX5_peek_53 rfl (lv_at hl 0 rfl) ?_
      refine fl_get (C := RX5) (T := TX5) (N := 7) (ci := 4) (v := .int (t0.1 1)) hx hb ht in_X5 hown hK hP 0 rfl rfl 2 (by decide) mw_132 rfl dX5_peek_54 ?_
      obtain ⟨g_5, h⟩ := h
      refine va_iald hx hb hK hP 1 0 rfl rfl g_5 dX5_peek_57 ?_
      refine lv_goto (tgt := 62) hx hb dX5_peek_58 (by decide) ?_
      exact mt_iret t0 hx hb hr hk h (hP.sub (ws' := tp_w a0 q t0) [0, 1] rfl) (hD.sub (ws' := tp_w a0 q t0) [0, 1] (by decide) rfl) hS dX5_peek_62

def wp_X5_isRead_L20 (s0 : Tp) (i1 : Nat) (post : Int32 → Prop) (e55 : Int32 → Prop) : Nat → Int32 → Prop
  | 0, _ => False
  | n20 + 1, z2 => wp_J0_length_8abf5 (fun r_4 => ((r_4 ≤ z2 → e55 z2) ∧ (¬ r_4 ≤ z2 → wp_J0_charAt_5068e (fun r_7 => vp_in ((s0.1 2) + z2) 400 ∧ ((r_7 = (s0.2 (Int32.toNatClampNeg ((s0.1 2) + z2))) → wp_X5_isRead_L20 s0 i1 post e55 n20 (z2 + 1)) ∧ (¬ r_7 = (s0.2 (Int32.toNatClampNeg ((s0.1 2) + z2))) → post 0))) i1 z2))) i1
def wp_X5_isRead (post : Int32 → Prop) (s0 : Tp) (i1 : Nat) : Prop := wp_J0_length_8abf5 (fun r_1 => ((r_1 = ((s0.1 1) - (s0.1 2)) → (∃ n20, wp_X5_isRead_L20 s0 i1 post (fun z2 => post 1) n20 0)) ∧ (¬ r_1 = ((s0.1 1) - (s0.1 2)) → post 0))) i1
set_option maxHeartbeats 4000000 in
set_option maxRecDepth 100000 in
theorem c2_X5_isRead {l : Launch} {D : va_G} {q : Nat → ClassId} {a0 : Nat → Nat} {s0 : Tp} {i1 : Nat} {post : Int32 → Prop} (hs : i1 < 12) (h : wp_X5_isRead post s0 i1) : Met l yX5_isRead (Cond.code yX5_isRead cX5_isRead 3 (some .boolean) :: w_all) ({ frames := 4, cells := 0, slots := 0, locals := 85 } : Room) (rd_P D q [.ref (a0 0), .ref (q (100 + i1))] (tp_w a0 q s0)) (vp_Si post) 0 0 (fun _ => False) := by
  refine rd_start (by decide) (Nat.le_of_ble_eq_true rfl) ?_
  intro p e s m below meth c ls hx hb hr hml hown ht hk hP hQ hV hl
  have hK := hQ.1
  have hown : s.vm.findClass RX5 = some m.cls := hown
  have hl : lv_has ls 3 [(0, .ref (a0 0)), (1, .ref (q (100 + i1)))] := hl
  have hP : va_P D vwCl [((a0 0), .inr (4, [.ref (a0 1), .int (s0.1 0), .int (s0.1 1), .int (s0.1 2), .int (s0.1 3), .int (s0.1 4), .int (s0.1 5)])), ((a0 1), .inl (q 0, 400, .inl s0.2))] s.heap := hP
  unfold wp_X5_isRead at h
  refine lv_aload_n hx hb dX5_isRead_0 rfl (lv_at hl 1 rfl) ?_
  refine vp_callSi (rd_wVs (i := i1) (wc := ([] : va_W)) (As := []) (rest := []) hx hb hml hown ht (c2_J0_length_8abf5 hs h) wd_J0_length_8abf5 mw_436 hQ hV va_S.rf (hP.sub [] rfl) hs rfl rfl hl.1 rfl (Nat.le_of_ble_eq_true rfl) dX5_isRead_1 ⟨Nat.le_of_ble_eq_true rfl, Nat.le_of_ble_eq_true rfl, rfl, rfl⟩ ⟨Nat.le_of_ble_eq_true rfl, Nat.le_of_ble_eq_true rfl⟩) (fun r_1 h => ?_)
  try dsimp only at h
  refine lv_aload_n hx hb dX5_isRead_4 rfl (lv_at hl 0 rfl) ?_
  refine fl_get (C := RX5) (T := TX5) (N := 7) (ci := 4) (v := .int (s0.1 1)) hx hb ht in_X5 hown hK hP 0 rfl rfl 2 (by decide) mw_132 rfl dX5_isRead_5 ?_
  refine lv_aload_n hx hb dX5_isRead_8 rfl (lv_at hl 0 rfl) ?_
  refine fl_get (C := RX5) (T := TX5) (N := 7) (ci := 4) (v := .int (s0.1 2)) hx hb ht in_X5 hown hK hP 0 rfl rfl 3 (by decide) mw_135 rfl dX5_isRead_9 ?_
  refine lv_isub hx hb dX5_isRead_12 ?_
  refine lv_icmp_eq (tgt := 18) hx hb dX5_isRead_13 (by decide) (fun c_3 => ?_) (fun c_3 => ?_)
  · replace h := h.1 c_3
    refine lv_iconst (v := 0) hx hb dX5_isRead_18 (by decide) ?_
    refine lv_istore_n (lv' := [(2, .int 0), (0, .ref (a0 0)), (1, .ref (q (100 + i1)))]) hx hb dX5_isRead_19 rfl hl (by decide) rfl (fun ls hl => ?_)
    have lp20 : ∀ (e55 : Int32 → Prop) (k55 : ∀ (z2 : Int32) (ls : Array Slot), e55 z2 → lv_has ls 3 [(2, .int z2), (0, .ref (a0 0)), (1, .ref (q (100 + i1)))] → W p l e ({ frames := 4, cells := 0, slots := 0, locals := 85 } : Room) s m [.ref (a0 0), .ref (q (100 + i1))].toArray below meth c s.heap [] 0 0 (MQ below (vp_Si post) [.ref (a0 0), .ref (q (100 + i1))].toArray s 0 0 (fun _ => False)) (F0 m 55 ls [])) (n : Nat) (z2 : Int32) (ls : Array Slot), wp_X5_isRead_L20 s0 i1 post e55 n z2 → lv_has ls 3 [(2, .int z2), (0, .ref (a0 0)), (1, .ref (q (100 + i1)))] → W p l e ({ frames := 4, cells := 0, slots := 0, locals := 85 } : Room) s m [.ref (a0 0), .ref (q (100 + i1))].toArray below meth c s.heap [] 0 0 (MQ below (vp_Si post) [.ref (a0 0), .ref (q (100 + i1))].toArray s 0 0 (fun _ => False)) (F0 m 20 ls []) := by
      intro e55 k55 n
      induction n with
      | zero =>
        intro z2 ls h
        exact h.elim
      | succ n ih =>
        intro z2 ls h hl
        unfold wp_X5_isRead_L20 at h
        refine lv_iload_n hx hb dX5_isRead_20 rfl (lv_at hl 0 rfl) ?_
        refine lv_aload_n hx hb dX5_isRead_21 rfl (lv_at hl 2 rfl) ?_
        refine vp_callSi (rd_wVs (i := i1) (wc := ([] : va_W)) (As := []) (rest := [.int z2]) hx hb hml hown ht (c2_J0_length_8abf5 hs h) wd_J0_length_8abf5 mw_436 hQ hV va_S.rf (hP.sub [] rfl) hs rfl rfl hl.1 rfl (Nat.le_of_ble_eq_true rfl) dX5_isRead_22 ⟨Nat.le_of_ble_eq_true rfl, Nat.le_of_ble_eq_true rfl, rfl, rfl⟩ ⟨Nat.le_of_ble_eq_true rfl, Nat.le_of_ble_eq_true rfl⟩) (fun r_4 h => ?_)
        try dsimp only at h
        refine lv_icmp_ge (tgt := 55) hx hb dX5_isRead_25 (by decide) (fun c_6 => ?_) (fun c_6 => ?_)
        · replace h := h.1 c_6
          exact k55 _ ls h (lv_sub hl [0, 1, 2] rfl)
        · replace h := h.2 c_6
          refine lv_aload_n hx hb dX5_isRead_28 rfl (lv_at hl 2 rfl) ?_
          refine lv_iload_n hx hb dX5_isRead_29 rfl (lv_at hl 0 rfl) ?_
          refine vp_callSi (rd_wVs (i := i1) (wc := ([] : va_W)) (As := [.int z2]) (rest := []) hx hb hml hown ht (c2_J0_charAt_5068e hs h) wd_J0_charAt_5068e mw_446 hQ hV va_S.rf (hP.sub [] rfl) hs rfl rfl hl.1 rfl (Nat.le_of_ble_eq_true rfl) dX5_isRead_30 ⟨Nat.le_of_ble_eq_true rfl, Nat.le_of_ble_eq_true rfl, rfl, rfl⟩ ⟨Nat.le_of_ble_eq_true rfl, Nat.le_of_ble_eq_true rfl⟩) (fun r_7 h => ?_)
          try dsimp only at h
          refine lv_aload_n hx hb dX5_isRead_33 rfl (lv_at hl 1 rfl) ?_
          refine fl_get (C := RX5) (T := TX5) (N := 7) (ci := 4) (v := .ref (a0 1)) hx hb ht in_X5 hown hK hP 0 rfl rfl 0 (by decide) mw_128 rfl dX5_isRead_34 ?_
          refine lv_aload_n hx hb dX5_isRead_37 rfl (lv_at hl 1 rfl) ?_
          refine fl_get (C := RX5) (T := TX5) (N := 7) (ci := 4) (v := .int (s0.1 2)) hx hb ht in_X5 hown hK hP 0 rfl rfl 3 (by decide) mw_135 rfl dX5_isRead_38 ?_
          refine lv_iload_n hx hb dX5_isRead_41 rfl (lv_at hl 0 rfl) ?_
          refine lv_iadd hx hb dX5_isRead_42 ?_
          obtain ⟨g_9, h⟩ := h
          refine va_iald hx hb hK hP 1 0 rfl rfl g_9 dX5_isRead_43 ?_
          refine lv_icmp_eq (tgt := 49) hx hb dX5_isRead_44 (by decide) (fun c_10 => ?_) (fun c_10 => ?_)
          · replace h := h.1 c_10
            refine lv_iinc (v := (z2 + 1)) (lv' := [(2, .int (z2 + 1)), (0, .ref (a0 0)), (1, .ref (q (100 + i1)))]) hx hb dX5_isRead_49 hl (k := 0) rfl rfl (by decide) rfl (fun ls hl => ?_)
            refine lv_goto (tgt := 20) hx hb dX5_isRead_52 (by decide) ?_
            exact ih _ ls h (lv_sub hl [0, 1, 2] rfl)
          · replace h := h.2 c_10
            refine lv_iconst (v := 0) hx hb dX5_isRead_47 (by decide) ?_
            exact rd_zret hx hb hr hk rfl h dX5_isRead_48
    obtain ⟨n20, h⟩ := h
    refine lp20 _ ?_ n20 _ ls h (lv_sub hl [0, 1, 2] rfl)
    · intro z2 ls h hl
      try dsimp only at h
      refine lv_iconst (v := 1) hx hb dX5_isRead_55 (by decide) ?_
      exact rd_zret hx hb hr hk rfl h dX5_isRead_56
  · replace h := h.2 c_3
    refine lv_iconst (v := 0) hx hb dX5_isRead_16 (by decide) ?_
    exact rd_zret hx hb hr hk rfl h dX5_isRead_17

def wp_X5_wordRead (post : Int32 → Prop) (s0 : Tp) : Prop := wp_X5_isRead (fun r_1 => ((r_1 = 0 → wp_X5_isRead (fun r_4 => ((r_4 = 0 → wp_X5_isRead (fun r_7 => ((r_7 = 0 → wp_X5_isRead (fun r_10 => ((r_10 = 0 → wp_X5_isRead (fun r_13 => ((r_13 = 0 → wp_X5_isRead (fun r_16 => ((r_16 = 0 → wp_X5_isRead (fun r_19 => ((r_19 = 0 → wp_X5_isRead (fun r_22 => ((r_22 = 0 → wp_X5_isRead (fun r_25 => ((r_25 = 0 → wp_X5_isRead (fun r_28 => ((r_28 = 0 → wp_X5_isRead (fun r_31 => ((r_31 = 0 → wp_X5_isRead (fun r_34 => ((r_34 = 0 → post 0) ∧ (¬ r_34 = 0 → post 12))) s0 11) ∧ (¬ r_31 = 0 → post 11))) s0 10) ∧ (¬ r_28 = 0 → post 10))) s0 9) ∧ (¬ r_25 = 0 → post 9))) s0 8) ∧ (¬ r_22 = 0 → post 8))) s0 7) ∧ (¬ r_19 = 0 → post 7))) s0 6) ∧ (¬ r_16 = 0 → post 6))) s0 5) ∧ (¬ r_13 = 0 → post 5))) s0 4) ∧ (¬ r_10 = 0 → post 4))) s0 3) ∧ (¬ r_7 = 0 → post 3))) s0 2) ∧ (¬ r_4 = 0 → post 2))) s0 1) ∧ (¬ r_1 = 0 → post 1))) s0 0
set_option maxHeartbeats 4000000 in
set_option maxRecDepth 100000 in
theorem c2_X5_wordRead {l : Launch} {D : va_G} {q : Nat → ClassId} {a0 : Nat → Nat} {s0 : Tp} {post : Int32 → Prop} (h : wp_X5_wordRead post s0) : Met l yX5_wordRead (Cond.code yX5_wordRead cX5_wordRead 1 (some .int) :: w_all) ({ frames := 5, cells := 0, slots := 0, locals := 107 } : Room) (rd_P D q [.ref (a0 0)] (tp_w a0 q s0)) (vp_Si post) 0 0 (fun _ => False) := by
  refine rd_start (by decide) (Nat.le_of_ble_eq_true rfl) ?_
  intro p e s m below meth c ls hx hb hr hml hown ht hk hP hQ hV hl
  have hK := hQ.1
  have hown : s.vm.findClass RX5 = some m.cls := hown
  have hl : lv_has ls 1 [(0, .ref (a0 0))] := hl
  have hP : va_P D vwCl [((a0 0), .inr (4, [.ref (a0 1), .int (s0.1 0), .int (s0.1 1), .int (s0.1 2), .int (s0.1 3), .int (s0.1 4), .int (s0.1 5)])), ((a0 1), .inl (q 0, 400, .inl s0.2))] s.heap := hP
  unfold wp_X5_wordRead at h
  refine lv_aload_n hx hb dX5_wordRead_0 rfl (lv_at hl 0 rfl) ?_
  refine va_ldcS (q := (q (100 + 0))) (tx := "board") hx hb hown (hQ.2.2.1 ("FlapBoard$Tape", 52, "board", 0) (List.mem_of_getElem? (i := 0) rfl)) dX5_wordRead_1 ?_
  refine vp_callSi (rd_wV (wc := tp_w a0 q s0) (As := [.ref (q (100 + 0))]) (rest := []) hx hb hml hown ht (c2_X5_isRead (by decide) h) wd_X5_isRead mw_432 hQ hV va_S.rf (hP.sub [0, 1] rfl) rfl rfl rfl hl.1 rfl (Nat.le_of_ble_eq_true rfl) dX5_wordRead_3 ⟨Nat.le_of_ble_eq_true rfl, Nat.le_of_ble_eq_true rfl, rfl, rfl⟩ ⟨Nat.le_of_ble_eq_true rfl, Nat.le_of_ble_eq_true rfl⟩) (fun r_1 h => ?_)
  try dsimp only at h
  refine lv_if_eq (tgt := 11) hx hb dX5_wordRead_6 (by decide) (fun c_3 => ?_) (fun c_3 => ?_)
  · replace h := h.1 c_3
    refine lv_aload_n hx hb dX5_wordRead_11 rfl (lv_at hl 0 rfl) ?_
    refine va_ldcS (q := (q (100 + 1))) (tx := "limit") hx hb hown (hQ.2.2.1 ("FlapBoard$Tape", 58, "limit", 1) (List.mem_of_getElem? (i := 1) rfl)) dX5_wordRead_12 ?_
    refine vp_callSi (rd_wV (wc := tp_w a0 q s0) (As := [.ref (q (100 + 1))]) (rest := []) hx hb hml hown ht (c2_X5_isRead (by decide) h) wd_X5_isRead mw_432 hQ hV va_S.rf (hP.sub [0, 1] rfl) rfl rfl rfl hl.1 rfl (Nat.le_of_ble_eq_true rfl) dX5_wordRead_14 ⟨Nat.le_of_ble_eq_true rfl, Nat.le_of_ble_eq_true rfl, rfl, rfl⟩ ⟨Nat.le_of_ble_eq_true rfl, Nat.le_of_ble_eq_true rfl⟩) (fun r_4 h => ?_)
    try dsimp only at h
    refine lv_if_eq (tgt := 22) hx hb dX5_wordRead_17 (by decide) (fun c_6 => ?_) (fun c_6 => ?_)
    · replace h := h.1 c_6
      refine lv_aload_n hx hb dX5_wordRead_22 rfl (lv_at hl 0 rfl) ?_
      refine va_ldcS (q := (q (100 + 2))) (tx := "drum") hx hb hown (hQ.2.2.1 ("FlapBoard$Tape", 60, "drum", 2) (List.mem_of_getElem? (i := 2) rfl)) dX5_wordRead_23 ?_
      refine vp_callSi (rd_wV (wc := tp_w a0 q s0) (As := [.ref (q (100 + 2))]) (rest := []) hx hb hml hown ht (c2_X5_isRead (by decide) h) wd_X5_isRead mw_432 hQ hV va_S.rf (hP.sub [0, 1] rfl) rfl rfl rfl hl.1 rfl (Nat.le_of_ble_eq_true rfl) dX5_wordRead_25 ⟨Nat.le_of_ble_eq_true rfl, Nat.le_of_ble_eq_true rfl, rfl, rfl⟩ ⟨Nat.le_of_ble_eq_true rfl, Nat.le_of_ble_eq_true rfl⟩) (fun r_7 h => ?_)
      try dsimp only at h
      refine lv_if_eq (tgt := 33) hx hb dX5_wordRead_28 (by decide) (fun c_9 => ?_) (fun c_9 => ?_)
      · replace h := h.1 c_9
        refine lv_aload_n hx hb dX5_wordRead_33 rfl (lv_at hl 0 rfl) ?_
        refine va_ldcS (q := (q (100 + 3))) (tx := "cells") hx hb hown (hQ.2.2.1 ("FlapBoard$Tape", 62, "cells", 3) (List.mem_of_getElem? (i := 3) rfl)) dX5_wordRead_34 ?_
        refine vp_callSi (rd_wV (wc := tp_w a0 q s0) (As := [.ref (q (100 + 3))]) (rest := []) hx hb hml hown ht (c2_X5_isRead (by decide) h) wd_X5_isRead mw_432 hQ hV va_S.rf (hP.sub [0, 1] rfl) rfl rfl rfl hl.1 rfl (Nat.le_of_ble_eq_true rfl) dX5_wordRead_36 ⟨Nat.le_of_ble_eq_true rfl, Nat.le_of_ble_eq_true rfl, rfl, rfl⟩ ⟨Nat.le_of_ble_eq_true rfl, Nat.le_of_ble_eq_true rfl⟩) (fun r_10 h => ?_)
        try dsimp only at h
        refine lv_if_eq (tgt := 44) hx hb dX5_wordRead_39 (by decide) (fun c_12 => ?_) (fun c_12 => ?_)
        · replace h := h.1 c_12
          refine lv_aload_n hx hb dX5_wordRead_44 rfl (lv_at hl 0 rfl) ?_
          refine va_ldcS (q := (q (100 + 4))) (tx := "worn") hx hb hown (hQ.2.2.1 ("FlapBoard$Tape", 64, "worn", 4) (List.mem_of_getElem? (i := 4) rfl)) dX5_wordRead_45 ?_
          refine vp_callSi (rd_wV (wc := tp_w a0 q s0) (As := [.ref (q (100 + 4))]) (rest := []) hx hb hml hown ht (c2_X5_isRead (by decide) h) wd_X5_isRead mw_432 hQ hV va_S.rf (hP.sub [0, 1] rfl) rfl rfl rfl hl.1 rfl (Nat.le_of_ble_eq_true rfl) dX5_wordRead_47 ⟨Nat.le_of_ble_eq_true rfl, Nat.le_of_ble_eq_true rfl, rfl, rfl⟩ ⟨Nat.le_of_ble_eq_true rfl, Nat.le_of_ble_eq_true rfl⟩) (fun r_13 h => ?_)
          try dsimp only at h
          refine lv_if_eq (tgt := 55) hx hb dX5_wordRead_50 (by decide) (fun c_15 => ?_) (fun c_15 => ?_)
          · replace h := h.1 c_15
            refine lv_aload_n hx hb dX5_wordRead_55 rfl (lv_at hl 0 rfl) ?_
            refine va_ldcS (q := (q (100 + 5))) (tx := "row") hx hb hown (hQ.2.2.1 ("FlapBoard$Tape", 66, "row", 5) (List.mem_of_getElem? (i := 5) rfl)) dX5_wordRead_56 ?_
            refine vp_callSi (rd_wV (wc := tp_w a0 q s0) (As := [.ref (q (100 + 5))]) (rest := []) hx hb hml hown ht (c2_X5_isRead (by decide) h) wd_X5_isRead mw_432 hQ hV va_S.rf (hP.sub [0, 1] rfl) rfl rfl rfl hl.1 rfl (Nat.le_of_ble_eq_true rfl) dX5_wordRead_58 ⟨Nat.le_of_ble_eq_true rfl, Nat.le_of_ble_eq_true rfl, rfl, rfl⟩ ⟨Nat.le_of_ble_eq_true rfl, Nat.le_of_ble_eq_true rfl⟩) (fun r_16 h => ?_)
            try dsimp only at h
            refine lv_if_eq (tgt := 67) hx hb dX5_wordRead_61 (by decide) (fun c_18 => ?_) (fun c_18 => ?_)
            · replace h := h.1 c_18
              refine lv_aload_n hx hb dX5_wordRead_67 rfl (lv_at hl 0 rfl) ?_
              refine va_ldcS (q := (q (100 + 6))) (tx := "lose") hx hb hown (hQ.2.2.1 ("FlapBoard$Tape", 68, "lose", 6) (List.mem_of_getElem? (i := 6) rfl)) dX5_wordRead_68 ?_
              refine vp_callSi (rd_wV (wc := tp_w a0 q s0) (As := [.ref (q (100 + 6))]) (rest := []) hx hb hml hown ht (c2_X5_isRead (by decide) h) wd_X5_isRead mw_432 hQ hV va_S.rf (hP.sub [0, 1] rfl) rfl rfl rfl hl.1 rfl (Nat.le_of_ble_eq_true rfl) dX5_wordRead_70 ⟨Nat.le_of_ble_eq_true rfl, Nat.le_of_ble_eq_true rfl, rfl, rfl⟩ ⟨Nat.le_of_ble_eq_true rfl, Nat.le_of_ble_eq_true rfl⟩) (fun r_19 h => ?_)
              try dsimp only at h
              refine lv_if_eq (tgt := 79) hx hb dX5_wordRead_73 (by decide) (fun c_21 => ?_) (fun c_21 => ?_)
              · replace h := h.1 c_21
                refine lv_aload_n hx hb dX5_wordRead_79 rfl (lv_at hl 0 rfl) ?_
                refine va_ldcS (q := (q (100 + 7))) (tx := "scroll") hx hb hown (hQ.2.2.1 ("FlapBoard$Tape", 70, "scroll", 7) (List.mem_of_getElem? (i := 7) rfl)) dX5_wordRead_80 ?_
                refine vp_callSi (rd_wV (wc := tp_w a0 q s0) (As := [.ref (q (100 + 7))]) (rest := []) hx hb hml hown ht (c2_X5_isRead (by decide) h) wd_X5_isRead mw_432 hQ hV va_S.rf (hP.sub [0, 1] rfl) rfl rfl rfl hl.1 rfl (Nat.le_of_ble_eq_true rfl) dX5_wordRead_82 ⟨Nat.le_of_ble_eq_true rfl, Nat.le_of_ble_eq_true rfl, rfl, rfl⟩ ⟨Nat.le_of_ble_eq_true rfl, Nat.le_of_ble_eq_true rfl⟩) (fun r_22 h => ?_)
                try dsimp only at h
                refine lv_if_eq (tgt := 91) hx hb dX5_wordRead_85 (by decide) (fun c_24 => ?_) (fun c_24 => ?_)
                · replace h := h.1 c_24
                  refine lv_aload_n hx hb dX5_wordRead_91 rfl (lv_at hl 0 rfl) ?_
                  refine va_ldcS (q := (q (100 + 8))) (tx := "home") hx hb hown (hQ.2.2.1 ("FlapBoard$Tape", 72, "home", 8) (List.mem_of_getElem? (i := 8) rfl)) dX5_wordRead_92 ?_
                  refine vp_callSi (rd_wV (wc := tp_w a0 q s0) (As := [.ref (q (100 + 8))]) (rest := []) hx hb hml hown ht (c2_X5_isRead (by decide) h) wd_X5_isRead mw_432 hQ hV va_S.rf (hP.sub [0, 1] rfl) rfl rfl rfl hl.1 rfl (Nat.le_of_ble_eq_true rfl) dX5_wordRead_94 ⟨Nat.le_of_ble_eq_true rfl, Nat.le_of_ble_eq_true rfl, rfl, rfl⟩ ⟨Nat.le_of_ble_eq_true rfl, Nat.le_of_ble_eq_true rfl⟩) (fun r_25 h => ?_)
                  try dsimp only at h
                  refine lv_if_eq (tgt := 103) hx hb dX5_wordRead_97 (by decide) (fun c_27 => ?_) (fun c_27 => ?_)
                  · replace h := h.1 c_27
                    refine lv_aload_n hx hb dX5_wordRead_103 rfl (lv_at hl 0 rfl) ?_
                    refine va_ldcS (q := (q (100 + 9))) (tx := "wait") hx hb hown (hQ.2.2.1 ("FlapBoard$Tape", 74, "wait", 9) (List.mem_of_getElem? (i := 9) rfl)) dX5_wordRead_104 ?_
                    refine vp_callSi (rd_wV (wc := tp_w a0 q s0) (As := [.ref (q (100 + 9))]) (rest := []) hx hb hml hown ht (c2_X5_isRead (by decide) h) wd_X5_isRead mw_432 hQ hV va_S.rf (hP.sub [0, 1] rfl) rfl rfl rfl hl.1 rfl (Nat.le_of_ble_eq_true rfl) dX5_wordRead_106 ⟨Nat.le_of_ble_eq_true rfl, Nat.le_of_ble_eq_true rfl, rfl, rfl⟩ ⟨Nat.le_of_ble_eq_true rfl, Nat.le_of_ble_eq_true rfl⟩) (fun r_28 h => ?_)
                    try dsimp only at h
                    refine lv_if_eq (tgt := 115) hx hb dX5_wordRead_109 (by decide) (fun c_30 => ?_) (fun c_30 => ?_)
                    · replace h := h.1 c_30
                      refine lv_aload_n hx hb dX5_wordRead_115 rfl (lv_at hl 0 rfl) ?_
                      refine va_ldcS (q := (q (100 + 10))) (tx := "settle") hx hb hown (hQ.2.2.1 ("FlapBoard$Tape", 76, "settle", 10) (List.mem_of_getElem? (i := 10) rfl)) dX5_wordRead_116 ?_
                      refine vp_callSi (rd_wV (wc := tp_w a0 q s0) (As := [.ref (q (100 + 10))]) (rest := []) hx hb hml hown ht (c2_X5_isRead (by decide) h) wd_X5_isRead mw_432 hQ hV va_S.rf (hP.sub [0, 1] rfl) rfl rfl rfl hl.1 rfl (Nat.le_of_ble_eq_true rfl) dX5_wordRead_118 ⟨Nat.le_of_ble_eq_true rfl, Nat.le_of_ble_eq_true rfl, rfl, rfl⟩ ⟨Nat.le_of_ble_eq_true rfl, Nat.le_of_ble_eq_true rfl⟩) (fun r_31 h => ?_)
                      try dsimp only at h
                      refine lv_if_eq (tgt := 127) hx hb dX5_wordRead_121 (by decide) (fun c_33 => ?_) (fun c_33 => ?_)
                      · replace h := h.1 c_33
                        refine lv_aload_n hx hb dX5_wordRead_127 rfl (lv_at hl 0 rfl) ?_
                        refine va_ldcS (q := (q (100 + 11))) (tx := "times") hx hb hown (hQ.2.2.1 ("FlapBoard$Tape", 78, "times", 11) (List.mem_of_getElem? (i := 11) rfl)) dX5_wordRead_128 ?_
                        refine vp_callSi (rd_wV (wc := tp_w a0 q s0) (As := [.ref (q (100 + 11))]) (rest := []) hx hb hml hown ht (c2_X5_isRead (by decide) h) wd_X5_isRead mw_432 hQ hV va_S.rf (hP.sub [0, 1] rfl) rfl rfl rfl hl.1 rfl (Nat.le_of_ble_eq_true rfl) dX5_wordRead_130 ⟨Nat.le_of_ble_eq_true rfl, Nat.le_of_ble_eq_true rfl, rfl, rfl⟩ ⟨Nat.le_of_ble_eq_true rfl, Nat.le_of_ble_eq_true rfl⟩) (fun r_34 h => ?_)
                        try dsimp only at h
                        refine lv_if_eq (tgt := 139) hx hb dX5_wordRead_133 (by decide) (fun c_36 => ?_) (fun c_36 => ?_)
                        · replace h := h.1 c_36
                          refine lv_iconst (v := 0) hx hb dX5_wordRead_139 (by decide) ?_
                          exact rd_iret hx hb hr hk h dX5_wordRead_140
                        · replace h := h.2 c_36
                          refine lv_bipush (v := 12) hx hb dX5_wordRead_136 (by decide) ?_
                          exact rd_iret hx hb hr hk h dX5_wordRead_138
                      · replace h := h.2 c_33
                        refine lv_bipush (v := 11) hx hb dX5_wordRead_124 (by decide) ?_
                        exact rd_iret hx hb hr hk h dX5_wordRead_126
                    · replace h := h.2 c_30
                      refine lv_bipush (v := 10) hx hb dX5_wordRead_112 (by decide) ?_
                      exact rd_iret hx hb hr hk h dX5_wordRead_114
                  · replace h := h.2 c_27
                    refine lv_bipush (v := 9) hx hb dX5_wordRead_100 (by decide) ?_
                    exact rd_iret hx hb hr hk h dX5_wordRead_102
                · replace h := h.2 c_24
                  refine lv_bipush (v := 8) hx hb dX5_wordRead_88 (by decide) ?_
                  exact rd_iret hx hb hr hk h dX5_wordRead_90
              · replace h := h.2 c_21
                refine lv_bipush (v := 7) hx hb dX5_wordRead_76 (by decide) ?_
                exact rd_iret hx hb hr hk h dX5_wordRead_78
            · replace h := h.2 c_18
              refine lv_bipush (v := 6) hx hb dX5_wordRead_64 (by decide) ?_
              exact rd_iret hx hb hr hk h dX5_wordRead_66
          · replace h := h.2 c_15
            refine lv_iconst (v := 5) hx hb dX5_wordRead_53 (by decide) ?_
            exact rd_iret hx hb hr hk h dX5_wordRead_54
        · replace h := h.2 c_12
          refine lv_iconst (v := 4) hx hb dX5_wordRead_42 (by decide) ?_
          exact rd_iret hx hb hr hk h dX5_wordRead_43
      · replace h := h.2 c_9
        refine lv_iconst (v := 3) hx hb dX5_wordRead_31 (by decide) ?_
        exact rd_iret hx hb hr hk h dX5_wordRead_32
    · replace h := h.2 c_6
      refine lv_iconst (v := 2) hx hb dX5_wordRead_20 (by decide) ?_
      exact rd_iret hx hb hr hk h dX5_wordRead_21
  · replace h := h.2 c_3
    refine lv_iconst (v := 1) hx hb dX5_wordRead_9 (by decide) ?_
    exact rd_iret hx hb hr hk h dX5_wordRead_10

def wp_X5_takeWord_L13 (post : Int32 → Tp → Prop) (e63 : Tp → Prop) : Nat → Tp → Prop
  | 0, _ => False
  | n13 + 1, t0 => (((t0.1 0) ≤ (t0.1 1) → e63 t0) ∧ (¬ (t0.1 0) ≤ (t0.1 1) → wp_X5_byteAt (fun r_4 => ((r_4 < 97 → e63 t0) ∧ (¬ r_4 < 97 → wp_X5_byteAt (fun r_7 => ((122 < r_7 → e63 t0) ∧ (¬ 122 < r_7 → wp_X5_takeWord_L13 post e63 n13 ((va_up t0.1 1 ((t0.1 1) + 1)), t0.2)))) t0 (t0.1 1)))) t0 (t0.1 1)))
def wp_X5_takeWord (post : Int32 → Tp → Prop) (s0 : Tp) : Prop := wp_X5_peek (fun r_1 u_2 => (∃ n13, wp_X5_takeWord_L13 post (fun t0 => wp_X5_wordRead (fun r_10 => post r_10 t0) t0) n13 ((va_up u_2.1 2 (u_2.1 1)), u_2.2))) s0
set_option maxHeartbeats 4000000 in
set_option maxRecDepth 100000 in
theorem c2_X5_takeWord {l : Launch} {D : va_G} {q : Nat → ClassId} {sz : Nat} {a0 : Nat → Nat} {s0 : Tp} {post : Int32 → Tp → Prop} (h : wp_X5_takeWord post s0) : Met l yX5_takeWord (Cond.code yX5_takeWord cX5_takeWord 1 (some .int) :: w_all) ({ frames := 6, cells := 0, slots := 0, locals := 127 } : Room) (mt_P D q [.ref (a0 0)] (tp_w a0 q s0) sz) (va_Qi (fun r (u : Tp) => post r u) (mt_B D (tp_w a0 q s0) sz (fun u : Tp => tp_w a0 q u)) (va_A (tp_w a0 q s0) sz)) 0 0 (va_A (tp_w a0 q s0) sz) := by
  refine mt_start (by decide) (Nat.le_of_ble_eq_true rfl) ?_
  intro p e s m below meth c ls hx hb hr hml hown ht hk hin hP hQ hD hA hS hV hl
  have hK := hQ.1
  have hown : s.vm.findClass RX5 = some m.cls := hown
  have hl : lv_has ls 1 [(0, .ref (a0 0))] := hl
  have hP : va_P D vwCl [((a0 0), .inr (4, [.ref (a0 1), .int (s0.1 0), .int (s0.1 1), .int (s0.1 2), .int (s0.1 3), .int (s0.1 4), .int (s0.1 5)])), ((a0 1), .inl (q 0, 400, .inl s0.2))] s.heap := hP
  have hD : va_D _ [((a0 0), .inr (4, [.ref (a0 1), .int (s0.1 0), .int (s0.1 1), .int (s0.1 2), .int (s0.1 3), .int (s0.1 4), .int (s0.1 5)])), ((a0 1), .inl (q 0, 400, .inl s0.2))] := hD
  unfold wp_X5_takeWord at h
  refine lv_aload_n hx hb dX5_takeWord_0 rfl (lv_at hl 0 rfl) ?_
  refine mt_goi (mt_wV (wc := tp_w a0 q s0) (As := []) (rest := []) hx hb hml hown ht (c2_X5_peek h) wd_X5_peek mw_419 hQ hV hS hA (hP.sub [0, 1] rfl) (hD.sub [0, 1] (by decide) rfl) rfl rfl rfl hl.1 rfl (Nat.le_of_ble_eq_true rfl) dX5_takeWord_1 ⟨Nat.le_of_ble_eq_true rfl, Nat.le_of_ble_eq_true rfl, rfl, rfl⟩ ⟨Nat.le_of_ble_eq_true rfl, Nat.le_of_ble_eq_true rfl⟩) (wr := []) hP hD hS hA [0, 1] [] rfl rfl (by decide) (by decide) (fun r_1 u_2 H locs h hP hD hS => ?_)
  try dsimp only at h
  have hP : va_P D vwCl [((a0 0), .inr (4, [.ref (a0 1), .int (u_2.1 0), .int (u_2.1 1), .int (u_2.1 2), .int (u_2.1 3), .int (u_2.1 4), .int (u_2.1 5)])), ((a0 1), .inl (q 0, 400, .inl u_2.2))] H := hP
  have hD : va_D _ [((a0 0), .inr (4, [.ref (a0 1), .int (u_2.1 0), .int (u_2.1 1), .int (u_2.1 2), .int (u_2.1 3), .int (u_2.1 4), .int (u_2.1 5)])), ((a0 1), .inl (q 0, 400, .inl u_2.2))] := hD
  refine lv_pop hx hb dX5_takeWord_4 rfl ?_
  refine lv_aload_n hx hb dX5_takeWord_5 rfl (lv_at hl 0 rfl) ?_
  refine lv_aload_n hx hb dX5_takeWord_6 rfl (lv_at hl 0 rfl) ?_
  refine fl_get (C := RX5) (T := TX5) (N := 7) (ci := 4) (v := .int (u_2.1 1)) hx hb ht in_X5 hown hK hP 0 rfl rfl 2 (by decide) mw_132 rfl dX5_takeWord_7 ?_
  refine fl_put (C := RX5) (T := TX5) (N := 7) (ci := 4) (v := .int (u_2.1 1)) (ws2 := [((a0 0), .inr (4, [.ref (a0 1), .int (u_2.1 0), .int (u_2.1 1), .int (u_2.1 1), .int (u_2.1 3), .int (u_2.1 4), .int (u_2.1 5)])), ((a0 1), .inl (q 0, 400, .inl u_2.2))]) hx hb ht in_X5 tyX5_ok nmX5 hown hK hP hD hS 0 rfl rfl 3 (by decide) mw_135 rfl rfl rfl (Nat.le_of_ble_eq_true rfl) dX5_takeWord_10 rfl (fun H locs hP hD hS => ?_)
  have lp13 : ∀ (e63 : Tp → Prop) (k63 : ∀ (t0 : Tp) (H : Heap) (locs : List Loc) (ls : Array Slot), e63 t0 → va_P D vwCl (tp_w a0 q t0) H → va_D (va_A (tp_w a0 q s0) sz) (tp_w a0 q t0) → va_S (va_A (tp_w a0 q s0) sz) s.heap H locs → lv_has ls 1 [(0, .ref (a0 0))] → W p l e ({ frames := 6, cells := 0, slots := 0, locals := 127 } : Room) s m [.ref (a0 0)].toArray below meth c H locs 0 0 (MQ below (va_Qi (fun r (u : Tp) => post r u) (mt_B D (tp_w a0 q s0) sz (fun u : Tp => tp_w a0 q u)) (va_A (tp_w a0 q s0) sz)) [.ref (a0 0)].toArray s 0 0 (va_A (tp_w a0 q s0) sz)) (F0 m 63 ls [])) (n : Nat) (t0 : Tp) (H : Heap) (locs : List Loc) (ls : Array Slot), wp_X5_takeWord_L13 post e63 n t0 → va_P D vwCl (tp_w a0 q t0) H → va_D (va_A (tp_w a0 q s0) sz) (tp_w a0 q t0) → va_S (va_A (tp_w a0 q s0) sz) s.heap H locs → lv_has ls 1 [(0, .ref (a0 0))] → W p l e ({ frames := 6, cells := 0, slots := 0, locals := 127 } : Room) s m [.ref (a0 0)].toArray below meth c H locs 0 0 (MQ below (va_Qi (fun r (u : Tp) => post r u) (mt_B D (tp_w a0 q s0) sz (fun u : Tp => tp_w a0 q u)) (va_A (tp_w a0 q s0) sz)) [.ref (a0 0)].toArray s 0 0 (va_A (tp_w a0 q s0) sz)) (F0 m 13 ls []) := by
    intro e63 k63 n
    induction n with
    | zero =>
      intro t0 H locs ls h
      exact h.elim
    | succ n ih =>
      intro t0 H locs ls h hP hD hS hl
      have hP : va_P D vwCl [((a0 0), .inr (4, [.ref (a0 1), .int (t0.1 0), .int (t0.1 1), .int (t0.1 2), .int (t0.1 3), .int (t0.1 4), .int (t0.1 5)])), ((a0 1), .inl (q 0, 400, .inl t0.2))] H := hP
      have hD : va_D _ [((a0 0), .inr (4, [.ref (a0 1), .int (t0.1 0), .int (t0.1 1), .int (t0.1 2), .int (t0.1 3), .int (t0.1 4), .int (t0.1 5)])), ((a0 1), .inl (q 0, 400, .inl t0.2))] := hD
      unfold wp_X5_takeWord_L13 at h
      refine lv_aload_n hx hb dX5_takeWord_13 rfl (lv_at hl 0 rfl) ?_
      refine fl_get (C := RX5) (T := TX5) (N := 7) (ci := 4) (v := .int (t0.1 1)) hx hb ht in_X5 hown hK hP 0 rfl rfl 2 (by decide) mw_132 rfl dX5_takeWord_14 ?_
      refine lv_aload_n hx hb dX5_takeWord_17 rfl (lv_at hl 0 rfl) ?_
      refine fl_get (C := RX5) (T := TX5) (N := 7) (ci := 4) (v := .int (t0.1 0)) hx hb ht in_X5 hown hK hP 0 rfl rfl 1 (by decide) mw_130 rfl dX5_takeWord_18 ?_
      refine lv_icmp_ge (tgt := 63) hx hb dX5_takeWord_21 (by decide) (fun c_3 => ?_) (fun c_3 => ?_)
      · replace h := h.1 c_3
        exact k63 _ _ _ ls h (hP.sub (ws' := tp_w a0 q t0) [0, 1] rfl) (hD.sub (ws' := tp_w a0 q t0) [0, 1] (by decide) rfl) hS (lv_sub hl [0] rfl)
      · replace h := h.2 c_3
        refine lv_aload_n hx hb dX5_takeWord_24 rfl (lv_at hl 0 rfl) ?_
        refine lv_aload_n hx hb dX5_takeWord_25 rfl (lv_at hl 0 rfl) ?_
        refine fl_get (C := RX5) (T := TX5) (N := 7) (ci := 4) (v := .int (t0.1 1)) hx hb ht in_X5 hown hK hP 0 rfl rfl 2 (by decide) mw_132 rfl dX5_takeWord_26 ?_
        refine vp_callSi (rd_wV (wc := tp_w a0 q t0) (As := [.int (t0.1 1)]) (rest := []) hx hb hml hown ht (c2_X5_byteAt h) wd_X5_byteAt mw_423 hQ hV hS (hP.sub [0, 1] rfl) rfl rfl rfl hl.1 rfl (Nat.le_of_ble_eq_true rfl) dX5_takeWord_29 ⟨Nat.le_of_ble_eq_true rfl, Nat.le_of_ble_eq_true rfl, rfl, rfl⟩ ⟨Nat.le_of_ble_eq_true rfl, Nat.le_of_ble_eq_true rfl⟩) (fun r_4 h => ?_)
        try dsimp only at h
        refine lv_bipush (v := 97) hx hb dX5_takeWord_32 (by decide) ?_
        refine lv_icmp_lt (tgt := 63) hx hb dX5_takeWord_34 (by decide) (fun c_6 => ?_) (fun c_6 => ?_)
        · replace h := h.1 c_6
          exact k63 _ _ _ ls h (hP.sub (ws' := tp_w a0 q t0) [0, 1] rfl) (hD.sub (ws' := tp_w a0 q t0) [0, 1] (by decide) rfl) hS (lv_sub hl [0] rfl)
        · replace h := h.2 c_6
          refine lv_aload_n hx hb dX5_takeWord_37 rfl (lv_at hl 0 rfl) ?_
          refine lv_aload_n hx hb dX5_takeWord_38 rfl (lv_at hl 0 rfl) ?_
          refine fl_get (C := RX5) (T := TX5) (N := 7) (ci := 4) (v := .int (t0.1 1)) hx hb ht in_X5 hown hK hP 0 rfl rfl 2 (by decide) mw_132 rfl dX5_takeWord_39 ?_
          refine vp_callSi (rd_wV (wc := tp_w a0 q t0) (As := [.int (t0.1 1)]) (rest := []) hx hb hml hown ht (c2_X5_byteAt h) wd_X5_byteAt mw_423 hQ hV hS (hP.sub [0, 1] rfl) rfl rfl rfl hl.1 rfl (Nat.le_of_ble_eq_true rfl) dX5_takeWord_42 ⟨Nat.le_of_ble_eq_true rfl, Nat.le_of_ble_eq_true rfl, rfl, rfl⟩ ⟨Nat.le_of_ble_eq_true rfl, Nat.le_of_ble_eq_true rfl⟩) (fun r_7 h => ?_)
          try dsimp only at h
          refine lv_bipush (v := 122) hx hb dX5_takeWord_45 (by decide) ?_
          refine lv_icmp_gt (tgt := 63) hx hb dX5_takeWord_47 (by decide) (fun c_9 => ?_) (fun c_9 => ?_)
          · replace h := h.1 c_9
            exact k63 _ _ _ ls h (hP.sub (ws' := tp_w a0 q t0) [0, 1] rfl) (hD.sub (ws' := tp_w a0 q t0) [0, 1] (by decide) rfl) hS (lv_sub hl [0] rfl)
          · replace h := h.2 c_9
            refine lv_aload_n hx hb dX5_takeWord_50 rfl (lv_at hl 0 rfl) ?_
            refine lv_dup hx hb dX5_takeWord_51 rfl ?_
            refine fl_get (C := RX5) (T := TX5) (N := 7) (ci := 4) (v := .int (t0.1 1)) hx hb ht in_X5 hown hK hP 0 rfl rfl 2 (by decide) mw_132 rfl dX5_takeWord_52 ?_
            refine lv_iconst (v := 1) hx hb dX5_takeWord_55 (by decide) ?_
            refine lv_iadd hx hb dX5_takeWord_56 ?_
            refine fl_put (C := RX5) (T := TX5) (N := 7) (ci := 4) (v := .int ((t0.1 1) + 1)) (ws2 := [((a0 0), .inr (4, [.ref (a0 1), .int (t0.1 0), .int ((t0.1 1) + 1), .int (t0.1 2), .int (t0.1 3), .int (t0.1 4), .int (t0.1 5)])), ((a0 1), .inl (q 0, 400, .inl t0.2))]) hx hb ht in_X5 tyX5_ok nmX5 hown hK hP hD hS 0 rfl rfl 2 (by decide) mw_132 rfl rfl rfl (Nat.le_of_ble_eq_true rfl) dX5_takeWord_57 rfl (fun H locs hP hD hS => ?_)
            refine lv_goto (tgt := 13) hx hb dX5_takeWord_60 (by decide) ?_
            exact ih _ _ _ ls h (hP.sub (ws' := tp_w a0 q ((va_up t0.1 1 ((t0.1 1) + 1)), t0.2)) [0, 1] rfl) (hD.sub (ws' := tp_w a0 q ((va_up t0.1 1 ((t0.1 1) + 1)), t0.2)) [0, 1] (by decide) rfl) hS (lv_sub hl [0] rfl)
  obtain ⟨n13, h⟩ := h
  refine lp13 _ ?_ n13 _ _ _ ls h (hP.sub (ws' := tp_w a0 q ((va_up u_2.1 2 (u_2.1 1)), u_2.2)) [0, 1] rfl) (hD.sub (ws' := tp_w a0 q ((va_up u_2.1 2 (u_2.1 1)), u_2.2)) [0, 1] (by decide) rfl) hS (lv_sub hl [0] rfl)
  · intro t0 H locs ls h hP hD hS hl
    try dsimp only at h
    have hP : va_P D vwCl [((a0 0), .inr (4, [.ref (a0 1), .int (t0.1 0), .int (t0.1 1), .int (t0.1 2), .int (t0.1 3), .int (t0.1 4), .int (t0.1 5)])), ((a0 1), .inl (q 0, 400, .inl t0.2))] H := hP
    have hD : va_D _ [((a0 0), .inr (4, [.ref (a0 1), .int (t0.1 0), .int (t0.1 1), .int (t0.1 2), .int (t0.1 3), .int (t0.1 4), .int (t0.1 5)])), ((a0 1), .inl (q 0, 400, .inl t0.2))] := hD
    refine lv_aload_n hx hb dX5_takeWord_63 rfl (lv_at hl 0 rfl) ?_
    refine vp_callSi (rd_wV (wc := tp_w a0 q t0) (As := []) (rest := []) hx hb hml hown ht (c2_X5_wordRead h) wd_X5_wordRead mw_427 hQ hV hS (hP.sub [0, 1] rfl) rfl rfl rfl hl.1 rfl (Nat.le_of_ble_eq_true rfl) dX5_takeWord_64 ⟨Nat.le_of_ble_eq_true rfl, Nat.le_of_ble_eq_true rfl, rfl, rfl⟩ ⟨Nat.le_of_ble_eq_true rfl, Nat.le_of_ble_eq_true rfl⟩) (fun r_10 h => ?_)
    try dsimp only at h
    exact mt_iret t0 hx hb hr hk h (hP.sub (ws' := tp_w a0 q t0) [0, 1] rfl) (hD.sub (ws' := tp_w a0 q t0) [0, 1] (by decide) rfl) hS dX5_takeWord_67

def wp_X5_blame (post : Tp → Prop) (s0 : Tp) (x1 : Int32) (x2 : Int32) : Prop := ((¬ (s0.1 5) = 0 → post s0) ∧ ((s0.1 5) = 0 → post ((va_up s0.1 5 ((8 * x1) + x2)), s0.2)))
set_option maxHeartbeats 4000000 in
set_option maxRecDepth 100000 in
theorem c2_X5_blame {l : Launch} {D : va_G} {q : Nat → ClassId} {sz : Nat} {a0 : Nat → Nat} {s0 : Tp} {x1 : Int32} {x2 : Int32} {post : Tp → Prop} (h : wp_X5_blame post s0 x1 x2) : Met l yX5_blame (Cond.code yX5_blame cX5_blame 3 none :: w_all) ({ frames := 0, cells := 0, slots := 0, locals := 0 } : Room) (mt_P D q [.ref (a0 0), .int x1, .int x2] (tp_w a0 q s0) sz) (va_Qv (fun u : Tp => post u) (mt_B D (tp_w a0 q s0) sz (fun u : Tp => tp_w a0 q u)) (va_A (tp_w a0 q s0) sz)) 0 0 (va_A (tp_w a0 q s0) sz) := by
  refine mt_start (by decide) (Nat.le_of_ble_eq_true rfl) ?_
  intro p e s m below meth c ls hx hb hr hml hown ht hk hin hP hQ hD hA hS hV hl
  have hK := hQ.1
  have hown : s.vm.findClass RX5 = some m.cls := hown
  have hl : lv_has ls 3 [(0, .ref (a0 0)), (1, .int x1), (2, .int x2)] := hl
  have hP : va_P D vwCl [((a0 0), .inr (4, [.ref (a0 1), .int (s0.1 0), .int (s0.1 1), .int (s0.1 2), .int (s0.1 3), .int (s0.1 4), .int (s0.1 5)])), ((a0 1), .inl (q 0, 400, .inl s0.2))] s.heap := hP
  have hD : va_D _ [((a0 0), .inr (4, [.ref (a0 1), .int (s0.1 0), .int (s0.1 1), .int (s0.1 2), .int (s0.1 3), .int (s0.1 4), .int (s0.1 5)])), ((a0 1), .inl (q 0, 400, .inl s0.2))] := hD
  unfold wp_X5_blame at h
  refine lv_aload_n hx hb dX5_blame_0 rfl (lv_at hl 0 rfl) ?_
  refine fl_get (C := RX5) (T := TX5) (N := 7) (ci := 4) (v := .int (s0.1 5)) hx hb ht in_X5 hown hK hP 0 rfl rfl 6 (by decide) mw_143 rfl dX5_blame_1 ?_
  refine lv_if_ne (tgt := 17) hx hb dX5_blame_4 (by decide) (fun c_1 => ?_) (fun c_1 => ?_)
  · replace h := h.1 c_1
    exact mt_vret s0 hx hb hr hk h (hP.sub (ws' := tp_w a0 q s0) [0, 1] rfl) (hD.sub (ws' := tp_w a0 q s0) [0, 1] (by decide) rfl) hS dX5_blame_17
  · replace h := h.2 c_1
    refine lv_aload_n hx hb dX5_blame_7 rfl (lv_at hl 0 rfl) ?_
    refine lv_bipush (v := 8) hx hb dX5_blame_8 (by decide) ?_
    refine lv_iload_n hx hb dX5_blame_10 rfl (lv_at hl 1 rfl) ?_
    refine lv_imul hx hb dX5_blame_11 ?_
    refine lv_iload_n hx hb dX5_blame_12 rfl (lv_at hl 2 rfl) ?_
    refine lv_iadd hx hb dX5_blame_13 ?_
    refine fl_put (C := RX5) (T := TX5) (N := 7) (ci := 4) (v := .int ((8 * x1) + x2)) (ws2 := [((a0 0), .inr (4, [.ref (a0 1), .int (s0.1 0), .int (s0.1 1), .int (s0.1 2), .int (s0.1 3), .int (s0.1 4), .int ((8 * x1) + x2)])), ((a0 1), .inl (q 0, 400, .inl s0.2))]) hx hb ht in_X5 tyX5_ok nmX5 hown hK hP hD hS 0 rfl rfl 6 (by decide) mw_143 rfl rfl rfl (Nat.le_of_ble_eq_true rfl) dX5_blame_14 rfl (fun H locs hP hD hS => ?_)
    exact mt_vret ((va_up s0.1 5 ((8 * x1) + x2)), s0.2) hx hb hr hk h (hP.sub (ws' := tp_w a0 q ((va_up s0.1 5 ((8 * x1) + x2)), s0.2)) [0, 1] rfl) (hD.sub (ws' := tp_w a0 q ((va_up s0.1 5 ((8 * x1) + x2)), s0.2)) [0, 1] (by decide) rfl) hS dX5_blame_17

def wp_X5_takeThisWord (post : Tp → Prop) (s0 : Tp) (x1 : Int32) : Prop := wp_X5_takeWord (fun r_1 u_2 => ((r_1 = x1 → post u_2) ∧ (¬ r_1 = x1 → wp_X5_blame (fun u_5 => post u_5) u_2 (u_2.1 2) (1 : Int32)))) s0
set_option maxHeartbeats 4000000 in
set_option maxRecDepth 100000 in
theorem c2_X5_takeThisWord {l : Launch} {D : va_G} {q : Nat → ClassId} {sz : Nat} {a0 : Nat → Nat} {s0 : Tp} {x1 : Int32} {post : Tp → Prop} (h : wp_X5_takeThisWord post s0 x1) : Met l yX5_takeThisWord (Cond.code yX5_takeThisWord cX5_takeThisWord 2 none :: w_all) ({ frames := 7, cells := 0, slots := 0, locals := 147 } : Room) (mt_P D q [.ref (a0 0), .int x1] (tp_w a0 q s0) sz) (va_Qv (fun u : Tp => post u) (mt_B D (tp_w a0 q s0) sz (fun u : Tp => tp_w a0 q u)) (va_A (tp_w a0 q s0) sz)) 0 0 (va_A (tp_w a0 q s0) sz) := by
  refine mt_start (by decide) (Nat.le_of_ble_eq_true rfl) ?_
  intro p e s m below meth c ls hx hb hr hml hown ht hk hin hP hQ hD hA hS hV hl
  have hK := hQ.1
  have hown : s.vm.findClass RX5 = some m.cls := hown
  have hl : lv_has ls 2 [(0, .ref (a0 0)), (1, .int x1)] := hl
  have hP : va_P D vwCl [((a0 0), .inr (4, [.ref (a0 1), .int (s0.1 0), .int (s0.1 1), .int (s0.1 2), .int (s0.1 3), .int (s0.1 4), .int (s0.1 5)])), ((a0 1), .inl (q 0, 400, .inl s0.2))] s.heap := hP
  have hD : va_D _ [((a0 0), .inr (4, [.ref (a0 1), .int (s0.1 0), .int (s0.1 1), .int (s0.1 2), .int (s0.1 3), .int (s0.1 4), .int (s0.1 5)])), ((a0 1), .inl (q 0, 400, .inl s0.2))] := hD
  unfold wp_X5_takeThisWord at h
  refine lv_aload_n hx hb dX5_takeThisWord_0 rfl (lv_at hl 0 rfl) ?_
  refine mt_goi (mt_wV (wc := tp_w a0 q s0) (As := []) (rest := []) hx hb hml hown ht (c2_X5_takeWord h) wd_X5_takeWord mw_415 hQ hV hS hA (hP.sub [0, 1] rfl) (hD.sub [0, 1] (by decide) rfl) rfl rfl rfl hl.1 rfl (Nat.le_of_ble_eq_true rfl) dX5_takeThisWord_1 ⟨Nat.le_of_ble_eq_true rfl, Nat.le_of_ble_eq_true rfl, rfl, rfl⟩ ⟨Nat.le_of_ble_eq_true rfl, Nat.le_of_ble_eq_true rfl⟩) (wr := []) hP hD hS hA [0, 1] [] rfl rfl (by decide) (by decide) (fun r_1 u_2 H locs h hP hD hS => ?_)
  try dsimp only at h
  have hP : va_P D vwCl [((a0 0), .inr (4, [.ref (a0 1), .int (u_2.1 0), .int (u_2.1 1), .int (u_2.1 2), .int (u_2.1 3), .int (u_2.1 4), .int (u_2.1 5)])), ((a0 1), .inl (q 0, 400, .inl u_2.2))] H := hP
  have hD : va_D _ [((a0 0), .inr (4, [.ref (a0 1), .int (u_2.1 0), .int (u_2.1 1), .int (u_2.1 2), .int (u_2.1 3), .int (u_2.1 4), .int (u_2.1 5)])), ((a0 1), .inl (q 0, 400, .inl u_2.2))] := hD
  refine lv_iload_n hx hb dX5_takeThisWord_4 rfl (lv_at hl 1 rfl) ?_
  refine lv_icmp_eq (tgt := 17) hx hb dX5_takeThisWord_5 (by decide) (fun c_3 => ?_) (fun c_3 => ?_)
  · replace h := h.1 c_3
    exact mt_vret u_2 hx hb hr hk h (hP.sub (ws' := tp_w a0 q u_2) [0, 1] rfl) (hD.sub (ws' := tp_w a0 q u_2) [0, 1] (by decide) rfl) hS dX5_takeThisWord_17
  · replace h := h.2 c_3
    refine lv_aload_n hx hb dX5_takeThisWord_8 rfl (lv_at hl 0 rfl) ?_
    refine lv_aload_n hx hb dX5_takeThisWord_9 rfl (lv_at hl 0 rfl) ?_
    refine fl_get (C := RX5) (T := TX5) (N := 7) (ci := 4) (v := .int (u_2.1 2)) hx hb ht in_X5 hown hK hP 0 rfl rfl 3 (by decide) mw_135 rfl dX5_takeThisWord_10 ?_
    refine lv_iconst (v := 1) hx hb dX5_takeThisWord_13 (by decide) ?_
    refine mt_gov (mt_wV (wc := tp_w a0 q u_2) (As := [.int (u_2.1 2), .int 1]) (rest := []) hx hb hml hown ht (c2_X5_blame h) wd_X5_blame mw_495 hQ hV hS hA (hP.sub [0, 1] rfl) (hD.sub [0, 1] (by decide) rfl) rfl rfl rfl hl.1 rfl (Nat.le_of_ble_eq_true rfl) dX5_takeThisWord_14 ⟨Nat.le_of_ble_eq_true rfl, Nat.le_of_ble_eq_true rfl, rfl, rfl⟩ ⟨Nat.le_of_ble_eq_true rfl, Nat.le_of_ble_eq_true rfl⟩) (wr := []) hP hD hS hA [0, 1] [] rfl rfl (by decide) (by decide) (fun u_5 H locs h hP hD hS => ?_)
    try dsimp only at h
    have hP : va_P D vwCl [((a0 0), .inr (4, [.ref (a0 1), .int (u_5.1 0), .int (u_5.1 1), .int (u_5.1 2), .int (u_5.1 3), .int (u_5.1 4), .int (u_5.1 5)])), ((a0 1), .inl (q 0, 400, .inl u_5.2))] H := hP
    have hD : va_D _ [((a0 0), .inr (4, [.ref (a0 1), .int (u_5.1 0), .int (u_5.1 1), .int (u_5.1 2), .int (u_5.1 3), .int (u_5.1 4), .int (u_5.1 5)])), ((a0 1), .inl (q 0, 400, .inl u_5.2))] := hD
    exact mt_vret u_5 hx hb hr hk h (hP.sub (ws' := tp_w a0 q u_5) [0, 1] rfl) (hD.sub (ws' := tp_w a0 q u_5) [0, 1] (by decide) rfl) hS dX5_takeThisWord_17

def wp_X5_takeNumber_L15 (post : Int32 → Tp → Prop) (e88 : Tp → Int32 → Int32 → Int32 → Prop) : Nat → Tp → Int32 → Int32 → Int32 → Prop
  | 0, _, _, _, _ => False
  | n15 + 1, t0, z1, z2, z3 => (((t0.1 0) ≤ (t0.1 1) → e88 t0 z1 z2 z3) ∧ (¬ (t0.1 0) ≤ (t0.1 1) → wp_X5_byteAt (fun r_4 => ((r_4 < 48 → e88 t0 z1 z2 z3) ∧ (¬ r_4 < 48 → wp_X5_byteAt (fun r_7 => ((57 < r_7 → e88 t0 z1 z2 z3) ∧ (¬ 57 < r_7 → wp_X5_byteAt (fun r_10 => wp_X5_takeNumber_L15 post e88 n15 ((va_up t0.1 1 ((t0.1 1) + 1)), t0.2) z1 z2 (if (((z3 * 10) + r_10) - 48) < (1000 : Int32) then (((z3 * 10) + r_10) - 48) else (1000 : Int32))) t0 (t0.1 1)))) t0 (t0.1 1)))) t0 (t0.1 1)))
def wp_X5_takeNumber (post : Int32 → Tp → Prop) (s0 : Tp) (x1 : Int32) (x2 : Int32) : Prop := wp_X5_peek (fun r_1 u_2 => (∃ n15, wp_X5_takeNumber_L15 post (fun t0 z1 z2 z3 => ((¬ (t0.1 1) = (t0.1 2) → ((z3 < z1 → wp_X5_blame (fun u_15 => post z1 u_15) t0 (t0.1 2) (2 : Int32)) ∧ (¬ z3 < z1 → ((z3 ≤ z2 → post z3 t0) ∧ (¬ z3 ≤ z2 → wp_X5_blame (fun u_18 => post z1 u_18) t0 (t0.1 2) (2 : Int32)))))) ∧ ((t0.1 1) = (t0.1 2) → wp_X5_blame (fun u_20 => post z1 u_20) t0 (t0.1 1) (1 : Int32)))) n15 ((va_up u_2.1 2 (u_2.1 1)), u_2.2) x1 x2 0)) s0
set_option maxHeartbeats 4000000 in
set_option maxRecDepth 100000 in
theorem c2_X5_takeNumber {l : Launch} {D : va_G} {q : Nat → ClassId} {sz : Nat} {a0 : Nat → Nat} {s0 : Tp} {x1 : Int32} {x2 : Int32} {post : Int32 → Tp → Prop} (h : wp_X5_takeNumber post s0 x1 x2) : Met l yX5_takeNumber (Cond.code yX5_takeNumber cX5_takeNumber 4 (some .int) :: w_all) ({ frames := 1, cells := 0, slots := 0, locals := 40 } : Room) (mt_P D q [.ref (a0 0), .int x1, .int x2] (tp_w a0 q s0) sz) (va_Qi (fun r (u : Tp) => post r u) (mt_B D (tp_w a0 q s0) sz (fun u : Tp => tp_w a0 q u)) (va_A (tp_w a0 q s0) sz)) 0 0 (va_A (tp_w a0 q s0) sz) := by
  refine mt_start (by decide) (Nat.le_of_ble_eq_true rfl) ?_
  intro p e s m below meth c ls hx hb hr hml hown ht hk hin hP hQ hD hA hS hV hl
  have hK := hQ.1
  have hown : s.vm.findClass RX5 = some m.cls := hown
  have hl : lv_has ls 4 [(0, .ref (a0 0)), (1, .int x1), (2, .int x2)] := hl
  have hP : va_P D vwCl [((a0 0), .inr (4, [.ref (a0 1), .int (s0.1 0), .int (s0.1 1), .int (s0.1 2), .int (s0.1 3), .int (s0.1 4), .int (s0.1 5)])), ((a0 1), .inl (q 0, 400, .inl s0.2))] s.heap := hP
  have hD : va_D _ [((a0 0), .inr (4, [.ref (a0 1), .int (s0.1 0), .int (s0.1 1), .int (s0.1 2), .int (s0.1 3), .int (s0.1 4), .int (s0.1 5)])), ((a0 1), .inl (q 0, 400, .inl s0.2))] := hD
  unfold wp_X5_takeNumber at h
  refine lv_aload_n hx hb dX5_takeNumber_0 rfl (lv_at hl 0 rfl) ?_
  refine mt_goi (mt_wV (wc := tp_w a0 q s0) (As := []) (rest := []) hx hb hml hown ht (c2_X5_peek h) wd_X5_peek mw_419 hQ hV hS hA (hP.sub [0, 1] rfl) (hD.sub [0, 1] (by decide) rfl) rfl rfl rfl hl.1 rfl (Nat.le_of_ble_eq_true rfl) dX5_takeNumber_1 ⟨Nat.le_of_ble_eq_true rfl, Nat.le_of_ble_eq_true rfl, rfl, rfl⟩ ⟨Nat.le_of_ble_eq_true rfl, Nat.le_of_ble_eq_true rfl⟩) (wr := []) hP hD hS hA [0, 1] [] rfl rfl (by decide) (by decide) (fun r_1 u_2 H locs h hP hD hS => ?_)
  try dsimp only at h
  have hP : va_P D vwCl [((a0 0), .inr (4, [.ref (a0 1), .int (u_2.1 0), .int (u_2.1 1), .int (u_2.1 2), .int (u_2.1 3), .int (u_2.1 4), .int (u_2.1 5)])), ((a0 1), .inl (q 0, 400, .inl u_2.2))] H := hP
  have hD : va_D _ [((a0 0), .inr (4, [.ref (a0 1), .int (u_2.1 0), .int (u_2.1 1), .int (u_2.1 2), .int (u_2.1 3), .int (u_2.1 4), .int (u_2.1 5)])), ((a0 1), .inl (q 0, 400, .inl u_2.2))] := hD
  refine lv_pop hx hb dX5_takeNumber_4 rfl ?_
  refine lv_aload_n hx hb dX5_takeNumber_5 rfl (lv_at hl 0 rfl) ?_
  refine lv_aload_n hx hb dX5_takeNumber_6 rfl (lv_at hl 0 rfl) ?_
  refine fl_get (C := RX5) (T := TX5) (N := 7) (ci := 4) (v := .int (u_2.1 1)) hx hb ht in_X5 hown hK hP 0 rfl rfl 2 (by decide) mw_132 rfl dX5_takeNumber_7 ?_
  refine fl_put (C := RX5) (T := TX5) (N := 7) (ci := 4) (v := .int (u_2.1 1)) (ws2 := [((a0 0), .inr (4, [.ref (a0 1), .int (u_2.1 0), .int (u_2.1 1), .int (u_2.1 1), .int (u_2.1 3), .int (u_2.1 4), .int (u_2.1 5)])), ((a0 1), .inl (q 0, 400, .inl u_2.2))]) hx hb ht in_X5 tyX5_ok nmX5 hown hK hP hD hS 0 rfl rfl 3 (by decide) mw_135 rfl rfl rfl (Nat.le_of_ble_eq_true rfl) dX5_takeNumber_10 rfl (fun H locs hP hD hS => ?_)
  refine lv_iconst (v := 0) hx hb dX5_takeNumber_13 (by decide) ?_
  refine lv_istore_n (lv' := [(3, .int 0), (0, .ref (a0 0)), (1, .int x1), (2, .int x2)]) hx hb dX5_takeNumber_14 rfl hl (by decide) rfl (fun ls hl => ?_)
  have lp15 : ∀ (e88 : Tp → Int32 → Int32 → Int32 → Prop) (k88 : ∀ (t0 : Tp) (z1 : Int32) (z2 : Int32) (z3 : Int32) (H : Heap) (locs : List Loc) (ls : Array Slot), e88 t0 z1 z2 z3 → va_P D vwCl (tp_w a0 q t0) H → va_D (va_A (tp_w a0 q s0) sz) (tp_w a0 q t0) → va_S (va_A (tp_w a0 q s0) sz) s.heap H locs → lv_has ls 4 [(1, .int z1), (2, .int z2), (3, .int z3), (0, .ref (a0 0))] → W p l e ({ frames := 1, cells := 0, slots := 0, locals := 40 } : Room) s m [.ref (a0 0), .int x1, .int x2].toArray below meth c H locs 0 0 (MQ below (va_Qi (fun r (u : Tp) => post r u) (mt_B D (tp_w a0 q s0) sz (fun u : Tp => tp_w a0 q u)) (va_A (tp_w a0 q s0) sz)) [.ref (a0 0), .int x1, .int x2].toArray s 0 0 (va_A (tp_w a0 q s0) sz)) (F0 m 88 ls [])) (n : Nat) (t0 : Tp) (z1 : Int32) (z2 : Int32) (z3 : Int32) (H : Heap) (locs : List Loc) (ls : Array Slot), wp_X5_takeNumber_L15 post e88 n t0 z1 z2 z3 → va_P D vwCl (tp_w a0 q t0) H → va_D (va_A (tp_w a0 q s0) sz) (tp_w a0 q t0) → va_S (va_A (tp_w a0 q s0) sz) s.heap H locs → lv_has ls 4 [(1, .int z1), (2, .int z2), (3, .int z3), (0, .ref (a0 0))] → W p l e ({ frames := 1, cells := 0, slots := 0, locals := 40 } : Room) s m [.ref (a0 0), .int x1, .int x2].toArray below meth c H locs 0 0 (MQ below (va_Qi (fun r (u : Tp) => post r u) (mt_B D (tp_w a0 q s0) sz (fun u : Tp => tp_w a0 q u)) (va_A (tp_w a0 q s0) sz)) [.ref (a0 0), .int x1, .int x2].toArray s 0 0 (va_A (tp_w a0 q s0) sz)) (F0 m 15 ls []) := by
    intro e88 k88 n
    induction n with
    | zero =>
      intro t0 z1 z2 z3 H locs ls h
      exact h.elim
    | succ n ih =>
      intro t0 z1 z2 z3 H locs ls h hP hD hS hl
      have hP : va_P D vwCl [((a0 0), .inr (4, [.ref (a0 1), .int (t0.1 0), .int (t0.1 1), .int (t0.1 2), .int (t0.1 3), .int (t0.1 4), .int (t0.1 5)])), ((a0 1), .inl (q 0, 400, .inl t0.2))] H := hP
      have hD : va_D _ [((a0 0), .inr (4, [.ref (a0 1), .int (t0.1 0), .int (t0.1 1), .int (t0.1 2), .int (t0.1 3), .int (t0.1 4), .int (t0.1 5)])), ((a0 1), .inl (q 0, 400, .inl t0.2))] := hD
      unfold wp_X5_takeNumber_L15 at h
      refine lv_aload_n hx hb dX5_takeNumber_15 rfl (lv_at hl 3 rfl) ?_
      refine fl_get (C := RX5) (T := TX5) (N := 7) (ci := 4) (v := .int (t0.1 1)) hx hb ht in_X5 hown hK hP 0 rfl rfl 2 (by decide) mw_132 rfl dX5_takeNumber_16 ?_
      refine lv_aload_n hx hb dX5_takeNumber_19 rfl (lv_at hl 3 rfl) ?_
      refine fl_get (C := RX5) (T := TX5) (N := 7) (ci := 4) (v := .int (t0.1 0)) hx hb ht in_X5 hown hK hP 0 rfl rfl 1 (by decide) mw_130 rfl dX5_takeNumber_20 ?_
      refine lv_icmp_ge (tgt := 88) hx hb dX5_takeNumber_23 (by decide) (fun c_3 => ?_) (fun c_3 => ?_)
      · replace h := h.1 c_3
        exact k88 _ _ _ _ _ _ ls h (hP.sub (ws' := tp_w a0 q t0) [0, 1] rfl) (hD.sub (ws' := tp_w a0 q t0) [0, 1] (by decide) rfl) hS (lv_sub hl [0, 1, 2, 3] rfl)
      · replace h := h.2 c_3
        refine lv_aload_n hx hb dX5_takeNumber_26 rfl (lv_at hl 3 rfl) ?_
        refine lv_aload_n hx hb dX5_takeNumber_27 rfl (lv_at hl 3 rfl) ?_
        refine fl_get (C := RX5) (T := TX5) (N := 7) (ci := 4) (v := .int (t0.1 1)) hx hb ht in_X5 hown hK hP 0 rfl rfl 2 (by decide) mw_132 rfl dX5_takeNumber_28 ?_
        refine vp_callSi (rd_wV (wc := tp_w a0 q t0) (As := [.int (t0.1 1)]) (rest := []) hx hb hml hown ht (c2_X5_byteAt h) wd_X5_byteAt mw_423 hQ hV hS (hP.sub [0, 1] rfl) rfl rfl rfl hl.1 rfl (Nat.le_of_ble_eq_true rfl) dX5_takeNumber_31 ⟨Nat.le_of_ble_eq_true rfl, Nat.le_of_ble_eq_true rfl, rfl, rfl⟩ ⟨Nat.le_of_ble_eq_true rfl, Nat.le_of_ble_eq_true rfl⟩) (fun r_4 h => ?_)
        try dsimp only at h
        refine lv_bipush (v := 48) hx hb dX5_takeNumber_34 (by decide) ?_
        refine lv_icmp_lt (tgt := 88) hx hb dX5_takeNumber_36 (by decide) (fun c_6 => ?_) (fun c_6 => ?_)
        · replace h := h.1 c_6
          exact k88 _ _ _ _ _ _ ls h (hP.sub (ws' := tp_w a0 q t0) [0, 1] rfl) (hD.sub (ws' := tp_w a0 q t0) [0, 1] (by decide) rfl) hS (lv_sub hl [0, 1, 2, 3] rfl)
        · replace h := h.2 c_6
          refine lv_aload_n hx hb dX5_takeNumber_39 rfl (lv_at hl 3 rfl) ?_
          refine lv_aload_n hx hb dX5_takeNumber_40 rfl (lv_at hl 3 rfl) ?_
          refine fl_get (C := RX5) (T := TX5) (N := 7) (ci := 4) (v := .int (t0.1 1)) hx hb ht in_X5 hown hK hP 0 rfl rfl 2 (by decide) mw_132 rfl dX5_takeNumber_41 ?_
          refine vp_callSi (rd_wV (wc := tp_w a0 q t0) (As := [.int (t0.1 1)]) (rest := []) hx hb hml hown ht (c2_X5_byteAt h) wd_X5_byteAt mw_423 hQ hV hS (hP.sub [0, 1] rfl) rfl rfl rfl hl.1 rfl (Nat.le_of_ble_eq_true rfl) dX5_takeNumber_44 ⟨Nat.le_of_ble_eq_true rfl, Nat.le_of_ble_eq_true rfl, rfl, rfl⟩ ⟨Nat.le_of_ble_eq_true rfl, Nat.le_of_ble_eq_true rfl⟩) (fun r_7 h => ?_)
          try dsimp only at h
          refine lv_bipush (v := 57) hx hb dX5_takeNumber_47 (by decide) ?_
          refine lv_icmp_gt (tgt := 88) hx hb dX5_takeNumber_49 (by decide) (fun c_9 => ?_) (fun c_9 => ?_)
          · replace h := h.1 c_9
            exact k88 _ _ _ _ _ _ ls h (hP.sub (ws' := tp_w a0 q t0) [0, 1] rfl) (hD.sub (ws' := tp_w a0 q t0) [0, 1] (by decide) rfl) hS (lv_sub hl [0, 1, 2, 3] rfl)
          · replace h := h.2 c_9
            refine lv_sipush (v := 1000) hx hb dX5_takeNumber_52 (by decide) ?_
            refine lv_iload_n hx hb dX5_takeNumber_55 rfl (lv_at hl 2 rfl) ?_
            refine lv_bipush (v := 10) hx hb dX5_takeNumber_56 (by decide) ?_
            refine lv_imul hx hb dX5_takeNumber_58 ?_
            refine lv_aload_n hx hb dX5_takeNumber_59 rfl (lv_at hl 3 rfl) ?_
            refine lv_aload_n hx hb dX5_takeNumber_60 rfl (lv_at hl 3 rfl) ?_
            refine fl_get (C := RX5) (T := TX5) (N := 7) (ci := 4) (v := .int (t0.1 1)) hx hb ht in_X5 hown hK hP 0 rfl rfl 2 (by decide) mw_132 rfl dX5_takeNumber_61 ?_
            refine vp_callSi (rd_wV (wc := tp_w a0 q t0) (As := [.int (t0.1 1)]) (rest := [.int (z3 * 10), .int 1000]) hx hb hml hown ht (c2_X5_byteAt h) wd_X5_byteAt mw_423 hQ hV hS (hP.sub [0, 1] rfl) rfl rfl rfl hl.1 rfl (Nat.le_of_ble_eq_true rfl) dX5_takeNumber_64 ⟨Nat.le_of_ble_eq_true rfl, Nat.le_of_ble_eq_true rfl, rfl, rfl⟩ ⟨Nat.le_of_ble_eq_true rfl, Nat.le_of_ble_eq_true rfl⟩) (fun r_10 h => ?_)
            try dsimp only at h
            refine lv_iadd hx hb dX5_takeNumber_67 ?_
            refine lv_bipush (v := 48) hx hb dX5_takeNumber_68 (by decide) ?_
            refine lv_isub hx hb dX5_takeNumber_70 ?_
            refine va_mmin hx hb (hml.trans hl.1.symm) hown (ht _ mw_503) (ht _ mw_504) (ht _ mw_110) (ht _ mw_505) (Nat.le_of_ble_eq_true rfl) (Nat.le_of_ble_eq_true rfl) (Nat.le_of_ble_eq_true rfl) (Nat.le_of_ble_eq_true rfl) dX5_takeNumber_71 ?_
            refine lv_istore_n (lv' := [(3, .int (if (((z3 * 10) + r_10) - 48) < (1000 : Int32) then (((z3 * 10) + r_10) - 48) else (1000 : Int32))), (1, .int z1), (2, .int z2), (0, .ref (a0 0))]) hx hb dX5_takeNumber_74 rfl hl (by decide) rfl (fun ls hl => ?_)
            refine lv_aload_n hx hb dX5_takeNumber_75 rfl (lv_at hl 3 rfl) ?_
            refine lv_dup hx hb dX5_takeNumber_76 rfl ?_
            refine fl_get (C := RX5) (T := TX5) (N := 7) (ci := 4) (v := .int (t0.1 1)) hx hb ht in_X5 hown hK hP 0 rfl rfl 2 (by decide) mw_132 rfl dX5_takeNumber_77 ?_
            refine lv_iconst (v := 1) hx hb dX5_takeNumber_80 (by decide) ?_
            refine lv_iadd hx hb dX5_takeNumber_81 ?_
            refine fl_put (C := RX5) (T := TX5) (N := 7) (ci := 4) (v := .int ((t0.1 1) + 1)) (ws2 := [((a0 0), .inr (4, [.ref (a0 1), .int (t0.1 0), .int ((t0.1 1) + 1), .int (t0.1 2), .int (t0.1 3), .int (t0.1 4), .int (t0.1 5)])), ((a0 1), .inl (q 0, 400, .inl t0.2))]) hx hb ht in_X5 tyX5_ok nmX5 hown hK hP hD hS 0 rfl rfl 2 (by decide) mw_132 rfl rfl rfl (Nat.le_of_ble_eq_true rfl) dX5_takeNumber_82 rfl (fun H locs hP hD hS => ?_)
            refine lv_goto (tgt := 15) hx hb dX5_takeNumber_85 (by decide) ?_
            exact ih _ _ _ _ _ _ ls h (hP.sub (ws' := tp_w a0 q ((va_up t0.1 1 ((t0.1 1) + 1)), t0.2)) [0, 1] rfl) (hD.sub (ws' := tp_w a0 q ((va_up t0.1 1 ((t0.1 1) + 1)), t0.2)) [0, 1] (by decide) rfl) hS (lv_sub hl [1, 2, 0, 3] rfl)
  obtain ⟨n15, h⟩ := h
  refine lp15 _ ?_ n15 _ _ _ _ _ _ ls h (hP.sub (ws' := tp_w a0 q ((va_up u_2.1 2 (u_2.1 1)), u_2.2)) [0, 1] rfl) (hD.sub (ws' := tp_w a0 q ((va_up u_2.1 2 (u_2.1 1)), u_2.2)) [0, 1] (by decide) rfl) hS (lv_sub hl [2, 3, 0, 1] rfl)
  · intro t0 z1 z2 z3 H locs ls h hP hD hS hl
    try dsimp only at h
    have hP : va_P D vwCl [((a0 0), .inr (4, [.ref (a0 1), .int (t0.1 0), .int (t0.1 1), .int (t0.1 2), .int (t0.1 3), .int (t0.1 4), .int (t0.1 5)])), ((a0 1), .inl (q 0, 400, .inl t0.2))] H := hP
    have hD : va_D _ [((a0 0), .inr (4, [.ref (a0 1), .int (t0.1 0), .int (t0.1 1), .int (t0.1 2), .int (t0.1 3), .int (t0.1 4), .int (t0.1 5)])), ((a0 1), .inl (q 0, 400, .inl t0.2))] := hD
    refine lv_aload_n hx hb dX5_takeNumber_88 rfl (lv_at hl 3 rfl) ?_
    refine fl_get (C := RX5) (T := TX5) (N := 7) (ci := 4) (v := .int (t0.1 1)) hx hb ht in_X5 hown hK hP 0 rfl rfl 2 (by decide) mw_132 rfl dX5_takeNumber_89 ?_
    refine lv_aload_n hx hb dX5_takeNumber_92 rfl (lv_at hl 3 rfl) ?_
    refine fl_get (C := RX5) (T := TX5) (N := 7) (ci := 4) (v := .int (t0.1 2)) hx hb ht in_X5 hown hK hP 0 rfl rfl 3 (by decide) mw_135 rfl dX5_takeNumber_93 ?_
    refine lv_icmp_ne (tgt := 110) hx hb dX5_takeNumber_96 (by decide) (fun c_12 => ?_) (fun c_12 => ?_)
    · replace h := h.1 c_12
      refine lv_iload_n hx hb dX5_takeNumber_110 rfl (lv_at hl 2 rfl) ?_
      refine lv_iload_n hx hb dX5_takeNumber_111 rfl (lv_at hl 0 rfl) ?_
      refine lv_icmp_lt (tgt := 120) hx hb dX5_takeNumber_112 (by decide) (fun c_13 => ?_) (fun c_13 => ?_)
      · replace h := h.1 c_13
        refine lv_aload_n hx hb dX5_takeNumber_120 rfl (lv_at hl 3 rfl) ?_
        refine lv_aload_n hx hb dX5_takeNumber_121 rfl (lv_at hl 3 rfl) ?_
        refine fl_get (C := RX5) (T := TX5) (N := 7) (ci := 4) (v := .int (t0.1 2)) hx hb ht in_X5 hown hK hP 0 rfl rfl 3 (by decide) mw_135 rfl dX5_takeNumber_122 ?_
        refine lv_iconst (v := 2) hx hb dX5_takeNumber_125 (by decide) ?_
        refine mt_gov (mt_wV (wc := tp_w a0 q t0) (As := [.int (t0.1 2), .int 2]) (rest := []) hx hb hml hown ht (c2_X5_blame h) wd_X5_blame mw_495 hQ hV hS hA (hP.sub [0, 1] rfl) (hD.sub [0, 1] (by decide) rfl) rfl rfl rfl hl.1 rfl (Nat.le_of_ble_eq_true rfl) dX5_takeNumber_126 ⟨Nat.le_of_ble_eq_true rfl, Nat.le_of_ble_eq_true rfl, rfl, rfl⟩ ⟨Nat.le_of_ble_eq_true rfl, Nat.le_of_ble_eq_true rfl⟩) (wr := []) hP hD hS hA [0, 1] [] rfl rfl (by decide) (by decide) (fun u_15 H locs h hP hD hS => ?_)
        try dsimp only at h
        have hP : va_P D vwCl [((a0 0), .inr (4, [.ref (a0 1), .int (u_15.1 0), .int (u_15.1 1), .int (u_15.1 2), .int (u_15.1 3), .int (u_15.1 4), .int (u_15.1 5)])), ((a0 1), .inl (q 0, 400, .inl u_15.2))] H := hP
        have hD : va_D _ [((a0 0), .inr (4, [.ref (a0 1), .int (u_15.1 0), .int (u_15.1 1), .int (u_15.1 2), .int (u_15.1 3), .int (u_15.1 4), .int (u_15.1 5)])), ((a0 1), .inl (q 0, 400, .inl u_15.2))] := hD
        refine lv_iload_n hx hb dX5_takeNumber_129 rfl (lv_at hl 0 rfl) ?_
        exact mt_iret u_15 hx hb hr hk h (hP.sub (ws' := tp_w a0 q u_15) [0, 1] rfl) (hD.sub (ws' := tp_w a0 q u_15) [0, 1] (by decide) rfl) hS dX5_takeNumber_130
      · replace h := h.2 c_13
        refine lv_iload_n hx hb dX5_takeNumber_115 rfl (lv_at hl 2 rfl) ?_
        refine lv_iload_n hx hb dX5_takeNumber_116 rfl (lv_at hl 1 rfl) ?_
        refine lv_icmp_le (tgt := 131) hx hb dX5_takeNumber_117 (by decide) (fun c_16 => ?_) (fun c_16 => ?_)
        · replace h := h.1 c_16
          refine lv_iload_n hx hb dX5_takeNumber_131 rfl (lv_at hl 2 rfl) ?_
          exact mt_iret t0 hx hb hr hk h (hP.sub (ws' := tp_w a0 q t0) [0, 1] rfl) (hD.sub (ws' := tp_w a0 q t0) [0, 1] (by decide) rfl) hS dX5_takeNumber_132
        · replace h := h.2 c_16
          refine lv_aload_n hx hb dX5_takeNumber_120 rfl (lv_at hl 3 rfl) ?_
          refine lv_aload_n hx hb dX5_takeNumber_121 rfl (lv_at hl 3 rfl) ?_
          refine fl_get (C := RX5) (T := TX5) (N := 7) (ci := 4) (v := .int (t0.1 2)) hx hb ht in_X5 hown hK hP 0 rfl rfl 3 (by decide) mw_135 rfl dX5_takeNumber_122 ?_
          refine lv_iconst (v := 2) hx hb dX5_takeNumber_125 (by decide) ?_
          refine mt_gov (mt_wV (wc := tp_w a0 q t0) (As := [.int (t0.1 2), .int 2]) (rest := []) hx hb hml hown ht (c2_X5_blame h) wd_X5_blame mw_495 hQ hV hS hA (hP.sub [0, 1] rfl) (hD.sub [0, 1] (by decide) rfl) rfl rfl rfl hl.1 rfl (Nat.le_of_ble_eq_true rfl) dX5_takeNumber_126 ⟨Nat.le_of_ble_eq_true rfl, Nat.le_of_ble_eq_true rfl, rfl, rfl⟩ ⟨Nat.le_of_ble_eq_true rfl, Nat.le_of_ble_eq_true rfl⟩) (wr := []) hP hD hS hA [0, 1] [] rfl rfl (by decide) (by decide) (fun u_18 H locs h hP hD hS => ?_)
          try dsimp only at h
          have hP : va_P D vwCl [((a0 0), .inr (4, [.ref (a0 1), .int (u_18.1 0), .int (u_18.1 1), .int (u_18.1 2), .int (u_18.1 3), .int (u_18.1 4), .int (u_18.1 5)])), ((a0 1), .inl (q 0, 400, .inl u_18.2))] H := hP
          have hD : va_D _ [((a0 0), .inr (4, [.ref (a0 1), .int (u_18.1 0), .int (u_18.1 1), .int (u_18.1 2), .int (u_18.1 3), .int (u_18.1 4), .int (u_18.1 5)])), ((a0 1), .inl (q 0, 400, .inl u_18.2))] := hD
          refine lv_iload_n hx hb dX5_takeNumber_129 rfl (lv_at hl 0 rfl) ?_
          exact mt_iret u_18 hx hb hr hk h (hP.sub (ws' := tp_w a0 q u_18) [0, 1] rfl) (hD.sub (ws' := tp_w a0 q u_18) [0, 1] (by decide) rfl) hS dX5_takeNumber_130
    · replace h := h.2 c_12
      refine lv_aload_n hx hb dX5_takeNumber_99 rfl (lv_at hl 3 rfl) ?_
      refine lv_aload_n hx hb dX5_takeNumber_100 rfl (lv_at hl 3 rfl) ?_
      refine fl_get (C := RX5) (T := TX5) (N := 7) (ci := 4) (v := .int (t0.1 1)) hx hb ht in_X5 hown hK hP 0 rfl rfl 2 (by decide) mw_132 rfl dX5_takeNumber_101 ?_
      refine lv_iconst (v := 1) hx hb dX5_takeNumber_104 (by decide) ?_
      refine mt_gov (mt_wV (wc := tp_w a0 q t0) (As := [.int (t0.1 1), .int 1]) (rest := []) hx hb hml hown ht (c2_X5_blame h) wd_X5_blame mw_495 hQ hV hS hA (hP.sub [0, 1] rfl) (hD.sub [0, 1] (by decide) rfl) rfl rfl rfl hl.1 rfl (Nat.le_of_ble_eq_true rfl) dX5_takeNumber_105 ⟨Nat.le_of_ble_eq_true rfl, Nat.le_of_ble_eq_true rfl, rfl, rfl⟩ ⟨Nat.le_of_ble_eq_true rfl, Nat.le_of_ble_eq_true rfl⟩) (wr := []) hP hD hS hA [0, 1] [] rfl rfl (by decide) (by decide) (fun u_20 H locs h hP hD hS => ?_)
      try dsimp only at h
      have hP : va_P D vwCl [((a0 0), .inr (4, [.ref (a0 1), .int (u_20.1 0), .int (u_20.1 1), .int (u_20.1 2), .int (u_20.1 3), .int (u_20.1 4), .int (u_20.1 5)])), ((a0 1), .inl (q 0, 400, .inl u_20.2))] H := hP
      have hD : va_D _ [((a0 0), .inr (4, [.ref (a0 1), .int (u_20.1 0), .int (u_20.1 1), .int (u_20.1 2), .int (u_20.1 3), .int (u_20.1 4), .int (u_20.1 5)])), ((a0 1), .inl (q 0, 400, .inl u_20.2))] := hD
      refine lv_iload_n hx hb dX5_takeNumber_108 rfl (lv_at hl 0 rfl) ?_
      exact mt_iret u_20 hx hb hr hk h (hP.sub (ws' := tp_w a0 q u_20) [0, 1] rfl) (hD.sub (ws' := tp_w a0 q u_20) [0, 1] (by decide) rfl) hS dX5_takeNumber_109

def wp_X5_isSound (post : Int32 → Prop) (s0 : Tp) : Prop := ((¬ (s0.1 5) = 0 → post 0) ∧ ((s0.1 5) = 0 → post 1))
set_option maxHeartbeats 4000000 in
set_option maxRecDepth 100000 in
theorem c2_X5_isSound {l : Launch} {D : va_G} {q : Nat → ClassId} {a0 : Nat → Nat} {s0 : Tp} {post : Int32 → Prop} (h : wp_X5_isSound post s0) : Met l yX5_isSound (Cond.code yX5_isSound cX5_isSound 1 (some .boolean) :: w_all) ({ frames := 0, cells := 0, slots := 0, locals := 0 } : Room) (rd_P D q [.ref (a0 0)] (tp_w a0 q s0)) (vp_Si post) 0 0 (fun _ => False) := by
  refine rd_start (by decide) (Nat.le_of_ble_eq_true rfl) ?_
  intro p e s m below meth c ls hx hb hr hml hown ht hk hP hQ hV hl
  have hK := hQ.1
  have hown : s.vm.findClass RX5 = some m.cls := hown
  have hl : lv_has ls 1 [(0, .ref (a0 0))] := hl
  have hP : va_P D vwCl [((a0 0), .inr (4, [.ref (a0 1), .int (s0.1 0), .int (s0.1 1), .int (s0.1 2), .int (s0.1 3), .int (s0.1 4), .int (s0.1 5)])), ((a0 1), .inl (q 0, 400, .inl s0.2))] s.heap := hP
  unfold wp_X5_isSound at h
  refine lv_aload_n hx hb dX5_isSound_0 rfl (lv_at hl 0 rfl) ?_
  refine fl_get (C := RX5) (T := TX5) (N := 7) (ci := 4) (v := .int (s0.1 5)) hx hb ht in_X5 hown hK hP 0 rfl rfl 6 (by decide) mw_143 rfl dX5_isSound_1 ?_
  refine lv_if_ne (tgt := 11) hx hb dX5_isSound_4 (by decide) (fun c_1 => ?_) (fun c_1 => ?_)
  · replace h := h.1 c_1
    refine lv_iconst (v := 0) hx hb dX5_isSound_11 (by decide) ?_
    exact rd_zret hx hb hr hk rfl h dX5_isSound_12
  · replace h := h.2 c_1
    refine lv_iconst (v := 1) hx hb dX5_isSound_7 (by decide) ?_
    refine lv_goto (tgt := 12) hx hb dX5_isSound_8 (by decide) ?_
    exact rd_zret hx hb hr hk rfl h dX5_isSound_12

def wp_X1_readHead (post : Bd → Tp → Prop) (s0 : Bd) (s1 : Tp) : Prop := wp_X5_takeThisWord (fun u_2 => wp_X5_takeNumber (fun r_3 u_4 => ((r_3 ≤ 0 → wp_X5_takeNumber (fun r_6 u_7 => wp_X5_takeThisWord (fun u_9 => wp_X5_takeNumber (fun r_10 u_11 => wp_X5_isSound (fun r_12 => ((r_12 = 0 → post s0 u_11) ∧ (¬ r_12 = 0 → post ((va_up (va_up (va_up s0.1 0 r_3) 1 r_6) 2 r_10), s0.2.1, s0.2.2.1, s0.2.2.2.1, s0.2.2.2.2) u_11))) u_11) u_9 (1 : Int32) (99 : Int32)) u_7 (2 : Int32)) u_4 (1 : Int32) (0 : Int32)) ∧ (¬ r_3 ≤ 0 → ¬ r_3 = 0 ∧ wp_X5_takeNumber (fun r_16 u_17 => wp_X5_takeThisWord (fun u_19 => wp_X5_takeNumber (fun r_20 u_21 => wp_X5_isSound (fun r_22 => ((r_22 = 0 → post s0 u_21) ∧ (¬ r_22 = 0 → post ((va_up (va_up (va_up s0.1 0 r_3) 1 r_16) 2 r_20), s0.2.1, s0.2.2.1, s0.2.2.2.1, s0.2.2.2.2) u_21))) u_21) u_19 (1 : Int32) (99 : Int32)) u_17 (2 : Int32)) u_4 (1 : Int32) (if (40 / r_3) < (10 : Int32) then (40 / r_3) else (10 : Int32))))) u_2 (1 : Int32) (6 : Int32)) s1 (1 : Int32)
set_option maxHeartbeats 4000000 in
set_option maxRecDepth 100000 in
theorem c2_X1_readHead {l : Launch} {D : va_G} {q : Nat → ClassId} {sz : Nat} {a0 : Nat → Nat} {a1 : Nat → Nat} {s0 : Bd} {s1 : Tp} {post : Bd → Tp → Prop} (h : wp_X1_readHead post s0 s1) : Met l yX1_readHead (Cond.code yX1_readHead cX1_readHead 6 none :: w_all) ({ frames := 8, cells := 0, slots := 0, locals := 168 } : Room) (mt_P D q [.ref (a0 0), .ref (a1 0)] (bd_w a0 q s0 ++ tp_w a1 q s1) sz) (va_Qv (fun u : Bd × Tp => post u.1 u.2) (mt_B D (bd_w a0 q s0 ++ tp_w a1 q s1) sz (fun u : Bd × Tp => bd_w a0 q u.1 ++ tp_w a1 q u.2)) (va_A (bd_w a0 q s0 ++ tp_w a1 q s1) sz)) 0 0 (va_A (bd_w a0 q s0 ++ tp_w a1 q s1) sz) := by
  refine mt_start (by decide) (Nat.le_of_ble_eq_true rfl) ?_
  intro p e s m below meth c ls hx hb hr hml hown ht hk hin hP hQ hD hA hS hV hl
  have hK := hQ.1
  have hown : s.vm.findClass RX1 = some m.cls := hown
  have hl : lv_has ls 6 [(0, .ref (a0 0)), (1, .ref (a1 0))] := hl
  have hP : va_P D vwCl [((a0 0), .inr (0, [.int (s0.1 0), .int (s0.1 1), .int (s0.1 2), .int (s0.1 3), .int (s0.1 4), .int (s0.1 5), .ref (a0 1), .ref (a0 2), .ref (a0 3), .ref (a0 4), .ref (a0 5), .ref (a0 6), .ref (a0 7), .ref (a0 8), .ref (a0 9), .ref (a0 10), .ref (a0 11), .ref (a0 12)])), ((a0 1), .inl (q 0, 4, .inl (s0.2.1 0))), ((a0 2), .inl (q 0, 4, .inl (s0.2.1 1))), ((a0 3), .inl (q 0, 160, .inl (s0.2.1 2))), ((a0 4), .inl (q 0, 40, .inl (s0.2.1 3))), ((a0 5), .inl (q 0, 40, .inl (s0.2.1 4))), ((a0 6), .inl (q 0, 40, .inl (s0.2.1 5))), ((a0 7), .inl (q 0, 40, .inl (s0.2.1 6))), ((a0 8), .inl (q 0, 40, .inl (s0.2.1 7))), ((a0 9), .inl (q 0, 40, .inl (s0.2.1 8))), ((a0 10), .inl (q 0, 40, .inl (s0.2.1 9))), ((a0 11), .inl (q 1, 40, .inr (.inl s0.2.2.1))), ((a0 12), .inl (q 0, s0.2.2.2.1, .inl s0.2.2.2.2)), ((a1 0), .inr (4, [.ref (a1 1), .int (s1.1 0), .int (s1.1 1), .int (s1.1 2), .int (s1.1 3), .int (s1.1 4), .int (s1.1 5)])), ((a1 1), .inl (q 0, 400, .inl s1.2))] s.heap := hP
  have hD : va_D _ [((a0 0), .inr (0, [.int (s0.1 0), .int (s0.1 1), .int (s0.1 2), .int (s0.1 3), .int (s0.1 4), .int (s0.1 5), .ref (a0 1), .ref (a0 2), .ref (a0 3), .ref (a0 4), .ref (a0 5), .ref (a0 6), .ref (a0 7), .ref (a0 8), .ref (a0 9), .ref (a0 10), .ref (a0 11), .ref (a0 12)])), ((a0 1), .inl (q 0, 4, .inl (s0.2.1 0))), ((a0 2), .inl (q 0, 4, .inl (s0.2.1 1))), ((a0 3), .inl (q 0, 160, .inl (s0.2.1 2))), ((a0 4), .inl (q 0, 40, .inl (s0.2.1 3))), ((a0 5), .inl (q 0, 40, .inl (s0.2.1 4))), ((a0 6), .inl (q 0, 40, .inl (s0.2.1 5))), ((a0 7), .inl (q 0, 40, .inl (s0.2.1 6))), ((a0 8), .inl (q 0, 40, .inl (s0.2.1 7))), ((a0 9), .inl (q 0, 40, .inl (s0.2.1 8))), ((a0 10), .inl (q 0, 40, .inl (s0.2.1 9))), ((a0 11), .inl (q 1, 40, .inr (.inl s0.2.2.1))), ((a0 12), .inl (q 0, s0.2.2.2.1, .inl s0.2.2.2.2)), ((a1 0), .inr (4, [.ref (a1 1), .int (s1.1 0), .int (s1.1 1), .int (s1.1 2), .int (s1.1 3), .int (s1.1 4), .int (s1.1 5)])), ((a1 1), .inl (q 0, 400, .inl s1.2))] := hD
  unfold wp_X1_readHead at h
  refine lv_aload_n hx hb dX1_readHead_0 rfl (lv_at hl 1 rfl) ?_
  refine lv_iconst (v := 1) hx hb dX1_readHead_1 (by decide) ?_
  refine mt_gov (mt_wV (wc := tp_w a1 q s1) (As := [.int 1]) (rest := []) hx hb hml hown ht (c2_X5_takeThisWord h) wd_X5_takeThisWord mw_411 hQ hV hS hA (hP.sub [13, 14] rfl) (hD.sub [13, 14] (by decide) rfl) rfl rfl rfl hl.1 rfl (Nat.le_of_ble_eq_true rfl) dX1_readHead_2 ⟨Nat.le_of_ble_eq_true rfl, Nat.le_of_ble_eq_true rfl, rfl, rfl⟩ ⟨Nat.le_of_ble_eq_true rfl, Nat.le_of_ble_eq_true rfl⟩) (wr := [((a0 0), .inr (0, [.int (s0.1 0), .int (s0.1 1), .int (s0.1 2), .int (s0.1 3), .int (s0.1 4), .int (s0.1 5), .ref (a0 1), .ref (a0 2), .ref (a0 3), .ref (a0 4), .ref (a0 5), .ref (a0 6), .ref (a0 7), .ref (a0 8), .ref (a0 9), .ref (a0 10), .ref (a0 11), .ref (a0 12)])), ((a0 1), .inl (q 0, 4, .inl (s0.2.1 0))), ((a0 2), .inl (q 0, 4, .inl (s0.2.1 1))), ((a0 3), .inl (q 0, 160, .inl (s0.2.1 2))), ((a0 4), .inl (q 0, 40, .inl (s0.2.1 3))), ((a0 5), .inl (q 0, 40, .inl (s0.2.1 4))), ((a0 6), .inl (q 0, 40, .inl (s0.2.1 5))), ((a0 7), .inl (q 0, 40, .inl (s0.2.1 6))), ((a0 8), .inl (q 0, 40, .inl (s0.2.1 7))), ((a0 9), .inl (q 0, 40, .inl (s0.2.1 8))), ((a0 10), .inl (q 0, 40, .inl (s0.2.1 9))), ((a0 11), .inl (q 1, 40, .inr (.inl s0.2.2.1))), ((a0 12), .inl (q 0, s0.2.2.2.1, .inl s0.2.2.2.2))]) hP hD hS hA [13, 14] [0, 1, 2, 3, 4, 5, 6, 7, 8, 9, 10, 11, 12] rfl rfl (by decide) (by decide) (fun u_2 H locs h hP hD hS => ?_)
  try dsimp only at h
  have hP : va_P D vwCl [((a0 0), .inr (0, [.int (s0.1 0), .int (s0.1 1), .int (s0.1 2), .int (s0.1 3), .int (s0.1 4), .int (s0.1 5), .ref (a0 1), .ref (a0 2), .ref (a0 3), .ref (a0 4), .ref (a0 5), .ref (a0 6), .ref (a0 7), .ref (a0 8), .ref (a0 9), .ref (a0 10), .ref (a0 11), .ref (a0 12)])), ((a0 1), .inl (q 0, 4, .inl (s0.2.1 0))), ((a0 2), .inl (q 0, 4, .inl (s0.2.1 1))), ((a0 3), .inl (q 0, 160, .inl (s0.2.1 2))), ((a0 4), .inl (q 0, 40, .inl (s0.2.1 3))), ((a0 5), .inl (q 0, 40, .inl (s0.2.1 4))), ((a0 6), .inl (q 0, 40, .inl (s0.2.1 5))), ((a0 7), .inl (q 0, 40, .inl (s0.2.1 6))), ((a0 8), .inl (q 0, 40, .inl (s0.2.1 7))), ((a0 9), .inl (q 0, 40, .inl (s0.2.1 8))), ((a0 10), .inl (q 0, 40, .inl (s0.2.1 9))), ((a0 11), .inl (q 1, 40, .inr (.inl s0.2.2.1))), ((a0 12), .inl (q 0, s0.2.2.2.1, .inl s0.2.2.2.2)), ((a1 0), .inr (4, [.ref (a1 1), .int (u_2.1 0), .int (u_2.1 1), .int (u_2.1 2), .int (u_2.1 3), .int (u_2.1 4), .int (u_2.1 5)])), ((a1 1), .inl (q 0, 400, .inl u_2.2))] H := hP
  have hD : va_D _ [((a0 0), .inr (0, [.int (s0.1 0), .int (s0.1 1), .int (s0.1 2), .int (s0.1 3), .int (s0.1 4), .int (s0.1 5), .ref (a0 1), .ref (a0 2), .ref (a0 3), .ref (a0 4), .ref (a0 5), .ref (a0 6), .ref (a0 7), .ref (a0 8), .ref (a0 9), .ref (a0 10), .ref (a0 11), .ref (a0 12)])), ((a0 1), .inl (q 0, 4, .inl (s0.2.1 0))), ((a0 2), .inl (q 0, 4, .inl (s0.2.1 1))), ((a0 3), .inl (q 0, 160, .inl (s0.2.1 2))), ((a0 4), .inl (q 0, 40, .inl (s0.2.1 3))), ((a0 5), .inl (q 0, 40, .inl (s0.2.1 4))), ((a0 6), .inl (q 0, 40, .inl (s0.2.1 5))), ((a0 7), .inl (q 0, 40, .inl (s0.2.1 6))), ((a0 8), .inl (q 0, 40, .inl (s0.2.1 7))), ((a0 9), .inl (q 0, 40, .inl (s0.2.1 8))), ((a0 10), .inl (q 0, 40, .inl (s0.2.1 9))), ((a0 11), .inl (q 1, 40, .inr (.inl s0.2.2.1))), ((a0 12), .inl (q 0, s0.2.2.2.1, .inl s0.2.2.2.2)), ((a1 0), .inr (4, [.ref (a1 1), .int (u_2.1 0), .int (u_2.1 1), .int (u_2.1 2), .int (u_2.1 3), .int (u_2.1 4), .int (u_2.1 5)])), ((a1 1), .inl (q 0, 400, .inl u_2.2))] := hD
  refine lv_aload_n hx hb dX1_readHead_5 rfl (lv_at hl 1 rfl) ?_
  refine lv_iconst (v := 1) hx hb dX1_readHead_6 (by decide) ?_
  refine lv_bipush (v := 6) hx hb dX1_readHead_7 (by decide) ?_
  refine mt_goi (mt_wV (wc := tp_w a1 q u_2) (As := [.int 1, .int 6]) (rest := []) hx hb hml hown ht (c2_X5_takeNumber h) wd_X5_takeNumber mw_499 hQ hV hS hA (hP.sub [13, 14] rfl) (hD.sub [13, 14] (by decide) rfl) rfl rfl rfl hl.1 rfl (Nat.le_of_ble_eq_true rfl) dX1_readHead_9 ⟨Nat.le_of_ble_eq_true rfl, Nat.le_of_ble_eq_true rfl, rfl, rfl⟩ ⟨Nat.le_of_ble_eq_true rfl, Nat.le_of_ble_eq_true rfl⟩) (wr := [((a0 0), .inr (0, [.int (s0.1 0), .int (s0.1 1), .int (s0.1 2), .int (s0.1 3), .int (s0.1 4), .int (s0.1 5), .ref (a0 1), .ref (a0 2), .ref (a0 3), .ref (a0 4), .ref (a0 5), .ref (a0 6), .ref (a0 7), .ref (a0 8), .ref (a0 9), .ref (a0 10), .ref (a0 11), .ref (a0 12)])), ((a0 1), .inl (q 0, 4, .inl (s0.2.1 0))), ((a0 2), .inl (q 0, 4, .inl (s0.2.1 1))), ((a0 3), .inl (q 0, 160, .inl (s0.2.1 2))), ((a0 4), .inl (q 0, 40, .inl (s0.2.1 3))), ((a0 5), .inl (q 0, 40, .inl (s0.2.1 4))), ((a0 6), .inl (q 0, 40, .inl (s0.2.1 5))), ((a0 7), .inl (q 0, 40, .inl (s0.2.1 6))), ((a0 8), .inl (q 0, 40, .inl (s0.2.1 7))), ((a0 9), .inl (q 0, 40, .inl (s0.2.1 8))), ((a0 10), .inl (q 0, 40, .inl (s0.2.1 9))), ((a0 11), .inl (q 1, 40, .inr (.inl s0.2.2.1))), ((a0 12), .inl (q 0, s0.2.2.2.1, .inl s0.2.2.2.2))]) hP hD hS hA [13, 14] [0, 1, 2, 3, 4, 5, 6, 7, 8, 9, 10, 11, 12] rfl rfl (by decide) (by decide) (fun r_3 u_4 H locs h hP hD hS => ?_)
  try dsimp only at h
  have hP : va_P D vwCl [((a0 0), .inr (0, [.int (s0.1 0), .int (s0.1 1), .int (s0.1 2), .int (s0.1 3), .int (s0.1 4), .int (s0.1 5), .ref (a0 1), .ref (a0 2), .ref (a0 3), .ref (a0 4), .ref (a0 5), .ref (a0 6), .ref (a0 7), .ref (a0 8), .ref (a0 9), .ref (a0 10), .ref (a0 11), .ref (a0 12)])), ((a0 1), .inl (q 0, 4, .inl (s0.2.1 0))), ((a0 2), .inl (q 0, 4, .inl (s0.2.1 1))), ((a0 3), .inl (q 0, 160, .inl (s0.2.1 2))), ((a0 4), .inl (q 0, 40, .inl (s0.2.1 3))), ((a0 5), .inl (q 0, 40, .inl (s0.2.1 4))), ((a0 6), .inl (q 0, 40, .inl (s0.2.1 5))), ((a0 7), .inl (q 0, 40, .inl (s0.2.1 6))), ((a0 8), .inl (q 0, 40, .inl (s0.2.1 7))), ((a0 9), .inl (q 0, 40, .inl (s0.2.1 8))), ((a0 10), .inl (q 0, 40, .inl (s0.2.1 9))), ((a0 11), .inl (q 1, 40, .inr (.inl s0.2.2.1))), ((a0 12), .inl (q 0, s0.2.2.2.1, .inl s0.2.2.2.2)), ((a1 0), .inr (4, [.ref (a1 1), .int (u_4.1 0), .int (u_4.1 1), .int (u_4.1 2), .int (u_4.1 3), .int (u_4.1 4), .int (u_4.1 5)])), ((a1 1), .inl (q 0, 400, .inl u_4.2))] H := hP
  have hD : va_D _ [((a0 0), .inr (0, [.int (s0.1 0), .int (s0.1 1), .int (s0.1 2), .int (s0.1 3), .int (s0.1 4), .int (s0.1 5), .ref (a0 1), .ref (a0 2), .ref (a0 3), .ref (a0 4), .ref (a0 5), .ref (a0 6), .ref (a0 7), .ref (a0 8), .ref (a0 9), .ref (a0 10), .ref (a0 11), .ref (a0 12)])), ((a0 1), .inl (q 0, 4, .inl (s0.2.1 0))), ((a0 2), .inl (q 0, 4, .inl (s0.2.1 1))), ((a0 3), .inl (q 0, 160, .inl (s0.2.1 2))), ((a0 4), .inl (q 0, 40, .inl (s0.2.1 3))), ((a0 5), .inl (q 0, 40, .inl (s0.2.1 4))), ((a0 6), .inl (q 0, 40, .inl (s0.2.1 5))), ((a0 7), .inl (q 0, 40, .inl (s0.2.1 6))), ((a0 8), .inl (q 0, 40, .inl (s0.2.1 7))), ((a0 9), .inl (q 0, 40, .inl (s0.2.1 8))), ((a0 10), .inl (q 0, 40, .inl (s0.2.1 9))), ((a0 11), .inl (q 1, 40, .inr (.inl s0.2.2.1))), ((a0 12), .inl (q 0, s0.2.2.2.1, .inl s0.2.2.2.2)), ((a1 0), .inr (4, [.ref (a1 1), .int (u_4.1 0), .int (u_4.1 1), .int (u_4.1 2), .int (u_4.1 3), .int (u_4.1 4), .int (u_4.1 5)])), ((a1 1), .inl (q 0, 400, .inl u_4.2))] := hD
  refine lv_istore_n (lv' := [(2, .int r_3), (0, .ref (a0 0)), (1, .ref (a1 0))]) hx hb dX1_readHead_12 rfl hl (by decide) rfl (fun ls hl => ?_)
  refine lv_iload_n hx hb dX1_readHead_13 rfl (lv_at hl 0 rfl) ?_
  refine lv_if_le (tgt := 24) hx hb dX1_readHead_14 (by decide) (fun c_5 => ?_) (fun c_5 => ?_)
  · replace h := h.1 c_5
    refine lv_iconst (v := 0) hx hb dX1_readHead_24 (by decide) ?_
    refine lv_istore_n (lv' := [(3, .int 0), (2, .int r_3), (0, .ref (a0 0)), (1, .ref (a1 0))]) hx hb dX1_readHead_25 rfl hl (by decide) rfl (fun ls hl => ?_)
    refine lv_aload_n hx hb dX1_readHead_26 rfl (lv_at hl 3 rfl) ?_
    refine lv_iconst (v := 1) hx hb dX1_readHead_27 (by decide) ?_
    refine lv_bipush (v := 10) hx hb dX1_readHead_28 (by decide) ?_
    refine lv_iload_n hx hb dX1_readHead_30 rfl (lv_at hl 0 rfl) ?_
    refine va_mmin hx hb (hml.trans hl.1.symm) hown (ht _ mw_506) (ht _ mw_504) (ht _ mw_110) (ht _ mw_505) (Nat.le_of_ble_eq_true rfl) (Nat.le_of_ble_eq_true rfl) (Nat.le_of_ble_eq_true rfl) (Nat.le_of_ble_eq_true rfl) dX1_readHead_31 ?_
    refine ab_i (v := 0) (by decide) ?_
    refine mt_goi (mt_wV (wc := tp_w a1 q u_4) (As := [.int 1, .int 0]) (rest := []) hx hb hml hown ht (c2_X5_takeNumber h) wd_X5_takeNumber mw_499 hQ hV hS hA (hP.sub [13, 14] rfl) (hD.sub [13, 14] (by decide) rfl) rfl rfl rfl hl.1 rfl (Nat.le_of_ble_eq_true rfl) dX1_readHead_34 ⟨Nat.le_of_ble_eq_true rfl, Nat.le_of_ble_eq_true rfl, rfl, rfl⟩ ⟨Nat.le_of_ble_eq_true rfl, Nat.le_of_ble_eq_true rfl⟩) (wr := [((a0 0), .inr (0, [.int (s0.1 0), .int (s0.1 1), .int (s0.1 2), .int (s0.1 3), .int (s0.1 4), .int (s0.1 5), .ref (a0 1), .ref (a0 2), .ref (a0 3), .ref (a0 4), .ref (a0 5), .ref (a0 6), .ref (a0 7), .ref (a0 8), .ref (a0 9), .ref (a0 10), .ref (a0 11), .ref (a0 12)])), ((a0 1), .inl (q 0, 4, .inl (s0.2.1 0))), ((a0 2), .inl (q 0, 4, .inl (s0.2.1 1))), ((a0 3), .inl (q 0, 160, .inl (s0.2.1 2))), ((a0 4), .inl (q 0, 40, .inl (s0.2.1 3))), ((a0 5), .inl (q 0, 40, .inl (s0.2.1 4))), ((a0 6), .inl (q 0, 40, .inl (s0.2.1 5))), ((a0 7), .inl (q 0, 40, .inl (s0.2.1 6))), ((a0 8), .inl (q 0, 40, .inl (s0.2.1 7))), ((a0 9), .inl (q 0, 40, .inl (s0.2.1 8))), ((a0 10), .inl (q 0, 40, .inl (s0.2.1 9))), ((a0 11), .inl (q 1, 40, .inr (.inl s0.2.2.1))), ((a0 12), .inl (q 0, s0.2.2.2.1, .inl s0.2.2.2.2))]) hP hD hS hA [13, 14] [0, 1, 2, 3, 4, 5, 6, 7, 8, 9, 10, 11, 12] rfl rfl (by decide) (by decide) (fun r_6 u_7 H locs h hP hD hS => ?_)
    try dsimp only at h
    have hP : va_P D vwCl [((a0 0), .inr (0, [.int (s0.1 0), .int (s0.1 1), .int (s0.1 2), .int (s0.1 3), .int (s0.1 4), .int (s0.1 5), .ref (a0 1), .ref (a0 2), .ref (a0 3), .ref (a0 4), .ref (a0 5), .ref (a0 6), .ref (a0 7), .ref (a0 8), .ref (a0 9), .ref (a0 10), .ref (a0 11), .ref (a0 12)])), ((a0 1), .inl (q 0, 4, .inl (s0.2.1 0))), ((a0 2), .inl (q 0, 4, .inl (s0.2.1 1))), ((a0 3), .inl (q 0, 160, .inl (s0.2.1 2))), ((a0 4), .inl (q 0, 40, .inl (s0.2.1 3))), ((a0 5), .inl (q 0, 40, .inl (s0.2.1 4))), ((a0 6), .inl (q 0, 40, .inl (s0.2.1 5))), ((a0 7), .inl (q 0, 40, .inl (s0.2.1 6))), ((a0 8), .inl (q 0, 40, .inl (s0.2.1 7))), ((a0 9), .inl (q 0, 40, .inl (s0.2.1 8))), ((a0 10), .inl (q 0, 40, .inl (s0.2.1 9))), ((a0 11), .inl (q 1, 40, .inr (.inl s0.2.2.1))), ((a0 12), .inl (q 0, s0.2.2.2.1, .inl s0.2.2.2.2)), ((a1 0), .inr (4, [.ref (a1 1), .int (u_7.1 0), .int (u_7.1 1), .int (u_7.1 2), .int (u_7.1 3), .int (u_7.1 4), .int (u_7.1 5)])), ((a1 1), .inl (q 0, 400, .inl u_7.2))] H := hP
    have hD : va_D _ [((a0 0), .inr (0, [.int (s0.1 0), .int (s0.1 1), .int (s0.1 2), .int (s0.1 3), .int (s0.1 4), .int (s0.1 5), .ref (a0 1), .ref (a0 2), .ref (a0 3), .ref (a0 4), .ref (a0 5), .ref (a0 6), .ref (a0 7), .ref (a0 8), .ref (a0 9), .ref (a0 10), .ref (a0 11), .ref (a0 12)])), ((a0 1), .inl (q 0, 4, .inl (s0.2.1 0))), ((a0 2), .inl (q 0, 4, .inl (s0.2.1 1))), ((a0 3), .inl (q 0, 160, .inl (s0.2.1 2))), ((a0 4), .inl (q 0, 40, .inl (s0.2.1 3))), ((a0 5), .inl (q 0, 40, .inl (s0.2.1 4))), ((a0 6), .inl (q 0, 40, .inl (s0.2.1 5))), ((a0 7), .inl (q 0, 40, .inl (s0.2.1 6))), ((a0 8), .inl (q 0, 40, .inl (s0.2.1 7))), ((a0 9), .inl (q 0, 40, .inl (s0.2.1 8))), ((a0 10), .inl (q 0, 40, .inl (s0.2.1 9))), ((a0 11), .inl (q 1, 40, .inr (.inl s0.2.2.1))), ((a0 12), .inl (q 0, s0.2.2.2.1, .inl s0.2.2.2.2)), ((a1 0), .inr (4, [.ref (a1 1), .int (u_7.1 0), .int (u_7.1 1), .int (u_7.1 2), .int (u_7.1 3), .int (u_7.1 4), .int (u_7.1 5)])), ((a1 1), .inl (q 0, 400, .inl u_7.2))] := hD
    refine lv_istore (lv' := [(4, .int r_6), (3, .int 0), (2, .int r_3), (0, .ref (a0 0)), (1, .ref (a1 0))]) hx hb dX1_readHead_37 hl (by decide) rfl (fun ls hl => ?_)
    refine lv_aload_n hx hb dX1_readHead_39 rfl (lv_at hl 4 rfl) ?_
    refine lv_iconst (v := 2) hx hb dX1_readHead_40 (by decide) ?_
    refine mt_gov (mt_wV (wc := tp_w a1 q u_7) (As := [.int 2]) (rest := []) hx hb hml hown ht (c2_X5_takeThisWord h) wd_X5_takeThisWord mw_411 hQ hV hS hA (hP.sub [13, 14] rfl) (hD.sub [13, 14] (by decide) rfl) rfl rfl rfl hl.1 rfl (Nat.le_of_ble_eq_true rfl) dX1_readHead_41 ⟨Nat.le_of_ble_eq_true rfl, Nat.le_of_ble_eq_true rfl, rfl, rfl⟩ ⟨Nat.le_of_ble_eq_true rfl, Nat.le_of_ble_eq_true rfl⟩) (wr := [((a0 0), .inr (0, [.int (s0.1 0), .int (s0.1 1), .int (s0.1 2), .int (s0.1 3), .int (s0.1 4), .int (s0.1 5), .ref (a0 1), .ref (a0 2), .ref (a0 3), .ref (a0 4), .ref (a0 5), .ref (a0 6), .ref (a0 7), .ref (a0 8), .ref (a0 9), .ref (a0 10), .ref (a0 11), .ref (a0 12)])), ((a0 1), .inl (q 0, 4, .inl (s0.2.1 0))), ((a0 2), .inl (q 0, 4, .inl (s0.2.1 1))), ((a0 3), .inl (q 0, 160, .inl (s0.2.1 2))), ((a0 4), .inl (q 0, 40, .inl (s0.2.1 3))), ((a0 5), .inl (q 0, 40, .inl (s0.2.1 4))), ((a0 6), .inl (q 0, 40, .inl (s0.2.1 5))), ((a0 7), .inl (q 0, 40, .inl (s0.2.1 6))), ((a0 8), .inl (q 0, 40, .inl (s0.2.1 7))), ((a0 9), .inl (q 0, 40, .inl (s0.2.1 8))), ((a0 10), .inl (q 0, 40, .inl (s0.2.1 9))), ((a0 11), .inl (q 1, 40, .inr (.inl s0.2.2.1))), ((a0 12), .inl (q 0, s0.2.2.2.1, .inl s0.2.2.2.2))]) hP hD hS hA [13, 14] [0, 1, 2, 3, 4, 5, 6, 7, 8, 9, 10, 11, 12] rfl rfl (by decide) (by decide) (fun u_9 H locs h hP hD hS => ?_)
    try dsimp only at h
    have hP : va_P D vwCl [((a0 0), .inr (0, [.int (s0.1 0), .int (s0.1 1), .int (s0.1 2), .int (s0.1 3), .int (s0.1 4), .int (s0.1 5), .ref (a0 1), .ref (a0 2), .ref (a0 3), .ref (a0 4), .ref (a0 5), .ref (a0 6), .ref (a0 7), .ref (a0 8), .ref (a0 9), .ref (a0 10), .ref (a0 11), .ref (a0 12)])), ((a0 1), .inl (q 0, 4, .inl (s0.2.1 0))), ((a0 2), .inl (q 0, 4, .inl (s0.2.1 1))), ((a0 3), .inl (q 0, 160, .inl (s0.2.1 2))), ((a0 4), .inl (q 0, 40, .inl (s0.2.1 3))), ((a0 5), .inl (q 0, 40, .inl (s0.2.1 4))), ((a0 6), .inl (q 0, 40, .inl (s0.2.1 5))), ((a0 7), .inl (q 0, 40, .inl (s0.2.1 6))), ((a0 8), .inl (q 0, 40, .inl (s0.2.1 7))), ((a0 9), .inl (q 0, 40, .inl (s0.2.1 8))), ((a0 10), .inl (q 0, 40, .inl (s0.2.1 9))), ((a0 11), .inl (q 1, 40, .inr (.inl s0.2.2.1))), ((a0 12), .inl (q 0, s0.2.2.2.1, .inl s0.2.2.2.2)), ((a1 0), .inr (4, [.ref (a1 1), .int (u_9.1 0), .int (u_9.1 1), .int (u_9.1 2), .int (u_9.1 3), .int (u_9.1 4), .int (u_9.1 5)])), ((a1 1), .inl (q 0, 400, .inl u_9.2))] H := hP
    have hD : va_D _ [((a0 0), .inr (0, [.int (s0.1 0), .int (s0.1 1), .int (s0.1 2), .int (s0.1 3), .int (s0.1 4), .int (s0.1 5), .ref (a0 1), .ref (a0 2), .ref (a0 3), .ref (a0 4), .ref (a0 5), .ref (a0 6), .ref (a0 7), .ref (a0 8), .ref (a0 9), .ref (a0 10), .ref (a0 11), .ref (a0 12)])), ((a0 1), .inl (q 0, 4, .inl (s0.2.1 0))), ((a0 2), .inl (q 0, 4, .inl (s0.2.1 1))), ((a0 3), .inl (q 0, 160, .inl (s0.2.1 2))), ((a0 4), .inl (q 0, 40, .inl (s0.2.1 3))), ((a0 5), .inl (q 0, 40, .inl (s0.2.1 4))), ((a0 6), .inl (q 0, 40, .inl (s0.2.1 5))), ((a0 7), .inl (q 0, 40, .inl (s0.2.1 6))), ((a0 8), .inl (q 0, 40, .inl (s0.2.1 7))), ((a0 9), .inl (q 0, 40, .inl (s0.2.1 8))), ((a0 10), .inl (q 0, 40, .inl (s0.2.1 9))), ((a0 11), .inl (q 1, 40, .inr (.inl s0.2.2.1))), ((a0 12), .inl (q 0, s0.2.2.2.1, .inl s0.2.2.2.2)), ((a1 0), .inr (4, [.ref (a1 1), .int (u_9.1 0), .int (u_9.1 1), .int (u_9.1 2), .int (u_9.1 3), .int (u_9.1 4), .int (u_9.1 5)])), ((a1 1), .inl (q 0, 400, .inl u_9.2))] := hD
    refine lv_aload_n hx hb dX1_readHead_44 rfl (lv_at hl 4 rfl) ?_
    refine lv_iconst (v := 1) hx hb dX1_readHead_45 (by decide) ?_
    refine lv_bipush (v := 99) hx hb dX1_readHead_46 (by decide) ?_
    refine mt_goi (mt_wV (wc := tp_w a1 q u_9) (As := [.int 1, .int 99]) (rest := []) hx hb hml hown ht (c2_X5_takeNumber h) wd_X5_takeNumber mw_499 hQ hV hS hA (hP.sub [13, 14] rfl) (hD.sub [13, 14] (by decide) rfl) rfl rfl rfl hl.1 rfl (Nat.le_of_ble_eq_true rfl) dX1_readHead_48 ⟨Nat.le_of_ble_eq_true rfl, Nat.le_of_ble_eq_true rfl, rfl, rfl⟩ ⟨Nat.le_of_ble_eq_true rfl, Nat.le_of_ble_eq_true rfl⟩) (wr := [((a0 0), .inr (0, [.int (s0.1 0), .int (s0.1 1), .int (s0.1 2), .int (s0.1 3), .int (s0.1 4), .int (s0.1 5), .ref (a0 1), .ref (a0 2), .ref (a0 3), .ref (a0 4), .ref (a0 5), .ref (a0 6), .ref (a0 7), .ref (a0 8), .ref (a0 9), .ref (a0 10), .ref (a0 11), .ref (a0 12)])), ((a0 1), .inl (q 0, 4, .inl (s0.2.1 0))), ((a0 2), .inl (q 0, 4, .inl (s0.2.1 1))), ((a0 3), .inl (q 0, 160, .inl (s0.2.1 2))), ((a0 4), .inl (q 0, 40, .inl (s0.2.1 3))), ((a0 5), .inl (q 0, 40, .inl (s0.2.1 4))), ((a0 6), .inl (q 0, 40, .inl (s0.2.1 5))), ((a0 7), .inl (q 0, 40, .inl (s0.2.1 6))), ((a0 8), .inl (q 0, 40, .inl (s0.2.1 7))), ((a0 9), .inl (q 0, 40, .inl (s0.2.1 8))), ((a0 10), .inl (q 0, 40, .inl (s0.2.1 9))), ((a0 11), .inl (q 1, 40, .inr (.inl s0.2.2.1))), ((a0 12), .inl (q 0, s0.2.2.2.1, .inl s0.2.2.2.2))]) hP hD hS hA [13, 14] [0, 1, 2, 3, 4, 5, 6, 7, 8, 9, 10, 11, 12] rfl rfl (by decide) (by decide) (fun r_10 u_11 H locs h hP hD hS => ?_)
    try dsimp only at h
    have hP : va_P D vwCl [((a0 0), .inr (0, [.int (s0.1 0), .int (s0.1 1), .int (s0.1 2), .int (s0.1 3), .int (s0.1 4), .int (s0.1 5), .ref (a0 1), .ref (a0 2), .ref (a0 3), .ref (a0 4), .ref (a0 5), .ref (a0 6), .ref (a0 7), .ref (a0 8), .ref (a0 9), .ref (a0 10), .ref (a0 11), .ref (a0 12)])), ((a0 1), .inl (q 0, 4, .inl (s0.2.1 0))), ((a0 2), .inl (q 0, 4, .inl (s0.2.1 1))), ((a0 3), .inl (q 0, 160, .inl (s0.2.1 2))), ((a0 4), .inl (q 0, 40, .inl (s0.2.1 3))), ((a0 5), .inl (q 0, 40, .inl (s0.2.1 4))), ((a0 6), .inl (q 0, 40, .inl (s0.2.1 5))), ((a0 7), .inl (q 0, 40, .inl (s0.2.1 6))), ((a0 8), .inl (q 0, 40, .inl (s0.2.1 7))), ((a0 9), .inl (q 0, 40, .inl (s0.2.1 8))), ((a0 10), .inl (q 0, 40, .inl (s0.2.1 9))), ((a0 11), .inl (q 1, 40, .inr (.inl s0.2.2.1))), ((a0 12), .inl (q 0, s0.2.2.2.1, .inl s0.2.2.2.2)), ((a1 0), .inr (4, [.ref (a1 1), .int (u_11.1 0), .int (u_11.1 1), .int (u_11.1 2), .int (u_11.1 3), .int (u_11.1 4), .int (u_11.1 5)])), ((a1 1), .inl (q 0, 400, .inl u_11.2))] H := hP
    have hD : va_D _ [((a0 0), .inr (0, [.int (s0.1 0), .int (s0.1 1), .int (s0.1 2), .int (s0.1 3), .int (s0.1 4), .int (s0.1 5), .ref (a0 1), .ref (a0 2), .ref (a0 3), .ref (a0 4), .ref (a0 5), .ref (a0 6), .ref (a0 7), .ref (a0 8), .ref (a0 9), .ref (a0 10), .ref (a0 11), .ref (a0 12)])), ((a0 1), .inl (q 0, 4, .inl (s0.2.1 0))), ((a0 2), .inl (q 0, 4, .inl (s0.2.1 1))), ((a0 3), .inl (q 0, 160, .inl (s0.2.1 2))), ((a0 4), .inl (q 0, 40, .inl (s0.2.1 3))), ((a0 5), .inl (q 0, 40, .inl (s0.2.1 4))), ((a0 6), .inl (q 0, 40, .inl (s0.2.1 5))), ((a0 7), .inl (q 0, 40, .inl (s0.2.1 6))), ((a0 8), .inl (q 0, 40, .inl (s0.2.1 7))), ((a0 9), .inl (q 0, 40, .inl (s0.2.1 8))), ((a0 10), .inl (q 0, 40, .inl (s0.2.1 9))), ((a0 11), .inl (q 1, 40, .inr (.inl s0.2.2.1))), ((a0 12), .inl (q 0, s0.2.2.2.1, .inl s0.2.2.2.2)), ((a1 0), .inr (4, [.ref (a1 1), .int (u_11.1 0), .int (u_11.1 1), .int (u_11.1 2), .int (u_11.1 3), .int (u_11.1 4), .int (u_11.1 5)])), ((a1 1), .inl (q 0, 400, .inl u_11.2))] := hD
    refine lv_istore (lv' := [(5, .int r_10), (4, .int r_6), (3, .int 0), (2, .int r_3), (0, .ref (a0 0)), (1, .ref (a1 0))]) hx hb dX1_readHead_51 hl (by decide) rfl (fun ls hl => ?_)
    refine lv_aload_n hx hb dX1_readHead_53 rfl (lv_at hl 5 rfl) ?_
    refine vp_callSi (rd_wV (wc := tp_w a1 q u_11) (As := []) (rest := []) hx hb hml hown ht (c2_X5_isSound h) wd_X5_isSound mw_507 hQ hV hS (hP.sub [13, 14] rfl) rfl rfl rfl hl.1 rfl (Nat.le_of_ble_eq_true rfl) dX1_readHead_54 ⟨Nat.le_of_ble_eq_true rfl, Nat.le_of_ble_eq_true rfl, rfl, rfl⟩ ⟨Nat.le_of_ble_eq_true rfl, Nat.le_of_ble_eq_true rfl⟩) (fun r_12 h => ?_)
    try dsimp only at h
    refine lv_if_eq (tgt := 77) hx hb dX1_readHead_57 (by decide) (fun c_14 => ?_) (fun c_14 => ?_)
    · replace h := h.1 c_14
      exact mt_vret (s0, u_11) hx hb hr hk h (hP.sub (ws' := bd_w a0 q s0 ++ tp_w a1 q u_11) [0, 1, 2, 3, 4, 5, 6, 7, 8, 9, 10, 11, 12, 13, 14] rfl) (hD.sub (ws' := bd_w a0 q s0 ++ tp_w a1 q u_11) [0, 1, 2, 3, 4, 5, 6, 7, 8, 9, 10, 11, 12, 13, 14] (by decide) rfl) hS dX1_readHead_77
    · replace h := h.2 c_14
      refine lv_aload_n hx hb dX1_readHead_60 rfl (lv_at hl 4 rfl) ?_
      refine lv_iload_n hx hb dX1_readHead_61 rfl (lv_at hl 3 rfl) ?_
      refine fl_put (C := RX0) (T := TX0) (N := 18) (ci := 0) (v := .int r_3) (ws2 := [((a0 0), .inr (0, [.int r_3, .int (s0.1 1), .int (s0.1 2), .int (s0.1 3), .int (s0.1 4), .int (s0.1 5), .ref (a0 1), .ref (a0 2), .ref (a0 3), .ref (a0 4), .ref (a0 5), .ref (a0 6), .ref (a0 7), .ref (a0 8), .ref (a0 9), .ref (a0 10), .ref (a0 11), .ref (a0 12)])), ((a0 1), .inl (q 0, 4, .inl (s0.2.1 0))), ((a0 2), .inl (q 0, 4, .inl (s0.2.1 1))), ((a0 3), .inl (q 0, 160, .inl (s0.2.1 2))), ((a0 4), .inl (q 0, 40, .inl (s0.2.1 3))), ((a0 5), .inl (q 0, 40, .inl (s0.2.1 4))), ((a0 6), .inl (q 0, 40, .inl (s0.2.1 5))), ((a0 7), .inl (q 0, 40, .inl (s0.2.1 6))), ((a0 8), .inl (q 0, 40, .inl (s0.2.1 7))), ((a0 9), .inl (q 0, 40, .inl (s0.2.1 8))), ((a0 10), .inl (q 0, 40, .inl (s0.2.1 9))), ((a0 11), .inl (q 1, 40, .inr (.inl s0.2.2.1))), ((a0 12), .inl (q 0, s0.2.2.2.1, .inl s0.2.2.2.2)), ((a1 0), .inr (4, [.ref (a1 1), .int (u_11.1 0), .int (u_11.1 1), .int (u_11.1 2), .int (u_11.1 3), .int (u_11.1 4), .int (u_11.1 5)])), ((a1 1), .inl (q 0, 400, .inl u_11.2))]) hx hb ht in_X0 tyX0_ok nmX0 hown hK hP hD hS 0 rfl rfl 0 (by decide) mw_168 rfl rfl rfl (Nat.le_of_ble_eq_true rfl) dX1_readHead_62 rfl (fun H locs hP hD hS => ?_)
      refine lv_aload_n hx hb dX1_readHead_65 rfl (lv_at hl 4 rfl) ?_
      refine lv_iload hx hb dX1_readHead_66 (lv_at hl 1 rfl) ?_
      refine fl_put (C := RX0) (T := TX0) (N := 18) (ci := 0) (v := .int r_6) (ws2 := [((a0 0), .inr (0, [.int r_3, .int r_6, .int (s0.1 2), .int (s0.1 3), .int (s0.1 4), .int (s0.1 5), .ref (a0 1), .ref (a0 2), .ref (a0 3), .ref (a0 4), .ref (a0 5), .ref (a0 6), .ref (a0 7), .ref (a0 8), .ref (a0 9), .ref (a0 10), .ref (a0 11), .ref (a0 12)])), ((a0 1), .inl (q 0, 4, .inl (s0.2.1 0))), ((a0 2), .inl (q 0, 4, .inl (s0.2.1 1))), ((a0 3), .inl (q 0, 160, .inl (s0.2.1 2))), ((a0 4), .inl (q 0, 40, .inl (s0.2.1 3))), ((a0 5), .inl (q 0, 40, .inl (s0.2.1 4))), ((a0 6), .inl (q 0, 40, .inl (s0.2.1 5))), ((a0 7), .inl (q 0, 40, .inl (s0.2.1 6))), ((a0 8), .inl (q 0, 40, .inl (s0.2.1 7))), ((a0 9), .inl (q 0, 40, .inl (s0.2.1 8))), ((a0 10), .inl (q 0, 40, .inl (s0.2.1 9))), ((a0 11), .inl (q 1, 40, .inr (.inl s0.2.2.1))), ((a0 12), .inl (q 0, s0.2.2.2.1, .inl s0.2.2.2.2)), ((a1 0), .inr (4, [.ref (a1 1), .int (u_11.1 0), .int (u_11.1 1), .int (u_11.1 2), .int (u_11.1 3), .int (u_11.1 4), .int (u_11.1 5)])), ((a1 1), .inl (q 0, 400, .inl u_11.2))]) hx hb ht in_X0 tyX0_ok nmX0 hown hK hP hD hS 0 rfl rfl 1 (by decide) mw_172 rfl rfl rfl (Nat.le_of_ble_eq_true rfl) dX1_readHead_68 rfl (fun H locs hP hD hS => ?_)
      refine lv_aload_n hx hb dX1_readHead_71 rfl (lv_at hl 4 rfl) ?_
      refine lv_iload hx hb dX1_readHead_72 (lv_at hl 0 rfl) ?_
      refine fl_put (C := RX0) (T := TX0) (N := 18) (ci := 0) (v := .int r_10) (ws2 := [((a0 0), .inr (0, [.int r_3, .int r_6, .int r_10, .int (s0.1 3), .int (s0.1 4), .int (s0.1 5), .ref (a0 1), .ref (a0 2), .ref (a0 3), .ref (a0 4), .ref (a0 5), .ref (a0 6), .ref (a0 7), .ref (a0 8), .ref (a0 9), .ref (a0 10), .ref (a0 11), .ref (a0 12)])), ((a0 1), .inl (q 0, 4, .inl (s0.2.1 0))), ((a0 2), .inl (q 0, 4, .inl (s0.2.1 1))), ((a0 3), .inl (q 0, 160, .inl (s0.2.1 2))), ((a0 4), .inl (q 0, 40, .inl (s0.2.1 3))), ((a0 5), .inl (q 0, 40, .inl (s0.2.1 4))), ((a0 6), .inl (q 0, 40, .inl (s0.2.1 5))), ((a0 7), .inl (q 0, 40, .inl (s0.2.1 6))), ((a0 8), .inl (q 0, 40, .inl (s0.2.1 7))), ((a0 9), .inl (q 0, 40, .inl (s0.2.1 8))), ((a0 10), .inl (q 0, 40, .inl (s0.2.1 9))), ((a0 11), .inl (q 1, 40, .inr (.inl s0.2.2.1))), ((a0 12), .inl (q 0, s0.2.2.2.1, .inl s0.2.2.2.2)), ((a1 0), .inr (4, [.ref (a1 1), .int (u_11.1 0), .int (u_11.1 1), .int (u_11.1 2), .int (u_11.1 3), .int (u_11.1 4), .int (u_11.1 5)])), ((a1 1), .inl (q 0, 400, .inl u_11.2))]) hx hb ht in_X0 tyX0_ok nmX0 hown hK hP hD hS 0 rfl rfl 2 (by decide) mw_176 rfl rfl rfl (Nat.le_of_ble_eq_true rfl) dX1_readHead_74 rfl (fun H locs hP hD hS => ?_)
      exact mt_vret (((va_up (va_up (va_up s0.1 0 r_3) 1 r_6) 2 r_10), s0.2.1, s0.2.2.1, s0.2.2.2.1, s0.2.2.2.2), u_11) hx hb hr hk h (hP.sub (ws' := bd_w a0 q ((va_up (va_up (va_up s0.1 0 r_3) 1 r_6) 2 r_10), s0.2.1, s0.2.2.1, s0.2.2.2.1, s0.2.2.2.2) ++ tp_w a1 q u_11) [0, 1, 2, 3, 4, 5, 6, 7, 8, 9, 10, 11, 12, 13, 14] rfl) (hD.sub (ws' := bd_w a0 q ((va_up (va_up (va_up s0.1 0 r_3) 1 r_6) 2 r_10), s0.2.1, s0.2.2.1, s0.2.2.2.1, s0.2.2.2.2) ++ tp_w a1 q u_11) [0, 1, 2, 3, 4, 5, 6, 7, 8, 9, 10, 11, 12, 13, 14] (by decide) rfl) hS dX1_readHead_77
  · replace h := h.2 c_5
    refine lv_bipush (v := 40) hx hb dX1_readHead_17 (by decide) ?_
    refine lv_iload_n hx hb dX1_readHead_19 rfl (lv_at hl 0 rfl) ?_
    obtain ⟨g_15, h⟩ := h
    refine lv_idiv hx hb dX1_readHead_20 g_15 ?_
    refine lv_goto (tgt := 25) hx hb dX1_readHead_21 (by decide) ?_
    refine lv_istore_n (lv' := [(3, .int (40 / r_3)), (2, .int r_3), (0, .ref (a0 0)), (1, .ref (a1 0))]) hx hb dX1_readHead_25 rfl hl (by decide) rfl (fun ls hl => ?_)
    refine lv_aload_n hx hb dX1_readHead_26 rfl (lv_at hl 3 rfl) ?_
    refine lv_iconst (v := 1) hx hb dX1_readHead_27 (by decide) ?_
    refine lv_bipush (v := 10) hx hb dX1_readHead_28 (by decide) ?_
    refine lv_iload_n hx hb dX1_readHead_30 rfl (lv_at hl 0 rfl) ?_
    refine va_mmin hx hb (hml.trans hl.1.symm) hown (ht _ mw_506) (ht _ mw_504) (ht _ mw_110) (ht _ mw_505) (Nat.le_of_ble_eq_true rfl) (Nat.le_of_ble_eq_true rfl) (Nat.le_of_ble_eq_true rfl) (Nat.le_of_ble_eq_true rfl) dX1_readHead_31 ?_
    refine mt_goi (mt_wV (wc := tp_w a1 q u_4) (As := [.int 1, .int (if (40 / r_3) < (10 : Int32) then (40 / r_3) else (10 : Int32))]) (rest := []) hx hb hml hown ht (c2_X5_takeNumber h) wd_X5_takeNumber mw_499 hQ hV hS hA (hP.sub [13, 14] rfl) (hD.sub [13, 14] (by decide) rfl) rfl rfl rfl hl.1 rfl (Nat.le_of_ble_eq_true rfl) dX1_readHead_34 ⟨Nat.le_of_ble_eq_true rfl, Nat.le_of_ble_eq_true rfl, rfl, rfl⟩ ⟨Nat.le_of_ble_eq_true rfl, Nat.le_of_ble_eq_true rfl⟩) (wr := [((a0 0), .inr (0, [.int (s0.1 0), .int (s0.1 1), .int (s0.1 2), .int (s0.1 3), .int (s0.1 4), .int (s0.1 5), .ref (a0 1), .ref (a0 2), .ref (a0 3), .ref (a0 4), .ref (a0 5), .ref (a0 6), .ref (a0 7), .ref (a0 8), .ref (a0 9), .ref (a0 10), .ref (a0 11), .ref (a0 12)])), ((a0 1), .inl (q 0, 4, .inl (s0.2.1 0))), ((a0 2), .inl (q 0, 4, .inl (s0.2.1 1))), ((a0 3), .inl (q 0, 160, .inl (s0.2.1 2))), ((a0 4), .inl (q 0, 40, .inl (s0.2.1 3))), ((a0 5), .inl (q 0, 40, .inl (s0.2.1 4))), ((a0 6), .inl (q 0, 40, .inl (s0.2.1 5))), ((a0 7), .inl (q 0, 40, .inl (s0.2.1 6))), ((a0 8), .inl (q 0, 40, .inl (s0.2.1 7))), ((a0 9), .inl (q 0, 40, .inl (s0.2.1 8))), ((a0 10), .inl (q 0, 40, .inl (s0.2.1 9))), ((a0 11), .inl (q 1, 40, .inr (.inl s0.2.2.1))), ((a0 12), .inl (q 0, s0.2.2.2.1, .inl s0.2.2.2.2))]) hP hD hS hA [13, 14] [0, 1, 2, 3, 4, 5, 6, 7, 8, 9, 10, 11, 12] rfl rfl (by decide) (by decide) (fun r_16 u_17 H locs h hP hD hS => ?_)
    try dsimp only at h
    have hP : va_P D vwCl [((a0 0), .inr (0, [.int (s0.1 0), .int (s0.1 1), .int (s0.1 2), .int (s0.1 3), .int (s0.1 4), .int (s0.1 5), .ref (a0 1), .ref (a0 2), .ref (a0 3), .ref (a0 4), .ref (a0 5), .ref (a0 6), .ref (a0 7), .ref (a0 8), .ref (a0 9), .ref (a0 10), .ref (a0 11), .ref (a0 12)])), ((a0 1), .inl (q 0, 4, .inl (s0.2.1 0))), ((a0 2), .inl (q 0, 4, .inl (s0.2.1 1))), ((a0 3), .inl (q 0, 160, .inl (s0.2.1 2))), ((a0 4), .inl (q 0, 40, .inl (s0.2.1 3))), ((a0 5), .inl (q 0, 40, .inl (s0.2.1 4))), ((a0 6), .inl (q 0, 40, .inl (s0.2.1 5))), ((a0 7), .inl (q 0, 40, .inl (s0.2.1 6))), ((a0 8), .inl (q 0, 40, .inl (s0.2.1 7))), ((a0 9), .inl (q 0, 40, .inl (s0.2.1 8))), ((a0 10), .inl (q 0, 40, .inl (s0.2.1 9))), ((a0 11), .inl (q 1, 40, .inr (.inl s0.2.2.1))), ((a0 12), .inl (q 0, s0.2.2.2.1, .inl s0.2.2.2.2)), ((a1 0), .inr (4, [.ref (a1 1), .int (u_17.1 0), .int (u_17.1 1), .int (u_17.1 2), .int (u_17.1 3), .int (u_17.1 4), .int (u_17.1 5)])), ((a1 1), .inl (q 0, 400, .inl u_17.2))] H := hP
    have hD : va_D _ [((a0 0), .inr (0, [.int (s0.1 0), .int (s0.1 1), .int (s0.1 2), .int (s0.1 3), .int (s0.1 4), .int (s0.1 5), .ref (a0 1), .ref (a0 2), .ref (a0 3), .ref (a0 4), .ref (a0 5), .ref (a0 6), .ref (a0 7), .ref (a0 8), .ref (a0 9), .ref (a0 10), .ref (a0 11), .ref (a0 12)])), ((a0 1), .inl (q 0, 4, .inl (s0.2.1 0))), ((a0 2), .inl (q 0, 4, .inl (s0.2.1 1))), ((a0 3), .inl (q 0, 160, .inl (s0.2.1 2))), ((a0 4), .inl (q 0, 40, .inl (s0.2.1 3))), ((a0 5), .inl (q 0, 40, .inl (s0.2.1 4))), ((a0 6), .inl (q 0, 40, .inl (s0.2.1 5))), ((a0 7), .inl (q 0, 40, .inl (s0.2.1 6))), ((a0 8), .inl (q 0, 40, .inl (s0.2.1 7))), ((a0 9), .inl (q 0, 40, .inl (s0.2.1 8))), ((a0 10), .inl (q 0, 40, .inl (s0.2.1 9))), ((a0 11), .inl (q 1, 40, .inr (.inl s0.2.2.1))), ((a0 12), .inl (q 0, s0.2.2.2.1, .inl s0.2.2.2.2)), ((a1 0), .inr (4, [.ref (a1 1), .int (u_17.1 0), .int (u_17.1 1), .int (u_17.1 2), .int (u_17.1 3), .int (u_17.1 4), .int (u_17.1 5)])), ((a1 1), .inl (q 0, 400, .inl u_17.2))] := hD
    refine lv_istore (lv' := [(4, .int r_16), (3, .int (40 / r_3)), (2, .int r_3), (0, .ref (a0 0)), (1, .ref (a1 0))]) hx hb dX1_readHead_37 hl (by decide) rfl (fun ls hl => ?_)
    refine lv_aload_n hx hb dX1_readHead_39 rfl (lv_at hl 4 rfl) ?_
    refine lv_iconst (v := 2) hx hb dX1_readHead_40 (by decide) ?_
    refine mt_gov (mt_wV (wc := tp_w a1 q u_17) (As := [.int 2]) (rest := []) hx hb hml hown ht (c2_X5_takeThisWord h) wd_X5_takeThisWord mw_411 hQ hV hS hA (hP.sub [13, 14] rfl) (hD.sub [13, 14] (by decide) rfl) rfl rfl rfl hl.1 rfl (Nat.le_of_ble_eq_true rfl) dX1_readHead_41 ⟨Nat.le_of_ble_eq_true rfl, Nat.le_of_ble_eq_true rfl, rfl, rfl⟩ ⟨Nat.le_of_ble_eq_true rfl, Nat.le_of_ble_eq_true rfl⟩) (wr := [((a0 0), .inr (0, [.int (s0.1 0), .int (s0.1 1), .int (s0.1 2), .int (s0.1 3), .int (s0.1 4), .int (s0.1 5), .ref (a0 1), .ref (a0 2), .ref (a0 3), .ref (a0 4), .ref (a0 5), .ref (a0 6), .ref (a0 7), .ref (a0 8), .ref (a0 9), .ref (a0 10), .ref (a0 11), .ref (a0 12)])), ((a0 1), .inl (q 0, 4, .inl (s0.2.1 0))), ((a0 2), .inl (q 0, 4, .inl (s0.2.1 1))), ((a0 3), .inl (q 0, 160, .inl (s0.2.1 2))), ((a0 4), .inl (q 0, 40, .inl (s0.2.1 3))), ((a0 5), .inl (q 0, 40, .inl (s0.2.1 4))), ((a0 6), .inl (q 0, 40, .inl (s0.2.1 5))), ((a0 7), .inl (q 0, 40, .inl (s0.2.1 6))), ((a0 8), .inl (q 0, 40, .inl (s0.2.1 7))), ((a0 9), .inl (q 0, 40, .inl (s0.2.1 8))), ((a0 10), .inl (q 0, 40, .inl (s0.2.1 9))), ((a0 11), .inl (q 1, 40, .inr (.inl s0.2.2.1))), ((a0 12), .inl (q 0, s0.2.2.2.1, .inl s0.2.2.2.2))]) hP hD hS hA [13, 14] [0, 1, 2, 3, 4, 5, 6, 7, 8, 9, 10, 11, 12] rfl rfl (by decide) (by decide) (fun u_19 H locs h hP hD hS => ?_)
    try dsimp only at h
    have hP : va_P D vwCl [((a0 0), .inr (0, [.int (s0.1 0), .int (s0.1 1), .int (s0.1 2), .int (s0.1 3), .int (s0.1 4), .int (s0.1 5), .ref (a0 1), .ref (a0 2), .ref (a0 3), .ref (a0 4), .ref (a0 5), .ref (a0 6), .ref (a0 7), .ref (a0 8), .ref (a0 9), .ref (a0 10), .ref (a0 11), .ref (a0 12)])), ((a0 1), .inl (q 0, 4, .inl (s0.2.1 0))), ((a0 2), .inl (q 0, 4, .inl (s0.2.1 1))), ((a0 3), .inl (q 0, 160, .inl (s0.2.1 2))), ((a0 4), .inl (q 0, 40, .inl (s0.2.1 3))), ((a0 5), .inl (q 0, 40, .inl (s0.2.1 4))), ((a0 6), .inl (q 0, 40, .inl (s0.2.1 5))), ((a0 7), .inl (q 0, 40, .inl (s0.2.1 6))), ((a0 8), .inl (q 0, 40, .inl (s0.2.1 7))), ((a0 9), .inl (q 0, 40, .inl (s0.2.1 8))), ((a0 10), .inl (q 0, 40, .inl (s0.2.1 9))), ((a0 11), .inl (q 1, 40, .inr (.inl s0.2.2.1))), ((a0 12), .inl (q 0, s0.2.2.2.1, .inl s0.2.2.2.2)), ((a1 0), .inr (4, [.ref (a1 1), .int (u_19.1 0), .int (u_19.1 1), .int (u_19.1 2), .int (u_19.1 3), .int (u_19.1 4), .int (u_19.1 5)])), ((a1 1), .inl (q 0, 400, .inl u_19.2))] H := hP
    have hD : va_D _ [((a0 0), .inr (0, [.int (s0.1 0), .int (s0.1 1), .int (s0.1 2), .int (s0.1 3), .int (s0.1 4), .int (s0.1 5), .ref (a0 1), .ref (a0 2), .ref (a0 3), .ref (a0 4), .ref (a0 5), .ref (a0 6), .ref (a0 7), .ref (a0 8), .ref (a0 9), .ref (a0 10), .ref (a0 11), .ref (a0 12)])), ((a0 1), .inl (q 0, 4, .inl (s0.2.1 0))), ((a0 2), .inl (q 0, 4, .inl (s0.2.1 1))), ((a0 3), .inl (q 0, 160, .inl (s0.2.1 2))), ((a0 4), .inl (q 0, 40, .inl (s0.2.1 3))), ((a0 5), .inl (q 0, 40, .inl (s0.2.1 4))), ((a0 6), .inl (q 0, 40, .inl (s0.2.1 5))), ((a0 7), .inl (q 0, 40, .inl (s0.2.1 6))), ((a0 8), .inl (q 0, 40, .inl (s0.2.1 7))), ((a0 9), .inl (q 0, 40, .inl (s0.2.1 8))), ((a0 10), .inl (q 0, 40, .inl (s0.2.1 9))), ((a0 11), .inl (q 1, 40, .inr (.inl s0.2.2.1))), ((a0 12), .inl (q 0, s0.2.2.2.1, .inl s0.2.2.2.2)), ((a1 0), .inr (4, [.ref (a1 1), .int (u_19.1 0), .int (u_19.1 1), .int (u_19.1 2), .int (u_19.1 3), .int (u_19.1 4), .int (u_19.1 5)])), ((a1 1), .inl (q 0, 400, .inl u_19.2))] := hD
    refine lv_aload_n hx hb dX1_readHead_44 rfl (lv_at hl 4 rfl) ?_
    refine lv_iconst (v := 1) hx hb dX1_readHead_45 (by decide) ?_
    refine lv_bipush (v := 99) hx hb dX1_readHead_46 (by decide) ?_
    refine mt_goi (mt_wV (wc := tp_w a1 q u_19) (As := [.int 1, .int 99]) (rest := []) hx hb hml hown ht (c2_X5_takeNumber h) wd_X5_takeNumber mw_499 hQ hV hS hA (hP.sub [13, 14] rfl) (hD.sub [13, 14] (by decide) rfl) rfl rfl rfl hl.1 rfl (Nat.le_of_ble_eq_true rfl) dX1_readHead_48 ⟨Nat.le_of_ble_eq_true rfl, Nat.le_of_ble_eq_true rfl, rfl, rfl⟩ ⟨Nat.le_of_ble_eq_true rfl, Nat.le_of_ble_eq_true rfl⟩) (wr := [((a0 0), .inr (0, [.int (s0.1 0), .int (s0.1 1), .int (s0.1 2), .int (s0.1 3), .int (s0.1 4), .int (s0.1 5), .ref (a0 1), .ref (a0 2), .ref (a0 3), .ref (a0 4), .ref (a0 5), .ref (a0 6), .ref (a0 7), .ref (a0 8), .ref (a0 9), .ref (a0 10), .ref (a0 11), .ref (a0 12)])), ((a0 1), .inl (q 0, 4, .inl (s0.2.1 0))), ((a0 2), .inl (q 0, 4, .inl (s0.2.1 1))), ((a0 3), .inl (q 0, 160, .inl (s0.2.1 2))), ((a0 4), .inl (q 0, 40, .inl (s0.2.1 3))), ((a0 5), .inl (q 0, 40, .inl (s0.2.1 4))), ((a0 6), .inl (q 0, 40, .inl (s0.2.1 5))), ((a0 7), .inl (q 0, 40, .inl (s0.2.1 6))), ((a0 8), .inl (q 0, 40, .inl (s0.2.1 7))), ((a0 9), .inl (q 0, 40, .inl (s0.2.1 8))), ((a0 10), .inl (q 0, 40, .inl (s0.2.1 9))), ((a0 11), .inl (q 1, 40, .inr (.inl s0.2.2.1))), ((a0 12), .inl (q 0, s0.2.2.2.1, .inl s0.2.2.2.2))]) hP hD hS hA [13, 14] [0, 1, 2, 3, 4, 5, 6, 7, 8, 9, 10, 11, 12] rfl rfl (by decide) (by decide) (fun r_20 u_21 H locs h hP hD hS => ?_)
    try dsimp only at h
    have hP : va_P D vwCl [((a0 0), .inr (0, [.int (s0.1 0), .int (s0.1 1), .int (s0.1 2), .int (s0.1 3), .int (s0.1 4), .int (s0.1 5), .ref (a0 1), .ref (a0 2), .ref (a0 3), .ref (a0 4), .ref (a0 5), .ref (a0 6), .ref (a0 7), .ref (a0 8), .ref (a0 9), .ref (a0 10), .ref (a0 11), .ref (a0 12)])), ((a0 1), .inl (q 0, 4, .inl (s0.2.1 0))), ((a0 2), .inl (q 0, 4, .inl (s0.2.1 1))), ((a0 3), .inl (q 0, 160, .inl (s0.2.1 2))), ((a0 4), .inl (q 0, 40, .inl (s0.2.1 3))), ((a0 5), .inl (q 0, 40, .inl (s0.2.1 4))), ((a0 6), .inl (q 0, 40, .inl (s0.2.1 5))), ((a0 7), .inl (q 0, 40, .inl (s0.2.1 6))), ((a0 8), .inl (q 0, 40, .inl (s0.2.1 7))), ((a0 9), .inl (q 0, 40, .inl (s0.2.1 8))), ((a0 10), .inl (q 0, 40, .inl (s0.2.1 9))), ((a0 11), .inl (q 1, 40, .inr (.inl s0.2.2.1))), ((a0 12), .inl (q 0, s0.2.2.2.1, .inl s0.2.2.2.2)), ((a1 0), .inr (4, [.ref (a1 1), .int (u_21.1 0), .int (u_21.1 1), .int (u_21.1 2), .int (u_21.1 3), .int (u_21.1 4), .int (u_21.1 5)])), ((a1 1), .inl (q 0, 400, .inl u_21.2))] H := hP
    have hD : va_D _ [((a0 0), .inr (0, [.int (s0.1 0), .int (s0.1 1), .int (s0.1 2), .int (s0.1 3), .int (s0.1 4), .int (s0.1 5), .ref (a0 1), .ref (a0 2), .ref (a0 3), .ref (a0 4), .ref (a0 5), .ref (a0 6), .ref (a0 7), .ref (a0 8), .ref (a0 9), .ref (a0 10), .ref (a0 11), .ref (a0 12)])), ((a0 1), .inl (q 0, 4, .inl (s0.2.1 0))), ((a0 2), .inl (q 0, 4, .inl (s0.2.1 1))), ((a0 3), .inl (q 0, 160, .inl (s0.2.1 2))), ((a0 4), .inl (q 0, 40, .inl (s0.2.1 3))), ((a0 5), .inl (q 0, 40, .inl (s0.2.1 4))), ((a0 6), .inl (q 0, 40, .inl (s0.2.1 5))), ((a0 7), .inl (q 0, 40, .inl (s0.2.1 6))), ((a0 8), .inl (q 0, 40, .inl (s0.2.1 7))), ((a0 9), .inl (q 0, 40, .inl (s0.2.1 8))), ((a0 10), .inl (q 0, 40, .inl (s0.2.1 9))), ((a0 11), .inl (q 1, 40, .inr (.inl s0.2.2.1))), ((a0 12), .inl (q 0, s0.2.2.2.1, .inl s0.2.2.2.2)), ((a1 0), .inr (4, [.ref (a1 1), .int (u_21.1 0), .int (u_21.1 1), .int (u_21.1 2), .int (u_21.1 3), .int (u_21.1 4), .int (u_21.1 5)])), ((a1 1), .inl (q 0, 400, .inl u_21.2))] := hD
    refine lv_istore (lv' := [(5, .int r_20), (4, .int r_16), (3, .int (40 / r_3)), (2, .int r_3), (0, .ref (a0 0)), (1, .ref (a1 0))]) hx hb dX1_readHead_51 hl (by decide) rfl (fun ls hl => ?_)
    refine lv_aload_n hx hb dX1_readHead_53 rfl (lv_at hl 5 rfl) ?_
    refine vp_callSi (rd_wV (wc := tp_w a1 q u_21) (As := []) (rest := []) hx hb hml hown ht (c2_X5_isSound h) wd_X5_isSound mw_507 hQ hV hS (hP.sub [13, 14] rfl) rfl rfl rfl hl.1 rfl (Nat.le_of_ble_eq_true rfl) dX1_readHead_54 ⟨Nat.le_of_ble_eq_true rfl, Nat.le_of_ble_eq_true rfl, rfl, rfl⟩ ⟨Nat.le_of_ble_eq_true rfl, Nat.le_of_ble_eq_true rfl⟩) (fun r_22 h => ?_)
    try dsimp only at h
    refine lv_if_eq (tgt := 77) hx hb dX1_readHead_57 (by decide) (fun c_24 => ?_) (fun c_24 => ?_)
    · replace h := h.1 c_24
      exact mt_vret (s0, u_21) hx hb hr hk h (hP.sub (ws' := bd_w a0 q s0 ++ tp_w a1 q u_21) [0, 1, 2, 3, 4, 5, 6, 7, 8, 9, 10, 11, 12, 13, 14] rfl) (hD.sub (ws' := bd_w a0 q s0 ++ tp_w a1 q u_21) [0, 1, 2, 3, 4, 5, 6, 7, 8, 9, 10, 11, 12, 13, 14] (by decide) rfl) hS dX1_readHead_77
    · replace h := h.2 c_24
      refine lv_aload_n hx hb dX1_readHead_60 rfl (lv_at hl 4 rfl) ?_
      refine lv_iload_n hx hb dX1_readHead_61 rfl (lv_at hl 3 rfl) ?_
      refine fl_put (C := RX0) (T := TX0) (N := 18) (ci := 0) (v := .int r_3) (ws2 := [((a0 0), .inr (0, [.int r_3, .int (s0.1 1), .int (s0.1 2), .int (s0.1 3), .int (s0.1 4), .int (s0.1 5), .ref (a0 1), .ref (a0 2), .ref (a0 3), .ref (a0 4), .ref (a0 5), .ref (a0 6), .ref (a0 7), .ref (a0 8), .ref (a0 9), .ref (a0 10), .ref (a0 11), .ref (a0 12)])), ((a0 1), .inl (q 0, 4, .inl (s0.2.1 0))), ((a0 2), .inl (q 0, 4, .inl (s0.2.1 1))), ((a0 3), .inl (q 0, 160, .inl (s0.2.1 2))), ((a0 4), .inl (q 0, 40, .inl (s0.2.1 3))), ((a0 5), .inl (q 0, 40, .inl (s0.2.1 4))), ((a0 6), .inl (q 0, 40, .inl (s0.2.1 5))), ((a0 7), .inl (q 0, 40, .inl (s0.2.1 6))), ((a0 8), .inl (q 0, 40, .inl (s0.2.1 7))), ((a0 9), .inl (q 0, 40, .inl (s0.2.1 8))), ((a0 10), .inl (q 0, 40, .inl (s0.2.1 9))), ((a0 11), .inl (q 1, 40, .inr (.inl s0.2.2.1))), ((a0 12), .inl (q 0, s0.2.2.2.1, .inl s0.2.2.2.2)), ((a1 0), .inr (4, [.ref (a1 1), .int (u_21.1 0), .int (u_21.1 1), .int (u_21.1 2), .int (u_21.1 3), .int (u_21.1 4), .int (u_21.1 5)])), ((a1 1), .inl (q 0, 400, .inl u_21.2))]) hx hb ht in_X0 tyX0_ok nmX0 hown hK hP hD hS 0 rfl rfl 0 (by decide) mw_168 rfl rfl rfl (Nat.le_of_ble_eq_true rfl) dX1_readHead_62 rfl (fun H locs hP hD hS => ?_)
      refine lv_aload_n hx hb dX1_readHead_65 rfl (lv_at hl 4 rfl) ?_
      refine lv_iload hx hb dX1_readHead_66 (lv_at hl 1 rfl) ?_
      refine fl_put (C := RX0) (T := TX0) (N := 18) (ci := 0) (v := .int r_16) (ws2 := [((a0 0), .inr (0, [.int r_3, .int r_16, .int (s0.1 2), .int (s0.1 3), .int (s0.1 4), .int (s0.1 5), .ref (a0 1), .ref (a0 2), .ref (a0 3), .ref (a0 4), .ref (a0 5), .ref (a0 6), .ref (a0 7), .ref (a0 8), .ref (a0 9), .ref (a0 10), .ref (a0 11), .ref (a0 12)])), ((a0 1), .inl (q 0, 4, .inl (s0.2.1 0))), ((a0 2), .inl (q 0, 4, .inl (s0.2.1 1))), ((a0 3), .inl (q 0, 160, .inl (s0.2.1 2))), ((a0 4), .inl (q 0, 40, .inl (s0.2.1 3))), ((a0 5), .inl (q 0, 40, .inl (s0.2.1 4))), ((a0 6), .inl (q 0, 40, .inl (s0.2.1 5))), ((a0 7), .inl (q 0, 40, .inl (s0.2.1 6))), ((a0 8), .inl (q 0, 40, .inl (s0.2.1 7))), ((a0 9), .inl (q 0, 40, .inl (s0.2.1 8))), ((a0 10), .inl (q 0, 40, .inl (s0.2.1 9))), ((a0 11), .inl (q 1, 40, .inr (.inl s0.2.2.1))), ((a0 12), .inl (q 0, s0.2.2.2.1, .inl s0.2.2.2.2)), ((a1 0), .inr (4, [.ref (a1 1), .int (u_21.1 0), .int (u_21.1 1), .int (u_21.1 2), .int (u_21.1 3), .int (u_21.1 4), .int (u_21.1 5)])), ((a1 1), .inl (q 0, 400, .inl u_21.2))]) hx hb ht in_X0 tyX0_ok nmX0 hown hK hP hD hS 0 rfl rfl 1 (by decide) mw_172 rfl rfl rfl (Nat.le_of_ble_eq_true rfl) dX1_readHead_68 rfl (fun H locs hP hD hS => ?_)
      refine lv_aload_n hx hb dX1_readHead_71 rfl (lv_at hl 4 rfl) ?_
      refine lv_iload hx hb dX1_readHead_72 (lv_at hl 0 rfl) ?_
      refine fl_put (C := RX0) (T := TX0) (N := 18) (ci := 0) (v := .int r_20) (ws2 := [((a0 0), .inr (0, [.int r_3, .int r_16, .int r_20, .int (s0.1 3), .int (s0.1 4), .int (s0.1 5), .ref (a0 1), .ref (a0 2), .ref (a0 3), .ref (a0 4), .ref (a0 5), .ref (a0 6), .ref (a0 7), .ref (a0 8), .ref (a0 9), .ref (a0 10), .ref (a0 11), .ref (a0 12)])), ((a0 1), .inl (q 0, 4, .inl (s0.2.1 0))), ((a0 2), .inl (q 0, 4, .inl (s0.2.1 1))), ((a0 3), .inl (q 0, 160, .inl (s0.2.1 2))), ((a0 4), .inl (q 0, 40, .inl (s0.2.1 3))), ((a0 5), .inl (q 0, 40, .inl (s0.2.1 4))), ((a0 6), .inl (q 0, 40, .inl (s0.2.1 5))), ((a0 7), .inl (q 0, 40, .inl (s0.2.1 6))), ((a0 8), .inl (q 0, 40, .inl (s0.2.1 7))), ((a0 9), .inl (q 0, 40, .inl (s0.2.1 8))), ((a0 10), .inl (q 0, 40, .inl (s0.2.1 9))), ((a0 11), .inl (q 1, 40, .inr (.inl s0.2.2.1))), ((a0 12), .inl (q 0, s0.2.2.2.1, .inl s0.2.2.2.2)), ((a1 0), .inr (4, [.ref (a1 1), .int (u_21.1 0), .int (u_21.1 1), .int (u_21.1 2), .int (u_21.1 3), .int (u_21.1 4), .int (u_21.1 5)])), ((a1 1), .inl (q 0, 400, .inl u_21.2))]) hx hb ht in_X0 tyX0_ok nmX0 hown hK hP hD hS 0 rfl rfl 2 (by decide) mw_176 rfl rfl rfl (Nat.le_of_ble_eq_true rfl) dX1_readHead_74 rfl (fun H locs hP hD hS => ?_)
      exact mt_vret (((va_up (va_up (va_up s0.1 0 r_3) 1 r_16) 2 r_20), s0.2.1, s0.2.2.1, s0.2.2.2.1, s0.2.2.2.2), u_21) hx hb hr hk h (hP.sub (ws' := bd_w a0 q ((va_up (va_up (va_up s0.1 0 r_3) 1 r_16) 2 r_20), s0.2.1, s0.2.2.1, s0.2.2.2.1, s0.2.2.2.2) ++ tp_w a1 q u_21) [0, 1, 2, 3, 4, 5, 6, 7, 8, 9, 10, 11, 12, 13, 14] rfl) (hD.sub (ws' := bd_w a0 q ((va_up (va_up (va_up s0.1 0 r_3) 1 r_16) 2 r_20), s0.2.1, s0.2.2.1, s0.2.2.2.1, s0.2.2.2.2) ++ tp_w a1 q u_21) [0, 1, 2, 3, 4, 5, 6, 7, 8, 9, 10, 11, 12, 13, 14] (by decide) rfl) hS dX1_readHead_77

def wp_X5_takeByte (post : Tp → Prop) (s0 : Tp) (x1 : Int32) : Prop := wp_X5_peek (fun r_1 u_2 => ((¬ r_1 = x1 → wp_X5_blame (fun u_5 => post u_5) u_2 (u_2.1 1) (1 : Int32)) ∧ (r_1 = x1 → post ((va_up u_2.1 1 ((u_2.1 1) + 1)), u_2.2)))) s0
set_option maxHeartbeats 4000000 in
set_option maxRecDepth 100000 in
theorem c2_X5_takeByte {l : Launch} {D : va_G} {q : Nat → ClassId} {sz : Nat} {a0 : Nat → Nat} {s0 : Tp} {x1 : Int32} {post : Tp → Prop} (h : wp_X5_takeByte post s0 x1) : Met l yX5_takeByte (Cond.code yX5_takeByte cX5_takeByte 2 none :: w_all) ({ frames := 1, cells := 0, slots := 0, locals := 22 } : Room) (mt_P D q [.ref (a0 0), .int x1] (tp_w a0 q s0) sz) (va_Qv (fun u : Tp => post u) (mt_B D (tp_w a0 q s0) sz (fun u : Tp => tp_w a0 q u)) (va_A (tp_w a0 q s0) sz)) 0 0 (va_A (tp_w a0 q s0) sz) := by
  refine mt_start (by decide) (Nat.le_of_ble_eq_true rfl) ?_
  intro p e s m below meth c ls hx hb hr hml hown ht hk hin hP hQ hD hA hS hV hl
  have hK := hQ.1
  have hown : s.vm.findClass RX5 = some m.cls := hown
  have hl : lv_has ls 2 [(0, .ref (a0 0)), (1, .int x1)] := hl
  have hP : va_P D vwCl [((a0 0), .inr (4, [.ref (a0 1), .int (s0.1 0), .int (s0.1 1), .int (s0.1 2), .int (s0.1 3), .int (s0.1 4), .int (s0.1 5)])), ((a0 1), .inl (q 0, 400, .inl s0.2))] s.heap := hP
  have hD : va_D _ [((a0 0), .inr (4, [.ref (a0 1), .int (s0.1 0), .int (s0.1 1), .int (s0.1 2), .int (s0.1 3), .int (s0.1 4), .int (s0.1 5)])), ((a0 1), .inl (q 0, 400, .inl s0.2))] := hD
  unfold wp_X5_takeByte at h
  refine lv_aload_n hx hb dX5_takeByte_0 rfl (lv_at hl 0 rfl) ?_
  refine mt_goi (mt_wV (wc := tp_w a0 q s0) (As := []) (rest := []) hx hb hml hown ht (c2_X5_peek h) wd_X5_peek mw_419 hQ hV hS hA (hP.sub [0, 1] rfl) (hD.sub [0, 1] (by decide) rfl) rfl rfl rfl hl.1 rfl (Nat.le_of_ble_eq_true rfl) dX5_takeByte_1 ⟨Nat.le_of_ble_eq_true rfl, Nat.le_of_ble_eq_true rfl, rfl, rfl⟩ ⟨Nat.le_of_ble_eq_true rfl, Nat.le_of_ble_eq_true rfl⟩) (wr := []) hP hD hS hA [0, 1] [] rfl rfl (by decide) (by decide) (fun r_1 u_2 H locs h hP hD hS => ?_)
  try dsimp only at h
  have hP : va_P D vwCl [((a0 0), .inr (4, [.ref (a0 1), .int (u_2.1 0), .int (u_2.1 1), .int (u_2.1 2), .int (u_2.1 3), .int (u_2.1 4), .int (u_2.1 5)])), ((a0 1), .inl (q 0, 400, .inl u_2.2))] H := hP
  have hD : va_D _ [((a0 0), .inr (4, [.ref (a0 1), .int (u_2.1 0), .int (u_2.1 1), .int (u_2.1 2), .int (u_2.1 3), .int (u_2.1 4), .int (u_2.1 5)])), ((a0 1), .inl (q 0, 400, .inl u_2.2))] := hD
  refine lv_iload_n hx hb dX5_takeByte_4 rfl (lv_at hl 1 rfl) ?_
  refine lv_icmp_ne (tgt := 21) hx hb dX5_takeByte_5 (by decide) (fun c_3 => ?_) (fun c_3 => ?_)
  · replace h := h.1 c_3
    refine lv_aload_n hx hb dX5_takeByte_21 rfl (lv_at hl 0 rfl) ?_
    refine lv_aload_n hx hb dX5_takeByte_22 rfl (lv_at hl 0 rfl) ?_
    refine fl_get (C := RX5) (T := TX5) (N := 7) (ci := 4) (v := .int (u_2.1 1)) hx hb ht in_X5 hown hK hP 0 rfl rfl 2 (by decide) mw_132 rfl dX5_takeByte_23 ?_
    refine lv_iconst (v := 1) hx hb dX5_takeByte_26 (by decide) ?_
    refine mt_gov (mt_wV (wc := tp_w a0 q u_2) (As := [.int (u_2.1 1), .int 1]) (rest := []) hx hb hml hown ht (c2_X5_blame h) wd_X5_blame mw_495 hQ hV hS hA (hP.sub [0, 1] rfl) (hD.sub [0, 1] (by decide) rfl) rfl rfl rfl hl.1 rfl (Nat.le_of_ble_eq_true rfl) dX5_takeByte_27 ⟨Nat.le_of_ble_eq_true rfl, Nat.le_of_ble_eq_true rfl, rfl, rfl⟩ ⟨Nat.le_of_ble_eq_true rfl, Nat.le_of_ble_eq_true rfl⟩) (wr := []) hP hD hS hA [0, 1] [] rfl rfl (by decide) (by decide) (fun u_5 H locs h hP hD hS => ?_)
    try dsimp only at h
    have hP : va_P D vwCl [((a0 0), .inr (4, [.ref (a0 1), .int (u_5.1 0), .int (u_5.1 1), .int (u_5.1 2), .int (u_5.1 3), .int (u_5.1 4), .int (u_5.1 5)])), ((a0 1), .inl (q 0, 400, .inl u_5.2))] H := hP
    have hD : va_D _ [((a0 0), .inr (4, [.ref (a0 1), .int (u_5.1 0), .int (u_5.1 1), .int (u_5.1 2), .int (u_5.1 3), .int (u_5.1 4), .int (u_5.1 5)])), ((a0 1), .inl (q 0, 400, .inl u_5.2))] := hD
    exact mt_vret u_5 hx hb hr hk h (hP.sub (ws' := tp_w a0 q u_5) [0, 1] rfl) (hD.sub (ws' := tp_w a0 q u_5) [0, 1] (by decide) rfl) hS dX5_takeByte_30
  · replace h := h.2 c_3
    refine lv_aload_n hx hb dX5_takeByte_8 rfl (lv_at hl 0 rfl) ?_
    refine lv_dup hx hb dX5_takeByte_9 rfl ?_
    refine fl_get (C := RX5) (T := TX5) (N := 7) (ci := 4) (v := .int (u_2.1 1)) hx hb ht in_X5 hown hK hP 0 rfl rfl 2 (by decide) mw_132 rfl dX5_takeByte_10 ?_
    refine lv_iconst (v := 1) hx hb dX5_takeByte_13 (by decide) ?_
    refine lv_iadd hx hb dX5_takeByte_14 ?_
    refine fl_put (C := RX5) (T := TX5) (N := 7) (ci := 4) (v := .int ((u_2.1 1) + 1)) (ws2 := [((a0 0), .inr (4, [.ref (a0 1), .int (u_2.1 0), .int ((u_2.1 1) + 1), .int (u_2.1 2), .int (u_2.1 3), .int (u_2.1 4), .int (u_2.1 5)])), ((a0 1), .inl (q 0, 400, .inl u_2.2))]) hx hb ht in_X5 tyX5_ok nmX5 hown hK hP hD hS 0 rfl rfl 2 (by decide) mw_132 rfl rfl rfl (Nat.le_of_ble_eq_true rfl) dX5_takeByte_15 rfl (fun H locs hP hD hS => ?_)
    refine lv_goto (tgt := 30) hx hb dX5_takeByte_18 (by decide) ?_
    exact mt_vret ((va_up u_2.1 1 ((u_2.1 1) + 1)), u_2.2) hx hb hr hk h (hP.sub (ws' := tp_w a0 q ((va_up u_2.1 1 ((u_2.1 1) + 1)), u_2.2)) [0, 1] rfl) (hD.sub (ws' := tp_w a0 q ((va_up u_2.1 1 ((u_2.1 1) + 1)), u_2.2)) [0, 1] (by decide) rfl) hS dX5_takeByte_30
