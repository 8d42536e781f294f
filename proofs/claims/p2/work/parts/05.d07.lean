theorem dX7_when_44 : decode cX7_when 44 = .ok (.getfield 86, 3) := by decide +kernel
theorem dX7_when_47 : decode cX7_when 47 = .ok (.aload_n 0, 1) := by decide +kernel
theorem dX7_when_48 : decode cX7_when 48 = .ok (.getfield 86, 3) := by decide +kernel
theorem dX7_when_51 : decode cX7_when 51 = .ok (.imul, 1) := by decide +kernel
theorem dX7_when_52 : decode cX7_when 52 = .ok (.iadd, 1) := by decide +kernel
theorem dX7_when_53 : decode cX7_when 53 = .ok (.istore_n 3, 1) := by decide +kernel
theorem dX7_when_54 : decode cX7_when 54 = .ok (.aload_n 0, 1) := by decide +kernel
theorem dX7_when_55 : decode cX7_when 55 = .ok (.getfield 90, 3) := by decide +kernel
theorem dX7_when_58 : decode cX7_when 58 = .ok (.iload 4, 2) := by decide +kernel
theorem dX7_when_60 : decode cX7_when 60 = .ok (.if_icmp .le (-28), 3) := by decide +kernel
theorem dX7_when_63 : decode cX7_when 63 = .ok (.aload_n 0, 1) := by decide +kernel
theorem dX7_when_64 : decode cX7_when 64 = .ok (.getfield 90, 3) := by decide +kernel
theorem dX7_when_67 : decode cX7_when 67 = .ok (.istore 4, 2) := by decide +kernel
theorem dX7_when_69 : decode cX7_when 69 = .ok (.goto (-37), 3) := by decide +kernel
theorem dX7_when_72 : decode cX7_when 72 = .ok (.aload_n 0, 1) := by decide +kernel
theorem dX7_when_73 : decode cX7_when 73 = .ok (.getfield 7, 3) := by decide +kernel
theorem dX7_when_76 : decode cX7_when 76 = .ok (.bipush 6, 2) := by decide +kernel
theorem dX7_when_78 : decode cX7_when 78 = .ok (.laload, 1) := by decide +kernel
theorem dX7_when_79 : decode cX7_when 79 = .ok (.aload_n 0, 1) := by decide +kernel
theorem dX7_when_80 : decode cX7_when 80 = .ok (.getfield 24, 3) := by decide +kernel
theorem dX7_when_83 : decode cX7_when 83 = .ok (.bipush 6, 2) := by decide +kernel
theorem dX7_when_85 : decode cX7_when 85 = .ok (.laload, 1) := by decide +kernel
theorem dX7_when_86 : decode cX7_when 86 = .ok (.lsub, 1) := by decide +kernel
theorem dX7_when_87 : decode cX7_when 87 = .ok (.l2i, 1) := by decide +kernel
theorem dX7_when_88 : decode cX7_when 88 = .ok (.istore 5, 2) := by decide +kernel
theorem dX7_when_90 : decode cX7_when 90 = .ok (.aload_n 0, 1) := by decide +kernel
theorem dX7_when_91 : decode cX7_when 91 = .ok (.getfield 7, 3) := by decide +kernel
theorem dX7_when_94 : decode cX7_when 94 = .ok (.bipush 7, 2) := by decide +kernel
theorem dX7_when_96 : decode cX7_when 96 = .ok (.laload, 1) := by decide +kernel
theorem dX7_when_97 : decode cX7_when 97 = .ok (.aload_n 0, 1) := by decide +kernel
theorem dX7_when_98 : decode cX7_when 98 = .ok (.getfield 24, 3) := by decide +kernel
theorem dX7_when_101 : decode cX7_when 101 = .ok (.bipush 7, 2) := by decide +kernel
theorem dX7_when_103 : decode cX7_when 103 = .ok (.laload, 1) := by decide +kernel
theorem dX7_when_104 : decode cX7_when 104 = .ok (.lsub, 1) := by decide +kernel
theorem dX7_when_105 : decode cX7_when 105 = .ok (.l2i, 1) := by decide +kernel
theorem dX7_when_106 : decode cX7_when 106 = .ok (.istore 6, 2) := by decide +kernel
theorem dX7_when_108 : decode cX7_when 108 = .ok (.aload_n 0, 1) := by decide +kernel
theorem dX7_when_109 : decode cX7_when 109 = .ok (.invokevirtual 213, 3) := by decide +kernel
theorem dX7_when_112 : decode cX7_when 112 = .ok (.istore 7, 2) := by decide +kernel
theorem dX7_when_114 : decode cX7_when 114 = .ok (.aload_n 0, 1) := by decide +kernel
theorem dX7_when_115 : decode cX7_when 115 = .ok (.invokevirtual 216, 3) := by decide +kernel
theorem dX7_when_118 : decode cX7_when 118 = .ok (.iload_n 1, 1) := by decide +kernel
theorem dX7_when_119 : decode cX7_when 119 = .ok (.tableswitch 46 0 4 #[33, 35, 38, 40, 43], 33) := by decide +kernel
theorem dX7_when_152 : decode cX7_when 152 = .ok (.iload_n 2, 1) := by decide +kernel
theorem dX7_when_153 : decode cX7_when 153 = .ok (.ireturn, 1) := by decide +kernel
theorem dX7_when_154 : decode cX7_when 154 = .ok (.iload 5, 2) := by decide +kernel
theorem dX7_when_156 : decode cX7_when 156 = .ok (.ireturn, 1) := by decide +kernel
theorem dX7_when_157 : decode cX7_when 157 = .ok (.iload_n 3, 1) := by decide +kernel
theorem dX7_when_158 : decode cX7_when 158 = .ok (.ireturn, 1) := by decide +kernel
theorem dX7_when_159 : decode cX7_when 159 = .ok (.iload 4, 2) := by decide +kernel
theorem dX7_when_161 : decode cX7_when 161 = .ok (.ireturn, 1) := by decide +kernel
theorem dX7_when_162 : decode cX7_when 162 = .ok (.iload 7, 2) := by decide +kernel
theorem dX7_when_164 : decode cX7_when 164 = .ok (.ireturn, 1) := by decide +kernel
theorem dX7_when_165 : decode cX7_when 165 = .ok (.iload 6, 2) := by decide +kernel
theorem dX7_when_167 : decode cX7_when 167 = .ok (.ireturn, 1) := by decide +kernel
theorem dX7_total_0 : decode cX7_total 0 = .ok (.aload_n 0, 1) := by decide +kernel
theorem dX7_total_1 : decode cX7_total 1 = .ok (.invokevirtual 147, 3) := by decide +kernel
theorem dX7_total_4 : decode cX7_total 4 = .ok (.ifCond .eq 27, 3) := by decide +kernel
theorem dX7_total_7 : decode cX7_total 7 = .ok (.iload_n 1, 1) := by decide +kernel
theorem dX7_total_8 : decode cX7_total 8 = .ok (.i2l, 1) := by decide +kernel
theorem dX7_total_9 : decode cX7_total 9 = .ok (.lconst 0, 1) := by decide +kernel
theorem dX7_total_10 : decode cX7_total 10 = .ok (.ldc2_w 206, 3) := by decide +kernel
theorem dX7_total_13 : decode cX7_total 13 = .ok (.invokestatic 39, 3) := by decide +kernel
theorem dX7_total_16 : decode cX7_total 16 = .ok (.ifCond .eq 15, 3) := by decide +kernel
theorem dX7_total_19 : decode cX7_total 19 = .ok (.aload_n 0, 1) := by decide +kernel
theorem dX7_total_20 : decode cX7_total 20 = .ok (.getfield 7, 3) := by decide +kernel
theorem dX7_total_23 : decode cX7_total 23 = .ok (.iconst 4, 1) := by decide +kernel
theorem dX7_total_24 : decode cX7_total 24 = .ok (.iload_n 1, 1) := by decide +kernel
theorem dX7_total_25 : decode cX7_total 25 = .ok (.iadd, 1) := by decide +kernel
theorem dX7_total_26 : decode cX7_total 26 = .ok (.laload, 1) := by decide +kernel
theorem dX7_total_27 : decode cX7_total 27 = .ok (.l2i, 1) := by decide +kernel
theorem dX7_total_28 : decode cX7_total 28 = .ok (.goto 4, 3) := by decide +kernel
theorem dX7_total_31 : decode cX7_total 31 = .ok (.iconst (-1), 1) := by decide +kernel
theorem dX7_total_32 : decode cX7_total 32 = .ok (.ireturn, 1) := by decide +kernel
theorem dX7_rests_0 : decode cX7_rests 0 = .ok (.aload_n 0, 1) := by decide +kernel
theorem dX7_rests_1 : decode cX7_rests 1 = .ok (.iload_n 1, 1) := by decide +kernel
theorem dX7_rests_2 : decode cX7_rests 2 = .ok (.invokevirtual 162, 3) := by decide +kernel
theorem dX7_rests_5 : decode cX7_rests 5 = .ok (.ifCond .ne 5, 3) := by decide +kernel
theorem dX7_rests_8 : decode cX7_rests 8 = .ok (.iconst (-1), 1) := by decide +kernel
theorem dX7_rests_9 : decode cX7_rests 9 = .ok (.ireturn, 1) := by decide +kernel
theorem dX7_rests_10 : decode cX7_rests 10 = .ok (.aload_n 0, 1) := by decide +kernel
theorem dX7_rests_11 : decode cX7_rests 11 = .ok (.invokevirtual 210, 3) := by decide +kernel
theorem dX7_rests_14 : decode cX7_rests 14 = .ok (.iconst 0, 1) := by decide +kernel
theorem dX7_rests_15 : decode cX7_rests 15 = .ok (.istore_n 2, 1) := by decide +kernel
theorem dX7_rests_16 : decode cX7_rests 16 = .ok (.aload_n 0, 1) := by decide +kernel
theorem dX7_rests_17 : decode cX7_rests 17 = .ok (.iload_n 1, 1) := by decide +kernel
theorem dX7_rests_18 : decode cX7_rests 18 = .ok (.invokevirtual 93, 3) := by decide +kernel
theorem dX7_rests_21 : decode cX7_rests 21 = .ok (.ifCond .le 23, 3) := by decide +kernel
theorem dX7_rests_24 : decode cX7_rests 24 = .ok (.iload_n 2, 1) := by decide +kernel
theorem dX7_rests_25 : decode cX7_rests 25 = .ok (.sipush 9999, 3) := by decide +kernel
theorem dX7_rests_28 : decode cX7_rests 28 = .ok (.if_icmp .gt 16, 3) := by decide +kernel
theorem dX7_rests_31 : decode cX7_rests 31 = .ok (.aload_n 0, 1) := by decide +kernel
theorem dX7_rests_32 : decode cX7_rests 32 = .ok (.invokevirtual 156, 3) := by decide +kernel
theorem dX7_rests_35 : decode cX7_rests 35 = .ok (.ifCond .le 9, 3) := by decide +kernel
theorem dX7_rests_38 : decode cX7_rests 38 = .ok (.iinc 2 1, 3) := by decide +kernel
theorem dX7_rests_41 : decode cX7_rests 41 = .ok (.goto (-25), 3) := by decide +kernel
theorem dX7_rests_44 : decode cX7_rests 44 = .ok (.aload_n 0, 1) := by decide +kernel
theorem dX7_rests_45 : decode cX7_rests 45 = .ok (.iload_n 1, 1) := by decide +kernel
theorem dX7_rests_46 : decode cX7_rests 46 = .ok (.invokevirtual 93, 3) := by decide +kernel
theorem dX7_rests_49 : decode cX7_rests 49 = .ok (.ifCond .gt 10, 3) := by decide +kernel
theorem dX7_rests_52 : decode cX7_rests 52 = .ok (.iload_n 2, 1) := by decide +kernel
theorem dX7_rests_53 : decode cX7_rests 53 = .ok (.sipush 9999, 3) := by decide +kernel
theorem dX7_rests_56 : decode cX7_rests 56 = .ok (.if_icmp .le 8, 3) := by decide +kernel
theorem dX7_rests_59 : decode cX7_rests 59 = .ok (.bipush (-2), 2) := by decide +kernel
theorem dX7_rests_61 : decode cX7_rests 61 = .ok (.goto 4, 3) := by decide +kernel
theorem dX7_rests_64 : decode cX7_rests 64 = .ok (.iload_n 2, 1) := by decide +kernel
theorem dX7_rests_65 : decode cX7_rests 65 = .ok (.istore_n 3, 1) := by decide +kernel
theorem dX7_rests_66 : decode cX7_rests 66 = .ok (.aload_n 0, 1) := by decide +kernel
theorem dX7_rests_67 : decode cX7_rests 67 = .ok (.invokevirtual 216, 3) := by decide +kernel
theorem dX7_rests_70 : decode cX7_rests 70 = .ok (.iload_n 3, 1) := by decide +kernel
theorem dX7_rests_71 : decode cX7_rests 71 = .ok (.ireturn, 1) := by decide +kernel
theorem dX7_unlike_0 : decode cX7_unlike 0 = .ok (.aload_n 0, 1) := by decide +kernel
theorem dX7_unlike_1 : decode cX7_unlike 1 = .ok (.iload_n 1, 1) := by decide +kernel
theorem dX7_unlike_2 : decode cX7_unlike 2 = .ok (.invokevirtual 138, 3) := by decide +kernel
theorem dX7_unlike_5 : decode cX7_unlike 5 = .ok (.ifCond .eq 16, 3) := by decide +kernel
theorem dX7_unlike_8 : decode cX7_unlike 8 = .ok (.aload_n 0, 1) := by decide +kernel
theorem dX7_unlike_9 : decode cX7_unlike 9 = .ok (.iload_n 2, 1) := by decide +kernel
theorem dX7_unlike_10 : decode cX7_unlike 10 = .ok (.invokevirtual 138, 3) := by decide +kernel
theorem dX7_unlike_13 : decode cX7_unlike 13 = .ok (.ifCond .eq 8, 3) := by decide +kernel
theorem dX7_unlike_16 : decode cX7_unlike 16 = .ok (.iload_n 1, 1) := by decide +kernel
theorem dX7_unlike_17 : decode cX7_unlike 17 = .ok (.iload_n 2, 1) := by decide +kernel
theorem dX7_unlike_18 : decode cX7_unlike 18 = .ok (.if_icmp .ne 5, 3) := by decide +kernel
theorem dX7_unlike_21 : decode cX7_unlike 21 = .ok (.iconst (-1), 1) := by decide +kernel
theorem dX7_unlike_22 : decode cX7_unlike 22 = .ok (.ireturn, 1) := by decide +kernel
theorem dX7_unlike_23 : decode cX7_unlike 23 = .ok (.iconst 0, 1) := by decide +kernel
theorem dX7_unlike_24 : decode cX7_unlike 24 = .ok (.istore_n 3, 1) := by decide +kernel
theorem dX7_unlike_25 : decode cX7_unlike 25 = .ok (.iconst 0, 1) := by decide +kernel
theorem dX7_unlike_26 : decode cX7_unlike 26 = .ok (.istore 4, 2) := by decide +kernel
theorem dX7_unlike_28 : decode cX7_unlike 28 = .ok (.iload 4, 2) := by decide +kernel
theorem dX7_unlike_30 : decode cX7_unlike 30 = .ok (.aload_n 0, 1) := by decide +kernel
theorem dX7_unlike_31 : decode cX7_unlike 31 = .ok (.invokevirtual 47, 3) := by decide +kernel
theorem dX7_unlike_34 : decode cX7_unlike 34 = .ok (.if_icmp .ge 48, 3) := by decide +kernel
theorem dX7_unlike_37 : decode cX7_unlike 37 = .ok (.iload_n 3, 1) := by decide +kernel
theorem dX7_unlike_38 : decode cX7_unlike 38 = .ok (.aload_n 0, 1) := by decide +kernel
theorem dX7_unlike_39 : decode cX7_unlike 39 = .ok (.aload_n 0, 1) := by decide +kernel
theorem dX7_unlike_40 : decode cX7_unlike 40 = .ok (.invokevirtual 47, 3) := by decide +kernel
theorem dX7_unlike_43 : decode cX7_unlike 43 = .ok (.iload_n 1, 1) := by decide +kernel
theorem dX7_unlike_44 : decode cX7_unlike 44 = .ok (.imul, 1) := by decide +kernel
theorem dX7_unlike_45 : decode cX7_unlike 45 = .ok (.iload 4, 2) := by decide +kernel
theorem dX7_unlike_47 : decode cX7_unlike 47 = .ok (.iadd, 1) := by decide +kernel
theorem dX7_unlike_48 : decode cX7_unlike 48 = .ok (.iconst 2, 1) := by decide +kernel
theorem dX7_unlike_49 : decode cX7_unlike 49 = .ok (.invokevirtual 195, 3) := by decide +kernel
theorem dX7_unlike_52 : decode cX7_unlike 52 = .ok (.aload_n 0, 1) := by decide +kernel
theorem dX7_unlike_53 : decode cX7_unlike 53 = .ok (.aload_n 0, 1) := by decide +kernel
theorem dX7_unlike_54 : decode cX7_unlike 54 = .ok (.invokevirtual 47, 3) := by decide +kernel
theorem dX7_unlike_57 : decode cX7_unlike 57 = .ok (.iload_n 2, 1) := by decide +kernel
theorem dX7_unlike_58 : decode cX7_unlike 58 = .ok (.imul, 1) := by decide +kernel
theorem dX7_unlike_59 : decode cX7_unlike 59 = .ok (.iload 4, 2) := by decide +kernel
theorem dX7_unlike_61 : decode cX7_unlike 61 = .ok (.iadd, 1) := by decide +kernel
theorem dX7_unlike_62 : decode cX7_unlike 62 = .ok (.iconst 2, 1) := by decide +kernel
theorem dX7_unlike_63 : decode cX7_unlike 63 = .ok (.invokevirtual 195, 3) := by decide +kernel
theorem dX7_unlike_66 : decode cX7_unlike 66 = .ok (.if_icmp .eq 7, 3) := by decide +kernel
theorem dX7_unlike_69 : decode cX7_unlike 69 = .ok (.iconst 1, 1) := by decide +kernel
theorem dX7_unlike_70 : decode cX7_unlike 70 = .ok (.goto 4, 3) := by decide +kernel
theorem dX7_unlike_73 : decode cX7_unlike 73 = .ok (.iconst 0, 1) := by decide +kernel
theorem dX7_unlike_74 : decode cX7_unlike 74 = .ok (.iadd, 1) := by decide +kernel
theorem dX7_unlike_75 : decode cX7_unlike 75 = .ok (.istore_n 3, 1) := by decide +kernel
theorem dX7_unlike_76 : decode cX7_unlike 76 = .ok (.iinc 4 1, 3) := by decide +kernel
theorem dX7_unlike_79 : decode cX7_unlike 79 = .ok (.goto (-51), 3) := by decide +kernel
theorem dX7_unlike_82 : decode cX7_unlike 82 = .ok (.iload_n 3, 1) := by decide +kernel
theorem dX7_unlike_83 : decode cX7_unlike 83 = .ok (.ireturn, 1) := by decide +kernel
theorem dX7_digest_0 : decode cX7_digest 0 = .ok (.ldc2_w 219, 3) := by decide +kernel
theorem dX7_digest_3 : decode cX7_digest 3 = .ok (.lstore_n 1, 1) := by decide +kernel
theorem dX7_digest_4 : decode cX7_digest 4 = .ok (.iconst 0, 1) := by decide +kernel
theorem dX7_digest_5 : decode cX7_digest 5 = .ok (.istore_n 3, 1) := by decide +kernel
theorem dX7_digest_6 : decode cX7_digest 6 = .ok (.iload_n 3, 1) := by decide +kernel
theorem dX7_digest_7 : decode cX7_digest 7 = .ok (.aload_n 0, 1) := by decide +kernel
theorem dX7_digest_8 : decode cX7_digest 8 = .ok (.invokevirtual 53, 3) := by decide +kernel
theorem dX7_digest_11 : decode cX7_digest 11 = .ok (.if_icmp .ge 51, 3) := by decide +kernel
theorem dX7_digest_14 : decode cX7_digest 14 = .ok (.iconst 0, 1) := by decide +kernel
theorem dX7_digest_15 : decode cX7_digest 15 = .ok (.istore 4, 2) := by decide +kernel
theorem dX7_digest_17 : decode cX7_digest 17 = .ok (.iload 4, 2) := by decide +kernel
theorem dX7_digest_19 : decode cX7_digest 19 = .ok (.iconst 4, 1) := by decide +kernel
theorem dX7_digest_20 : decode cX7_digest 20 = .ok (.if_icmp .gt 24, 3) := by decide +kernel
theorem dX7_digest_23 : decode cX7_digest 23 = .ok (.ldc2_w 221, 3) := by decide +kernel
theorem dX7_digest_26 : decode cX7_digest 26 = .ok (.lload_n 1, 1) := by decide +kernel
theorem dX7_digest_27 : decode cX7_digest 27 = .ok (.lmul, 1) := by decide +kernel
theorem dX7_digest_28 : decode cX7_digest 28 = .ok (.aload_n 0, 1) := by decide +kernel
theorem dX7_digest_29 : decode cX7_digest 29 = .ok (.iload_n 3, 1) := by decide +kernel
theorem dX7_digest_30 : decode cX7_digest 30 = .ok (.iload 4, 2) := by decide +kernel
theorem dX7_digest_32 : decode cX7_digest 32 = .ok (.invokevirtual 56, 3) := by decide +kernel
theorem dX7_digest_35 : decode cX7_digest 35 = .ok (.i2l, 1) := by decide +kernel
theorem dX7_digest_36 : decode cX7_digest 36 = .ok (.ladd, 1) := by decide +kernel
theorem dX7_digest_37 : decode cX7_digest 37 = .ok (.lstore_n 1, 1) := by decide +kernel
theorem dX7_digest_38 : decode cX7_digest 38 = .ok (.iinc 4 1, 3) := by decide +kernel
theorem dX7_digest_41 : decode cX7_digest 41 = .ok (.goto (-24), 3) := by decide +kernel
theorem dX7_digest_44 : decode cX7_digest 44 = .ok (.ldc2_w 221, 3) := by decide +kernel
theorem dX7_digest_47 : decode cX7_digest 47 = .ok (.lload_n 1, 1) := by decide +kernel
theorem dX7_digest_48 : decode cX7_digest 48 = .ok (.lmul, 1) := by decide +kernel
theorem dX7_digest_49 : decode cX7_digest 49 = .ok (.aload_n 0, 1) := by decide +kernel
theorem dX7_digest_50 : decode cX7_digest 50 = .ok (.iload_n 3, 1) := by decide +kernel
theorem dX7_digest_51 : decode cX7_digest 51 = .ok (.invokevirtual 109, 3) := by decide +kernel
theorem dX7_digest_54 : decode cX7_digest 54 = .ok (.ladd, 1) := by decide +kernel
theorem dX7_digest_55 : decode cX7_digest 55 = .ok (.lstore_n 1, 1) := by decide +kernel
theorem dX7_digest_56 : decode cX7_digest 56 = .ok (.iinc 3 1, 3) := by decide +kernel
theorem dX7_digest_59 : decode cX7_digest 59 = .ok (.goto (-53), 3) := by decide +kernel
theorem dX7_digest_62 : decode cX7_digest 62 = .ok (.lload_n 1, 1) := by decide +kernel
theorem dX7_digest_63 : decode cX7_digest 63 = .ok (.lreturn, 1) := by decide +kernel
theorem dX7_letter_0 : decode cX7_letter 0 = .ok (.iload_n 1, 1) := by decide +kernel
theorem dX7_letter_1 : decode cX7_letter 1 = .ok (.i2l, 1) := by decide +kernel
theorem dX7_letter_2 : decode cX7_letter 2 = .ok (.lconst 0, 1) := by decide +kernel
theorem dX7_letter_3 : decode cX7_letter 3 = .ok (.lconst 1, 1) := by decide +kernel
theorem dX7_letter_4 : decode cX7_letter 4 = .ok (.invokestatic 39, 3) := by decide +kernel
theorem dX7_letter_7 : decode cX7_letter 7 = .ok (.ifCond .eq 8, 3) := by decide +kernel
theorem dX7_letter_10 : decode cX7_letter 10 = .ok (.iload_n 2, 1) := by decide +kernel
theorem dX7_letter_11 : decode cX7_letter 11 = .ok (.iconst (-1), 1) := by decide +kernel
theorem dX7_letter_12 : decode cX7_letter 12 = .ok (.if_icmp .ge 5, 3) := by decide +kernel
theorem dX7_letter_15 : decode cX7_letter 15 = .ok (.iconst (-1), 1) := by decide +kernel
theorem dX7_letter_16 : decode cX7_letter 16 = .ok (.ireturn, 1) := by decide +kernel
theorem dX7_letter_17 : decode cX7_letter 17 = .ok (.aload_n 0, 1) := by decide +kernel
theorem dX7_letter_18 : decode cX7_letter 18 = .ok (.invokevirtual 53, 3) := by decide +kernel
theorem dX7_letter_21 : decode cX7_letter 21 = .ok (.ifCond .ne 7, 3) := by decide +kernel
theorem dX7_letter_24 : decode cX7_letter 24 = .ok (.iconst 0, 1) := by decide +kernel
theorem dX7_letter_25 : decode cX7_letter 25 = .ok (.goto 16, 3) := by decide +kernel
theorem dX7_letter_28 : decode cX7_letter 28 = .ok (.aload_n 0, 1) := by decide +kernel
theorem dX7_letter_29 : decode cX7_letter 29 = .ok (.invokevirtual 47, 3) := by decide +kernel
theorem dX7_letter_32 : decode cX7_letter 32 = .ok (.iconst 1, 1) := by decide +kernel
theorem dX7_letter_33 : decode cX7_letter 33 = .ok (.iadd, 1) := by decide +kernel
theorem dX7_letter_34 : decode cX7_letter 34 = .ok (.aload_n 0, 1) := by decide +kernel
theorem dX7_letter_35 : decode cX7_letter 35 = .ok (.invokevirtual 43, 3) := by decide +kernel
theorem dX7_letter_38 : decode cX7_letter 38 = .ok (.imul, 1) := by decide +kernel
theorem dX7_letter_39 : decode cX7_letter 39 = .ok (.iconst 1, 1) := by decide +kernel
theorem dX7_letter_40 : decode cX7_letter 40 = .ok (.isub, 1) := by decide +kernel
theorem dX7_letter_41 : decode cX7_letter 41 = .ok (.istore_n 3, 1) := by decide +kernel
theorem dX7_letter_42 : decode cX7_letter 42 = .ok (.iload_n 2, 1) := by decide +kernel
theorem dX7_letter_43 : decode cX7_letter 43 = .ok (.iconst (-1), 1) := by decide +kernel
theorem dX7_letter_44 : decode cX7_letter 44 = .ok (.if_icmp .ne 5, 3) := by decide +kernel
theorem dX7_letter_47 : decode cX7_letter 47 = .ok (.iload_n 3, 1) := by decide +kernel
theorem dX7_letter_48 : decode cX7_letter 48 = .ok (.ireturn, 1) := by decide +kernel
theorem dX7_letter_49 : decode cX7_letter 49 = .ok (.iload_n 2, 1) := by decide +kernel
theorem dX7_letter_50 : decode cX7_letter 50 = .ok (.iload_n 3, 1) := by decide +kernel
theorem dX7_letter_51 : decode cX7_letter 51 = .ok (.if_icmp .lt 6, 3) := by decide +kernel
theorem dX7_letter_54 : decode cX7_letter 54 = .ok (.bipush (-2), 2) := by decide +kernel
theorem dX7_letter_56 : decode cX7_letter 56 = .ok (.ireturn, 1) := by decide +kernel
theorem dX7_letter_57 : decode cX7_letter 57 = .ok (.iload_n 2, 1) := by decide +kernel
theorem dX7_letter_58 : decode cX7_letter 58 = .ok (.aload_n 0, 1) := by decide +kernel
theorem dX7_letter_59 : decode cX7_letter 59 = .ok (.invokevirtual 47, 3) := by decide +kernel
theorem dX7_letter_62 : decode cX7_letter 62 = .ok (.iconst 1, 1) := by decide +kernel
theorem dX7_letter_63 : decode cX7_letter 63 = .ok (.iadd, 1) := by decide +kernel
theorem dX7_letter_64 : decode cX7_letter 64 = .ok (.irem, 1) := by decide +kernel
theorem dX7_letter_65 : decode cX7_letter 65 = .ok (.istore 4, 2) := by decide +kernel
theorem dX7_letter_67 : decode cX7_letter 67 = .ok (.iload 4, 2) := by decide +kernel
theorem dX7_letter_69 : decode cX7_letter 69 = .ok (.aload_n 0, 1) := by decide +kernel
theorem dX7_letter_70 : decode cX7_letter 70 = .ok (.invokevirtual 47, 3) := by decide +kernel
theorem dX7_letter_73 : decode cX7_letter 73 = .ok (.if_icmp .ne 8, 3) := by decide +kernel
theorem dX7_letter_76 : decode cX7_letter 76 = .ok (.bipush 47, 2) := by decide +kernel
theorem dX7_letter_78 : decode cX7_letter 78 = .ok (.goto 26, 3) := by decide +kernel
theorem dX7_letter_81 : decode cX7_letter 81 = .ok (.aload_n 0, 1) := by decide +kernel
theorem dX7_letter_82 : decode cX7_letter 82 = .ok (.iload_n 2, 1) := by decide +kernel
theorem dX7_letter_83 : decode cX7_letter 83 = .ok (.aload_n 0, 1) := by decide +kernel
theorem dX7_letter_84 : decode cX7_letter 84 = .ok (.invokevirtual 47, 3) := by decide +kernel
theorem dX7_letter_87 : decode cX7_letter 87 = .ok (.iconst 1, 1) := by decide +kernel
theorem dX7_letter_88 : decode cX7_letter 88 = .ok (.iadd, 1) := by decide +kernel
theorem dX7_letter_89 : decode cX7_letter 89 = .ok (.idiv, 1) := by decide +kernel
theorem dX7_letter_90 : decode cX7_letter 90 = .ok (.aload_n 0, 1) := by decide +kernel
theorem dX7_letter_91 : decode cX7_letter 91 = .ok (.invokevirtual 47, 3) := by decide +kernel
theorem dX7_letter_94 : decode cX7_letter 94 = .ok (.imul, 1) := by decide +kernel
theorem dX7_letter_95 : decode cX7_letter 95 = .ok (.iload 4, 2) := by decide +kernel
theorem dX7_letter_97 : decode cX7_letter 97 = .ok (.iadd, 1) := by decide +kernel
theorem dX7_letter_98 : decode cX7_letter 98 = .ok (.iconst 2, 1) := by decide +kernel
theorem dX7_letter_99 : decode cX7_letter 99 = .ok (.iload_n 1, 1) := by decide +kernel
theorem dX7_letter_100 : decode cX7_letter 100 = .ok (.imul, 1) := by decide +kernel
theorem dX7_letter_101 : decode cX7_letter 101 = .ok (.invokevirtual 195, 3) := by decide +kernel
theorem dX7_letter_104 : decode cX7_letter 104 = .ok (.ireturn, 1) := by decide +kernel
theorem dX7_count_0 : decode cX7_count 0 = .ok (.iload_n 1, 1) := by decide +kernel
theorem dX7_count_1 : decode cX7_count 1 = .ok (.tableswitch 128 0 8 #[51, 56, 61, 66, 74, 79, 84, 89, 119], 51) := by decide +kernel
theorem dX7_count_52 : decode cX7_count 52 = .ok (.aload_n 0, 1) := by decide +kernel
theorem dX7_count_53 : decode cX7_count 53 = .ok (.invokevirtual 43, 3) := by decide +kernel
theorem dX7_count_56 : decode cX7_count 56 = .ok (.ireturn, 1) := by decide +kernel
theorem dX7_count_57 : decode cX7_count 57 = .ok (.aload_n 0, 1) := by decide +kernel
theorem dX7_count_58 : decode cX7_count 58 = .ok (.invokevirtual 47, 3) := by decide +kernel
theorem dX7_count_61 : decode cX7_count 61 = .ok (.ireturn, 1) := by decide +kernel
theorem dX7_count_62 : decode cX7_count 62 = .ok (.aload_n 0, 1) := by decide +kernel
theorem dX7_count_63 : decode cX7_count 63 = .ok (.invokevirtual 53, 3) := by decide +kernel
theorem dX7_count_66 : decode cX7_count 66 = .ok (.ireturn, 1) := by decide +kernel
theorem dX7_count_67 : decode cX7_count 67 = .ok (.aload_n 0, 1) := by decide +kernel
theorem dX7_count_68 : decode cX7_count 68 = .ok (.getfield 7, 3) := by decide +kernel
theorem dX7_count_71 : decode cX7_count 71 = .ok (.iconst 2, 1) := by decide +kernel
theorem dX7_count_72 : decode cX7_count 72 = .ok (.laload, 1) := by decide +kernel
theorem dX7_count_73 : decode cX7_count 73 = .ok (.l2i, 1) := by decide +kernel
theorem dX7_count_74 : decode cX7_count 74 = .ok (.ireturn, 1) := by decide +kernel
theorem dX7_count_75 : decode cX7_count 75 = .ok (.aload_n 0, 1) := by decide +kernel
theorem dX7_count_76 : decode cX7_count 76 = .ok (.invokevirtual 50, 3) := by decide +kernel
theorem dX7_count_79 : decode cX7_count 79 = .ok (.ireturn, 1) := by decide +kernel
theorem dX7_count_80 : decode cX7_count 80 = .ok (.aload_n 0, 1) := by decide +kernel
theorem dX7_count_81 : decode cX7_count 81 = .ok (.getfield 124, 3) := by decide +kernel
theorem dX7_count_84 : decode cX7_count 84 = .ok (.ireturn, 1) := by decide +kernel
theorem dX7_count_85 : decode cX7_count 85 = .ok (.aload_n 0, 1) := by decide +kernel
theorem dX7_count_86 : decode cX7_count 86 = .ok (.getfield 135, 3) := by decide +kernel
theorem dX7_count_89 : decode cX7_count 89 = .ok (.ireturn, 1) := by decide +kernel
theorem dX7_count_90 : decode cX7_count 90 = .ok (.aload_n 0, 1) := by decide +kernel
theorem dX7_count_91 : decode cX7_count 91 = .ok (.getfield 20, 3) := by decide +kernel
theorem dX7_count_94 : decode cX7_count 94 = .ok (.iconst 0, 1) := by decide +kernel
theorem dX7_count_95 : decode cX7_count 95 = .ok (.baload, 1) := by decide +kernel
theorem dX7_count_96 : decode cX7_count 96 = .ok (.ifCond .eq 7, 3) := by decide +kernel
theorem dX7_count_99 : decode cX7_count 99 = .ok (.iconst 1, 1) := by decide +kernel
theorem dX7_count_100 : decode cX7_count 100 = .ok (.goto 4, 3) := by decide +kernel
theorem dX7_count_103 : decode cX7_count 103 = .ok (.iconst 0, 1) := by decide +kernel
theorem dX7_count_104 : decode cX7_count 104 = .ok (.aload_n 0, 1) := by decide +kernel
theorem dX7_count_105 : decode cX7_count 105 = .ok (.getfield 20, 3) := by decide +kernel
theorem dX7_count_108 : decode cX7_count 108 = .ok (.iconst 1, 1) := by decide +kernel
theorem dX7_count_109 : decode cX7_count 109 = .ok (.baload, 1) := by decide +kernel
theorem dX7_count_110 : decode cX7_count 110 = .ok (.ifCond .eq 7, 3) := by decide +kernel
theorem dX7_count_113 : decode cX7_count 113 = .ok (.iconst 2, 1) := by decide +kernel
theorem dX7_count_114 : decode cX7_count 114 = .ok (.goto 4, 3) := by decide +kernel
theorem dX7_count_117 : decode cX7_count 117 = .ok (.iconst 0, 1) := by decide +kernel
theorem dX7_count_118 : decode cX7_count 118 = .ok (.iadd, 1) := by decide +kernel
theorem dX7_count_119 : decode cX7_count 119 = .ok (.ireturn, 1) := by decide +kernel
theorem dX7_count_120 : decode cX7_count 120 = .ok (.aload_n 0, 1) := by decide +kernel
theorem dX7_count_121 : decode cX7_count 121 = .ok (.invokevirtual 99, 3) := by decide +kernel
theorem dX7_count_124 : decode cX7_count 124 = .ok (.aload_n 0, 1) := by decide +kernel
theorem dX7_count_125 : decode cX7_count 125 = .ok (.getfield 86, 3) := by decide +kernel
theorem dX7_count_128 : decode cX7_count 128 = .ok (.ireturn, 1) := by decide +kernel
theorem dX7_count_129 : decode cX7_count 129 = .ok (.iconst (-1), 1) := by decide +kernel
theorem dX7_count_130 : decode cX7_count 130 = .ok (.ireturn, 1) := by decide +kernel
theorem dX7_asks_0 : decode cX7_asks 0 = .ok (.aload_n 0, 1) := by decide +kernel
theorem dX7_asks_1 : decode cX7_asks 1 = .ok (.iconst 0, 1) := by decide +kernel
theorem dX7_asks_2 : decode cX7_asks 2 = .ok (.putfield 223, 3) := by decide +kernel
theorem dX7_asks_5 : decode cX7_asks 5 = .ok (.aload_n 0, 1) := by decide +kernel
theorem dX7_asks_6 : decode cX7_asks 6 = .ok (.iconst 0, 1) := by decide +kernel
theorem dX7_asks_7 : decode cX7_asks 7 = .ok (.putfield 226, 3) := by decide +kernel
theorem dX7_asks_10 : decode cX7_asks 10 = .ok (.iconst 0, 1) := by decide +kernel
theorem dX7_asks_11 : decode cX7_asks 11 = .ok (.istore 5, 2) := by decide +kernel
theorem dX7_asks_13 : decode cX7_asks 13 = .ok (.iload 5, 2) := by decide +kernel
theorem dX7_asks_15 : decode cX7_asks 15 = .ok (.aload_n 0, 1) := by decide +kernel
theorem dX7_asks_16 : decode cX7_asks 16 = .ok (.invokevirtual 47, 3) := by decide +kernel
theorem dX7_asks_19 : decode cX7_asks 19 = .ok (.if_icmp .ge 116, 3) := by decide +kernel
theorem dX7_asks_22 : decode cX7_asks 22 = .ok (.aload_n 0, 1) := by decide +kernel
theorem dX7_asks_23 : decode cX7_asks 23 = .ok (.invokevirtual 47, 3) := by decide +kernel
theorem dX7_asks_26 : decode cX7_asks 26 = .ok (.iload_n 1, 1) := by decide +kernel
theorem dX7_asks_27 : decode cX7_asks 27 = .ok (.imul, 1) := by decide +kernel
theorem dX7_asks_28 : decode cX7_asks 28 = .ok (.iload 5, 2) := by decide +kernel
theorem dX7_asks_30 : decode cX7_asks 30 = .ok (.iadd, 1) := by decide +kernel
theorem dX7_asks_31 : decode cX7_asks 31 = .ok (.istore 6, 2) := by decide +kernel
theorem dX7_asks_33 : decode cX7_asks 33 = .ok (.iload 5, 2) := by decide +kernel
theorem dX7_asks_35 : decode cX7_asks 35 = .ok (.iload_n 2, 1) := by decide +kernel
theorem dX7_asks_36 : decode cX7_asks 36 = .ok (.if_icmp .lt 16, 3) := by decide +kernel
theorem dX7_asks_39 : decode cX7_asks 39 = .ok (.iload 5, 2) := by decide +kernel
theorem dX7_asks_41 : decode cX7_asks 41 = .ok (.iload_n 2, 1) := by decide +kernel
theorem dX7_asks_42 : decode cX7_asks 42 = .ok (.iload 4, 2) := by decide +kernel
theorem dX7_asks_44 : decode cX7_asks 44 = .ok (.iadd, 1) := by decide +kernel
theorem dX7_asks_45 : decode cX7_asks 45 = .ok (.if_icmp .ge 7, 3) := by decide +kernel
theorem dX7_asks_48 : decode cX7_asks 48 = .ok (.iconst 1, 1) := by decide +kernel
theorem dX7_asks_49 : decode cX7_asks 49 = .ok (.goto 4, 3) := by decide +kernel
theorem dX7_asks_52 : decode cX7_asks 52 = .ok (.iconst 0, 1) := by decide +kernel
theorem dX7_asks_53 : decode cX7_asks 53 = .ok (.istore 7, 2) := by decide +kernel
theorem dX7_asks_55 : decode cX7_asks 55 = .ok (.iload 7, 2) := by decide +kernel
theorem dX7_asks_57 : decode cX7_asks 57 = .ok (.ifCond .eq 23, 3) := by decide +kernel
theorem dX7_asks_60 : decode cX7_asks 60 = .ok (.aload_n 0, 1) := by decide +kernel
theorem dX7_asks_61 : decode cX7_asks 61 = .ok (.iload 6, 2) := by decide +kernel
theorem dX7_asks_63 : decode cX7_asks 63 = .ok (.aload_n 0, 1) := by decide +kernel
theorem dX7_asks_64 : decode cX7_asks 64 = .ok (.getfield 31, 3) := by decide +kernel
theorem dX7_asks_67 : decode cX7_asks 67 = .ok (.iload_n 3, 1) := by decide +kernel
theorem dX7_asks_68 : decode cX7_asks 68 = .ok (.iload 5, 2) := by decide +kernel
theorem dX7_asks_70 : decode cX7_asks 70 = .ok (.iadd, 1) := by decide +kernel
theorem dX7_asks_71 : decode cX7_asks 71 = .ok (.iload_n 2, 1) := by decide +kernel
theorem dX7_asks_72 : decode cX7_asks 72 = .ok (.isub, 1) := by decide +kernel
theorem dX7_asks_73 : decode cX7_asks 73 = .ok (.baload, 1) := by decide +kernel
theorem dX7_asks_74 : decode cX7_asks 74 = .ok (.invokevirtual 113, 3) := by decide +kernel
theorem dX7_asks_77 : decode cX7_asks 77 = .ok (.goto 4, 3) := by decide +kernel
theorem dX7_asks_80 : decode cX7_asks 80 = .ok (.iconst 0, 1) := by decide +kernel
theorem dX7_asks_81 : decode cX7_asks 81 = .ok (.istore 8, 2) := by decide +kernel
theorem dX7_asks_83 : decode cX7_asks 83 = .ok (.iload 8, 2) := by decide +kernel
theorem dX7_asks_85 : decode cX7_asks 85 = .ok (.iconst (-1), 1) := by decide +kernel
theorem dX7_asks_86 : decode cX7_asks 86 = .ok (.if_icmp .ne 16, 3) := by decide +kernel
theorem dX7_asks_89 : decode cX7_asks 89 = .ok (.aload_n 0, 1) := by decide +kernel
theorem dX7_asks_90 : decode cX7_asks 90 = .ok (.dup, 1) := by decide +kernel
theorem dX7_asks_91 : decode cX7_asks 91 = .ok (.getfield 226, 3) := by decide +kernel
theorem dX7_asks_94 : decode cX7_asks 94 = .ok (.iconst 1, 1) := by decide +kernel
theorem dX7_asks_95 : decode cX7_asks 95 = .ok (.iadd, 1) := by decide +kernel
theorem dX7_asks_96 : decode cX7_asks 96 = .ok (.putfield 226, 3) := by decide +kernel
theorem dX7_asks_99 : decode cX7_asks 99 = .ok (.goto 30, 3) := by decide +kernel
theorem dX7_asks_102 : decode cX7_asks 102 = .ok (.aload_n 0, 1) := by decide +kernel
theorem dX7_asks_103 : decode cX7_asks 103 = .ok (.dup, 1) := by decide +kernel
theorem dX7_asks_104 : decode cX7_asks 104 = .ok (.getfield 223, 3) := by decide +kernel
theorem dX7_asks_107 : decode cX7_asks 107 = .ok (.aload_n 0, 1) := by decide +kernel
theorem dX7_asks_108 : decode cX7_asks 108 = .ok (.iload 6, 2) := by decide +kernel
theorem dX7_asks_110 : decode cX7_asks 110 = .ok (.iconst 2, 1) := by decide +kernel
theorem dX7_asks_111 : decode cX7_asks 111 = .ok (.invokevirtual 56, 3) := by decide +kernel
theorem dX7_asks_114 : decode cX7_asks 114 = .ok (.iload 8, 2) := by decide +kernel
theorem dX7_asks_116 : decode cX7_asks 116 = .ok (.aload_n 0, 1) := by decide +kernel
theorem dX7_asks_117 : decode cX7_asks 117 = .ok (.iload 6, 2) := by decide +kernel
theorem dX7_asks_119 : decode cX7_asks 119 = .ok (.invokevirtual 67, 3) := by decide +kernel
theorem dX7_asks_122 : decode cX7_asks 122 = .ok (.invokestatic 70, 3) := by decide +kernel
theorem dX7_asks_125 : decode cX7_asks 125 = .ok (.iadd, 1) := by decide +kernel
theorem dX7_asks_126 : decode cX7_asks 126 = .ok (.putfield 223, 3) := by decide +kernel
theorem dX7_asks_129 : decode cX7_asks 129 = .ok (.iinc 5 1, 3) := by decide +kernel
theorem dX7_asks_132 : decode cX7_asks 132 = .ok (.goto (-119), 3) := by decide +kernel
theorem dX7_asks_135 : decode cX7_asks 135 = .ok (.return_, 1) := by decide +kernel
theorem dX7_cost_0 : decode cX7_cost 0 = .ok (.aload_n 0, 1) := by decide +kernel
theorem dX7_cost_1 : decode cX7_cost 1 = .ok (.iload_n 1, 1) := by decide +kernel
theorem dX7_cost_2 : decode cX7_cost 2 = .ok (.invokevirtual 138, 3) := by decide +kernel
theorem dX7_cost_5 : decode cX7_cost 5 = .ok (.ifCond .ne 5, 3) := by decide +kernel
theorem dX7_cost_8 : decode cX7_cost 8 = .ok (.iconst (-1), 1) := by decide +kernel
theorem dX7_cost_9 : decode cX7_cost 9 = .ok (.ireturn, 1) := by decide +kernel
theorem dX7_cost_10 : decode cX7_cost 10 = .ok (.aload_n 0, 1) := by decide +kernel
theorem dX7_cost_11 : decode cX7_cost 11 = .ok (.aload_n 0, 1) := by decide +kernel
theorem dX7_cost_12 : decode cX7_cost 12 = .ok (.getfield 135, 3) := by decide +kernel
theorem dX7_cost_15 : decode cX7_cost 15 = .ok (.invokevirtual 141, 3) := by decide +kernel
theorem dX7_cost_18 : decode cX7_cost 18 = .ok (.ifCond .ne 6, 3) := by decide +kernel
theorem dX7_cost_21 : decode cX7_cost 21 = .ok (.bipush (-2), 2) := by decide +kernel
theorem dX7_cost_23 : decode cX7_cost 23 = .ok (.ireturn, 1) := by decide +kernel
theorem dX7_cost_24 : decode cX7_cost 24 = .ok (.aload_n 0, 1) := by decide +kernel
theorem dX7_cost_25 : decode cX7_cost 25 = .ok (.iload_n 1, 1) := by decide +kernel
theorem dX7_cost_26 : decode cX7_cost 26 = .ok (.iconst 0, 1) := by decide +kernel
theorem dX7_cost_27 : decode cX7_cost 27 = .ok (.iconst 0, 1) := by decide +kernel
theorem dX7_cost_28 : decode cX7_cost 28 = .ok (.aload_n 0, 1) := by decide +kernel
theorem dX7_cost_29 : decode cX7_cost 29 = .ok (.getfield 135, 3) := by decide +kernel
theorem dX7_cost_32 : decode cX7_cost 32 = .ok (.invokevirtual 229, 3) := by decide +kernel
theorem dX7_cost_35 : decode cX7_cost 35 = .ok (.aload_n 0, 1) := by decide +kernel
theorem dX7_cost_36 : decode cX7_cost 36 = .ok (.getfield 223, 3) := by decide +kernel
theorem dX7_cost_39 : decode cX7_cost 39 = .ok (.ireturn, 1) := by decide +kernel
theorem dX7_endOf_0 : decode cX7_endOf 0 = .ok (.iload_n 1, 1) := by decide +kernel
theorem dX7_endOf_1 : decode cX7_endOf 1 = .ok (.istore_n 2, 1) := by decide +kernel
theorem dX7_endOf_2 : decode cX7_endOf 2 = .ok (.iload_n 2, 1) := by decide +kernel
theorem dX7_endOf_3 : decode cX7_endOf 3 = .ok (.aload_n 0, 1) := by decide +kernel
theorem dX7_endOf_4 : decode cX7_endOf 4 = .ok (.getfield 135, 3) := by decide +kernel
theorem dX7_endOf_7 : decode cX7_endOf 7 = .ok (.if_icmp .ge 20, 3) := by decide +kernel
theorem dX7_endOf_10 : decode cX7_endOf 10 = .ok (.aload_n 0, 1) := by decide +kernel
theorem dX7_endOf_11 : decode cX7_endOf 11 = .ok (.getfield 31, 3) := by decide +kernel
theorem dX7_endOf_14 : decode cX7_endOf 14 = .ok (.iload_n 2, 1) := by decide +kernel
theorem dX7_endOf_15 : decode cX7_endOf 15 = .ok (.baload, 1) := by decide +kernel
theorem dX7_endOf_16 : decode cX7_endOf 16 = .ok (.bipush 47, 2) := by decide +kernel
theorem dX7_endOf_18 : decode cX7_endOf 18 = .ok (.if_icmp .eq 9, 3) := by decide +kernel
theorem dX7_endOf_21 : decode cX7_endOf 21 = .ok (.iinc 2 1, 3) := by decide +kernel
theorem dX7_endOf_24 : decode cX7_endOf 24 = .ok (.goto (-22), 3) := by decide +kernel
theorem dX7_endOf_27 : decode cX7_endOf 27 = .ok (.iload_n 2, 1) := by decide +kernel
theorem dX7_endOf_28 : decode cX7_endOf 28 = .ok (.ireturn, 1) := by decide +kernel
theorem dX7_best_0 : decode cX7_best 0 = .ok (.aload_n 0, 1) := by decide +kernel
theorem dX7_best_1 : decode cX7_best 1 = .ok (.iload_n 1, 1) := by decide +kernel
theorem dX7_best_2 : decode cX7_best 2 = .ok (.invokevirtual 138, 3) := by decide +kernel
theorem dX7_best_5 : decode cX7_best 5 = .ok (.ifCond .eq 15, 3) := by decide +kernel
theorem dX7_best_8 : decode cX7_best 8 = .ok (.iload_n 2, 1) := by decide +kernel
theorem dX7_best_9 : decode cX7_best 9 = .ok (.i2l, 1) := by decide +kernel
theorem dX7_best_10 : decode cX7_best 10 = .ok (.lconst 0, 1) := by decide +kernel
theorem dX7_best_11 : decode cX7_best 11 = .ok (.ldc2_w 193, 3) := by decide +kernel
theorem dX7_best_14 : decode cX7_best 14 = .ok (.invokestatic 39, 3) := by decide +kernel
theorem dX7_best_17 : decode cX7_best 17 = .ok (.ifCond .ne 5, 3) := by decide +kernel
theorem dX7_best_20 : decode cX7_best 20 = .ok (.iconst (-1), 1) := by decide +kernel
theorem dX7_best_21 : decode cX7_best 21 = .ok (.ireturn, 1) := by decide +kernel
theorem dX7_best_22 : decode cX7_best 22 = .ok (.iconst (-1), 1) := by decide +kernel
theorem dX7_best_23 : decode cX7_best 23 = .ok (.istore_n 3, 1) := by decide +kernel
theorem dX7_best_24 : decode cX7_best 24 = .ok (.iconst 0, 1) := by decide +kernel
theorem dX7_best_25 : decode cX7_best 25 = .ok (.istore 4, 2) := by decide +kernel
theorem dX7_best_27 : decode cX7_best 27 = .ok (.iconst 0, 1) := by decide +kernel
theorem dX7_best_28 : decode cX7_best 28 = .ok (.istore 5, 2) := by decide +kernel
theorem dX7_best_30 : decode cX7_best 30 = .ok (.iconst 0, 1) := by decide +kernel
theorem dX7_best_31 : decode cX7_best 31 = .ok (.istore 6, 2) := by decide +kernel
theorem dX7_best_33 : decode cX7_best 33 = .ok (.iconst 0, 1) := by decide +kernel
theorem dX7_best_34 : decode cX7_best 34 = .ok (.istore 7, 2) := by decide +kernel
theorem dX7_best_36 : decode cX7_best 36 = .ok (.iload 7, 2) := by decide +kernel
theorem dX7_best_38 : decode cX7_best 38 = .ok (.aload_n 0, 1) := by decide +kernel
theorem dX7_best_39 : decode cX7_best 39 = .ok (.getfield 135, 3) := by decide +kernel
theorem dX7_best_42 : decode cX7_best 42 = .ok (.if_icmp .gt 110, 3) := by decide +kernel
theorem dX7_best_45 : decode cX7_best 45 = .ok (.aload_n 0, 1) := by decide +kernel
theorem dX7_best_46 : decode cX7_best 46 = .ok (.iload 7, 2) := by decide +kernel
theorem dX7_best_48 : decode cX7_best 48 = .ok (.invokevirtual 233, 3) := by decide +kernel
theorem dX7_best_51 : decode cX7_best 51 = .ok (.iload 7, 2) := by decide +kernel
theorem dX7_best_53 : decode cX7_best 53 = .ok (.isub, 1) := by decide +kernel
theorem dX7_best_54 : decode cX7_best 54 = .ok (.istore 8, 2) := by decide +kernel
theorem dX7_best_56 : decode cX7_best 56 = .ok (.iload 8, 2) := by decide +kernel
theorem dX7_best_58 : decode cX7_best 58 = .ok (.aload_n 0, 1) := by decide +kernel
theorem dX7_best_59 : decode cX7_best 59 = .ok (.invokevirtual 47, 3) := by decide +kernel
theorem dX7_best_62 : decode cX7_best 62 = .ok (.if_icmp .gt 14, 3) := by decide +kernel
theorem dX7_best_65 : decode cX7_best 65 = .ok (.aload_n 0, 1) := by decide +kernel
theorem dX7_best_66 : decode cX7_best 66 = .ok (.iload 7, 2) := by decide +kernel
theorem dX7_best_68 : decode cX7_best 68 = .ok (.iload 8, 2) := by decide +kernel
theorem dX7_best_70 : decode cX7_best 70 = .ok (.invokevirtual 131, 3) := by decide +kernel
theorem dX7_best_73 : decode cX7_best 73 = .ok (.ifCond .ne 6, 3) := by decide +kernel
theorem dX7_best_76 : decode cX7_best 76 = .ok (.bipush (-2), 2) := by decide +kernel
theorem dX7_best_78 : decode cX7_best 78 = .ok (.ireturn, 1) := by decide +kernel
theorem dX7_best_79 : decode cX7_best 79 = .ok (.aload_n 0, 1) := by decide +kernel
theorem dX7_best_80 : decode cX7_best 80 = .ok (.iload_n 1, 1) := by decide +kernel
theorem dX7_best_81 : decode cX7_best 81 = .ok (.iconst 0, 1) := by decide +kernel
theorem dX7_best_82 : decode cX7_best 82 = .ok (.iload 7, 2) := by decide +kernel
theorem dX7_best_84 : decode cX7_best 84 = .ok (.iload 8, 2) := by decide +kernel
theorem dX7_best_86 : decode cX7_best 86 = .ok (.invokevirtual 229, 3) := by decide +kernel
theorem dX7_best_89 : decode cX7_best 89 = .ok (.iload_n 3, 1) := by decide +kernel
theorem dX7_best_90 : decode cX7_best 90 = .ok (.iconst (-1), 1) := by decide +kernel
theorem dX7_best_91 : decode cX7_best 91 = .ok (.if_icmp .eq 30, 3) := by decide +kernel
theorem dX7_best_94 : decode cX7_best 94 = .ok (.aload_n 0, 1) := by decide +kernel
theorem dX7_best_95 : decode cX7_best 95 = .ok (.getfield 223, 3) := by decide +kernel
theorem dX7_best_98 : decode cX7_best 98 = .ok (.iload 4, 2) := by decide +kernel
theorem dX7_best_100 : decode cX7_best 100 = .ok (.if_icmp .lt 21, 3) := by decide +kernel
theorem dX7_best_103 : decode cX7_best 103 = .ok (.aload_n 0, 1) := by decide +kernel
theorem dX7_best_104 : decode cX7_best 104 = .ok (.getfield 223, 3) := by decide +kernel
theorem dX7_best_107 : decode cX7_best 107 = .ok (.iload 4, 2) := by decide +kernel
theorem dX7_best_109 : decode cX7_best 109 = .ok (.if_icmp .ne 27, 3) := by decide +kernel
theorem dX7_best_112 : decode cX7_best 112 = .ok (.aload_n 0, 1) := by decide +kernel
theorem dX7_best_113 : decode cX7_best 113 = .ok (.getfield 226, 3) := by decide +kernel
theorem dX7_best_116 : decode cX7_best 116 = .ok (.iload 5, 2) := by decide +kernel
theorem dX7_best_118 : decode cX7_best 118 = .ok (.if_icmp .ge 18, 3) := by decide +kernel
theorem dX7_best_121 : decode cX7_best 121 = .ok (.iload 6, 2) := by decide +kernel
theorem dX7_best_123 : decode cX7_best 123 = .ok (.istore_n 3, 1) := by decide +kernel
theorem dX7_best_124 : decode cX7_best 124 = .ok (.aload_n 0, 1) := by decide +kernel
theorem dX7_best_125 : decode cX7_best 125 = .ok (.getfield 223, 3) := by decide +kernel
theorem dX7_best_128 : decode cX7_best 128 = .ok (.istore 4, 2) := by decide +kernel
theorem dX7_best_130 : decode cX7_best 130 = .ok (.aload_n 0, 1) := by decide +kernel
theorem dX7_best_131 : decode cX7_best 131 = .ok (.getfield 226, 3) := by decide +kernel
theorem dX7_best_134 : decode cX7_best 134 = .ok (.istore 5, 2) := by decide +kernel
theorem dX7_best_136 : decode cX7_best 136 = .ok (.iinc 6 1, 3) := by decide +kernel
theorem dX7_best_139 : decode cX7_best 139 = .ok (.aload_n 0, 1) := by decide +kernel
theorem dX7_best_140 : decode cX7_best 140 = .ok (.iload 7, 2) := by decide +kernel
theorem dX7_best_142 : decode cX7_best 142 = .ok (.invokevirtual 233, 3) := by decide +kernel
theorem dX7_best_145 : decode cX7_best 145 = .ok (.iconst 1, 1) := by decide +kernel
theorem dX7_best_146 : decode cX7_best 146 = .ok (.iadd, 1) := by decide +kernel
theorem dX7_best_147 : decode cX7_best 147 = .ok (.istore 7, 2) := by decide +kernel
theorem dX7_best_149 : decode cX7_best 149 = .ok (.goto (-113), 3) := by decide +kernel
theorem dX7_best_152 : decode cX7_best 152 = .ok (.iload_n 2, 1) := by decide +kernel
theorem dX7_best_153 : decode cX7_best 153 = .ok (.ifCond .ne 7, 3) := by decide +kernel
theorem dX7_best_156 : decode cX7_best 156 = .ok (.iload_n 3, 1) := by decide +kernel
theorem dX7_best_157 : decode cX7_best 157 = .ok (.goto 15, 3) := by decide +kernel
theorem dX7_best_160 : decode cX7_best 160 = .ok (.iload_n 2, 1) := by decide +kernel
theorem dX7_best_161 : decode cX7_best 161 = .ok (.iconst 1, 1) := by decide +kernel
theorem dX7_best_162 : decode cX7_best 162 = .ok (.if_icmp .ne 8, 3) := by decide +kernel
theorem dX7_best_165 : decode cX7_best 165 = .ok (.iload 4, 2) := by decide +kernel
theorem dX7_best_167 : decode cX7_best 167 = .ok (.goto 5, 3) := by decide +kernel
theorem dX7_best_170 : decode cX7_best 170 = .ok (.iload 5, 2) := by decide +kernel
theorem dX7_best_172 : decode cX7_best 172 = .ok (.ireturn, 1) := by decide +kernel
theorem dX7_place_0 : decode cX7_place 0 = .ok (.aload_n 0, 1) := by decide +kernel
theorem dX7_place_1 : decode cX7_place 1 = .ok (.iload_n 1, 1) := by decide +kernel
theorem dX7_place_2 : decode cX7_place 2 = .ok (.invokevirtual 138, 3) := by decide +kernel
theorem dX7_place_5 : decode cX7_place 5 = .ok (.ifCond .eq 13, 3) := by decide +kernel
theorem dX7_place_8 : decode cX7_place 8 = .ok (.iload_n 2, 1) := by decide +kernel
theorem dX7_place_9 : decode cX7_place 9 = .ok (.i2l, 1) := by decide +kernel
theorem dX7_place_10 : decode cX7_place 10 = .ok (.lconst 0, 1) := by decide +kernel
theorem dX7_place_11 : decode cX7_place 11 = .ok (.lconst 1, 1) := by decide +kernel
theorem dX7_place_12 : decode cX7_place 12 = .ok (.invokestatic 39, 3) := by decide +kernel
theorem dX7_place_15 : decode cX7_place 15 = .ok (.ifCond .ne 5, 3) := by decide +kernel
theorem dX7_place_18 : decode cX7_place 18 = .ok (.iconst (-1), 1) := by decide +kernel
theorem dX7_place_19 : decode cX7_place 19 = .ok (.ireturn, 1) := by decide +kernel
theorem dX7_place_20 : decode cX7_place 20 = .ok (.aload_n 0, 1) := by decide +kernel
theorem dX7_place_21 : decode cX7_place 21 = .ok (.getfield 135, 3) := by decide +kernel
theorem dX7_place_24 : decode cX7_place 24 = .ok (.ifCond .eq 14, 3) := by decide +kernel
theorem dX7_place_27 : decode cX7_place 27 = .ok (.aload_n 0, 1) := by decide +kernel
theorem dX7_place_28 : decode cX7_place 28 = .ok (.aload_n 0, 1) := by decide +kernel
theorem dX7_place_29 : decode cX7_place 29 = .ok (.getfield 135, 3) := by decide +kernel
theorem dX7_place_32 : decode cX7_place 32 = .ok (.invokevirtual 141, 3) := by decide +kernel
theorem dX7_place_35 : decode cX7_place 35 = .ok (.ifCond .ne 6, 3) := by decide +kernel
theorem dX7_place_38 : decode cX7_place 38 = .ok (.bipush (-2), 2) := by decide +kernel
theorem dX7_place_40 : decode cX7_place 40 = .ok (.ireturn, 1) := by decide +kernel
theorem dX7_place_41 : decode cX7_place 41 = .ok (.iconst (-1), 1) := by decide +kernel
theorem dX7_place_42 : decode cX7_place 42 = .ok (.istore_n 3, 1) := by decide +kernel
theorem dX7_place_43 : decode cX7_place 43 = .ok (.iconst 0, 1) := by decide +kernel
theorem dX7_place_44 : decode cX7_place 44 = .ok (.istore 4, 2) := by decide +kernel
theorem dX7_place_46 : decode cX7_place 46 = .ok (.iconst 0, 1) := by decide +kernel
theorem dX7_place_47 : decode cX7_place 47 = .ok (.istore 5, 2) := by decide +kernel
theorem dX7_place_49 : decode cX7_place 49 = .ok (.iconst 0, 1) := by decide +kernel
theorem dX7_place_50 : decode cX7_place 50 = .ok (.istore 6, 2) := by decide +kernel
theorem dX7_place_52 : decode cX7_place 52 = .ok (.iload 6, 2) := by decide +kernel
theorem dX7_place_54 : decode cX7_place 54 = .ok (.aload_n 0, 1) := by decide +kernel
theorem dX7_place_55 : decode cX7_place 55 = .ok (.getfield 135, 3) := by decide +kernel
theorem dX7_place_58 : decode cX7_place 58 = .ok (.iadd, 1) := by decide +kernel
theorem dX7_place_59 : decode cX7_place 59 = .ok (.aload_n 0, 1) := by decide +kernel
theorem dX7_place_60 : decode cX7_place 60 = .ok (.invokevirtual 47, 3) := by decide +kernel
theorem dX7_place_63 : decode cX7_place 63 = .ok (.if_icmp .gt 71, 3) := by decide +kernel
theorem dX7_place_66 : decode cX7_place 66 = .ok (.aload_n 0, 1) := by decide +kernel
theorem dX7_place_67 : decode cX7_place 67 = .ok (.iload_n 1, 1) := by decide +kernel
theorem dX7_place_68 : decode cX7_place 68 = .ok (.iload 6, 2) := by decide +kernel
theorem dX7_place_70 : decode cX7_place 70 = .ok (.iconst 0, 1) := by decide +kernel
theorem dX7_place_71 : decode cX7_place 71 = .ok (.aload_n 0, 1) := by decide +kernel
theorem dX7_place_72 : decode cX7_place 72 = .ok (.getfield 135, 3) := by decide +kernel
theorem dX7_place_75 : decode cX7_place 75 = .ok (.invokevirtual 229, 3) := by decide +kernel
theorem dX7_place_78 : decode cX7_place 78 = .ok (.iload_n 3, 1) := by decide +kernel
theorem dX7_place_79 : decode cX7_place 79 = .ok (.iconst (-1), 1) := by decide +kernel
theorem dX7_place_80 : decode cX7_place 80 = .ok (.if_icmp .eq 33, 3) := by decide +kernel
theorem dX7_place_83 : decode cX7_place 83 = .ok (.aload_n 0, 1) := by decide +kernel
theorem dX7_place_84 : decode cX7_place 84 = .ok (.getfield 226, 3) := by decide +kernel
theorem dX7_place_87 : decode cX7_place 87 = .ok (.iload 5, 2) := by decide +kernel
theorem dX7_place_89 : decode cX7_place 89 = .ok (.if_icmp .gt 39, 3) := by decide +kernel
theorem dX7_place_92 : decode cX7_place 92 = .ok (.aload_n 0, 1) := by decide +kernel
theorem dX7_place_93 : decode cX7_place 93 = .ok (.getfield 226, 3) := by decide +kernel
theorem dX7_place_96 : decode cX7_place 96 = .ok (.iload 5, 2) := by decide +kernel
theorem dX7_place_98 : decode cX7_place 98 = .ok (.if_icmp .ne 15, 3) := by decide +kernel
theorem dX7_place_101 : decode cX7_place 101 = .ok (.aload_n 0, 1) := by decide +kernel
theorem dX7_place_102 : decode cX7_place 102 = .ok (.getfield 223, 3) := by decide +kernel
theorem dX7_place_105 : decode cX7_place 105 = .ok (.iload 4, 2) := by decide +kernel
theorem dX7_place_107 : decode cX7_place 107 = .ok (.if_icmp .lt 6, 3) := by decide +kernel
theorem dX7_place_110 : decode cX7_place 110 = .ok (.goto 18, 3) := by decide +kernel
theorem dX7_place_113 : decode cX7_place 113 = .ok (.iload 6, 2) := by decide +kernel
theorem dX7_place_115 : decode cX7_place 115 = .ok (.istore_n 3, 1) := by decide +kernel
theorem dX7_place_116 : decode cX7_place 116 = .ok (.aload_n 0, 1) := by decide +kernel
theorem dX7_place_117 : decode cX7_place 117 = .ok (.getfield 223, 3) := by decide +kernel
theorem dX7_place_120 : decode cX7_place 120 = .ok (.istore 4, 2) := by decide +kernel
theorem dX7_place_122 : decode cX7_place 122 = .ok (.aload_n 0, 1) := by decide +kernel
theorem dX7_place_123 : decode cX7_place 123 = .ok (.getfield 226, 3) := by decide +kernel
theorem dX7_place_126 : decode cX7_place 126 = .ok (.istore 5, 2) := by decide +kernel
theorem dX7_place_128 : decode cX7_place 128 = .ok (.iinc 6 1, 3) := by decide +kernel
theorem dX7_place_131 : decode cX7_place 131 = .ok (.goto (-79), 3) := by decide +kernel
theorem dX7_place_134 : decode cX7_place 134 = .ok (.iload_n 2, 1) := by decide +kernel
theorem dX7_place_135 : decode cX7_place 135 = .ok (.ifCond .ne 7, 3) := by decide +kernel
theorem dX7_place_138 : decode cX7_place 138 = .ok (.iload_n 3, 1) := by decide +kernel
theorem dX7_place_139 : decode cX7_place 139 = .ok (.goto 5, 3) := by decide +kernel
theorem dX7_place_142 : decode cX7_place 142 = .ok (.iload 4, 2) := by decide +kernel
theorem dX7_place_144 : decode cX7_place 144 = .ok (.ireturn, 1) := by decide +kernel
theorem dX7_logged_0 : decode cX7_logged 0 = .ok (.aload_n 0, 1) := by decide +kernel
theorem dX7_logged_1 : decode cX7_logged 1 = .ok (.getfield 7, 3) := by decide +kernel
theorem dX7_logged_4 : decode cX7_logged 4 = .ok (.sipush 496, 3) := by decide +kernel
theorem dX7_logged_7 : decode cX7_logged 7 = .ok (.bipush 40, 2) := by decide +kernel
theorem dX7_logged_9 : decode cX7_logged 9 = .ok (.bipush 40, 2) := by decide +kernel
theorem dX7_logged_11 : decode cX7_logged 11 = .ok (.iload_n 1, 1) := by decide +kernel
theorem dX7_logged_12 : decode cX7_logged 12 = .ok (.imul, 1) := by decide +kernel
theorem dX7_logged_13 : decode cX7_logged 13 = .ok (.iload_n 2, 1) := by decide +kernel
theorem dX7_logged_14 : decode cX7_logged 14 = .ok (.iadd, 1) := by decide +kernel
theorem dX7_logged_15 : decode cX7_logged 15 = .ok (.imul, 1) := by decide +kernel
theorem dX7_logged_16 : decode cX7_logged 16 = .ok (.iadd, 1) := by decide +kernel
theorem dX7_logged_17 : decode cX7_logged 17 = .ok (.iload_n 3, 1) := by decide +kernel
theorem dX7_logged_18 : decode cX7_logged 18 = .ok (.iadd, 1) := by decide +kernel
theorem dX7_logged_19 : decode cX7_logged 19 = .ok (.laload, 1) := by decide +kernel
theorem dX7_logged_20 : decode cX7_logged 20 = .ok (.l2i, 1) := by decide +kernel
theorem dX7_logged_21 : decode cX7_logged 21 = .ok (.ireturn, 1) := by decide +kernel
theorem dX7_moved_0 : decode cX7_moved 0 = .ok (.iload_n 0, 1) := by decide +kernel
theorem dX7_moved_1 : decode cX7_moved 1 = .ok (.iload_n 1, 1) := by decide +kernel
theorem dX7_moved_2 : decode cX7_moved 2 = .ok (.if_icmp .ne 7, 3) := by decide +kernel
theorem dX7_moved_5 : decode cX7_moved 5 = .ok (.iload_n 2, 1) := by decide +kernel
theorem dX7_moved_6 : decode cX7_moved 6 = .ok (.goto 13, 3) := by decide +kernel
theorem dX7_moved_9 : decode cX7_moved 9 = .ok (.iload_n 0, 1) := by decide +kernel
theorem dX7_moved_10 : decode cX7_moved 10 = .ok (.iload_n 2, 1) := by decide +kernel
theorem dX7_moved_11 : decode cX7_moved 11 = .ok (.if_icmp .ne 7, 3) := by decide +kernel
theorem dX7_moved_14 : decode cX7_moved 14 = .ok (.iload_n 1, 1) := by decide +kernel
theorem dX7_moved_15 : decode cX7_moved 15 = .ok (.goto 4, 3) := by decide +kernel
theorem dX7_moved_18 : decode cX7_moved 18 = .ok (.iload_n 0, 1) := by decide +kernel
theorem dX7_moved_19 : decode cX7_moved 19 = .ok (.ireturn, 1) := by decide +kernel
theorem dX7_journey_0 : decode cX7_journey 0 = .ok (.aload_n 0, 1) := by decide +kernel
theorem dX7_journey_1 : decode cX7_journey 1 = .ok (.iload_n 1, 1) := by decide +kernel
theorem dX7_journey_2 : decode cX7_journey 2 = .ok (.invokevirtual 60, 3) := by decide +kernel
theorem dX7_journey_5 : decode cX7_journey 5 = .ok (.istore 4, 2) := by decide +kernel
theorem dX7_journey_7 : decode cX7_journey 7 = .ok (.iconst 0, 1) := by decide +kernel
theorem dX7_journey_8 : decode cX7_journey 8 = .ok (.istore 5, 2) := by decide +kernel
theorem dX7_journey_10 : decode cX7_journey 10 = .ok (.iconst 0, 1) := by decide +kernel
theorem dX7_journey_11 : decode cX7_journey 11 = .ok (.istore 6, 2) := by decide +kernel
theorem dX7_journey_13 : decode cX7_journey 13 = .ok (.iload 6, 2) := by decide +kernel
theorem dX7_journey_15 : decode cX7_journey 15 = .ok (.iload 4, 2) := by decide +kernel
theorem dX7_journey_17 : decode cX7_journey 17 = .ok (.if_icmp .ge 71, 3) := by decide +kernel
theorem dX7_journey_20 : decode cX7_journey 20 = .ok (.iconst 0, 1) := by decide +kernel
theorem dX7_journey_21 : decode cX7_journey 21 = .ok (.istore 7, 2) := by decide +kernel
theorem dX7_journey_23 : decode cX7_journey 23 = .ok (.iload 7, 2) := by decide +kernel
theorem dX7_journey_25 : decode cX7_journey 25 = .ok (.iload 4, 2) := by decide +kernel
theorem dX7_journey_27 : decode cX7_journey 27 = .ok (.if_icmp .ge 55, 3) := by decide +kernel
theorem dX7_journey_30 : decode cX7_journey 30 = .ok (.aload_n 0, 1) := by decide +kernel
theorem dX7_journey_31 : decode cX7_journey 31 = .ok (.iload_n 1, 1) := by decide +kernel
theorem dX7_journey_32 : decode cX7_journey 32 = .ok (.iload 6, 2) := by decide +kernel
theorem dX7_journey_34 : decode cX7_journey 34 = .ok (.iload 7, 2) := by decide +kernel
theorem dX7_journey_36 : decode cX7_journey 36 = .ok (.invokevirtual 236, 3) := by decide +kernel
theorem dX7_journey_39 : decode cX7_journey 39 = .ok (.ifCond .le 37, 3) := by decide +kernel
theorem dX7_journey_42 : decode cX7_journey 42 = .ok (.iload 5, 2) := by decide +kernel
theorem dX7_journey_44 : decode cX7_journey 44 = .ok (.aload_n 0, 1) := by decide +kernel
theorem dX7_journey_45 : decode cX7_journey 45 = .ok (.iload_n 1, 1) := by decide +kernel
theorem dX7_journey_46 : decode cX7_journey 46 = .ok (.iload 6, 2) := by decide +kernel
theorem dX7_journey_48 : decode cX7_journey 48 = .ok (.iload 7, 2) := by decide +kernel
theorem dX7_journey_50 : decode cX7_journey 50 = .ok (.invokevirtual 236, 3) := by decide +kernel
theorem dX7_journey_53 : decode cX7_journey 53 = .ok (.iload 6, 2) := by decide +kernel
theorem dX7_journey_55 : decode cX7_journey 55 = .ok (.iload_n 2, 1) := by decide +kernel
theorem dX7_journey_56 : decode cX7_journey 56 = .ok (.iload_n 3, 1) := by decide +kernel
theorem dX7_journey_57 : decode cX7_journey 57 = .ok (.invokestatic 239, 3) := by decide +kernel
theorem dX7_journey_60 : decode cX7_journey 60 = .ok (.iload 7, 2) := by decide +kernel
theorem dX7_journey_62 : decode cX7_journey 62 = .ok (.iload_n 2, 1) := by decide +kernel
theorem dX7_journey_63 : decode cX7_journey 63 = .ok (.iload_n 3, 1) := by decide +kernel
theorem dX7_journey_64 : decode cX7_journey 64 = .ok (.invokestatic 239, 3) := by decide +kernel
theorem dX7_journey_67 : decode cX7_journey 67 = .ok (.iload 4, 2) := by decide +kernel
theorem dX7_journey_69 : decode cX7_journey 69 = .ok (.invokestatic 70, 3) := by decide +kernel
theorem dX7_journey_72 : decode cX7_journey 72 = .ok (.imul, 1) := by decide +kernel
theorem dX7_journey_73 : decode cX7_journey 73 = .ok (.iadd, 1) := by decide +kernel
theorem dX7_journey_74 : decode cX7_journey 74 = .ok (.istore 5, 2) := by decide +kernel
theorem dX7_journey_76 : decode cX7_journey 76 = .ok (.iinc 7 1, 3) := by decide +kernel
theorem dX7_journey_79 : decode cX7_journey 79 = .ok (.goto (-56), 3) := by decide +kernel
theorem dX7_journey_82 : decode cX7_journey 82 = .ok (.iinc 6 1, 3) := by decide +kernel
theorem dX7_journey_85 : decode cX7_journey 85 = .ok (.goto (-72), 3) := by decide +kernel
theorem dX7_journey_88 : decode cX7_journey 88 = .ok (.iload 5, 2) := by decide +kernel
theorem dX7_journey_90 : decode cX7_journey 90 = .ok (.ireturn, 1) := by decide +kernel
theorem dX7_entries_0 : decode cX7_entries 0 = .ok (.iconst 0, 1) := by decide +kernel
theorem dX7_entries_1 : decode cX7_entries 1 = .ok (.istore_n 3, 1) := by decide +kernel
theorem dX7_entries_2 : decode cX7_entries 2 = .ok (.iconst 0, 1) := by decide +kernel
theorem dX7_entries_3 : decode cX7_entries 3 = .ok (.istore 4, 2) := by decide +kernel
theorem dX7_entries_5 : decode cX7_entries 5 = .ok (.iload 4, 2) := by decide +kernel
theorem dX7_entries_7 : decode cX7_entries 7 = .ok (.bipush 40, 2) := by decide +kernel
theorem dX7_entries_9 : decode cX7_entries 9 = .ok (.if_icmp .ge 61, 3) := by decide +kernel
theorem dX7_entries_12 : decode cX7_entries 12 = .ok (.iconst 0, 1) := by decide +kernel
theorem dX7_entries_13 : decode cX7_entries 13 = .ok (.istore 5, 2) := by decide +kernel
theorem dX7_entries_15 : decode cX7_entries 15 = .ok (.iload 5, 2) := by decide +kernel
theorem dX7_entries_17 : decode cX7_entries 17 = .ok (.bipush 40, 2) := by decide +kernel
theorem dX7_entries_19 : decode cX7_entries 19 = .ok (.if_icmp .ge 45, 3) := by decide +kernel
theorem dX7_entries_22 : decode cX7_entries 22 = .ok (.iload_n 3, 1) := by decide +kernel
theorem dX7_entries_23 : decode cX7_entries 23 = .ok (.iload_n 2, 1) := by decide +kernel
theorem dX7_entries_24 : decode cX7_entries 24 = .ok (.ifCond .eq 23, 3) := by decide +kernel
theorem dX7_entries_27 : decode cX7_entries 27 = .ok (.aload_n 0, 1) := by decide +kernel
theorem dX7_entries_28 : decode cX7_entries 28 = .ok (.iload_n 1, 1) := by decide +kernel
theorem dX7_entries_29 : decode cX7_entries 29 = .ok (.iload 4, 2) := by decide +kernel
theorem dX7_entries_31 : decode cX7_entries 31 = .ok (.iload 5, 2) := by decide +kernel
theorem dX7_entries_33 : decode cX7_entries 33 = .ok (.invokevirtual 236, 3) := by decide +kernel
theorem dX7_entries_36 : decode cX7_entries 36 = .ok (.ifCond .le 7, 3) := by decide +kernel
theorem dX7_entries_39 : decode cX7_entries 39 = .ok (.iconst 1, 1) := by decide +kernel
theorem dX7_entries_40 : decode cX7_entries 40 = .ok (.goto 16, 3) := by decide +kernel
theorem dX7_entries_43 : decode cX7_entries 43 = .ok (.iconst 0, 1) := by decide +kernel
theorem dX7_entries_44 : decode cX7_entries 44 = .ok (.goto 12, 3) := by decide +kernel
theorem dX7_entries_47 : decode cX7_entries 47 = .ok (.aload_n 0, 1) := by decide +kernel
theorem dX7_entries_48 : decode cX7_entries 48 = .ok (.iload_n 1, 1) := by decide +kernel
theorem dX7_entries_49 : decode cX7_entries 49 = .ok (.iload 4, 2) := by decide +kernel
theorem dX7_entries_51 : decode cX7_entries 51 = .ok (.iload 5, 2) := by decide +kernel
theorem dX7_entries_53 : decode cX7_entries 53 = .ok (.invokevirtual 236, 3) := by decide +kernel
