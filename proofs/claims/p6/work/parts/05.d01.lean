theorem dX0_drumHas_10 : decode cX0_drumHas 10 = .ok (.iconst 1, 1) := by decide +kernel
theorem dX0_drumHas_11 : decode cX0_drumHas 11 = .ok (.goto 4, 3) := by decide +kernel
theorem dX0_drumHas_14 : decode cX0_drumHas 14 = .ok (.iconst 0, 1) := by decide +kernel
theorem dX0_drumHas_15 : decode cX0_drumHas 15 = .ok (.ireturn, 1) := by decide +kernel
theorem dX0_someDrumHas_0 : decode cX0_someDrumHas 0 = .ok (.iconst 0, 1) := by decide +kernel
theorem dX0_someDrumHas_1 : decode cX0_someDrumHas 1 = .ok (.istore_n 2, 1) := by decide +kernel
theorem dX0_someDrumHas_2 : decode cX0_someDrumHas 2 = .ok (.iload_n 2, 1) := by decide +kernel
theorem dX0_someDrumHas_3 : decode cX0_someDrumHas 3 = .ok (.aload_n 0, 1) := by decide +kernel
theorem dX0_someDrumHas_4 : decode cX0_someDrumHas 4 = .ok (.getfield 59, 3) := by decide +kernel
theorem dX0_someDrumHas_7 : decode cX0_someDrumHas 7 = .ok (.if_icmp .ge 20, 3) := by decide +kernel
theorem dX0_someDrumHas_10 : decode cX0_someDrumHas 10 = .ok (.aload_n 0, 1) := by decide +kernel
theorem dX0_someDrumHas_11 : decode cX0_someDrumHas 11 = .ok (.iload_n 2, 1) := by decide +kernel
theorem dX0_someDrumHas_12 : decode cX0_someDrumHas 12 = .ok (.iload_n 1, 1) := by decide +kernel
theorem dX0_someDrumHas_13 : decode cX0_someDrumHas 13 = .ok (.invokevirtual 131, 3) := by decide +kernel
theorem dX0_someDrumHas_16 : decode cX0_someDrumHas 16 = .ok (.ifCond .eq 5, 3) := by decide +kernel
theorem dX0_someDrumHas_19 : decode cX0_someDrumHas 19 = .ok (.iconst 1, 1) := by decide +kernel
theorem dX0_someDrumHas_20 : decode cX0_someDrumHas 20 = .ok (.ireturn, 1) := by decide +kernel
theorem dX0_someDrumHas_21 : decode cX0_someDrumHas 21 = .ok (.iinc 2 1, 3) := by decide +kernel
theorem dX0_someDrumHas_24 : decode cX0_someDrumHas 24 = .ok (.goto (-22), 3) := by decide +kernel
theorem dX0_someDrumHas_27 : decode cX0_someDrumHas 27 = .ok (.iconst 0, 1) := by decide +kernel
theorem dX0_someDrumHas_28 : decode cX0_someDrumHas 28 = .ok (.ireturn, 1) := by decide +kernel
theorem dX0_isLastOfSign_0 : decode cX0_isLastOfSign 0 = .ok (.aload_n 0, 1) := by decide +kernel
theorem dX0_isLastOfSign_1 : decode cX0_isLastOfSign 1 = .ok (.iload_n 1, 1) := by decide +kernel
theorem dX0_isLastOfSign_2 : decode cX0_isLastOfSign 2 = .ok (.aload_n 0, 1) := by decide +kernel
theorem dX0_isLastOfSign_3 : decode cX0_isLastOfSign 3 = .ok (.iload_n 1, 1) := by decide +kernel
theorem dX0_isLastOfSign_4 : decode cX0_isLastOfSign 4 = .ok (.iload_n 2, 1) := by decide +kernel
theorem dX0_isLastOfSign_5 : decode cX0_isLastOfSign 5 = .ok (.invokevirtual 111, 3) := by decide +kernel
theorem dX0_isLastOfSign_8 : decode cX0_isLastOfSign 8 = .ok (.iload_n 2, 1) := by decide +kernel
theorem dX0_isLastOfSign_9 : decode cX0_isLastOfSign 9 = .ok (.iconst 1, 1) := by decide +kernel
theorem dX0_isLastOfSign_10 : decode cX0_isLastOfSign 10 = .ok (.iadd, 1) := by decide +kernel
theorem dX0_isLastOfSign_11 : decode cX0_isLastOfSign 11 = .ok (.invokevirtual 127, 3) := by decide +kernel
theorem dX0_isLastOfSign_14 : decode cX0_isLastOfSign 14 = .ok (.ifCond .ne 7, 3) := by decide +kernel
theorem dX0_isLastOfSign_17 : decode cX0_isLastOfSign 17 = .ok (.iconst 1, 1) := by decide +kernel
theorem dX0_isLastOfSign_18 : decode cX0_isLastOfSign 18 = .ok (.goto 4, 3) := by decide +kernel
theorem dX0_isLastOfSign_21 : decode cX0_isLastOfSign 21 = .ok (.iconst 0, 1) := by decide +kernel
theorem dX0_isLastOfSign_22 : decode cX0_isLastOfSign 22 = .ok (.ireturn, 1) := by decide +kernel
theorem dX0_nearest_0 : decode cX0_nearest 0 = .ok (.aload_n 0, 1) := by decide +kernel
theorem dX0_nearest_1 : decode cX0_nearest 1 = .ok (.getfield 21, 3) := by decide +kernel
theorem dX0_nearest_4 : decode cX0_nearest 4 = .ok (.iload_n 1, 1) := by decide +kernel
theorem dX0_nearest_5 : decode cX0_nearest 5 = .ok (.iaload, 1) := by decide +kernel
theorem dX0_nearest_6 : decode cX0_nearest 6 = .ok (.istore_n 3, 1) := by decide +kernel
theorem dX0_nearest_7 : decode cX0_nearest 7 = .ok (.iload_n 3, 1) := by decide +kernel
theorem dX0_nearest_8 : decode cX0_nearest 8 = .ok (.ifCond .lt 20, 3) := by decide +kernel
theorem dX0_nearest_11 : decode cX0_nearest 11 = .ok (.iload_n 3, 1) := by decide +kernel
theorem dX0_nearest_12 : decode cX0_nearest 12 = .ok (.aload_n 0, 1) := by decide +kernel
theorem dX0_nearest_13 : decode cX0_nearest 13 = .ok (.getfield 59, 3) := by decide +kernel
theorem dX0_nearest_16 : decode cX0_nearest 16 = .ok (.if_icmp .ge 12, 3) := by decide +kernel
theorem dX0_nearest_19 : decode cX0_nearest 19 = .ok (.aload_n 0, 1) := by decide +kernel
theorem dX0_nearest_20 : decode cX0_nearest 20 = .ok (.getfield 15, 3) := by decide +kernel
theorem dX0_nearest_23 : decode cX0_nearest 23 = .ok (.iload_n 3, 1) := by decide +kernel
theorem dX0_nearest_24 : decode cX0_nearest 24 = .ok (.iaload, 1) := by decide +kernel
theorem dX0_nearest_25 : decode cX0_nearest 25 = .ok (.goto 4, 3) := by decide +kernel
theorem dX0_nearest_28 : decode cX0_nearest 28 = .ok (.iconst 0, 1) := by decide +kernel
theorem dX0_nearest_29 : decode cX0_nearest 29 = .ok (.istore 4, 2) := by decide +kernel
theorem dX0_nearest_31 : decode cX0_nearest 31 = .ok (.iload_n 3, 1) := by decide +kernel
theorem dX0_nearest_32 : decode cX0_nearest 32 = .ok (.bipush 40, 2) := by decide +kernel
theorem dX0_nearest_34 : decode cX0_nearest 34 = .ok (.imul, 1) := by decide +kernel
theorem dX0_nearest_35 : decode cX0_nearest 35 = .ok (.istore 5, 2) := by decide +kernel
theorem dX0_nearest_37 : decode cX0_nearest 37 = .ok (.aload_n 0, 1) := by decide +kernel
theorem dX0_nearest_38 : decode cX0_nearest 38 = .ok (.getfield 42, 3) := by decide +kernel
theorem dX0_nearest_41 : decode cX0_nearest 41 = .ok (.iload_n 1, 1) := by decide +kernel
theorem dX0_nearest_42 : decode cX0_nearest 42 = .ok (.laload, 1) := by decide +kernel
theorem dX0_nearest_43 : decode cX0_nearest 43 = .ok (.ldc2_w 152, 3) := by decide +kernel
theorem dX0_nearest_46 : decode cX0_nearest 46 = .ok (.lxor, 1) := by decide +kernel
theorem dX0_nearest_47 : decode cX0_nearest 47 = .ok (.lstore 6, 2) := by decide +kernel
theorem dX0_nearest_49 : decode cX0_nearest 49 = .ok (.aload_n 0, 1) := by decide +kernel
theorem dX0_nearest_50 : decode cX0_nearest 50 = .ok (.getfield 27, 3) := by decide +kernel
theorem dX0_nearest_53 : decode cX0_nearest 53 = .ok (.iload_n 1, 1) := by decide +kernel
theorem dX0_nearest_54 : decode cX0_nearest 54 = .ok (.iaload, 1) := by decide +kernel
theorem dX0_nearest_55 : decode cX0_nearest 55 = .ok (.istore 8, 2) := by decide +kernel
theorem dX0_nearest_57 : decode cX0_nearest 57 = .ok (.iconst 0, 1) := by decide +kernel
theorem dX0_nearest_58 : decode cX0_nearest 58 = .ok (.istore 9, 2) := by decide +kernel
theorem dX0_nearest_60 : decode cX0_nearest 60 = .ok (.iload 9, 2) := by decide +kernel
theorem dX0_nearest_62 : decode cX0_nearest 62 = .ok (.iload 4, 2) := by decide +kernel
theorem dX0_nearest_64 : decode cX0_nearest 64 = .ok (.if_icmp .ge 57, 3) := by decide +kernel
theorem dX0_nearest_67 : decode cX0_nearest 67 = .ok (.aload_n 0, 1) := by decide +kernel
theorem dX0_nearest_68 : decode cX0_nearest 68 = .ok (.getfield 18, 3) := by decide +kernel
theorem dX0_nearest_71 : decode cX0_nearest 71 = .ok (.iload 5, 2) := by decide +kernel
theorem dX0_nearest_73 : decode cX0_nearest 73 = .ok (.iload 8, 2) := by decide +kernel
theorem dX0_nearest_75 : decode cX0_nearest 75 = .ok (.iadd, 1) := by decide +kernel
theorem dX0_nearest_76 : decode cX0_nearest 76 = .ok (.iaload, 1) := by decide +kernel
theorem dX0_nearest_77 : decode cX0_nearest 77 = .ok (.iload_n 2, 1) := by decide +kernel
theorem dX0_nearest_78 : decode cX0_nearest 78 = .ok (.if_icmp .ne 18, 3) := by decide +kernel
theorem dX0_nearest_81 : decode cX0_nearest 81 = .ok (.lload 6, 2) := by decide +kernel
theorem dX0_nearest_83 : decode cX0_nearest 83 = .ok (.iload 8, 2) := by decide +kernel
theorem dX0_nearest_85 : decode cX0_nearest 85 = .ok (.lshr, 1) := by decide +kernel
theorem dX0_nearest_86 : decode cX0_nearest 86 = .ok (.lconst 1, 1) := by decide +kernel
theorem dX0_nearest_87 : decode cX0_nearest 87 = .ok (.land, 1) := by decide +kernel
theorem dX0_nearest_88 : decode cX0_nearest 88 = .ok (.lconst 0, 1) := by decide +kernel
theorem dX0_nearest_89 : decode cX0_nearest 89 = .ok (.lcmp, 1) := by decide +kernel
theorem dX0_nearest_90 : decode cX0_nearest 90 = .ok (.ifCond .eq 6, 3) := by decide +kernel
theorem dX0_nearest_93 : decode cX0_nearest 93 = .ok (.iload 8, 2) := by decide +kernel
theorem dX0_nearest_95 : decode cX0_nearest 95 = .ok (.ireturn, 1) := by decide +kernel
theorem dX0_nearest_96 : decode cX0_nearest 96 = .ok (.iload 8, 2) := by decide +kernel
theorem dX0_nearest_98 : decode cX0_nearest 98 = .ok (.iconst 1, 1) := by decide +kernel
theorem dX0_nearest_99 : decode cX0_nearest 99 = .ok (.iadd, 1) := by decide +kernel
theorem dX0_nearest_100 : decode cX0_nearest 100 = .ok (.iload 4, 2) := by decide +kernel
theorem dX0_nearest_102 : decode cX0_nearest 102 = .ok (.if_icmp .ge 10, 3) := by decide +kernel
theorem dX0_nearest_105 : decode cX0_nearest 105 = .ok (.iload 8, 2) := by decide +kernel
theorem dX0_nearest_107 : decode cX0_nearest 107 = .ok (.iconst 1, 1) := by decide +kernel
theorem dX0_nearest_108 : decode cX0_nearest 108 = .ok (.iadd, 1) := by decide +kernel
theorem dX0_nearest_109 : decode cX0_nearest 109 = .ok (.goto 4, 3) := by decide +kernel
theorem dX0_nearest_112 : decode cX0_nearest 112 = .ok (.iconst 0, 1) := by decide +kernel
theorem dX0_nearest_113 : decode cX0_nearest 113 = .ok (.istore 8, 2) := by decide +kernel
theorem dX0_nearest_115 : decode cX0_nearest 115 = .ok (.iinc 9 1, 3) := by decide +kernel
theorem dX0_nearest_118 : decode cX0_nearest 118 = .ok (.goto (-58), 3) := by decide +kernel
theorem dX0_nearest_121 : decode cX0_nearest 121 = .ok (.iconst (-1), 1) := by decide +kernel
theorem dX0_nearest_122 : decode cX0_nearest 122 = .ok (.ireturn, 1) := by decide +kernel
theorem dX0_missedOfOwn_0 : decode cX0_missedOfOwn 0 = .ok (.aload_n 0, 1) := by decide +kernel
theorem dX0_missedOfOwn_1 : decode cX0_missedOfOwn 1 = .ok (.getfield 21, 3) := by decide +kernel
theorem dX0_missedOfOwn_4 : decode cX0_missedOfOwn 4 = .ok (.iload_n 1, 1) := by decide +kernel
theorem dX0_missedOfOwn_5 : decode cX0_missedOfOwn 5 = .ok (.iaload, 1) := by decide +kernel
theorem dX0_missedOfOwn_6 : decode cX0_missedOfOwn 6 = .ok (.istore_n 2, 1) := by decide +kernel
theorem dX0_missedOfOwn_7 : decode cX0_missedOfOwn 7 = .ok (.iconst 0, 1) := by decide +kernel
theorem dX0_missedOfOwn_8 : decode cX0_missedOfOwn 8 = .ok (.istore_n 3, 1) := by decide +kernel
theorem dX0_missedOfOwn_9 : decode cX0_missedOfOwn 9 = .ok (.iconst 0, 1) := by decide +kernel
theorem dX0_missedOfOwn_10 : decode cX0_missedOfOwn 10 = .ok (.istore 4, 2) := by decide +kernel
theorem dX0_missedOfOwn_12 : decode cX0_missedOfOwn 12 = .ok (.iload 4, 2) := by decide +kernel
theorem dX0_missedOfOwn_14 : decode cX0_missedOfOwn 14 = .ok (.aload_n 0, 1) := by decide +kernel
theorem dX0_missedOfOwn_15 : decode cX0_missedOfOwn 15 = .ok (.iload_n 2, 1) := by decide +kernel
theorem dX0_missedOfOwn_16 : decode cX0_missedOfOwn 16 = .ok (.invokevirtual 108, 3) := by decide +kernel
theorem dX0_missedOfOwn_19 : decode cX0_missedOfOwn 19 = .ok (.if_icmp .ge 38, 3) := by decide +kernel
theorem dX0_missedOfOwn_22 : decode cX0_missedOfOwn 22 = .ok (.aload_n 0, 1) := by decide +kernel
theorem dX0_missedOfOwn_23 : decode cX0_missedOfOwn 23 = .ok (.iload_n 2, 1) := by decide +kernel
theorem dX0_missedOfOwn_24 : decode cX0_missedOfOwn 24 = .ok (.iload 4, 2) := by decide +kernel
theorem dX0_missedOfOwn_26 : decode cX0_missedOfOwn 26 = .ok (.invokevirtual 134, 3) := by decide +kernel
theorem dX0_missedOfOwn_29 : decode cX0_missedOfOwn 29 = .ok (.ifCond .eq 22, 3) := by decide +kernel
theorem dX0_missedOfOwn_32 : decode cX0_missedOfOwn 32 = .ok (.aload_n 0, 1) := by decide +kernel
theorem dX0_missedOfOwn_33 : decode cX0_missedOfOwn 33 = .ok (.iload_n 1, 1) := by decide +kernel
theorem dX0_missedOfOwn_34 : decode cX0_missedOfOwn 34 = .ok (.aload_n 0, 1) := by decide +kernel
theorem dX0_missedOfOwn_35 : decode cX0_missedOfOwn 35 = .ok (.iload_n 2, 1) := by decide +kernel
theorem dX0_missedOfOwn_36 : decode cX0_missedOfOwn 36 = .ok (.iload 4, 2) := by decide +kernel
theorem dX0_missedOfOwn_38 : decode cX0_missedOfOwn 38 = .ok (.invokevirtual 111, 3) := by decide +kernel
theorem dX0_missedOfOwn_41 : decode cX0_missedOfOwn 41 = .ok (.invokevirtual 137, 3) := by decide +kernel
theorem dX0_missedOfOwn_44 : decode cX0_missedOfOwn 44 = .ok (.iconst (-1), 1) := by decide +kernel
theorem dX0_missedOfOwn_45 : decode cX0_missedOfOwn 45 = .ok (.if_icmp .ne 6, 3) := by decide +kernel
theorem dX0_missedOfOwn_48 : decode cX0_missedOfOwn 48 = .ok (.iinc 3 1, 3) := by decide +kernel
theorem dX0_missedOfOwn_51 : decode cX0_missedOfOwn 51 = .ok (.iinc 4 1, 3) := by decide +kernel
theorem dX0_missedOfOwn_54 : decode cX0_missedOfOwn 54 = .ok (.goto (-42), 3) := by decide +kernel
theorem dX0_missedOfOwn_57 : decode cX0_missedOfOwn 57 = .ok (.iload_n 3, 1) := by decide +kernel
theorem dX0_missedOfOwn_58 : decode cX0_missedOfOwn 58 = .ok (.ireturn, 1) := by decide +kernel
theorem dX0_signsOfOthers_0 : decode cX0_signsOfOthers 0 = .ok (.iconst 0, 1) := by decide +kernel
theorem dX0_signsOfOthers_1 : decode cX0_signsOfOthers 1 = .ok (.istore_n 2, 1) := by decide +kernel
theorem dX0_signsOfOthers_2 : decode cX0_signsOfOthers 2 = .ok (.bipush 32, 2) := by decide +kernel
theorem dX0_signsOfOthers_4 : decode cX0_signsOfOthers 4 = .ok (.istore_n 3, 1) := by decide +kernel
theorem dX0_signsOfOthers_5 : decode cX0_signsOfOthers 5 = .ok (.iload_n 3, 1) := by decide +kernel
theorem dX0_signsOfOthers_6 : decode cX0_signsOfOthers 6 = .ok (.bipush 126, 2) := by decide +kernel
theorem dX0_signsOfOthers_8 : decode cX0_signsOfOthers 8 = .ok (.if_icmp .gt 29, 3) := by decide +kernel
theorem dX0_signsOfOthers_11 : decode cX0_signsOfOthers 11 = .ok (.aload_n 0, 1) := by decide +kernel
theorem dX0_signsOfOthers_12 : decode cX0_signsOfOthers 12 = .ok (.iload_n 3, 1) := by decide +kernel
theorem dX0_signsOfOthers_13 : decode cX0_signsOfOthers 13 = .ok (.invokevirtual 140, 3) := by decide +kernel
theorem dX0_signsOfOthers_16 : decode cX0_signsOfOthers 16 = .ok (.ifCond .eq 15, 3) := by decide +kernel
theorem dX0_signsOfOthers_19 : decode cX0_signsOfOthers 19 = .ok (.aload_n 0, 1) := by decide +kernel
theorem dX0_signsOfOthers_20 : decode cX0_signsOfOthers 20 = .ok (.iload_n 1, 1) := by decide +kernel
theorem dX0_signsOfOthers_21 : decode cX0_signsOfOthers 21 = .ok (.iload_n 3, 1) := by decide +kernel
theorem dX0_signsOfOthers_22 : decode cX0_signsOfOthers 22 = .ok (.invokevirtual 131, 3) := by decide +kernel
theorem dX0_signsOfOthers_25 : decode cX0_signsOfOthers 25 = .ok (.ifCond .ne 6, 3) := by decide +kernel
theorem dX0_signsOfOthers_28 : decode cX0_signsOfOthers 28 = .ok (.iinc 2 1, 3) := by decide +kernel
theorem dX0_signsOfOthers_31 : decode cX0_signsOfOthers 31 = .ok (.iinc 3 1, 3) := by decide +kernel
theorem dX0_signsOfOthers_34 : decode cX0_signsOfOthers 34 = .ok (.goto (-29), 3) := by decide +kernel
theorem dX0_signsOfOthers_37 : decode cX0_signsOfOthers 37 = .ok (.iload_n 2, 1) := by decide +kernel
theorem dX0_signsOfOthers_38 : decode cX0_signsOfOthers 38 = .ok (.ireturn, 1) := by decide +kernel
theorem dX0_unlikeSigns_0 : decode cX0_unlikeSigns 0 = .ok (.iconst 0, 1) := by decide +kernel
theorem dX0_unlikeSigns_1 : decode cX0_unlikeSigns 1 = .ok (.istore_n 2, 1) := by decide +kernel
theorem dX0_unlikeSigns_2 : decode cX0_unlikeSigns 2 = .ok (.iconst 0, 1) := by decide +kernel
theorem dX0_unlikeSigns_3 : decode cX0_unlikeSigns 3 = .ok (.istore_n 3, 1) := by decide +kernel
theorem dX0_unlikeSigns_4 : decode cX0_unlikeSigns 4 = .ok (.iload_n 3, 1) := by decide +kernel
theorem dX0_unlikeSigns_5 : decode cX0_unlikeSigns 5 = .ok (.aload_n 0, 1) := by decide +kernel
theorem dX0_unlikeSigns_6 : decode cX0_unlikeSigns 6 = .ok (.iload_n 1, 1) := by decide +kernel
theorem dX0_unlikeSigns_7 : decode cX0_unlikeSigns 7 = .ok (.invokevirtual 108, 3) := by decide +kernel
theorem dX0_unlikeSigns_10 : decode cX0_unlikeSigns 10 = .ok (.if_icmp .ge 21, 3) := by decide +kernel
theorem dX0_unlikeSigns_13 : decode cX0_unlikeSigns 13 = .ok (.aload_n 0, 1) := by decide +kernel
theorem dX0_unlikeSigns_14 : decode cX0_unlikeSigns 14 = .ok (.iload_n 1, 1) := by decide +kernel
theorem dX0_unlikeSigns_15 : decode cX0_unlikeSigns 15 = .ok (.iload_n 3, 1) := by decide +kernel
theorem dX0_unlikeSigns_16 : decode cX0_unlikeSigns 16 = .ok (.invokevirtual 134, 3) := by decide +kernel
theorem dX0_unlikeSigns_19 : decode cX0_unlikeSigns 19 = .ok (.ifCond .eq 6, 3) := by decide +kernel
theorem dX0_unlikeSigns_22 : decode cX0_unlikeSigns 22 = .ok (.iinc 2 1, 3) := by decide +kernel
theorem dX0_unlikeSigns_25 : decode cX0_unlikeSigns 25 = .ok (.iinc 3 1, 3) := by decide +kernel
theorem dX0_unlikeSigns_28 : decode cX0_unlikeSigns 28 = .ok (.goto (-24), 3) := by decide +kernel
theorem dX0_unlikeSigns_31 : decode cX0_unlikeSigns 31 = .ok (.iload_n 2, 1) := by decide +kernel
theorem dX0_unlikeSigns_32 : decode cX0_unlikeSigns 32 = .ok (.ireturn, 1) := by decide +kernel
theorem dX0_mostOfOneSign_0 : decode cX0_mostOfOneSign 0 = .ok (.iconst 0, 1) := by decide +kernel
theorem dX0_mostOfOneSign_1 : decode cX0_mostOfOneSign 1 = .ok (.istore_n 2, 1) := by decide +kernel
theorem dX0_mostOfOneSign_2 : decode cX0_mostOfOneSign 2 = .ok (.iconst 0, 1) := by decide +kernel
theorem dX0_mostOfOneSign_3 : decode cX0_mostOfOneSign 3 = .ok (.istore_n 3, 1) := by decide +kernel
theorem dX0_mostOfOneSign_4 : decode cX0_mostOfOneSign 4 = .ok (.iload_n 3, 1) := by decide +kernel
theorem dX0_mostOfOneSign_5 : decode cX0_mostOfOneSign 5 = .ok (.aload_n 0, 1) := by decide +kernel
theorem dX0_mostOfOneSign_6 : decode cX0_mostOfOneSign 6 = .ok (.iload_n 1, 1) := by decide +kernel
theorem dX0_mostOfOneSign_7 : decode cX0_mostOfOneSign 7 = .ok (.invokevirtual 108, 3) := by decide +kernel
theorem dX0_mostOfOneSign_10 : decode cX0_mostOfOneSign 10 = .ok (.if_icmp .ge 26, 3) := by decide +kernel
theorem dX0_mostOfOneSign_13 : decode cX0_mostOfOneSign 13 = .ok (.iload_n 2, 1) := by decide +kernel
theorem dX0_mostOfOneSign_14 : decode cX0_mostOfOneSign 14 = .ok (.aload_n 0, 1) := by decide +kernel
theorem dX0_mostOfOneSign_15 : decode cX0_mostOfOneSign 15 = .ok (.iload_n 1, 1) := by decide +kernel
theorem dX0_mostOfOneSign_16 : decode cX0_mostOfOneSign 16 = .ok (.aload_n 0, 1) := by decide +kernel
theorem dX0_mostOfOneSign_17 : decode cX0_mostOfOneSign 17 = .ok (.iload_n 1, 1) := by decide +kernel
theorem dX0_mostOfOneSign_18 : decode cX0_mostOfOneSign 18 = .ok (.iload_n 3, 1) := by decide +kernel
theorem dX0_mostOfOneSign_19 : decode cX0_mostOfOneSign 19 = .ok (.invokevirtual 111, 3) := by decide +kernel
theorem dX0_mostOfOneSign_22 : decode cX0_mostOfOneSign 22 = .ok (.iload_n 3, 1) := by decide +kernel
theorem dX0_mostOfOneSign_23 : decode cX0_mostOfOneSign 23 = .ok (.invokevirtual 127, 3) := by decide +kernel
theorem dX0_mostOfOneSign_26 : decode cX0_mostOfOneSign 26 = .ok (.invokestatic 143, 3) := by decide +kernel
theorem dX0_mostOfOneSign_29 : decode cX0_mostOfOneSign 29 = .ok (.istore_n 2, 1) := by decide +kernel
theorem dX0_mostOfOneSign_30 : decode cX0_mostOfOneSign 30 = .ok (.iinc 3 1, 3) := by decide +kernel
theorem dX0_mostOfOneSign_33 : decode cX0_mostOfOneSign 33 = .ok (.goto (-29), 3) := by decide +kernel
theorem dX0_mostOfOneSign_36 : decode cX0_mostOfOneSign 36 = .ok (.iload_n 2, 1) := by decide +kernel
theorem dX0_mostOfOneSign_37 : decode cX0_mostOfOneSign 37 = .ok (.ireturn, 1) := by decide +kernel
theorem dX0_isWorn_0 : decode cX0_isWorn 0 = .ok (.aload_n 0, 1) := by decide +kernel
theorem dX0_isWorn_1 : decode cX0_isWorn 1 = .ok (.getfield 42, 3) := by decide +kernel
theorem dX0_isWorn_4 : decode cX0_isWorn 4 = .ok (.iload_n 1, 1) := by decide +kernel
theorem dX0_isWorn_5 : decode cX0_isWorn 5 = .ok (.laload, 1) := by decide +kernel
theorem dX0_isWorn_6 : decode cX0_isWorn 6 = .ok (.iload_n 2, 1) := by decide +kernel
theorem dX0_isWorn_7 : decode cX0_isWorn 7 = .ok (.lshr, 1) := by decide +kernel
theorem dX0_isWorn_8 : decode cX0_isWorn 8 = .ok (.lconst 1, 1) := by decide +kernel
theorem dX0_isWorn_9 : decode cX0_isWorn 9 = .ok (.land, 1) := by decide +kernel
theorem dX0_isWorn_10 : decode cX0_isWorn 10 = .ok (.lconst 0, 1) := by decide +kernel
theorem dX0_isWorn_11 : decode cX0_isWorn 11 = .ok (.lcmp, 1) := by decide +kernel
theorem dX0_isWorn_12 : decode cX0_isWorn 12 = .ok (.ifCond .eq 7, 3) := by decide +kernel
theorem dX0_isWorn_15 : decode cX0_isWorn 15 = .ok (.iconst 1, 1) := by decide +kernel
theorem dX0_isWorn_16 : decode cX0_isWorn 16 = .ok (.goto 4, 3) := by decide +kernel
theorem dX0_isWorn_19 : decode cX0_isWorn 19 = .ok (.iconst 0, 1) := by decide +kernel
theorem dX0_isWorn_20 : decode cX0_isWorn 20 = .ok (.ireturn, 1) := by decide +kernel
theorem dJ13_bitCount_95d88_0 : decode cJ13_bitCount_95d88 0 = .ok (.lload_n 0, 1) := by decide +kernel
theorem dJ13_bitCount_95d88_1 : decode cJ13_bitCount_95d88 1 = .ok (.lload_n 0, 1) := by decide +kernel
theorem dJ13_bitCount_95d88_2 : decode cJ13_bitCount_95d88 2 = .ok (.iconst 1, 1) := by decide +kernel
theorem dJ13_bitCount_95d88_3 : decode cJ13_bitCount_95d88 3 = .ok (.lushr, 1) := by decide +kernel
theorem dJ13_bitCount_95d88_4 : decode cJ13_bitCount_95d88 4 = .ok (.ldc2_w 314, 3) := by decide +kernel
theorem dJ13_bitCount_95d88_7 : decode cJ13_bitCount_95d88 7 = .ok (.land, 1) := by decide +kernel
theorem dJ13_bitCount_95d88_8 : decode cJ13_bitCount_95d88 8 = .ok (.lsub, 1) := by decide +kernel
theorem dJ13_bitCount_95d88_9 : decode cJ13_bitCount_95d88 9 = .ok (.lstore_n 0, 1) := by decide +kernel
theorem dJ13_bitCount_95d88_10 : decode cJ13_bitCount_95d88 10 = .ok (.lload_n 0, 1) := by decide +kernel
theorem dJ13_bitCount_95d88_11 : decode cJ13_bitCount_95d88 11 = .ok (.ldc2_w 316, 3) := by decide +kernel
theorem dJ13_bitCount_95d88_14 : decode cJ13_bitCount_95d88 14 = .ok (.land, 1) := by decide +kernel
theorem dJ13_bitCount_95d88_15 : decode cJ13_bitCount_95d88 15 = .ok (.lload_n 0, 1) := by decide +kernel
theorem dJ13_bitCount_95d88_16 : decode cJ13_bitCount_95d88 16 = .ok (.iconst 2, 1) := by decide +kernel
theorem dJ13_bitCount_95d88_17 : decode cJ13_bitCount_95d88 17 = .ok (.lushr, 1) := by decide +kernel
theorem dJ13_bitCount_95d88_18 : decode cJ13_bitCount_95d88 18 = .ok (.ldc2_w 316, 3) := by decide +kernel
theorem dJ13_bitCount_95d88_21 : decode cJ13_bitCount_95d88 21 = .ok (.land, 1) := by decide +kernel
theorem dJ13_bitCount_95d88_22 : decode cJ13_bitCount_95d88 22 = .ok (.ladd, 1) := by decide +kernel
theorem dJ13_bitCount_95d88_23 : decode cJ13_bitCount_95d88 23 = .ok (.lstore_n 0, 1) := by decide +kernel
theorem dJ13_bitCount_95d88_24 : decode cJ13_bitCount_95d88 24 = .ok (.lload_n 0, 1) := by decide +kernel
theorem dJ13_bitCount_95d88_25 : decode cJ13_bitCount_95d88 25 = .ok (.lload_n 0, 1) := by decide +kernel
theorem dJ13_bitCount_95d88_26 : decode cJ13_bitCount_95d88 26 = .ok (.iconst 4, 1) := by decide +kernel
theorem dJ13_bitCount_95d88_27 : decode cJ13_bitCount_95d88 27 = .ok (.lushr, 1) := by decide +kernel
theorem dJ13_bitCount_95d88_28 : decode cJ13_bitCount_95d88 28 = .ok (.ladd, 1) := by decide +kernel
theorem dJ13_bitCount_95d88_29 : decode cJ13_bitCount_95d88 29 = .ok (.ldc2_w 318, 3) := by decide +kernel
theorem dJ13_bitCount_95d88_32 : decode cJ13_bitCount_95d88 32 = .ok (.land, 1) := by decide +kernel
theorem dJ13_bitCount_95d88_33 : decode cJ13_bitCount_95d88 33 = .ok (.lstore_n 0, 1) := by decide +kernel
theorem dJ13_bitCount_95d88_34 : decode cJ13_bitCount_95d88 34 = .ok (.lload_n 0, 1) := by decide +kernel
theorem dJ13_bitCount_95d88_35 : decode cJ13_bitCount_95d88 35 = .ok (.lload_n 0, 1) := by decide +kernel
theorem dJ13_bitCount_95d88_36 : decode cJ13_bitCount_95d88 36 = .ok (.bipush 8, 2) := by decide +kernel
theorem dJ13_bitCount_95d88_38 : decode cJ13_bitCount_95d88 38 = .ok (.lushr, 1) := by decide +kernel
theorem dJ13_bitCount_95d88_39 : decode cJ13_bitCount_95d88 39 = .ok (.ladd, 1) := by decide +kernel
theorem dJ13_bitCount_95d88_40 : decode cJ13_bitCount_95d88 40 = .ok (.lstore_n 0, 1) := by decide +kernel
theorem dJ13_bitCount_95d88_41 : decode cJ13_bitCount_95d88 41 = .ok (.lload_n 0, 1) := by decide +kernel
theorem dJ13_bitCount_95d88_42 : decode cJ13_bitCount_95d88 42 = .ok (.lload_n 0, 1) := by decide +kernel
theorem dJ13_bitCount_95d88_43 : decode cJ13_bitCount_95d88 43 = .ok (.bipush 16, 2) := by decide +kernel
theorem dJ13_bitCount_95d88_45 : decode cJ13_bitCount_95d88 45 = .ok (.lushr, 1) := by decide +kernel
theorem dJ13_bitCount_95d88_46 : decode cJ13_bitCount_95d88 46 = .ok (.ladd, 1) := by decide +kernel
theorem dJ13_bitCount_95d88_47 : decode cJ13_bitCount_95d88 47 = .ok (.lstore_n 0, 1) := by decide +kernel
theorem dJ13_bitCount_95d88_48 : decode cJ13_bitCount_95d88 48 = .ok (.lload_n 0, 1) := by decide +kernel
theorem dJ13_bitCount_95d88_49 : decode cJ13_bitCount_95d88 49 = .ok (.lload_n 0, 1) := by decide +kernel
theorem dJ13_bitCount_95d88_50 : decode cJ13_bitCount_95d88 50 = .ok (.bipush 32, 2) := by decide +kernel
theorem dJ13_bitCount_95d88_52 : decode cJ13_bitCount_95d88 52 = .ok (.lushr, 1) := by decide +kernel
theorem dJ13_bitCount_95d88_53 : decode cJ13_bitCount_95d88 53 = .ok (.ladd, 1) := by decide +kernel
theorem dJ13_bitCount_95d88_54 : decode cJ13_bitCount_95d88 54 = .ok (.lstore_n 0, 1) := by decide +kernel
theorem dJ13_bitCount_95d88_55 : decode cJ13_bitCount_95d88 55 = .ok (.lload_n 0, 1) := by decide +kernel
theorem dJ13_bitCount_95d88_56 : decode cJ13_bitCount_95d88 56 = .ok (.l2i, 1) := by decide +kernel
theorem dJ13_bitCount_95d88_57 : decode cJ13_bitCount_95d88 57 = .ok (.bipush 127, 2) := by decide +kernel
theorem dJ13_bitCount_95d88_59 : decode cJ13_bitCount_95d88 59 = .ok (.iand, 1) := by decide +kernel
theorem dJ13_bitCount_95d88_60 : decode cJ13_bitCount_95d88 60 = .ok (.ireturn, 1) := by decide +kernel
theorem dX0_wornCount_0 : decode cX0_wornCount 0 = .ok (.aload_n 0, 1) := by decide +kernel
theorem dX0_wornCount_1 : decode cX0_wornCount 1 = .ok (.getfield 42, 3) := by decide +kernel
theorem dX0_wornCount_4 : decode cX0_wornCount 4 = .ok (.iload_n 1, 1) := by decide +kernel
theorem dX0_wornCount_5 : decode cX0_wornCount 5 = .ok (.laload, 1) := by decide +kernel
theorem dX0_wornCount_6 : decode cX0_wornCount 6 = .ok (.invokestatic 146, 3) := by decide +kernel
theorem dX0_wornCount_9 : decode cX0_wornCount 9 = .ok (.ireturn, 1) := by decide +kernel
theorem dX0_wearFlap_0 : decode cX0_wearFlap 0 = .ok (.aload_n 0, 1) := by decide +kernel
theorem dX0_wearFlap_1 : decode cX0_wearFlap 1 = .ok (.getfield 42, 3) := by decide +kernel
theorem dX0_wearFlap_4 : decode cX0_wearFlap 4 = .ok (.iload_n 1, 1) := by decide +kernel
theorem dX0_wearFlap_5 : decode cX0_wearFlap 5 = .ok (.dup2, 1) := by decide +kernel
theorem dX0_wearFlap_6 : decode cX0_wearFlap 6 = .ok (.laload, 1) := by decide +kernel
theorem dX0_wearFlap_7 : decode cX0_wearFlap 7 = .ok (.lconst 1, 1) := by decide +kernel
theorem dX0_wearFlap_8 : decode cX0_wearFlap 8 = .ok (.iload_n 2, 1) := by decide +kernel
theorem dX0_wearFlap_9 : decode cX0_wearFlap 9 = .ok (.lshl, 1) := by decide +kernel
theorem dX0_wearFlap_10 : decode cX0_wearFlap 10 = .ok (.lor, 1) := by decide +kernel
theorem dX0_wearFlap_11 : decode cX0_wearFlap 11 = .ok (.lastore, 1) := by decide +kernel
theorem dX0_wearFlap_12 : decode cX0_wearFlap 12 = .ok (.aload_n 0, 1) := by decide +kernel
theorem dX0_wearFlap_13 : decode cX0_wearFlap 13 = .ok (.getfield 30, 3) := by decide +kernel
theorem dX0_wearFlap_16 : decode cX0_wearFlap 16 = .ok (.iload_n 1, 1) := by decide +kernel
theorem dX0_wearFlap_17 : decode cX0_wearFlap 17 = .ok (.iaload, 1) := by decide +kernel
theorem dX0_wearFlap_18 : decode cX0_wearFlap 18 = .ok (.iload_n 2, 1) := by decide +kernel
theorem dX0_wearFlap_19 : decode cX0_wearFlap 19 = .ok (.if_icmp .ne 10, 3) := by decide +kernel
theorem dX0_wearFlap_22 : decode cX0_wearFlap 22 = .ok (.aload_n 0, 1) := by decide +kernel
theorem dX0_wearFlap_23 : decode cX0_wearFlap 23 = .ok (.getfield 30, 3) := by decide +kernel
theorem dX0_wearFlap_26 : decode cX0_wearFlap 26 = .ok (.iload_n 1, 1) := by decide +kernel
theorem dX0_wearFlap_27 : decode cX0_wearFlap 27 = .ok (.iconst 0, 1) := by decide +kernel
theorem dX0_wearFlap_28 : decode cX0_wearFlap 28 = .ok (.iastore, 1) := by decide +kernel
theorem dX0_wearFlap_29 : decode cX0_wearFlap 29 = .ok (.return_, 1) := by decide +kernel
theorem dX0_mendFlap_0 : decode cX0_mendFlap 0 = .ok (.aload_n 0, 1) := by decide +kernel
theorem dX0_mendFlap_1 : decode cX0_mendFlap 1 = .ok (.getfield 42, 3) := by decide +kernel
theorem dX0_mendFlap_4 : decode cX0_mendFlap 4 = .ok (.iload_n 1, 1) := by decide +kernel
theorem dX0_mendFlap_5 : decode cX0_mendFlap 5 = .ok (.dup2, 1) := by decide +kernel
theorem dX0_mendFlap_6 : decode cX0_mendFlap 6 = .ok (.laload, 1) := by decide +kernel
theorem dX0_mendFlap_7 : decode cX0_mendFlap 7 = .ok (.lconst 1, 1) := by decide +kernel
theorem dX0_mendFlap_8 : decode cX0_mendFlap 8 = .ok (.iload_n 2, 1) := by decide +kernel
theorem dX0_mendFlap_9 : decode cX0_mendFlap 9 = .ok (.lshl, 1) := by decide +kernel
theorem dX0_mendFlap_10 : decode cX0_mendFlap 10 = .ok (.ldc2_w 152, 3) := by decide +kernel
theorem dX0_mendFlap_13 : decode cX0_mendFlap 13 = .ok (.lxor, 1) := by decide +kernel
theorem dX0_mendFlap_14 : decode cX0_mendFlap 14 = .ok (.land, 1) := by decide +kernel
theorem dX0_mendFlap_15 : decode cX0_mendFlap 15 = .ok (.lastore, 1) := by decide +kernel
theorem dX0_mendFlap_16 : decode cX0_mendFlap 16 = .ok (.return_, 1) := by decide +kernel
theorem dX6_onFrom_0 : decode cX6_onFrom 0 = .ok (.iload_n 1, 1) := by decide +kernel
theorem dX6_onFrom_1 : decode cX6_onFrom 1 = .ok (.iload_n 0, 1) := by decide +kernel
theorem dX6_onFrom_2 : decode cX6_onFrom 2 = .ok (.if_icmp .lt 9, 3) := by decide +kernel
theorem dX6_onFrom_5 : decode cX6_onFrom 5 = .ok (.iload_n 1, 1) := by decide +kernel
theorem dX6_onFrom_6 : decode cX6_onFrom 6 = .ok (.iload_n 0, 1) := by decide +kernel
theorem dX6_onFrom_7 : decode cX6_onFrom 7 = .ok (.isub, 1) := by decide +kernel
theorem dX6_onFrom_8 : decode cX6_onFrom 8 = .ok (.goto 8, 3) := by decide +kernel
theorem dX6_onFrom_11 : decode cX6_onFrom 11 = .ok (.iload_n 1, 1) := by decide +kernel
theorem dX6_onFrom_12 : decode cX6_onFrom 12 = .ok (.iload_n 0, 1) := by decide +kernel
theorem dX6_onFrom_13 : decode cX6_onFrom 13 = .ok (.isub, 1) := by decide +kernel
theorem dX6_onFrom_14 : decode cX6_onFrom 14 = .ok (.iload_n 2, 1) := by decide +kernel
theorem dX6_onFrom_15 : decode cX6_onFrom 15 = .ok (.iadd, 1) := by decide +kernel
theorem dX6_onFrom_16 : decode cX6_onFrom 16 = .ok (.ireturn, 1) := by decide +kernel
theorem dX0_flapsOnTo_0 : decode cX0_flapsOnTo 0 = .ok (.aload_n 0, 1) := by decide +kernel
theorem dX0_flapsOnTo_1 : decode cX0_flapsOnTo 1 = .ok (.getfield 27, 3) := by decide +kernel
theorem dX0_flapsOnTo_4 : decode cX0_flapsOnTo 4 = .ok (.iload_n 1, 1) := by decide +kernel
theorem dX0_flapsOnTo_5 : decode cX0_flapsOnTo 5 = .ok (.iaload, 1) := by decide +kernel
theorem dX0_flapsOnTo_6 : decode cX0_flapsOnTo 6 = .ok (.iload_n 2, 1) := by decide +kernel
theorem dX0_flapsOnTo_7 : decode cX0_flapsOnTo 7 = .ok (.aload_n 0, 1) := by decide +kernel
theorem dX0_flapsOnTo_8 : decode cX0_flapsOnTo 8 = .ok (.iload_n 1, 1) := by decide +kernel
theorem dX0_flapsOnTo_9 : decode cX0_flapsOnTo 9 = .ok (.invokevirtual 105, 3) := by decide +kernel
theorem dX0_flapsOnTo_12 : decode cX0_flapsOnTo 12 = .ok (.invokestatic 154, 3) := by decide +kernel
theorem dX0_flapsOnTo_15 : decode cX0_flapsOnTo 15 = .ok (.ireturn, 1) := by decide +kernel
theorem dX0_leftOf_0 : decode cX0_leftOf 0 = .ok (.aload_n 0, 1) := by decide +kernel
theorem dX0_leftOf_1 : decode cX0_leftOf 1 = .ok (.getfield 30, 3) := by decide +kernel
theorem dX0_leftOf_4 : decode cX0_leftOf 4 = .ok (.iload_n 1, 1) := by decide +kernel
theorem dX0_leftOf_5 : decode cX0_leftOf 5 = .ok (.iaload, 1) := by decide +kernel
theorem dX0_leftOf_6 : decode cX0_leftOf 6 = .ok (.aload_n 0, 1) := by decide +kernel
theorem dX0_leftOf_7 : decode cX0_leftOf 7 = .ok (.getfield 27, 3) := by decide +kernel
theorem dX0_leftOf_10 : decode cX0_leftOf 10 = .ok (.iload_n 1, 1) := by decide +kernel
theorem dX0_leftOf_11 : decode cX0_leftOf 11 = .ok (.iaload, 1) := by decide +kernel
theorem dX0_leftOf_12 : decode cX0_leftOf 12 = .ok (.isub, 1) := by decide +kernel
theorem dX0_leftOf_13 : decode cX0_leftOf 13 = .ok (.istore_n 2, 1) := by decide +kernel
theorem dX0_leftOf_14 : decode cX0_leftOf 14 = .ok (.aload_n 0, 1) := by decide +kernel
theorem dX0_leftOf_15 : decode cX0_leftOf 15 = .ok (.getfield 21, 3) := by decide +kernel
theorem dX0_leftOf_18 : decode cX0_leftOf 18 = .ok (.iload_n 1, 1) := by decide +kernel
theorem dX0_leftOf_19 : decode cX0_leftOf 19 = .ok (.iaload, 1) := by decide +kernel
theorem dX0_leftOf_20 : decode cX0_leftOf 20 = .ok (.istore_n 3, 1) := by decide +kernel
theorem dX0_leftOf_21 : decode cX0_leftOf 21 = .ok (.iload_n 2, 1) := by decide +kernel
theorem dX0_leftOf_22 : decode cX0_leftOf 22 = .ok (.ifCond .ge 26, 3) := by decide +kernel
theorem dX0_leftOf_25 : decode cX0_leftOf 25 = .ok (.iload_n 3, 1) := by decide +kernel
theorem dX0_leftOf_26 : decode cX0_leftOf 26 = .ok (.ifCond .lt 22, 3) := by decide +kernel
theorem dX0_leftOf_29 : decode cX0_leftOf 29 = .ok (.iload_n 3, 1) := by decide +kernel
theorem dX0_leftOf_30 : decode cX0_leftOf 30 = .ok (.aload_n 0, 1) := by decide +kernel
theorem dX0_leftOf_31 : decode cX0_leftOf 31 = .ok (.getfield 59, 3) := by decide +kernel
theorem dX0_leftOf_34 : decode cX0_leftOf 34 = .ok (.if_icmp .ge 14, 3) := by decide +kernel
theorem dX0_leftOf_37 : decode cX0_leftOf 37 = .ok (.iload_n 2, 1) := by decide +kernel
theorem dX0_leftOf_38 : decode cX0_leftOf 38 = .ok (.aload_n 0, 1) := by decide +kernel
theorem dX0_leftOf_39 : decode cX0_leftOf 39 = .ok (.getfield 15, 3) := by decide +kernel
theorem dX0_leftOf_42 : decode cX0_leftOf 42 = .ok (.iload_n 3, 1) := by decide +kernel
theorem dX0_leftOf_43 : decode cX0_leftOf 43 = .ok (.iaload, 1) := by decide +kernel
theorem dX0_leftOf_44 : decode cX0_leftOf 44 = .ok (.iadd, 1) := by decide +kernel
theorem dX0_leftOf_45 : decode cX0_leftOf 45 = .ok (.goto 4, 3) := by decide +kernel
theorem dX0_leftOf_48 : decode cX0_leftOf 48 = .ok (.iload_n 2, 1) := by decide +kernel
theorem dX0_leftOf_49 : decode cX0_leftOf 49 = .ok (.ireturn, 1) := by decide +kernel
theorem dX0_flapFor_0 : decode cX0_flapFor 0 = .ok (.iload_n 2, 1) := by decide +kernel
theorem dX0_flapFor_1 : decode cX0_flapFor 1 = .ok (.ifCond .lt 25, 3) := by decide +kernel
theorem dX0_flapFor_4 : decode cX0_flapFor 4 = .ok (.iload_n 2, 1) := by decide +kernel
theorem dX0_flapFor_5 : decode cX0_flapFor 5 = .ok (.iload 5, 2) := by decide +kernel
theorem dX0_flapFor_7 : decode cX0_flapFor 7 = .ok (.if_icmp .ge 19, 3) := by decide +kernel
theorem dX0_flapFor_10 : decode cX0_flapFor 10 = .ok (.aload_n 0, 1) := by decide +kernel
theorem dX0_flapFor_11 : decode cX0_flapFor 11 = .ok (.iload_n 1, 1) := by decide +kernel
theorem dX0_flapFor_12 : decode cX0_flapFor 12 = .ok (.aload_n 3, 1) := by decide +kernel
theorem dX0_flapFor_13 : decode cX0_flapFor 13 = .ok (.iload 4, 2) := by decide +kernel
theorem dX0_flapFor_15 : decode cX0_flapFor 15 = .ok (.iload_n 2, 1) := by decide +kernel
theorem dX0_flapFor_16 : decode cX0_flapFor 16 = .ok (.iadd, 1) := by decide +kernel
theorem dX0_flapFor_17 : decode cX0_flapFor 17 = .ok (.invokevirtual 76, 3) := by decide +kernel
theorem dX0_flapFor_20 : decode cX0_flapFor 20 = .ok (.invokevirtual 137, 3) := by decide +kernel
theorem dX0_flapFor_23 : decode cX0_flapFor 23 = .ok (.goto 4, 3) := by decide +kernel
theorem dX0_flapFor_26 : decode cX0_flapFor 26 = .ok (.iconst 0, 1) := by decide +kernel
theorem dX0_flapFor_27 : decode cX0_flapFor 27 = .ok (.ireturn, 1) := by decide +kernel
theorem dX0_costOf_0 : decode cX0_costOf 0 = .ok (.iconst 0, 1) := by decide +kernel
theorem dX0_costOf_1 : decode cX0_costOf 1 = .ok (.istore 6, 2) := by decide +kernel
theorem dX0_costOf_3 : decode cX0_costOf 3 = .ok (.iconst 0, 1) := by decide +kernel
theorem dX0_costOf_4 : decode cX0_costOf 4 = .ok (.istore 7, 2) := by decide +kernel
theorem dX0_costOf_6 : decode cX0_costOf 6 = .ok (.iload 7, 2) := by decide +kernel
theorem dX0_costOf_8 : decode cX0_costOf 8 = .ok (.aload_n 0, 1) := by decide +kernel
theorem dX0_costOf_9 : decode cX0_costOf 9 = .ok (.getfield 53, 3) := by decide +kernel
theorem dX0_costOf_12 : decode cX0_costOf 12 = .ok (.if_icmp .ge 60, 3) := by decide +kernel
theorem dX0_costOf_15 : decode cX0_costOf 15 = .ok (.iload_n 1, 1) := by decide +kernel
theorem dX0_costOf_16 : decode cX0_costOf 16 = .ok (.aload_n 0, 1) := by decide +kernel
theorem dX0_costOf_17 : decode cX0_costOf 17 = .ok (.getfield 53, 3) := by decide +kernel
theorem dX0_costOf_20 : decode cX0_costOf 20 = .ok (.imul, 1) := by decide +kernel
theorem dX0_costOf_21 : decode cX0_costOf 21 = .ok (.iload 7, 2) := by decide +kernel
theorem dX0_costOf_23 : decode cX0_costOf 23 = .ok (.iadd, 1) := by decide +kernel
theorem dX0_costOf_24 : decode cX0_costOf 24 = .ok (.istore 8, 2) := by decide +kernel
theorem dX0_costOf_26 : decode cX0_costOf 26 = .ok (.aload_n 0, 1) := by decide +kernel
theorem dX0_costOf_27 : decode cX0_costOf 27 = .ok (.iload 8, 2) := by decide +kernel
theorem dX0_costOf_29 : decode cX0_costOf 29 = .ok (.iload 7, 2) := by decide +kernel
theorem dX0_costOf_31 : decode cX0_costOf 31 = .ok (.iload_n 2, 1) := by decide +kernel
theorem dX0_costOf_32 : decode cX0_costOf 32 = .ok (.isub, 1) := by decide +kernel
theorem dX0_costOf_33 : decode cX0_costOf 33 = .ok (.aload_n 3, 1) := by decide +kernel
theorem dX0_costOf_34 : decode cX0_costOf 34 = .ok (.iload 4, 2) := by decide +kernel
theorem dX0_costOf_36 : decode cX0_costOf 36 = .ok (.iload 5, 2) := by decide +kernel
theorem dX0_costOf_38 : decode cX0_costOf 38 = .ok (.invokevirtual 157, 3) := by decide +kernel
theorem dX0_costOf_41 : decode cX0_costOf 41 = .ok (.istore 9, 2) := by decide +kernel
theorem dX0_costOf_43 : decode cX0_costOf 43 = .ok (.iload 6, 2) := by decide +kernel
theorem dX0_costOf_45 : decode cX0_costOf 45 = .ok (.iload 9, 2) := by decide +kernel
theorem dX0_costOf_47 : decode cX0_costOf 47 = .ok (.iconst (-1), 1) := by decide +kernel
theorem dX0_costOf_48 : decode cX0_costOf 48 = .ok (.if_icmp .ne 7, 3) := by decide +kernel
theorem dX0_costOf_51 : decode cX0_costOf 51 = .ok (.iconst 0, 1) := by decide +kernel
theorem dX0_costOf_52 : decode cX0_costOf 52 = .ok (.goto 11, 3) := by decide +kernel
theorem dX0_costOf_55 : decode cX0_costOf 55 = .ok (.aload_n 0, 1) := by decide +kernel
theorem dX0_costOf_56 : decode cX0_costOf 56 = .ok (.iload 8, 2) := by decide +kernel
theorem dX0_costOf_58 : decode cX0_costOf 58 = .ok (.iload 9, 2) := by decide +kernel
theorem dX0_costOf_60 : decode cX0_costOf 60 = .ok (.invokevirtual 161, 3) := by decide +kernel
theorem dX0_costOf_63 : decode cX0_costOf 63 = .ok (.iadd, 1) := by decide +kernel
theorem dX0_costOf_64 : decode cX0_costOf 64 = .ok (.istore 6, 2) := by decide +kernel
theorem dX0_costOf_66 : decode cX0_costOf 66 = .ok (.iinc 7 1, 3) := by decide +kernel
theorem dX0_costOf_69 : decode cX0_costOf 69 = .ok (.goto (-63), 3) := by decide +kernel
theorem dX0_costOf_72 : decode cX0_costOf 72 = .ok (.iload 6, 2) := by decide +kernel
theorem dX0_costOf_74 : decode cX0_costOf 74 = .ok (.ireturn, 1) := by decide +kernel
theorem dX0_missesOf_0 : decode cX0_missesOf 0 = .ok (.iconst 0, 1) := by decide +kernel
theorem dX0_missesOf_1 : decode cX0_missesOf 1 = .ok (.istore 6, 2) := by decide +kernel
theorem dX0_missesOf_3 : decode cX0_missesOf 3 = .ok (.iconst 0, 1) := by decide +kernel
theorem dX0_missesOf_4 : decode cX0_missesOf 4 = .ok (.istore 7, 2) := by decide +kernel
theorem dX0_missesOf_6 : decode cX0_missesOf 6 = .ok (.iload 7, 2) := by decide +kernel
theorem dX0_missesOf_8 : decode cX0_missesOf 8 = .ok (.aload_n 0, 1) := by decide +kernel
theorem dX0_missesOf_9 : decode cX0_missesOf 9 = .ok (.getfield 53, 3) := by decide +kernel
theorem dX0_missesOf_12 : decode cX0_missesOf 12 = .ok (.if_icmp .ge 38, 3) := by decide +kernel
theorem dX0_missesOf_15 : decode cX0_missesOf 15 = .ok (.aload_n 0, 1) := by decide +kernel
theorem dX0_missesOf_16 : decode cX0_missesOf 16 = .ok (.iload_n 1, 1) := by decide +kernel
theorem dX0_missesOf_17 : decode cX0_missesOf 17 = .ok (.aload_n 0, 1) := by decide +kernel
theorem dX0_missesOf_18 : decode cX0_missesOf 18 = .ok (.getfield 53, 3) := by decide +kernel
theorem dX0_missesOf_21 : decode cX0_missesOf 21 = .ok (.imul, 1) := by decide +kernel
theorem dX0_missesOf_22 : decode cX0_missesOf 22 = .ok (.iload 7, 2) := by decide +kernel
theorem dX0_missesOf_24 : decode cX0_missesOf 24 = .ok (.iadd, 1) := by decide +kernel
theorem dX0_missesOf_25 : decode cX0_missesOf 25 = .ok (.iload 7, 2) := by decide +kernel
theorem dX0_missesOf_27 : decode cX0_missesOf 27 = .ok (.iload_n 2, 1) := by decide +kernel
theorem dX0_missesOf_28 : decode cX0_missesOf 28 = .ok (.isub, 1) := by decide +kernel
theorem dX0_missesOf_29 : decode cX0_missesOf 29 = .ok (.aload_n 3, 1) := by decide +kernel
theorem dX0_missesOf_30 : decode cX0_missesOf 30 = .ok (.iload 4, 2) := by decide +kernel
theorem dX0_missesOf_32 : decode cX0_missesOf 32 = .ok (.iload 5, 2) := by decide +kernel
theorem dX0_missesOf_34 : decode cX0_missesOf 34 = .ok (.invokevirtual 157, 3) := by decide +kernel
theorem dX0_missesOf_37 : decode cX0_missesOf 37 = .ok (.iconst (-1), 1) := by decide +kernel
theorem dX0_missesOf_38 : decode cX0_missesOf 38 = .ok (.if_icmp .ne 6, 3) := by decide +kernel
theorem dX0_missesOf_41 : decode cX0_missesOf 41 = .ok (.iinc 6 1, 3) := by decide +kernel
theorem dX0_missesOf_44 : decode cX0_missesOf 44 = .ok (.iinc 7 1, 3) := by decide +kernel
theorem dX0_missesOf_47 : decode cX0_missesOf 47 = .ok (.goto (-41), 3) := by decide +kernel
theorem dX0_missesOf_50 : decode cX0_missesOf 50 = .ok (.iload 6, 2) := by decide +kernel
theorem dX0_missesOf_52 : decode cX0_missesOf 52 = .ok (.ireturn, 1) := by decide +kernel
theorem dX0_wantFlap_0 : decode cX0_wantFlap 0 = .ok (.iload_n 2, 1) := by decide +kernel
theorem dX0_wantFlap_1 : decode cX0_wantFlap 1 = .ok (.iconst (-1), 1) := by decide +kernel
theorem dX0_wantFlap_2 : decode cX0_wantFlap 2 = .ok (.if_icmp .ne 5, 3) := by decide +kernel
theorem dX0_wantFlap_5 : decode cX0_wantFlap 5 = .ok (.iconst 1, 1) := by decide +kernel
theorem dX0_wantFlap_6 : decode cX0_wantFlap 6 = .ok (.ireturn, 1) := by decide +kernel
theorem dX0_wantFlap_7 : decode cX0_wantFlap 7 = .ok (.aload_n 0, 1) := by decide +kernel
theorem dX0_wantFlap_8 : decode cX0_wantFlap 8 = .ok (.getfield 30, 3) := by decide +kernel
theorem dX0_wantFlap_11 : decode cX0_wantFlap 11 = .ok (.iload_n 1, 1) := by decide +kernel
theorem dX0_wantFlap_12 : decode cX0_wantFlap 12 = .ok (.iload_n 2, 1) := by decide +kernel
theorem dX0_wantFlap_13 : decode cX0_wantFlap 13 = .ok (.iastore, 1) := by decide +kernel
theorem dX0_wantFlap_14 : decode cX0_wantFlap 14 = .ok (.aload_n 0, 1) := by decide +kernel
theorem dX0_wantFlap_15 : decode cX0_wantFlap 15 = .ok (.getfield 27, 3) := by decide +kernel
theorem dX0_wantFlap_18 : decode cX0_wantFlap 18 = .ok (.iload_n 1, 1) := by decide +kernel
theorem dX0_wantFlap_19 : decode cX0_wantFlap 19 = .ok (.iaload, 1) := by decide +kernel
theorem dX0_wantFlap_20 : decode cX0_wantFlap 20 = .ok (.istore_n 3, 1) := by decide +kernel
theorem dX0_wantFlap_21 : decode cX0_wantFlap 21 = .ok (.aload_n 0, 1) := by decide +kernel
theorem dX0_wantFlap_22 : decode cX0_wantFlap 22 = .ok (.aload_n 0, 1) := by decide +kernel
theorem dX0_wantFlap_23 : decode cX0_wantFlap 23 = .ok (.getfield 21, 3) := by decide +kernel
theorem dX0_wantFlap_26 : decode cX0_wantFlap 26 = .ok (.iload_n 1, 1) := by decide +kernel
theorem dX0_wantFlap_27 : decode cX0_wantFlap 27 = .ok (.iaload, 1) := by decide +kernel
theorem dX0_wantFlap_28 : decode cX0_wantFlap 28 = .ok (.invokevirtual 171, 3) := by decide +kernel
theorem dX0_wantFlap_31 : decode cX0_wantFlap 31 = .ok (.iload_n 3, 1) := by decide +kernel
theorem dX0_wantFlap_32 : decode cX0_wantFlap 32 = .ok (.aload_n 0, 1) := by decide +kernel
theorem dX0_wantFlap_33 : decode cX0_wantFlap 33 = .ok (.iload_n 1, 1) := by decide +kernel
theorem dX0_wantFlap_34 : decode cX0_wantFlap 34 = .ok (.invokevirtual 105, 3) := by decide +kernel
theorem dX0_wantFlap_37 : decode cX0_wantFlap 37 = .ok (.imul, 1) := by decide +kernel
theorem dX0_wantFlap_38 : decode cX0_wantFlap 38 = .ok (.iadd, 1) := by decide +kernel
theorem dX0_wantFlap_39 : decode cX0_wantFlap 39 = .ok (.iload_n 2, 1) := by decide +kernel
theorem dX0_wantFlap_40 : decode cX0_wantFlap 40 = .ok (.iadd, 1) := by decide +kernel
theorem dX0_wantFlap_41 : decode cX0_wantFlap 41 = .ok (.istore 4, 2) := by decide +kernel
theorem dX0_wantFlap_43 : decode cX0_wantFlap 43 = .ok (.iload_n 2, 1) := by decide +kernel
theorem dX0_wantFlap_44 : decode cX0_wantFlap 44 = .ok (.iload_n 3, 1) := by decide +kernel
theorem dX0_wantFlap_45 : decode cX0_wantFlap 45 = .ok (.if_icmp .eq 29, 3) := by decide +kernel
theorem dX0_wantFlap_48 : decode cX0_wantFlap 48 = .ok (.iload 4, 2) := by decide +kernel
theorem dX0_wantFlap_50 : decode cX0_wantFlap 50 = .ok (.ifCond .lt 24, 3) := by decide +kernel
theorem dX0_wantFlap_53 : decode cX0_wantFlap 53 = .ok (.iload 4, 2) := by decide +kernel
theorem dX0_wantFlap_55 : decode cX0_wantFlap 55 = .ok (.aload_n 0, 1) := by decide +kernel
theorem dX0_wantFlap_56 : decode cX0_wantFlap 56 = .ok (.getfield 46, 3) := by decide +kernel
theorem dX0_wantFlap_59 : decode cX0_wantFlap 59 = .ok (.arraylength, 1) := by decide +kernel
theorem dX0_wantFlap_60 : decode cX0_wantFlap 60 = .ok (.if_icmp .ge 14, 3) := by decide +kernel
theorem dX0_wantFlap_63 : decode cX0_wantFlap 63 = .ok (.aload_n 0, 1) := by decide +kernel
theorem dX0_wantFlap_64 : decode cX0_wantFlap 64 = .ok (.getfield 46, 3) := by decide +kernel
theorem dX0_wantFlap_67 : decode cX0_wantFlap 67 = .ok (.iload 4, 2) := by decide +kernel
theorem dX0_wantFlap_69 : decode cX0_wantFlap 69 = .ok (.dup2, 1) := by decide +kernel
theorem dX0_wantFlap_70 : decode cX0_wantFlap 70 = .ok (.iaload, 1) := by decide +kernel
theorem dX0_wantFlap_71 : decode cX0_wantFlap 71 = .ok (.iconst 1, 1) := by decide +kernel
theorem dX0_wantFlap_72 : decode cX0_wantFlap 72 = .ok (.iadd, 1) := by decide +kernel
theorem dX0_wantFlap_73 : decode cX0_wantFlap 73 = .ok (.iastore, 1) := by decide +kernel
theorem dX0_wantFlap_74 : decode cX0_wantFlap 74 = .ok (.iconst 0, 1) := by decide +kernel
theorem dX0_wantFlap_75 : decode cX0_wantFlap 75 = .ok (.ireturn, 1) := by decide +kernel
theorem dX0_wantSigns_0 : decode cX0_wantSigns 0 = .ok (.iconst 0, 1) := by decide +kernel
theorem dX0_wantSigns_1 : decode cX0_wantSigns 1 = .ok (.istore 5, 2) := by decide +kernel
theorem dX0_wantSigns_3 : decode cX0_wantSigns 3 = .ok (.iconst 0, 1) := by decide +kernel
theorem dX0_wantSigns_4 : decode cX0_wantSigns 4 = .ok (.istore 6, 2) := by decide +kernel
theorem dX0_wantSigns_6 : decode cX0_wantSigns 6 = .ok (.iload 6, 2) := by decide +kernel
theorem dX0_wantSigns_8 : decode cX0_wantSigns 8 = .ok (.aload_n 0, 1) := by decide +kernel
theorem dX0_wantSigns_9 : decode cX0_wantSigns 9 = .ok (.getfield 53, 3) := by decide +kernel
theorem dX0_wantSigns_12 : decode cX0_wantSigns 12 = .ok (.if_icmp .ge 43, 3) := by decide +kernel
theorem dX0_wantSigns_15 : decode cX0_wantSigns 15 = .ok (.iload_n 1, 1) := by decide +kernel
theorem dX0_wantSigns_16 : decode cX0_wantSigns 16 = .ok (.aload_n 0, 1) := by decide +kernel
theorem dX0_wantSigns_17 : decode cX0_wantSigns 17 = .ok (.getfield 53, 3) := by decide +kernel
theorem dX0_wantSigns_20 : decode cX0_wantSigns 20 = .ok (.imul, 1) := by decide +kernel
theorem dX0_wantSigns_21 : decode cX0_wantSigns 21 = .ok (.iload 6, 2) := by decide +kernel
theorem dX0_wantSigns_23 : decode cX0_wantSigns 23 = .ok (.iadd, 1) := by decide +kernel
theorem dX0_wantSigns_24 : decode cX0_wantSigns 24 = .ok (.istore 7, 2) := by decide +kernel
theorem dX0_wantSigns_26 : decode cX0_wantSigns 26 = .ok (.iload 5, 2) := by decide +kernel
theorem dX0_wantSigns_28 : decode cX0_wantSigns 28 = .ok (.aload_n 0, 1) := by decide +kernel
theorem dX0_wantSigns_29 : decode cX0_wantSigns 29 = .ok (.iload 7, 2) := by decide +kernel
theorem dX0_wantSigns_31 : decode cX0_wantSigns 31 = .ok (.aload_n 0, 1) := by decide +kernel
theorem dX0_wantSigns_32 : decode cX0_wantSigns 32 = .ok (.iload 7, 2) := by decide +kernel
theorem dX0_wantSigns_34 : decode cX0_wantSigns 34 = .ok (.iload 6, 2) := by decide +kernel
theorem dX0_wantSigns_36 : decode cX0_wantSigns 36 = .ok (.aload_n 2, 1) := by decide +kernel
theorem dX0_wantSigns_37 : decode cX0_wantSigns 37 = .ok (.iload_n 3, 1) := by decide +kernel
theorem dX0_wantSigns_38 : decode cX0_wantSigns 38 = .ok (.iload 4, 2) := by decide +kernel
theorem dX0_wantSigns_40 : decode cX0_wantSigns 40 = .ok (.invokevirtual 157, 3) := by decide +kernel
theorem dX0_wantSigns_43 : decode cX0_wantSigns 43 = .ok (.invokevirtual 164, 3) := by decide +kernel
theorem dX0_wantSigns_46 : decode cX0_wantSigns 46 = .ok (.iadd, 1) := by decide +kernel
theorem dX0_wantSigns_47 : decode cX0_wantSigns 47 = .ok (.istore 5, 2) := by decide +kernel
theorem dX0_wantSigns_49 : decode cX0_wantSigns 49 = .ok (.iinc 6 1, 3) := by decide +kernel
theorem dX0_wantSigns_52 : decode cX0_wantSigns 52 = .ok (.goto (-46), 3) := by decide +kernel
theorem dX0_wantSigns_55 : decode cX0_wantSigns 55 = .ok (.iload 5, 2) := by decide +kernel
theorem dX0_wantSigns_57 : decode cX0_wantSigns 57 = .ok (.ireturn, 1) := by decide +kernel
theorem dX0_scrollUp_0 : decode cX0_scrollUp 0 = .ok (.iconst 0, 1) := by decide +kernel
theorem dX0_scrollUp_1 : decode cX0_scrollUp 1 = .ok (.istore 4, 2) := by decide +kernel
theorem dX0_scrollUp_3 : decode cX0_scrollUp 3 = .ok (.iconst 0, 1) := by decide +kernel
theorem dX0_scrollUp_4 : decode cX0_scrollUp 4 = .ok (.istore 5, 2) := by decide +kernel
theorem dX0_scrollUp_6 : decode cX0_scrollUp 6 = .ok (.iload 5, 2) := by decide +kernel
theorem dX0_scrollUp_8 : decode cX0_scrollUp 8 = .ok (.aload_n 0, 1) := by decide +kernel
theorem dX0_scrollUp_9 : decode cX0_scrollUp 9 = .ok (.invokevirtual 102, 3) := by decide +kernel
theorem dX0_scrollUp_12 : decode cX0_scrollUp 12 = .ok (.aload_n 0, 1) := by decide +kernel
theorem dX0_scrollUp_13 : decode cX0_scrollUp 13 = .ok (.getfield 53, 3) := by decide +kernel
theorem dX0_scrollUp_16 : decode cX0_scrollUp 16 = .ok (.isub, 1) := by decide +kernel
theorem dX0_scrollUp_17 : decode cX0_scrollUp 17 = .ok (.if_icmp .ge 37, 3) := by decide +kernel
theorem dX0_scrollUp_20 : decode cX0_scrollUp 20 = .ok (.iload 4, 2) := by decide +kernel
theorem dX0_scrollUp_22 : decode cX0_scrollUp 22 = .ok (.aload_n 0, 1) := by decide +kernel
theorem dX0_scrollUp_23 : decode cX0_scrollUp 23 = .ok (.iload 5, 2) := by decide +kernel
theorem dX0_scrollUp_25 : decode cX0_scrollUp 25 = .ok (.aload_n 0, 1) := by decide +kernel
theorem dX0_scrollUp_26 : decode cX0_scrollUp 26 = .ok (.iload 5, 2) := by decide +kernel
theorem dX0_scrollUp_28 : decode cX0_scrollUp 28 = .ok (.aload_n 0, 1) := by decide +kernel
theorem dX0_scrollUp_29 : decode cX0_scrollUp 29 = .ok (.iload 5, 2) := by decide +kernel
theorem dX0_scrollUp_31 : decode cX0_scrollUp 31 = .ok (.aload_n 0, 1) := by decide +kernel
theorem dX0_scrollUp_32 : decode cX0_scrollUp 32 = .ok (.getfield 53, 3) := by decide +kernel
theorem dX0_scrollUp_35 : decode cX0_scrollUp 35 = .ok (.iadd, 1) := by decide +kernel
theorem dX0_scrollUp_36 : decode cX0_scrollUp 36 = .ok (.invokevirtual 117, 3) := by decide +kernel
theorem dX0_scrollUp_39 : decode cX0_scrollUp 39 = .ok (.invokevirtual 137, 3) := by decide +kernel
theorem dX0_scrollUp_42 : decode cX0_scrollUp 42 = .ok (.invokevirtual 164, 3) := by decide +kernel
theorem dX0_scrollUp_45 : decode cX0_scrollUp 45 = .ok (.iadd, 1) := by decide +kernel
theorem dX0_scrollUp_46 : decode cX0_scrollUp 46 = .ok (.istore 4, 2) := by decide +kernel
theorem dX0_scrollUp_48 : decode cX0_scrollUp 48 = .ok (.iinc 5 1, 3) := by decide +kernel
theorem dX0_scrollUp_51 : decode cX0_scrollUp 51 = .ok (.goto (-45), 3) := by decide +kernel
theorem dX0_scrollUp_54 : decode cX0_scrollUp 54 = .ok (.iload 4, 2) := by decide +kernel
theorem dX0_scrollUp_56 : decode cX0_scrollUp 56 = .ok (.aload_n 0, 1) := by decide +kernel
theorem dX0_scrollUp_57 : decode cX0_scrollUp 57 = .ok (.aload_n 0, 1) := by decide +kernel
theorem dX0_scrollUp_58 : decode cX0_scrollUp 58 = .ok (.getfield 49, 3) := by decide +kernel
theorem dX0_scrollUp_61 : decode cX0_scrollUp 61 = .ok (.iconst 1, 1) := by decide +kernel
theorem dX0_scrollUp_62 : decode cX0_scrollUp 62 = .ok (.isub, 1) := by decide +kernel
theorem dX0_scrollUp_63 : decode cX0_scrollUp 63 = .ok (.aload_n 1, 1) := by decide +kernel
theorem dX0_scrollUp_64 : decode cX0_scrollUp 64 = .ok (.iload_n 2, 1) := by decide +kernel
theorem dX0_scrollUp_65 : decode cX0_scrollUp 65 = .ok (.iload_n 3, 1) := by decide +kernel
theorem dX0_scrollUp_66 : decode cX0_scrollUp 66 = .ok (.invokevirtual 167, 3) := by decide +kernel
theorem dX0_scrollUp_69 : decode cX0_scrollUp 69 = .ok (.iadd, 1) := by decide +kernel
theorem dX0_scrollUp_70 : decode cX0_scrollUp 70 = .ok (.ireturn, 1) := by decide +kernel
theorem dX0_wantHome_0 : decode cX0_wantHome 0 = .ok (.iconst 0, 1) := by decide +kernel
theorem dX0_wantHome_1 : decode cX0_wantHome 1 = .ok (.istore_n 2, 1) := by decide +kernel
theorem dX0_wantHome_2 : decode cX0_wantHome 2 = .ok (.iload_n 2, 1) := by decide +kernel
theorem dX0_wantHome_3 : decode cX0_wantHome 3 = .ok (.aload_n 0, 1) := by decide +kernel
theorem dX0_wantHome_4 : decode cX0_wantHome 4 = .ok (.getfield 53, 3) := by decide +kernel
theorem dX0_wantHome_7 : decode cX0_wantHome 7 = .ok (.if_icmp .ge 23, 3) := by decide +kernel
theorem dX0_wantHome_10 : decode cX0_wantHome 10 = .ok (.aload_n 0, 1) := by decide +kernel
theorem dX0_wantHome_11 : decode cX0_wantHome 11 = .ok (.getfield 30, 3) := by decide +kernel
theorem dX0_wantHome_14 : decode cX0_wantHome 14 = .ok (.iload_n 1, 1) := by decide +kernel
theorem dX0_wantHome_15 : decode cX0_wantHome 15 = .ok (.aload_n 0, 1) := by decide +kernel
theorem dX0_wantHome_16 : decode cX0_wantHome 16 = .ok (.getfield 53, 3) := by decide +kernel
theorem dX0_wantHome_19 : decode cX0_wantHome 19 = .ok (.imul, 1) := by decide +kernel
theorem dX0_wantHome_20 : decode cX0_wantHome 20 = .ok (.iload_n 2, 1) := by decide +kernel
theorem dX0_wantHome_21 : decode cX0_wantHome 21 = .ok (.iadd, 1) := by decide +kernel
theorem dX0_wantHome_22 : decode cX0_wantHome 22 = .ok (.iconst 0, 1) := by decide +kernel
theorem dX0_wantHome_23 : decode cX0_wantHome 23 = .ok (.iastore, 1) := by decide +kernel
theorem dX0_wantHome_24 : decode cX0_wantHome 24 = .ok (.iinc 2 1, 3) := by decide +kernel
theorem dX0_wantHome_27 : decode cX0_wantHome 27 = .ok (.goto (-25), 3) := by decide +kernel
theorem dX0_wantHome_30 : decode cX0_wantHome 30 = .ok (.return_, 1) := by decide +kernel
theorem dX0_showSigns_0 : decode cX0_showSigns 0 = .ok (.iconst 0, 1) := by decide +kernel
theorem dX0_showSigns_1 : decode cX0_showSigns 1 = .ok (.istore 5, 2) := by decide +kernel
theorem dX0_showSigns_3 : decode cX0_showSigns 3 = .ok (.iload 5, 2) := by decide +kernel
theorem dX0_showSigns_5 : decode cX0_showSigns 5 = .ok (.aload_n 0, 1) := by decide +kernel
theorem dX0_showSigns_6 : decode cX0_showSigns 6 = .ok (.getfield 53, 3) := by decide +kernel
theorem dX0_showSigns_9 : decode cX0_showSigns 9 = .ok (.if_icmp .ge 77, 3) := by decide +kernel
theorem dX0_showSigns_12 : decode cX0_showSigns 12 = .ok (.iload_n 1, 1) := by decide +kernel
theorem dX0_showSigns_13 : decode cX0_showSigns 13 = .ok (.aload_n 0, 1) := by decide +kernel
theorem dX0_showSigns_14 : decode cX0_showSigns 14 = .ok (.getfield 53, 3) := by decide +kernel
theorem dX0_showSigns_17 : decode cX0_showSigns 17 = .ok (.imul, 1) := by decide +kernel
theorem dX0_showSigns_18 : decode cX0_showSigns 18 = .ok (.iload 5, 2) := by decide +kernel
theorem dX0_showSigns_20 : decode cX0_showSigns 20 = .ok (.iadd, 1) := by decide +kernel
theorem dX0_showSigns_21 : decode cX0_showSigns 21 = .ok (.istore 6, 2) := by decide +kernel
theorem dX0_showSigns_23 : decode cX0_showSigns 23 = .ok (.aload_n 0, 1) := by decide +kernel
theorem dX0_showSigns_24 : decode cX0_showSigns 24 = .ok (.iload 6, 2) := by decide +kernel
theorem dX0_showSigns_26 : decode cX0_showSigns 26 = .ok (.iload 5, 2) := by decide +kernel
theorem dX0_showSigns_28 : decode cX0_showSigns 28 = .ok (.aload_n 2, 1) := by decide +kernel
theorem dX0_showSigns_29 : decode cX0_showSigns 29 = .ok (.iload_n 3, 1) := by decide +kernel
theorem dX0_showSigns_30 : decode cX0_showSigns 30 = .ok (.iload 4, 2) := by decide +kernel
theorem dX0_showSigns_32 : decode cX0_showSigns 32 = .ok (.invokevirtual 157, 3) := by decide +kernel
theorem dX0_showSigns_35 : decode cX0_showSigns 35 = .ok (.istore 7, 2) := by decide +kernel
theorem dX0_showSigns_37 : decode cX0_showSigns 37 = .ok (.iload 7, 2) := by decide +kernel
theorem dX0_showSigns_39 : decode cX0_showSigns 39 = .ok (.iconst (-1), 1) := by decide +kernel
theorem dX0_showSigns_40 : decode cX0_showSigns 40 = .ok (.if_icmp .eq 12, 3) := by decide +kernel
theorem dX0_showSigns_43 : decode cX0_showSigns 43 = .ok (.aload_n 0, 1) := by decide +kernel
theorem dX0_showSigns_44 : decode cX0_showSigns 44 = .ok (.getfield 30, 3) := by decide +kernel
theorem dX0_showSigns_47 : decode cX0_showSigns 47 = .ok (.iload 6, 2) := by decide +kernel
theorem dX0_showSigns_49 : decode cX0_showSigns 49 = .ok (.iload 7, 2) := by decide +kernel
theorem dX0_showSigns_51 : decode cX0_showSigns 51 = .ok (.iastore, 1) := by decide +kernel
theorem dX0_showSigns_52 : decode cX0_showSigns 52 = .ok (.aload_n 0, 1) := by decide +kernel
theorem dX0_showSigns_53 : decode cX0_showSigns 53 = .ok (.getfield 24, 3) := by decide +kernel
theorem dX0_showSigns_56 : decode cX0_showSigns 56 = .ok (.iload 6, 2) := by decide +kernel
theorem dX0_showSigns_58 : decode cX0_showSigns 58 = .ok (.aload_n 0, 1) := by decide +kernel
theorem dX0_showSigns_59 : decode cX0_showSigns 59 = .ok (.getfield 30, 3) := by decide +kernel
theorem dX0_showSigns_62 : decode cX0_showSigns 62 = .ok (.iload 6, 2) := by decide +kernel
theorem dX0_showSigns_64 : decode cX0_showSigns 64 = .ok (.iaload, 1) := by decide +kernel
theorem dX0_showSigns_65 : decode cX0_showSigns 65 = .ok (.iastore, 1) := by decide +kernel
theorem dX0_showSigns_66 : decode cX0_showSigns 66 = .ok (.aload_n 0, 1) := by decide +kernel
theorem dX0_showSigns_67 : decode cX0_showSigns 67 = .ok (.getfield 27, 3) := by decide +kernel
theorem dX0_showSigns_70 : decode cX0_showSigns 70 = .ok (.iload 6, 2) := by decide +kernel
theorem dX0_showSigns_72 : decode cX0_showSigns 72 = .ok (.aload_n 0, 1) := by decide +kernel
theorem dX0_showSigns_73 : decode cX0_showSigns 73 = .ok (.getfield 30, 3) := by decide +kernel
theorem dX0_showSigns_76 : decode cX0_showSigns 76 = .ok (.iload 6, 2) := by decide +kernel
theorem dX0_showSigns_78 : decode cX0_showSigns 78 = .ok (.iaload, 1) := by decide +kernel
theorem dX0_showSigns_79 : decode cX0_showSigns 79 = .ok (.iastore, 1) := by decide +kernel
theorem dX0_showSigns_80 : decode cX0_showSigns 80 = .ok (.iinc 5 1, 3) := by decide +kernel
theorem dX0_showSigns_83 : decode cX0_showSigns 83 = .ok (.goto (-80), 3) := by decide +kernel
theorem dX0_showSigns_86 : decode cX0_showSigns 86 = .ok (.return_, 1) := by decide +kernel
theorem dX6_behind_0 : decode cX6_behind 0 = .ok (.iload_n 0, 1) := by decide +kernel
theorem dX6_behind_1 : decode cX6_behind 1 = .ok (.iconst 1, 1) := by decide +kernel
theorem dX6_behind_2 : decode cX6_behind 2 = .ok (.iadd, 1) := by decide +kernel
theorem dX6_behind_3 : decode cX6_behind 3 = .ok (.iload_n 1, 1) := by decide +kernel
theorem dX6_behind_4 : decode cX6_behind 4 = .ok (.if_icmp .ge 9, 3) := by decide +kernel
theorem dX6_behind_7 : decode cX6_behind 7 = .ok (.iload_n 0, 1) := by decide +kernel
theorem dX6_behind_8 : decode cX6_behind 8 = .ok (.iconst 1, 1) := by decide +kernel
theorem dX6_behind_9 : decode cX6_behind 9 = .ok (.iadd, 1) := by decide +kernel
theorem dX6_behind_10 : decode cX6_behind 10 = .ok (.goto 4, 3) := by decide +kernel
theorem dX6_behind_13 : decode cX6_behind 13 = .ok (.iconst 0, 1) := by decide +kernel
theorem dX6_behind_14 : decode cX6_behind 14 = .ok (.ireturn, 1) := by decide +kernel
theorem dX0_stepOn_0 : decode cX0_stepOn 0 = .ok (.aload_n 0, 1) := by decide +kernel
theorem dX0_stepOn_1 : decode cX0_stepOn 1 = .ok (.iload_n 1, 1) := by decide +kernel
theorem dX0_stepOn_2 : decode cX0_stepOn 2 = .ok (.invokevirtual 105, 3) := by decide +kernel
theorem dX0_stepOn_5 : decode cX0_stepOn 5 = .ok (.istore_n 2, 1) := by decide +kernel
theorem dX0_stepOn_6 : decode cX0_stepOn 6 = .ok (.aload_n 0, 1) := by decide +kernel
theorem dX0_stepOn_7 : decode cX0_stepOn 7 = .ok (.getfield 27, 3) := by decide +kernel
theorem dX0_stepOn_10 : decode cX0_stepOn 10 = .ok (.iload_n 1, 1) := by decide +kernel
theorem dX0_stepOn_11 : decode cX0_stepOn 11 = .ok (.iaload, 1) := by decide +kernel
theorem dX0_stepOn_12 : decode cX0_stepOn 12 = .ok (.iload_n 2, 1) := by decide +kernel
theorem dX0_stepOn_13 : decode cX0_stepOn 13 = .ok (.invokestatic 174, 3) := by decide +kernel
theorem dX0_stepOn_16 : decode cX0_stepOn 16 = .ok (.istore_n 3, 1) := by decide +kernel
theorem dX0_stepOn_17 : decode cX0_stepOn 17 = .ok (.iconst 0, 1) := by decide +kernel
theorem dX0_stepOn_18 : decode cX0_stepOn 18 = .ok (.istore 4, 2) := by decide +kernel
theorem dX0_stepOn_20 : decode cX0_stepOn 20 = .ok (.aload_n 0, 1) := by decide +kernel
theorem dX0_stepOn_21 : decode cX0_stepOn 21 = .ok (.getfield 33, 3) := by decide +kernel
theorem dX0_stepOn_24 : decode cX0_stepOn 24 = .ok (.iload_n 1, 1) := by decide +kernel
theorem dX0_stepOn_25 : decode cX0_stepOn 25 = .ok (.iaload, 1) := by decide +kernel
theorem dX0_stepOn_26 : decode cX0_stepOn 26 = .ok (.ifCond .le 16, 3) := by decide +kernel
theorem dX0_stepOn_29 : decode cX0_stepOn 29 = .ok (.aload_n 0, 1) := by decide +kernel
theorem dX0_stepOn_30 : decode cX0_stepOn 30 = .ok (.getfield 33, 3) := by decide +kernel
theorem dX0_stepOn_33 : decode cX0_stepOn 33 = .ok (.iload_n 1, 1) := by decide +kernel
theorem dX0_stepOn_34 : decode cX0_stepOn 34 = .ok (.dup2, 1) := by decide +kernel
theorem dX0_stepOn_35 : decode cX0_stepOn 35 = .ok (.iaload, 1) := by decide +kernel
theorem dX0_stepOn_36 : decode cX0_stepOn 36 = .ok (.iconst 1, 1) := by decide +kernel
theorem dX0_stepOn_37 : decode cX0_stepOn 37 = .ok (.isub, 1) := by decide +kernel
theorem dX0_stepOn_38 : decode cX0_stepOn 38 = .ok (.iastore, 1) := by decide +kernel
theorem dX0_stepOn_39 : decode cX0_stepOn 39 = .ok (.goto 33, 3) := by decide +kernel
theorem dX0_stepOn_42 : decode cX0_stepOn 42 = .ok (.aload_n 0, 1) := by decide +kernel
theorem dX0_stepOn_43 : decode cX0_stepOn 43 = .ok (.getfield 24, 3) := by decide +kernel
theorem dX0_stepOn_46 : decode cX0_stepOn 46 = .ok (.iload_n 1, 1) := by decide +kernel
theorem dX0_stepOn_47 : decode cX0_stepOn 47 = .ok (.aload_n 0, 1) := by decide +kernel
theorem dX0_stepOn_48 : decode cX0_stepOn 48 = .ok (.getfield 24, 3) := by decide +kernel
theorem dX0_stepOn_51 : decode cX0_stepOn 51 = .ok (.iload_n 1, 1) := by decide +kernel
theorem dX0_stepOn_52 : decode cX0_stepOn 52 = .ok (.iaload, 1) := by decide +kernel
theorem dX0_stepOn_53 : decode cX0_stepOn 53 = .ok (.iload_n 2, 1) := by decide +kernel
theorem dX0_stepOn_54 : decode cX0_stepOn 54 = .ok (.invokestatic 174, 3) := by decide +kernel
theorem dX0_stepOn_57 : decode cX0_stepOn 57 = .ok (.iastore, 1) := by decide +kernel
theorem dX0_stepOn_58 : decode cX0_stepOn 58 = .ok (.aload_n 0, 1) := by decide +kernel
theorem dX0_stepOn_59 : decode cX0_stepOn 59 = .ok (.getfield 24, 3) := by decide +kernel
theorem dX0_stepOn_62 : decode cX0_stepOn 62 = .ok (.iload_n 1, 1) := by decide +kernel
theorem dX0_stepOn_63 : decode cX0_stepOn 63 = .ok (.iaload, 1) := by decide +kernel
theorem dX0_stepOn_64 : decode cX0_stepOn 64 = .ok (.ifCond .ne 8, 3) := by decide +kernel
theorem dX0_stepOn_67 : decode cX0_stepOn 67 = .ok (.iload_n 3, 1) := by decide +kernel
theorem dX0_stepOn_68 : decode cX0_stepOn 68 = .ok (.istore 4, 2) := by decide +kernel
theorem dX0_stepOn_70 : decode cX0_stepOn 70 = .ok (.iconst 0, 1) := by decide +kernel
theorem dX0_stepOn_71 : decode cX0_stepOn 71 = .ok (.istore_n 3, 1) := by decide +kernel
theorem dX0_stepOn_72 : decode cX0_stepOn 72 = .ok (.aload_n 0, 1) := by decide +kernel
theorem dX0_stepOn_73 : decode cX0_stepOn 73 = .ok (.getfield 27, 3) := by decide +kernel
theorem dX0_stepOn_76 : decode cX0_stepOn 76 = .ok (.iload_n 1, 1) := by decide +kernel
