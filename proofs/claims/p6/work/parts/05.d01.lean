theorem dX0_drumHas_10 : decode cX0_drumHas 10 = .ok (.iconst 1, 1) := by decide +kernel
theorem dX0_drumHas_11 : decode cX0_drumHas 11 = .ok (.goto 4, 3) := by decide +kernel
theorem dX0_drumHas_14 : decode cX0_drumHas 14 = .ok (.iconst 0, 1) := by decide +kernel
theorem dX0_drumHas_15 : decode cX0_drumHas 15 = .ok (.ireturn, 1) := by decide +kernel
theorem dX0_someDrumHas_0 : decode cX0_someDrumHas 0 = .ok (.iconst 0, 1) := by decide +kernel
theorem dX0_someDrumHas_1 : decode cX0_someDrumHas 1 = .ok (.istore_n 2, 1) := by decide +kernel
theorem dX0_someDrumHas_2 : decode cX0_someDrumHas 2 = .ok (.iload_n 2, 1) := by decide +kernel
theorem dX0_someDrumHas_3 : decode cX0_someDrumHas 3 = .ok (.aload_n 0, 1) := by decide +kernel
theorem dX0_someDrumHas_4 : decode cX0_someDrumHas 4 = .ok (.getfield 59, 3) := by decide +kernel
theorem dX0_someDrumHas_7 : decode cX0_someDrumHas 7 = .ok (.if_icmp .ge 20, 3) := by decide +kernel
theorem dX0_someDrumHas_10 : decode cX0_someDrumHas 10 = .ok (.aload_n 0, 1) := by decide +kernel
theorem dX0_someDrumHas_11 : decode cX0_someDrumHas 11 = .ok (.iload_n 2, 1) := by decide +kernel
theorem dX0_someDrumHas_12 : decode cX0_someDrumHas 12 = .ok (.iload_n 1, 1) := by decide +kernel
theorem dX0_someDrumHas_13 : decode cX0_someDrumHas 13 = .ok (.invokevirtual 131, 3) := by decide +kernel
theorem dX0_someDrumHas_16 : decode cX0_someDrumHas 16 = .ok (.ifCond .eq 5, 3) := by decide +kernel
theorem dX0_someDrumHas_19 : decode cX0_someDrumHas 19 = .ok (.iconst 1, 1) := by decide +kernel
theorem dX0_someDrumHas_20 : decode cX0_someDrumHas 20 = .ok (.ireturn, 1) := by decide +kernel
theorem dX0_someDrumHas_21 : decode cX0_someDrumHas 21 = .ok (.iinc 2 1, 3) := by decide +kernel
theorem dX0_someDrumHas_24 : decode cX0_someDrumHas 24 = .ok (.goto (-22), 3) := by decide +kernel
theorem dX0_someDrumHas_27 : decode cX0_someDrumHas 27 = .ok (.iconst 0, 1) := by decide +kernel
theorem dX0_someDrumHas_28 : decode cX0_someDrumHas 28 = .ok (.ireturn, 1) := by decide +kernel
theorem dX0_isLastOfSign_0 : decode cX0_isLastOfSign 0 = .ok (.aload_n 0, 1) := by decide +kernel
theorem dX0_isLastOfSign_1 : decode cX0_isLastOfSign 1 = .ok (.iload_n 1, 1) := by decide +kernel
theorem dX0_isLastOfSign_2 : decode cX0_isLastOfSign 2 = .ok (.aload_n 0, 1) := by decide +kernel
theorem dX0_isLastOfSign_3 : decode cX0_isLastOfSign 3 = .ok (.iload_n 1, 1) := by decide +kernel
theorem dX0_isLastOfSign_4 : decode cX0_isLastOfSign 4 = .ok (.iload_n 2, 1) := by decide +kernel
theorem dX0_isLastOfSign_5 : decode cX0_isLastOfSign 5 = .ok (.invokevirtual 111, 3) := by decide +kernel
theorem dX0_isLastOfSign_8 : decode cX0_isLastOfSign 8 = .ok (.iload_n 2, 1) := by decide +kernel
theorem dX0_isLastOfSign_9 : decode cX0_isLastOfSign 9 = .ok (.iconst 1, 1) := by decide +kernel
theorem dX0_isLastOfSign_10 : decode cX0_isLastOfSign 10 = .ok (.iadd, 1) := by decide +kernel
theorem dX0_isLastOfSign_11 : decode cX0_isLastOfSign 11 = .ok (.invokevirtual 127, 3) := by decide +kernel
theorem dX0_isLastOfSign_14 : decode cX0_isLastOfSign 14 = .ok (.ifCond .ne 7, 3) := by decide +kernel
theorem dX0_isLastOfSign_17 : decode cX0_isLastOfSign 17 = .ok (.iconst 1, 1) := by decide +kernel
theorem dX0_isLastOfSign_18 : decode cX0_isLastOfSign 18 = .ok (.goto 4, 3) := by decide +kernel
theorem dX0_isLastOfSign_21 : decode cX0_isLastOfSign 21 = .ok (.iconst 0, 1) := by decide +kernel
theorem dX0_isLastOfSign_22 : decode cX0_isLastOfSign 22 = .ok (.ireturn, 1) := by decide +kernel
theorem dX0_nearest_0 : decode cX0_nearest 0 = .ok (.aload_n 0, 1) := by decide +kernel
theorem dX0_nearest_1 : decode cX0_nearest 1 = .ok (.getfield 21, 3) := by decide +kernel
theorem dX0_nearest_4 : decode cX0_nearest 4 = .ok (.iload_n 1, 1) := by decide +kernel
theorem dX0_nearest_5 : decode cX0_nearest 5 = .ok (.iaload, 1) := by decide +kernel
theorem dX0_nearest_6 : decode cX0_nearest 6 = .ok (.istore_n 3, 1) := by decide +kernel
theorem dX0_nearest_7 : decode cX0_nearest 7 = .ok (.iload_n 3, 1) := by decide +kernel
theorem dX0_nearest_8 : decode cX0_nearest 8 = .ok (.ifCond .lt 20, 3) := by decide +kernel
theorem dX0_nearest_11 : decode cX0_nearest 11 = .ok (.iload_n 3, 1) := by decide +kernel
theorem dX0_nearest_12 : decode cX0_nearest 12 = .ok (.aload_n 0, 1) := by decide +kernel
theorem dX0_nearest_13 : decode cX0_nearest 13 = .ok (.getfield 59, 3) := by decide +kernel
theorem dX0_nearest_16 : decode cX0_nearest 16 = .ok (.if_icmp .ge 12, 3) := by decide +kernel
theorem dX0_nearest_19 : decode cX0_nearest 19 = .ok (.aload_n 0, 1) := by decide +kernel
theorem dX0_nearest_20 : decode cX0_nearest 20 = .ok (.getfield 15, 3) := by decide +kernel
theorem dX0_nearest_23 : decode cX0_nearest 23 = .ok (.iload_n 3, 1) := by decide +kernel
theorem dX0_nearest_24 : decode cX0_nearest 24 = .ok (.iaload, 1) := by decide +kernel
theorem dX0_nearest_25 : decode cX0_nearest 25 = .ok (.goto 4, 3) := by decide +kernel
theorem dX0_nearest_28 : decode cX0_nearest 28 = .ok (.iconst 0, 1) := by decide +kernel
theorem dX0_nearest_29 : decode cX0_nearest 29 = .ok (.istore 4, 2) := by decide +kernel
theorem dX0_nearest_31 : decode cX0_nearest 31 = .ok (.iload_n 3, 1) := by decide +kernel
theorem dX0_nearest_32 : decode cX0_nearest 32 = .ok (.bipush 40, 2) := by decide +kernel
theorem dX0_nearest_34 : decode cX0_nearest 34 = .ok (.imul, 1) := by decide +kernel
theorem dX0_nearest_35 : decode cX0_nearest 35 = .ok (.istore 5, 2) := by decide +kernel
theorem dX0_nearest_37 : decode cX0_nearest 37 = .ok (.aload_n 0, 1) := by decide +kernel
theorem dX0_nearest_38 : decode cX0_nearest 38 = .ok (.getfield 42, 3) := by decide +kernel
theorem dX0_nearest_41 : decode cX0_nearest 41 = .ok (.iload_n 1, 1) := by decide +kernel
theorem dX0_nearest_42 : decode cX0_nearest 42 = .ok (.laload, 1) := by decide +kernel
theorem dX0_nearest_43 : decode cX0_nearest 43 = .ok (.ldc2_w 152, 3) := by decide +kernel
theorem dX0_nearest_46 : decode cX0_nearest 46 = .ok (.lxor, 1) := by decide +kernel
theorem dX0_nearest_47 : decode cX0_nearest 47 = .ok (.lstore 6, 2) := by decide +kernel
theorem dX0_nearest_49 : decode cX0_nearest 49 = .ok (.aload_n 0, 1) := by decide +kernel
theorem dX0_nearest_50 : decode cX0_nearest 50 = .ok (.getfield 27, 3) := by decide +kernel
theorem dX0_nearest_53 : decode cX0_nearest 53 = .ok (.iload_n 1, 1) := by decide +kernel
theorem dX0_nearest_54 : decode cX0_nearest 54 = .ok (.iaload, 1) := by decide +kernel
theorem dX0_nearest_55 : decode cX0_nearest 55 = .ok (.istore 8, 2) := by decide +kernel
theorem dX0_nearest_57 : decode cX0_nearest 57 = .ok (.iconst 0, 1) := by decide +kernel
theorem dX0_nearest_58 : decode cX0_nearest 58 = .ok (.istore 9, 2) := by decide +kernel
theorem dX0_nearest_60 : decode cX0_nearest 60 = .ok (.iload 9, 2) := by decide +kernel
theorem dX0_nearest_62 : decode cX0_nearest 62 = .ok (.iload 4, 2) := by decide +kernel
theorem dX0_nearest_64 : decode cX0_nearest 64 = .ok (.if_icmp .ge 57, 3) := by decide +kernel
theorem dX0_nearest_67 : decode cX0_nearest 67 = .ok (.aload_n 0, 1) := by decide +kernel
theorem dX0_nearest_68 : decode cX0_nearest 68 = .ok (.getfield 18, 3) := by decide +kernel
theorem dX0_nearest_71 : decode cX0_nearest 71 = .ok (.iload 5, 2) := by decide +kernel
theorem dX0_nearest_73 : decode cX0_nearest 73 = .ok (.iload 8, 2) := by decide +kernel
theorem dX0_nearest_75 : decode cX0_nearest 75 = .ok (.iadd, 1) := by decide +kernel
theorem dX0_nearest_76 : decode cX0_nearest 76 = .ok (.iaload, 1) := by decide +kernel
theorem dX0_nearest_77 : decode cX0_nearest 77 = .ok (.iload_n 2, 1) := by decide +kernel
theorem dX0_nearest_78 : decode cX0_nearest 78 = .ok (.if_icmp .ne 18, 3) := by decide +kernel
theorem dX0_nearest_81 : decode cX0_nearest 81 = .ok (.lload 6, 2) := by decide +kernel
theorem dX0_nearest_83 : decode cX0_nearest 83 = .ok (.iload 8, 2) := by decide +kernel
theorem dX0_nearest_85 : decode cX0_nearest 85 = .ok (.lshr, 1) := by decide +kernel
theorem dX0_nearest_86 : decode cX0_nearest 86 = .ok (.lconst 1, 1) := by decide +kernel
theorem dX0_nearest_87 : decode cX0_nearest 87 = .ok (.land, 1) := by decide +kernel
theorem dX0_nearest_88 : decode cX0_nearest 88 = .ok (.lconst 0, 1) := by decide +kernel
theorem dX0_nearest_89 : decode cX0_nearest 89 = .ok (.lcmp, 1) := by decide +kernel
theorem dX0_nearest_90 : decode cX0_nearest 90 = .ok (.ifCond .eq 6, 3) := by decide +kernel
theorem dX0_nearest_93 : decode cX0_nearest 93 = .ok (.iload 8, 2) := by decide +kernel
theorem dX0_nearest_95 : decode cX0_nearest 95 = .ok (.ireturn, 1) := by decide +kernel
theorem dX0_nearest_96 : decode cX0_nearest 96 = .ok (.iload 8, 2) := by decide +kernel
theorem dX0_nearest_98 : decode cX0_nearest 98 = .ok (.iconst 1, 1) := by decide +kernel
theorem dX0_nearest_99 : decode cX0_nearest 99 = .ok (.iadd, 1) := by decide +kernel
theorem dX0_nearest_100 : decode cX0_nearest 100 = .ok (.iload 4, 2) := by decide +kernel
theorem dX0_nearest_102 : decode cX0_nearest 102 = .ok (.if_icmp .ge 10, 3) := by decide +kernel
theorem dX0_nearest_105 : decode cX0_nearest 105 = .ok (.iload 8, 2) := by decide +kernel
theorem dX0_nearest_107 : decode cX0_nearest 107 = .ok (.iconst 1, 1) := by decide +kernel
theorem dX0_nearest_108 : decode cX0_nearest 108 = .ok (.iadd, 1) := by decide +kernel
theorem dX0_nearest_109 : decode cX0_nearest 109 = .ok (.goto 4, 3) := by decide +kernel
theorem dX0_nearest_112 : decode cX0_nearest 112 = .ok (.iconst 0, 1) := by decide +kernel
theorem dX0_nearest_113 : decode cX0_nearest 113 = .ok (.istore 8, 2) := by decide +kernel
theorem dX0_nearest_115 : decode cX0_nearest 115 = .ok (.iinc 9 1, 3) := by decide +kernel
theorem dX0_nearest_118 : decode cX0_nearest 118 = .ok (.goto (-58), 3) := by decide +kernel
theorem dX0_nearest_121 : decode cX0_nearest 121 = .ok (.iconst (-1), 1) := by decide +kernel
theorem dX0_nearest_122 : decode cX0_nearest 122 = .ok (.ireturn, 1) := by decide +kernel
theorem dX0_missedOfOwn_0 : decode cX0_missedOfOwn 0 = .ok (.aload_n 0, 1) := by decide +kernel
theorem dX0_missedOfOwn_1 : decode cX0_missedOfOwn 1 = .ok (.getfield 21, 3) := by decide +kernel
theorem dX0_missedOfOwn_4 : decode cX0_missedOfOwn 4 = .ok (.iload_n 1, 1) := by decide +kernel
theorem dX0_missedOfOwn_5 : decode cX0_missedOfOwn 5 = .ok (.iaload, 1) := by decide +kernel
theorem dX0_missedOfOwn_6 : decode cX0_missedOfOwn 6 = .ok (.istore_n 2, 1) := by decide +kernel
theorem dX0_missedOfOwn_7 : decode cX0_missedOfOwn 7 = .ok (.iconst 0, 1) := by decide +kernel
theorem dX0_missedOfOwn_8 : decode cX0_missedOfOwn 8 = .ok (.istore_n 3, 1) := by decide +kernel
theorem dX0_missedOfOwn_9 : decode cX0_missedOfOwn 9 = .ok (.iconst 0, 1) := by decide +kernel
theorem dX0_missedOfOwn_10 : decode cX0_missedOfOwn 10 = .ok (.istore 4, 2) := by decide +kernel
theorem dX0_missedOfOwn_12 : decode cX0_missedOfOwn 12 = .ok (.iload 4, 2) := by decide +kernel
theorem dX0_missedOfOwn_14 : decode cX0_missedOfOwn 14 = .ok (.aload_n 0, 1) := by decide +kernel
theorem dX0_missedOfOwn_15 : decode cX0_missedOfOwn 15 = .ok (.iload_n 2, 1) := by decide +kernel
theorem dX0_missedOfOwn_16 : decode cX0_missedOfOwn 16 = .ok (.invokevirtual 108, 3) := by decide +kernel
theorem dX0_missedOfOwn_19 : decode cX0_missedOfOwn 19 = .ok (.if_icmp .ge 38, 3) := by decide +kernel
theorem dX0_missedOfOwn_22 : decode cX0_missedOfOwn 22 = .ok (.aload_n 0, 1) := by decide +kernel
theorem dX0_missedOfOwn_23 : decode cX0_missedOfOwn 23 = .ok (.iload_n 2, 1) := by decide +kernel
theorem dX0_missedOfOwn_24 : decode cX0_missedOfOwn 24 = .ok (.iload 4, 2) := by decide +kernel
theorem dX0_missedOfOwn_26 : decode cX0_missedOfOwn 26 = .ok (.invokevirtual 134, 3) := by decide +kernel
theorem dX0_missedOfOwn_29 : decode cX0_missedOfOwn 29 = .ok (.ifCond .eq 22, 3) := by decide +kernel
theorem dX0_missedOfOwn_32 : decode cX0_missedOfOwn 32 = .ok (.aload_n 0, 1) := by decide +kernel
theorem dX0_missedOfOwn_33 : decode cX0_missedOfOwn 33 = .ok (.iload_n 1, 1) := by decide +kernel
theorem dX0_missedOfOwn_34 : decode cX0_missedOfOwn 34 = .ok (.aload_n 0, 1) := by decide +kernel
theorem dX0_missedOfOwn_35 : decode cX0_missedOfOwn 35 = .ok (.iload_n 2, 1) := by decide +kernel
theorem dX0_missedOfOwn_36 : decode cX0_missedOfOwn 36 = .ok (.iload 4, 2) := by decide +kernel
theorem dX0_missedOfOwn_38 : decode cX0_missedOfOwn 38 = .ok (.invokevirtual 111, 3) := by decide +kernel
theorem dX0_missedOfOwn_41 : decode cX0_missedOfOwn 41 = .ok (.invokevirtual 137, 3) := by decide +kernel
theorem dX0_missedOfOwn_44 : decode cX0_missedOfOwn 44 = .ok (.iconst (-1), 1) := by decide +kernel
theorem dX0_missedOfOwn_45 : decode cX0_missedOfOwn 45 = .ok (.if_icmp .ne 6, 3) := by decide +kernel
theorem dX0_missedOfOwn_48 : decode cX0_missedOfOwn 48 = .ok (.iinc 3 1, 3) := by decide +kernel
theorem dX0_missedOfOwn_51 : decode cX0_missedOfOwn 51 = .ok (.iinc 4 1, 3) := by decide +kernel
theorem dX0_missedOfOwn_54 : decode cX0_missedOfOwn 54 = .ok (.goto (-42), 3) := by decide +kernel
theorem dX0_missedOfOwn_57 : decode cX0_missedOfOwn 57 = .ok (.iload_n 3, 1) := by decide +kernel
theorem dX0_missedOfOwn_58 : decode cX0_missedOfOwn 58 = .ok (.ireturn, 1) := by decide +kernel
theorem dX0_signsOfOthers_0 : decode cX0_signsOfOthers 0 = .ok (.iconst 0, 1) := by decide +kernel
theorem dX0_signsOfOthers_1 : decode cX0_signsOfOthers 1 = .ok (.istore_n 2, 1) := by decide +kernel
theorem dX0_signsOfOthers_2 : decode cX0_signsOfOthers 2 = .ok (.bipush 32, 2) := by decide +kernel
theorem dX0_signsOfOthers_4 : decode cX0_signsOfOthers 4 = .ok (.istore_n 3, 1) := by decide +kernel
theorem dX0_signsOfOthers_5 : decode cX0_signsOfOthers 5 = .ok (.iload_n 3, 1) := by decide +kernel
theorem dX0_signsOfOthers_6 : decode cX0_signsOfOthers 6 = .ok (.bipush 126, 2) := by decide +kernel
theorem dX0_signsOfOthers_8 : decode cX0_signsOfOthers 8 = .ok (.if_icmp .gt 29, 3) := by decide +kernel
theorem dX0_signsOfOthers_11 : decode cX0_signsOfOthers 11 = .ok (.aload_n 0, 1) := by decide +kernel
theorem dX0_signsOfOthers_12 : decode cX0_signsOfOthers 12 = .ok (.iload_n 3, 1) := by decide +kernel
theorem dX0_signsOfOthers_13 : decode cX0_signsOfOthers 13 = .ok (.invokevirtual 140, 3) := by decide +kernel
theorem dX0_signsOfOthers_16 : decode cX0_signsOfOthers 16 = .ok (.ifCond .eq 15, 3) := by decide +kernel
theorem dX0_signsOfOthers_19 : decode cX0_signsOfOthers 19 = .ok (.aload_n 0, 1) := by decide +kernel
theorem dX0_signsOfOthers_20 : decode cX0_signsOfOthers 20 = .ok (.iload_n 1, 1) := by decide +kernel
theorem dX0_signsOfOthers_21 : decode cX0_signsOfOthers 21 = .ok (.iload_n 3, 1) := by decide +kernel
theorem dX0_signsOfOthers_22 : decode cX0_signsOfOthers 22 = .ok (.invokevirtual 131, 3) := by decide +kernel
theorem dX0_signsOfOthers_25 : decode cX0_signsOfOthers 25 = .ok (.ifCond .ne 6, 3) := by decide +kernel
theorem dX0_signsOfOthers_28 : decode cX0_signsOfOthers 28 = .ok (.iinc 2 1, 3) := by decide +kernel
theorem dX0_signsOfOthers_31 : decode cX0_signsOfOthers 31 = .ok (.iinc 3 1, 3) := by decide +kernel
theorem dX0_signsOfOthers_34 : decode cX0_signsOfOthers 34 = .ok (.goto (-29), 3) := by decide +kernel
theorem dX0_signsOfOthers_37 : decode cX0_signsOfOthers 37 = .ok (.iload_n 2, 1) := by decide +kernel
theorem dX0_signsOfOthers_38 : decode cX0_signsOfOthers 38 = .ok (.ireturn, 1) := by decide +kernel
theorem dX0_unlikeSigns_0 : decode cX0_unlikeSigns 0 = .ok (.iconst 0, 1) := by decide +kernel
theorem dX0_unlikeSigns_1 : decode cX0_unlikeSigns 1 = .ok (.istore_n 2, 1) := by decide +kernel
theorem dX0_unlikeSigns_2 : decode cX0_unlikeSigns 2 = .ok (.iconst 0, 1) := by decide +kernel
theorem dX0_unlikeSigns_3 : decode cX0_unlikeSigns 3 = .ok (.istore_n 3, 1) := by decide +kernel
theorem dX0_unlikeSigns_4 : decode cX0_unlikeSigns 4 = .ok (.iload_n 3, 1) := by decide +kernel
theorem dX0_unlikeSigns_5 : decode cX0_unlikeSigns 5 = .ok (.aload_n 0, 1) := by decide +kernel
theorem dX0_unlikeSigns_6 : decode cX0_unlikeSigns 6 = .ok (.iload_n 1, 1) := by decide +kernel
theorem dX0_unlikeSigns_7 : decode cX0_unlikeSigns 7 = .ok (.invokevirtual 108, 3) := by decide +kernel
theorem dX0_unlikeSigns_10 : decode cX0_unlikeSigns 10 = .ok (.if_icmp .ge 21, 3) := by decide +kernel
theorem dX0_unlikeSigns_13 : decode cX0_unlikeSigns 13 = .ok (.aload_n 0, 1) := by decide +kernel
theorem dX0_unlikeSigns_14 : decode cX0_unlikeSigns 14 = .ok (.iload_n 1, 1) := by decide +kernel
theorem dX0_unlikeSigns_15 : decode cX0_unlikeSigns 15 = .ok (.iload_n 3, 1) := by decide +kernel
theorem dX0_unlikeSigns_16 : decode cX0_unlikeSigns 16 = .ok (.invokevirtual 134, 3) := by decide +kernel
theorem dX0_unlikeSigns_19 : decode cX0_unlikeSigns 19 = .ok (.ifCond .eq 6, 3) := by decide +kernel
theorem dX0_unlikeSigns_22 : decode cX0_unlikeSigns 22 = .ok (.iinc 2 1, 3) := by decide +kernel
theorem dX0_unlikeSigns_25 : decode cX0_unlikeSigns 25 = .ok (.iinc 3 1, 3) := by decide +kernel
theorem dX0_unlikeSigns_28 : decode cX0_unlikeSigns 28 = .ok (.goto (-24), 3) := by decide +kernel
theorem dX0_unlikeSigns_31 : decode cX0_unlikeSigns 31 = .ok (.iload_n 2, 1) := by decide +kernel
theorem dX0_unlikeSigns_32 : decode cX0_unlikeSigns 32 = .ok (.ireturn, 1) := by decide +kernel
theorem dX0_mostOfOneSign_0 : decode cX0_mostOfOneSign 0 = .ok (.iconst 0, 1) := by decide +kernel
theorem dX0_mostOfOneSign_1 : decode cX0_mostOfOneSign 1 = .ok (.istore_n 2, 1) := by decide +kernel
theorem dX0_mostOfOneSign_2 : decode cX0_mostOfOneSign 2 = .ok (.iconst 0, 1) := by decide +kernel
theorem dX0_mostOfOneSign_3 : decode cX0_mostOfOneSign 3 = .ok (.istore_n 3, 1) := by decide +kernel
theorem dX0_mostOfOneSign_4 : decode cX0_mostOfOneSign 4 = .ok (.iload_n 3, 1) := by decide +kernel
theorem dX0_mostOfOneSign_5 : decode cX0_mostOfOneSign 5 = .ok (.aload_n 0, 1) := by decide +kernel
theorem dX0_mostOfOneSign_6 : decode cX0_mostOfOneSign 6 = .ok (.iload_n 1, 1) := by decide +kernel
theorem dX0_mostOfOneSign_7 : decode cX0_mostOfOneSign 7 = .ok (.invokevirtual 108, 3) := by decide +kernel
theorem dX0_mostOfOneSign_10 : decode cX0_mostOfOneSign 10 = .ok (.if_icmp .ge 26, 3) := by decide +kernel
theorem dX0_mostOfOneSign_13 : decode cX0_mostOfOneSign 13 = .ok (.iload_n 2, 1) := by decide +kernel
theorem dX0_mostOfOneSign_14 : decode cX0_mostOfOneSign 14 = .ok (.aload_n 0, 1) := by decide +kernel
theorem dX0_mostOfOneSign_15 : decode cX0_mostOfOneSign 15 = .ok (.iload_n 1, 1) := by decide +kernel
theorem dX0_mostOfOneSign_16 : decode cX0_mostOfOneSign 16 = .ok (.aload_n 0, 1) := by decide +kernel
theorem dX0_mostOfOneSign_17 : decode cX0_mostOfOneSign 17 = .ok (.iload_n 1, 1) := by decide +kernel
theorem dX0_mostOfOneSign_18 : decode cX0_mostOfOneSign 18 = .ok (.iload_n 3, 1) := by decide +kernel
theorem dX0_mostOfOneSign_19 : decode cX0_mostOfOneSign 19 = .ok (.invokevirtual 111, 3) := by decide +kernel
theorem dX0_mostOfOneSign_22 : decode cX0_mostOfOneSign 22 = .ok (.iload_n 3, 1) := by decide +kernel
theorem dX0_mostOfOneSign_23 : decode cX0_mostOfOneSign 23 = .ok (.invokevirtual 127, 3) := by decide +kernel
theorem dX0_mostOfOneSign_26 : decode cX0_mostOfOneSign 26 = .ok (.invokestatic 143, 3) := by decide +kernel
theorem dX0_mostOfOneSign_29 : decode cX0_mostOfOneSign 29 = .ok (.istore_n 2, 1) := by decide +kernel
theorem dX0_mostOfOneSign_30 : decode cX0_mostOfOneSign 30 = .ok (.iinc 3 1, 3) := by decide +kernel
theorem dX0_mostOfOneSign_33 : decode cX0_mostOfOneSign 33 = .ok (.goto (-29), 3) := by decide +kernel
theorem dX0_mostOfOneSign_36 : decode cX0_mostOfOneSign 36 = .ok (.iload_n 2, 1) := by decide +kernel
theorem dX0_mostOfOneSign_37 : decode cX0_mostOfOneSign 37 = .ok (.ireturn, 1) := by decide +kernel
theorem dX0_isWorn_0 : decode cX0_isWorn 0 = .ok (.aload_n 0, 1) := by decide +kernel
theorem dX0_isWorn_1 : decode cX0_isWorn 1 = .ok (.getfield 42, 3) := by decide +kernel
theorem dX0_isWorn_4 : decode cX0_isWorn 4 = .ok (.iload_n 1, 1) := by decide +kernel
theorem dX0_isWorn_5 : decode cX0_isWorn 5 = .ok (.laload, 1) := by decide +kernel
theorem dX0_isWorn_6 : decode cX0_isWorn 6 = .ok (.iload_n 2, 1) := by decide +kernel
theorem dX0_isWorn_7 : decode cX0_isWorn 7 = .ok (.lshr, 1) := by decide +kernel
theorem dX0_isWorn_8 : decode cX0_isWorn 8 = .ok (.lconst 1, 1) := by decide +kernel
theorem dX0_isWorn_9 : decode cX0_isWorn 9 = .ok (.land, 1) := by decide +kernel
theorem dX0_isWorn_10 : decode cX0_isWorn 10 = .ok (.lconst 0, 1) := by decide +kernel
theorem dX0_isWorn_11 : decode cX0_isWorn 11 = .ok (.lcmp, 1) := by decide +kernel
theorem dX0_isWorn_12 : decode cX0_isWorn 12 = .ok (.ifCond .eq 7, 3) := by decide +kernel
theorem dX0_isWorn_15 : decode cX0_isWorn 15 = .ok (.iconst 1, 1) := by decide +kernel
theorem dX0_isWorn_16 : decode cX0_isWorn 16 = .ok (.goto 4, 3) := by decide +kernel
theorem dX0_isWorn_19 : decode cX0_isWorn 19 = .ok (.iconst 0, 1) := by decide +kernel
theorem dX0_isWorn_20 : decode cX0_isWorn 20 = .ok (.ireturn, 1) := by decide +kernel
theorem dJ13_bitCount_95d88_0 : decode cJ13_bitCount_95d88 0 = .ok (.lload_n 0, 1) := by decide +kernel
theorem dJ13_bitCount_95d88_1 : decode cJ13_bitCount_95d88 1 = .ok (.lload_n 0, 1) := by decide +kernel
theorem dJ13_bitCount_95d88_2 : decode cJ13_bitCount_95d88 2 = .ok (.iconst 1, 1) := by decide +kernel
theorem dJ13_bitCount_95d88_3 : decode cJ13_bitCount_95d88 3 = .ok (.lushr, 1) := by decide +kernel
theorem dJ13_bitCount_95d88_4 : decode cJ13_bitCount_95d88 4 = .ok (.ldc2_w 314, 3) := by decide +kernel
theorem dJ13_bitCount_95d88_7 : decode cJ13_bitCount_95d88 7 = .ok (.land, 1) := by decide +kernel
theorem dJ13_bitCount_95d88_8 : decode cJ13_bitCount_95d88 8 = .ok (.lsub, 1) := by decide +kernel
theorem dJ13_bitCount_95d88_9 : decode cJ13_bitCount_95d88 9 = .ok (.lstore_n 0, 1) := by decide +kernel
theorem dJ13_bitCount_95d88_10 : decode cJ13_bitCount_95d88 10 = .ok (.lload_n 0, 1) := by decide +kernel
theorem dJ13_bitCount_95d88_11 : decode cJ13_bitCount_95d88 11 = .ok (.ldc2_w 316, 3) := by decide +kernel
theorem dJ13_bitCount_95d88_14 : decode cJ13_bitCount_95d88 14 = .ok (.land, 1) := by decide +kernel
theorem dJ13_bitCount_95d88_15 : decode cJ13_bitCount_95d88 15 = .ok (.lload_n 0, 1) := by decide +kernel
theorem dJ13_bitCount_95d88_16 : decode cJ13_bitCount_95d88 16 = .ok (.iconst 2, 1) := by decide +kernel
theorem dJ13_bitCount_95d88_17 : decode cJ13_bitCount_95d88 17 = .ok (.lushr, 1) := by decide +kernel
theorem dJ13_bitCount_95d88_18 : decode cJ13_bitCount_95d88 18 = .ok (.ldc2_w 316, 3) := by decide +kernel
theorem dJ13_bitCount_95d88_21 : decode cJ13_bitCount_95d88 21 = .ok (.land, 1) := by decide +kernel
theorem dJ13_bitCount_95d88_22 : decode cJ13_bitCount_95d88 22 = .ok (.ladd, 1) := by decide +kernel
theorem dJ13_bitCount_95d88_23 : decode cJ13_bitCount_95d88 23 = .ok (.lstore_n 0, 1) := by decide +kernel
theorem dJ13_bitCount_95d88_24 : decode cJ13_bitCount_95d88 24 = .ok (.lload_n 0, 1) := by decide +kernel
theorem dJ13_bitCount_95d88_25 : decode cJ13_bitCount_95d88 25 = .ok (.lload_n 0, 1) := by decide +kernel
theorem dJ13_bitCount_95d88_26 : decode cJ13_bitCount_95d88 26 = .ok (.iconst 4, 1) := by decide +kernel
theorem dJ13_bitCount_95d88_27 : decode cJ13_bitCount_95d88 27 = .ok (.lushr, 1) := by decide +kernel
theorem dJ13_bitCount_95d88_28 : decode cJ13_bitCount_95d88 28 = .ok (.ladd, 1) := by decide +kernel
theorem dJ13_bitCount_95d88_29 : decode cJ13_bitCount_95d88 29 = .ok (.ldc2_w 318, 3) := by decide +kernel
theorem dJ13_bitCount_95d88_32 : decode cJ13_bitCount_95d88 32 = .ok (.land, 1) := by decide +kernel
theorem dJ13_bitCount_95d88_33 : decode cJ13_bitCount_95d88 33 = .ok (.lstore_n 0, 1) := by decide +kernel
theorem dJ13_bitCount_95d88_34 : decode cJ13_bitCount_95d88 34 = .ok (.lload_n 0, 1) := by decide +kernel
theorem dJ13_bitCount_95d88_35 : decode cJ13_bitCount_95d88 35 = .ok (.lload_n 0, 1) := by decide +kernel
theorem dJ13_bitCount_95d88_36 : decode cJ13_bitCount_95d88 36 = .ok (.bipush 8, 2) := by decide +kernel
theorem dJ13_bitCount_95d88_38 : decode cJ13_bitCount_95d88 38 = .ok (.lushr, 1) := by decide +kernel
theorem dJ13_bitCount_95d88_39 : decode cJ13_bitCount_95d88 39 = .ok (.ladd, 1) := by decide +kernel
theorem dJ13_bitCount_95d88_40 : decode cJ13_bitCount_95d88 40 = .ok (.lstore_n 0, 1) := by decide +kernel
theorem dJ13_bitCount_95d88_41 : decode cJ13_bitCount_95d88 41 = .ok (.lload_n 0, 1) := by decide +kernel
theorem dJ13_bitCount_95d88_42 : decode cJ13_bitCount_95d88 42 = .ok (.lload_n 0, 1) := by decide +kernel
theorem dJ13_bitCount_95d88_43 : decode cJ13_bitCount_95d88 43 = .ok (.bipush 16, 2) := by decide +kernel
theorem dJ13_bitCount_95d88_45 : decode cJ13_bitCount_95d88 45 = .ok (.lushr, 1) := by decide +kernel
theorem dJ13_bitCount_95d88_46 : decode cJ13_bitCount_95d88 46 = .ok (.ladd, 1) := by decide +kernel
theorem dJ13_bitCount_95d88_47 : decode cJ13_bitCount_95d88 47 = .ok (.lstore_n 0, 1) := by decide +kernel
theorem dJ13_bitCount_95d88_48 : decode cJ13_bitCount_95d88 48 = .ok (.lload_n 0, 1) := by decide +kernel
theorem dJ13_bitCount_95d88_49 : decode cJ13_bitCount_95d88 49 = .ok (.lload_n 0, 1) := by decide +kernel
theorem dJ13_bitCount_95d88_50 : decode cJ13_bitCount_95d88 50 = .ok (.bipush 32, 2) := by decide +kernel
theorem dJ13_bitCount_95d88_52 : decode cJ13_bitCount_95d88 52 = .ok (.lushr, 1) := by decide +kernel
theorem dJ13_bitCount_95d88_53 : decode cJ13_bitCount_95d88 53 = .ok (.ladd, 1) := by decide +kernel
theorem dJ13_bitCount_95d88_54 : decode cJ13_bitCount_95d88 54 = .ok (.lstore_n 0, 1) := by decide +kernel
theorem dJ13_bitCount_95d88_55 : decode cJ13_bitCount_95d88 55 = .ok (.lload_n 0, 1) := by decide +kernel
theorem dJ13_bitCount_95d88_56 : decode cJ13_bitCount_95d88 56 = .ok (.l2i, 1) := by decide +kernel
theorem dJ13_bitCount_95d88_57 : decode cJ13_bitCount_95d88 57 = .ok (.bipush 127, 2) := by decide +kernel
theorem dJ13_bitCount_95d88_59 : decode cJ13_bitCount_95d88 59 = .ok (.iand, 1) := by decide +kernel
theorem dJ13_bitCount_95d88_60 : decode cJ13_bitCount_95d88 60 = .ok (.ireturn, 1) := by decide +kernel
theorem dX0_wornCount_0 : decode cX0_wornCount 0 = .ok (.aload_n 0, 1) := by decide +kernel
theorem dX0_wornCount_1 : decode cX0_wornCount 1 = .ok (.getfield 42, 3) := by decide +kernel
theorem dX0_wornCount_4 : decode cX0_wornCount 4 = .ok (.iload_n 1, 1) := by decide +kernel
theorem dX0_wornCount_5 : decode cX0_wornCount 5 = .ok (.laload, 1) := by decide +kernel
theorem dX0_wornCount_6 : decode cX0_wornCount 6 = .ok (.invokestatic 146, 3) := by decide +kernel
theorem dX0_wornCount_9 : decode cX0_wornCount 9 = .ok (.ireturn, 1) := by decide +kernel
theorem dX0_wearFlap_0 : decode cX0_wearFlap 0 = .ok (.aload_n 0, 1) := by decide +kernel
theorem dX0_wearFlap_1 : decode cX0_wearFlap 1 = .ok (.getfield 42, 3) := by decide +kernel
theorem dX0_wearFlap_4 : decode cX0_wearFlap 4 = .ok (.iload_n 1, 1) := by decide +kernel
theorem dX0_wearFlap_5 : decode cX0_wearFlap 5 = .ok (.dup2, 1) := by decide +kernel
theorem dX0_wearFlap_6 : decode cX0_wearFlap 6 = .ok (.laload, 1) := by decide +kernel
theorem dX0_wearFlap_7 : decode cX0_wearFlap 7 = .ok (.lconst 1, 1) := by decide +kernel
theorem dX0_wearFlap_8 : decode cX0_wearFlap 8 = .ok (.iload_n 2, 1) := by decide +kernel
theorem dX0_wearFlap_9 : decode cX0_wearFlap 9 = .ok (.lshl, 1) := by decide +kernel
theorem dX0_wearFlap_10 : decode cX0_wearFlap 10 = .ok (.lor, 1) := by decide +kernel
theorem dX0_wearFlap_11 : decode cX0_wearFlap 11 = .ok (.lastore, 1) := by decide +kernel
theorem dX0_wearFlap_12 : decode cX0_wearFlap 12 = .ok (.aload_n 0, 1) := by decide +kernel
theorem dX0_wearFlap_13 : decode cX0_wearFlap 13 = .ok (.getfield 30, 3) := by decide +kernel
theorem dX0_wearFlap_16 : decode cX0_wearFlap 16 = .ok (.iload_n 1, 1) := by decide +kernel
theorem dX0_wearFlap_17 : decode cX0_wearFlap 17 = .ok (.iaload, 1) := by decide +kernel
theorem dX0_wearFlap_18 : decode cX0_wearFlap 18 = .ok (.iload_n 2, 1) := by decide +kernel
theorem dX0_wearFlap_19 : decode cX0_wearFlap 19 = .ok (.if_icmp .ne 10, 3) := by decide +kernel
theorem dX0_wearFlap_22 : decode cX0_wearFlap 22 = .ok (.aload_n 0, 1) := by decide +kernel
theorem dX0_wearFlap_23 : decode cX0_wearFlap 23 = .ok (.getfield 30, 3) := by decide +kernel
theorem dX0_wearFlap_26 : decode cX0_wearFlap 26 = .ok (.iload_n 1, 1) := by decide +kernel
theorem dX0_wearFlap_27 : decode cX0_wearFlap 27 = .ok (.iconst 0, 1) := by decide +kernel
theorem dX0_wearFlap_28 : decode cX0_wearFlap 28 = .ok (.iastore, 1) := by decide +kernel
theorem dX0_wearFlap_29 : decode cX0_wearFlap 29 = .ok (.return_, 1) := by decide +kernel
theorem dX0_mendFlap_0 : decode cX0_mendFlap 0 = .ok (.aload_n 0, 1) := by decide +kernel
theorem dX0_mendFlap_1 : decode cX0_mendFlap 1 = .ok (.getfield 42, 3) := by decide +kernel
theorem dX0_mendFlap_4 : decode cX0_mendFlap 4 = .ok (.iload_n 1, 1) := by decide +kernel
theorem dX0_mendFlap_5 : decode cX0_mendFlap 5 = .ok (.dup2, 1) := by decide +kernel
theorem dX0_mendFlap_6 : decode cX0_mendFlap 6 = .ok (.laload, 1) := by decide +kernel
theorem dX0_mendFlap_7 : decode cX0_mendFlap 7 = .ok (.lconst 1, 1) := by decide +kernel
theorem dX0_mendFlap_8 : decode cX0_mendFlap 8 = .ok (.iload_n 2, 1) := by decide +kernel
theorem dX0_mendFlap_9 : decode cX0_mendFlap 9 = .ok (.lshl, 1) := by decide +kernel
theorem dX0_mendFlap_10 : decode cX0_mendFlap 10 = .ok (.ldc2_w 152, 3) := by decide +kernel
theorem dX0_mendFlap_13 : decode cX0_mendFlap 13 = .ok (.lxor, 1) := by decide +kernel
theorem dX0_mendFlap_14 : decode cX0_mendFlap 14 = .ok (.land, 1) := by decide +kernel
theorem dX0_mendFlap_15 : decode cX0_mendFlap 15 = .ok (.lastore, 1) := by decide +kernel
theorem dX0_mendFlap_16 : decode cX0_mendFlap 16 = .ok (.return_, 1) := by decide +kernel
theorem dX6_onFrom_0 : decode cX6_onFrom 0 = .ok (.iload_n 1, 1) := by decide +kernel
theorem dX6_onFrom_1 : decode cX6_onFrom 1 = .ok (.iload_n 0, 1) := by decide +kernel
theorem dX6_onFrom_2 : decode cX6_onFrom 2 = .ok (.if_icmp .lt 9, 3) := by decide +kernel
theorem dX6_onFrom_5 : decode cX6_onFrom 5 = .ok (.iload_n 1, 1) := by decide +kernel
theorem dX6_onFrom_6 : decode cX6_onFrom 6 = .ok (.iload_n 0, 1) := by decide +kernel
theorem dX6_onFrom_7 : decode cX6_onFrom 7 = .ok (.isub, 1) := by decide +kernel
theorem dX6_onFrom_8 : decode cX6_onFrom 8 = .ok (.goto 8, 3) := by decide +kernel
theorem dX6_onFrom_11 : decode cX6_onFrom 11 = .ok (.iload_n 1, 1) := by decide +kernel
theorem dX6_onFrom_12 : decode cX6_onFrom 12 = .ok (.iload_n 0, 1) := by decide +kernel
theorem dX6_onFrom_13 : decode cX6_onFrom 13 = .ok (.isub, 1) := by decide +kernel
theorem dX6_onFrom_14 : decode cX6_onFrom 14 = .ok (.iload_n 2, 1) := by decide +kernel
theorem dX6_onFrom_15 : decode cX6_onFrom 15 = .ok (.iadd, 1) := by decide +kernel
theorem dX6_onFrom_16 : decode cX6_onFrom 16 = .ok (.ireturn, 1) := by decide +kernel
theorem dX0_flapsOnTo_0 : decode cX0_flapsOnTo 0 = .ok (.aload_n 0, 1) := by decide +kernel
theorem dX0_flapsOnTo_1 : decode cX0_flapsOnTo 1 = .ok (.getfield 27, 3) := by decide +kernel
theorem dX0_flapsOnTo_4 : decode cX0_flapsOnTo 4 = .ok (.iload_n 1, 1) := by decide +kernel
theorem dX0_flapsOnTo_5 : decode cX0_flapsOnTo 5 = .ok (.iaload, 1) := by decide +kernel
theorem dX0_flapsOnTo_6 : decode cX0_flapsOnTo 6 = .ok (.iload_n 2, 1) := by decide +kernel
theorem dX0_flapsOnTo_7 : decode cX0_flapsOnTo 7 = .ok (.aload_n 0, 1) := by decide +kernel
theorem dX0_flapsOnTo_8 : decode cX0_flapsOnTo 8 = .ok (.iload_n 1, 1) := by decide +kernel
theorem dX0_flapsOnTo_9 : decode cX0_flapsOnTo 9 = .ok (.invokevirtual 105, 3) := by decide +kernel
theorem dX0_flapsOnTo_12 : decode cX0_flapsOnTo 12 = .ok (.invokestatic 154, 3) := by decide +kernel
theorem dX0_flapsOnTo_15 : decode cX0_flapsOnTo 15 = .ok (.ireturn, 1) := by decide +kernel
theorem dX0_leftOf_0 : decode cX0_leftOf 0 = .ok (.aload_n 0, 1) := by decide +kernel
theorem dX0_leftOf_1 : decode cX0_leftOf 1 = .ok (.getfield 30, 3) := by decide +kernel
theorem dX0_leftOf_4 : decode cX0_leftOf 4 = .ok (.iload_n 1, 1) := by decide +kernel
theorem dX0_leftOf_5 : decode cX0_leftOf 5 = .ok (.iaload, 1) := by decide +kernel
theorem dX0_leftOf_6 : decode cX0_leftOf 6 = .ok (.aload_n 0, 1) := by decide +kernel
theorem dX0_leftOf_7 : decode cX0_leftOf 7 = .ok (.getfield 27, 3) := by decide +kernel
theorem dX0_leftOf_10 : decode cX0_leftOf 10 = .ok (.iload_n 1, 1) := by decide +kernel
theorem dX0_leftOf_11 : decode cX0_leftOf 11 = .ok (.iaload, 1) := by decide +kernel
theorem dX0_leftOf_12 : decode cX0_leftOf 12 = .ok (.isub, 1) := by decide +kernel
theorem dX0_leftOf_13 : decode cX0_leftOf 13 = .ok (.istore_n 2, 1) := by decide +kernel
theorem dX0_leftOf_14 : decode cX0_leftOf 14 = .ok (.aload_n 0, 1) := by decide +kernel
theorem dX0_leftOf_15 : decode cX0_leftOf 15 = .ok (.getfield 21, 3) := by decide +kernel
theorem dX0_leftOf_18 : decode cX0_leftOf 18 = .ok (.iload_n 1, 1) := by decide +kernel
theorem dX0_leftOf_19 : decode cX0_leftOf 19 = .ok (.iaload, 1) := by decide +kernel
theorem dX0_leftOf_20 : decode cX0_leftOf 20 = .ok (.istore_n 3, 1) := by decide +kernel
theorem dX0_leftOf_21 : decode cX0_leftOf 21 = .ok (.iload_n 2, 1) := by decide +kernel
theorem dX0_leftOf_22 : decode cX0_leftOf 22 = .ok (.ifCond .ge 26, 3) := by decide +kernel
theorem dX0_leftOf_25 : decode cX0_leftOf 25 = .ok (.iload_n 3, 1) := by decide +kernel
theorem dX0_leftOf_26 : decode cX0_leftOf 26 = .ok (.ifCond .lt 22, 3) := by decide +kernel
theorem dX0_leftOf_29 : decode cX0_leftOf 29 = .ok (.iload_n 3, 1) := by decide +kernel
theorem dX0_leftOf_30 : decode cX0_leftOf 30 = .ok (.aload_n 0, 1) := by decide +kernel
theorem dX0_leftOf_31 : decode cX0_leftOf 31 = .ok (.getfield 59, 3) := by decide +kernel
theorem dX0_leftOf_34 : decode cX0_leftOf 34 = .ok (.if_icmp .ge 14, 3) := by decide +kernel
theorem dX0_leftOf_37 : decode cX0_leftOf 37 = .ok (.iload_n 2, 1) := by decide +kernel
theorem dX0_leftOf_38 : decode cX0_leftOf 38 = .ok (.aload_n 0, 1) := by decide +kernel
theorem dX0_leftOf_39 : decode cX0_leftOf 39 = .ok (.getfield 15, 3) := by decide +kernel
theorem dX0_leftOf_42 : decode cX0_leftOf 42 = .ok (.iload_n 3, 1) := by decide +kernel
theorem dX0_leftOf_43 : decode cX0_leftOf 43 = .ok (.iaload, 1) := by decide +kernel
theorem dX0_leftOf_44 : decode cX0_leftOf 44 = .ok (.iadd, 1) := by decide +kernel
theorem dX0_leftOf_45 : decode cX0_leftOf 45 = .ok (.goto 4, 3) := by decide +kernel
theorem dX0_leftOf_48 : decode cX0_leftOf 48 = .ok (.iload_n 2, 1) := by decide +kernel
theorem dX0_leftOf_49 : decode cX0_leftOf 49 = .ok (.ireturn, 1) := by decide +kernel
theorem dX0_flapFor_0 : decode cX0_flapFor 0 = .ok (.iload_n 2, 1) := by decide +kernel
theorem dX0_flapFor_1 : decode cX0_flapFor 1 = .ok (.ifCond .lt 25, 3) := by decide +kernel
theorem dX0_flapFor_4 : decode cX0_flapFor 4 = .ok (.iload_n 2, 1) := by decide +kernel
theorem dX0_flapFor_5 : decode cX0_flapFor 5 = .ok (.iload 5, 2) := by decide +kernel
theorem dX0_flapFor_7 : decode cX0_flapFor 7 = .ok (.if_icmp .ge 19, 3) := by decide +kernel
theorem dX0_flapFor_10 : decode cX0_flapFor 10 = .ok (.aload_n 0, 1) := by decide +kernel
theorem dX0_flapFor_11 : decode cX0_flapFor 11 = .ok (.iload_n 1, 1) := by decide +kernel
theorem dX0_flapFor_12 : decode cX0_flapFor 12 = .ok (.aload_n 3, 1) := by decide +kernel
theorem dX0_flapFor_13 : decode cX0_flapFor 13 = .ok (.iload 4, 2) := by decide +kernel
theorem dX0_flapFor_15 : decode cX0_flapFor 15 = .ok (.iload_n 2, 1) := by decide +kernel
theorem dX0_flapFor_16 : decode cX0_flapFor 16 = .ok (.iadd, 1) := by decide +kernel
theorem dX0_flapFor_17 : decode cX0_flapFor 17 = .ok (.invokevirtual 76, 3) := by decide +kernel
theorem dX0_flapFor_20 : decode cX0_flapFor 20 = .ok (.invokevirtual 137, 3) := by decide +kernel
theorem dX0_flapFor_23 : decode cX0_flapFor 23 = .ok (.goto 4, 3) := by decide +kernel
theorem dX0_flapFor_26 : decode cX0_flapFor 26 = .ok (.iconst 0, 1) := by decide +kernel
theorem dX0_flapFor_27 : decode cX0_flapFor 27 = .ok (.ireturn, 1) := by decide +kernel
theorem dX0_costOf_0 : decode cX0_costOf 0 = .ok (.iconst 0, 1) := by decide +kernel
theorem dX0_costOf_1 : decode cX0_costOf 1 = .ok (.istore 6, 2) := by decide +kernel
theorem dX0_costOf_3 : decode cX0_costOf 3 = .ok (.iconst 0, 1) := by decide +kernel
theorem dX0_costOf_4 : decode cX0_costOf 4 = .ok (.istore 7, 2) := by decide +kernel
theorem dX0_costOf_6 : decode cX0_costOf 6 = .ok (.iload 7, 2) := by decide +kernel
theorem dX0_costOf_8 : decode cX0_costOf 8 = .ok (.aload_n 0, 1) := by decide +kernel
theorem dX0_costOf_9 : decode cX0_costOf 9 = .ok (.getfield 53, 3) := by decide +kernel
theorem dX0_costOf_12 : decode cX0_costOf 12 = .ok (.if_icmp .ge 60, 3) := by decide +kernel
theorem dX0_costOf_15 : decode cX0_costOf 15 = .ok (.iload_n 1, 1) := by decide +kernel
theorem dX0_costOf_16 : decode cX0_costOf 16 = .ok (.aload_n 0, 1) := by decide +kernel
theorem dX0_costOf_17 : decode cX0_costOf 17 = .ok (.getfield 53, 3) := by decide +kernel
theorem dX0_costOf_20 : decode cX0_costOf 20 = .ok (.imul, 1) := by decide +kernel
theorem dX0_costOf_21 : decode cX0_costOf 21 = .ok (.iload 7, 2) := by decide +kernel
theorem dX0_costOf_23 : decode cX0_costOf 23 = .ok (.iadd, 1) := by decide +kernel
theorem dX0_costOf_24 : decode cX0_costOf 24 = .ok (.istore 8, 2) := by decide +kernel
theorem dX0_costOf_26 : decode cX0_costOf 26 = .ok (.aload_n 0, 1) := by decide +kernel
theorem dX0_costOf_27 : decode cX0_costOf 27 = .ok (.iload 8, 2) := by decide +kernel
theorem dX0_costOf_29 : decode cX0_costOf 29 = .ok (.iload 7, 2) := by decide +kernel
theorem dX0_costOf_31 : decode cX0_costOf 31 = .ok (.iload_n 2, 1) := by decide +kernel
theorem dX0_costOf_32 : decode cX0_costOf 32 = .ok (.isub, 1) := by decide +kernel
theorem dX0_costOf_33 : decode cX0_costOf 33 = .ok (.aload_n 3, 1) := by decide +kernel
theorem dX0_costOf_34 : decode cX0_costOf 34 = .ok (.iload 4, 2) := by decide +kernel
theorem dX0_costOf_36 : decode cX0_costOf 36 = .ok (.iload 5, 2) := by decide +kernel
theorem dX0_costOf_38 : decode cX0_costOf 38 = .ok (.invokevirtual 157, 3) := by decide +kernel
theorem dX0_costOf_41 : decode cX0_costOf 41 = .ok (.istore 9, 2) := by decide +kernel
theorem dX0_costOf_43 : decode cX0_costOf 43 = .ok (.iload 6, 2) := by decide +kernel
theorem dX0_costOf_45 : decode cX0_costOf 45 = .ok (.iload 9, 2) := by decide +kernel
theorem dX0_costOf_47 : decode cX0_costOf 47 = .ok (.iconst (-1), 1) := by decide +kernel
theorem dX0_costOf_48 : decode cX0_costOf 48 = .ok (.if_icmp .ne 7, 3) := by decide +kernel
theorem dX0_costOf_51 : decode cX0_costOf 51 = .ok (.iconst 0, 1) := by decide +kernel
theorem dX0_costOf_52 : decode cX0_costOf 52 = .ok (.goto 11, 3) := by decide +kernel
theorem dX0_costOf_55 : decode cX0_costOf 55 = .ok (.aload_n 0, 1) := by decide +kernel
theorem dX0_costOf_56 : decode cX0_costOf 56 = .ok (.iload 8, 2) := by decide +kernel
theorem dX0_costOf_58 : decode cX0_costOf 58 = .ok (.iload 9, 2) := by decide +kernel
theorem dX0_costOf_60 : decode cX0_costOf 60 = .ok (.invokevirtual 161, 3) := by decide +kernel
theorem dX0_costOf_63 : decode cX0_costOf 63 = .ok (.iadd, 1) := by decide +kernel
theorem dX0_costOf_64 : decode cX0_costOf 64 = .ok (.istore 6, 2) := by decide +kernel
theorem dX0_costOf_66 : decode cX0_costOf 66 = .ok (.iinc 7 1, 3) := by decide +kernel
theorem dX0_costOf_69 : decode cX0_costOf 69 = .ok (.goto (-63), 3) := by decide +kernel
theorem dX0_costOf_72 : decode cX0_costOf 72 = .ok (.iload 6, 2) := by decide +kernel
theorem dX0_costOf_74 : decode cX0_costOf 74 = .ok (.ireturn, 1) := by decide +kernel
theorem dX0_missesOf_0 : decode cX0_missesOf 0 = .ok (.iconst 0, 1) := by decide +kernel
theorem dX0_missesOf_1 : decode cX0_missesOf 1 = .ok (.istore 6, 2) := by decide +kernel
theorem dX0_missesOf_3 : decode cX0_missesOf 3 = .ok (.iconst 0, 1) := by decide +kernel
theorem dX0_missesOf_4 : decode cX0_missesOf 4 = .ok (.istore 7, 2) := by decide +kernel
theorem dX0_missesOf_6 : decode cX0_missesOf 6 = .ok (.iload 7, 2) := by decide +kernel
theorem dX0_missesOf_8 : decode cX0_missesOf 8 = .ok (.aload_n 0, 1) := by decide +kernel
theorem dX0_missesOf_9 : decode cX0_missesOf 9 = .ok (.getfield 53, 3) := by decide +kernel
theorem dX0_missesOf_12 : decode cX0_missesOf 12 = .ok (.if_icmp .ge 38, 3) := by decide +kernel
theorem dX0_missesOf_15 : decode cX0_missesOf 15 = .ok (.aload_n 0, 1) := by decide +kernel
theorem dX0_missesOf_16 : decode cX0_missesOf 16 = .ok (.iload_n 1, 1) := by decide +kernel
theorem dX0_missesOf_17 : decode cX0_missesOf 17 = .ok (.aload_n 0, 1) := by decide +kernel
theorem dX0_missesOf_18 : decode cX0_missesOf 18 = .ok (.getfield 53, 3) := by decide +kernel
theorem dX0_missesOf_21 : decode cX0_missesOf 21 = .ok (.imul, 1) := by decide +kernel
theorem dX0_missesOf_22 : decode cX0_missesOf 22 = .ok (.iload 7, 2) := by decide +kernel
theorem dX0_missesOf_24 : decode cX0_missesOf 24 = .ok (.iadd, 1) := by decide +kernel
theorem dX0_missesOf_25 : decode cX0_missesOf 25 = .ok (.iload 7, 2) := by decide +kernel
theorem dX0_missesOf_27 : decode cX0_missesOf 27 = .ok (.iload_n 2, 1) := by decide +kernel
theorem dX0_missesOf_28 : decode cX0_missesOf 28 = .ok (.isub, 1) := by decide +kernel
theorem dX0_missesOf_29 : decode cX0_missesOf 29 = .ok (.aload_n 3, 1) := by decide +kernel
theorem dX0_missesOf_30 : decode cX0_missesOf 30 = .ok (.iload 4, 2) := by decide +kernel
theorem dX0_missesOf_32 : decode cX0_missesOf 32 = .ok (.iload 5, 2) := by decide +kernel
theorem dX0_missesOf_34 : decode cX0_missesOf 34 = .ok (.invokevirtual 157, 3) := by decide +kernel
theorem dX0_missesOf_37 : decode cX0_missesOf 37 = .ok (.iconst (-1), 1) := by decide +kernel
theorem dX0_missesOf_38 : decode cX0_missesOf 38 = .ok (.if_icmp .ne 6, 3) := by decide +kernel
theorem dX0_missesOf_41 : decode cX0_missesOf 41 = .ok (.iinc 6 1, 3) := by decide +kernel
theorem dX0_missesOf_44 : decode cX0_missesOf 44 = .ok (.iinc 7 1, 3) := by decide +kernel
theorem dX0_missesOf_47 : decode cX0_missesOf 47 = .ok (.goto (-41), 3) := by decide +kernel
theorem dX0_missesOf_50 : decode cX0_missesOf 50 = .ok (.iload 6, 2) := by decide +kernel
theorem dX0_missesOf_52 : decode cX0_missesOf 52 = .ok (.ireturn, 1) := by decide +kernel
theorem dX0_wantFlap_0 : decode cX0_wantFlap 0 = .ok (.iload_n 2, 1) := by decide +kernel
theorem dX0_wantFlap_1 : decode cX0_wantFlap 1 = .ok (.iconst (-1), 1) := by decide +kernel
theorem dX0_wantFlap_2 : decode cX0_wantFlap 2 = .ok (.if_icmp .ne 5, 3) := by decide +kernel
theorem dX0_wantFlap_5 : decode cX0_wantFlap 5 = .ok (.iconst 1, 1) := by decide +kernel
theorem dX0_wantFlap_6 : decode cX0_wantFlap 6 = .ok (.ireturn, 1) := by decide +kernel
theorem dX0_wantFlap_7 : decode cX0_wantFlap 7 = .ok (.aload_n 0, 1) := by decide +kernel
theorem dX0_wantFlap_8 : decode cX0_wantFlap 8 = .ok (.getfield 30, 3) := by decide +kernel
theorem dX0_wantFlap_11 : decode cX0_wantFlap 11 = .ok (.iload_n 1, 1) := by decide +kernel
theorem dX0_wantFlap_12 : decode cX0_wantFlap 12 = .ok (.iload_n 2, 1) := by decide +kernel
theorem dX0_wantFlap_13 : decode cX0_wantFlap 13 = .ok (.iastore, 1) := by decide +kernel
theorem dX0_wantFlap_14 : decode cX0_wantFlap 14 = .ok (.aload_n 0, 1) := by decide +kernel
theorem dX0_wantFlap_15 : decode cX0_wantFlap 15 = .ok (.getfield 27, 3) := by decide +kernel
theorem dX0_wantFlap_18 : decode cX0_wantFlap 18 = .ok (.iload_n 1, 1) := by decide +kernel
theorem dX0_wantFlap_19 : decode cX0_wantFlap 19 = .ok (.iaload, 1) := by decide +kernel
theorem dX0_wantFlap_20 : decode cX0_wantFlap 20 = .ok (.istore_n 3, 1) := by decide +kernel
theorem dX0_wantFlap_21 : decode cX0_wantFlap 21 = .ok (.aload_n 0, 1) := by decide +kernel
theorem dX0_wantFlap_22 : decode cX0_wantFlap 22 = .ok (.aload_n 0, 1) := by decide +kernel
theorem dX0_wantFlap_23 : decode cX0_wantFlap 23 = .ok (.getfield 21, 3) := by decide +kernel
theorem dX0_wantFlap_26 : decode cX0_wantFlap 26 = .ok (.iload_n 1, 1) := by decide +kernel
theorem dX0_wantFlap_27 : decode cX0_wantFlap 27 = .ok (.iaload, 1) := by decide +kernel
theorem dX0_wantFlap_28 : decode cX0_wantFlap 28 = .ok (.invokevirtual 171, 3) := by decide +kernel
theorem dX0_wantFlap_31 : decode cX0_wantFlap 31 = .ok (.iload_n 3, 1) := by decide +kernel
theorem dX0_wantFlap_32 : decode cX0_wantFlap 32 = .ok (.aload_n 0, 1) := by decide +kernel
theorem dX0_wantFlap_33 : decode cX0_wantFlap 33 = .ok (.iload_n 1, 1) := by decide +kernel
theorem dX0_wantFlap_34 : decode cX0_wantFlap 34 = .ok (.invokevirtual 105, 3) := by decide +kernel
theorem dX0_wantFlap_37 : decode cX0_wantFlap 37 = .ok (.imul, 1) := by decide +kernel
theorem dX0_wantFlap_38 : decode cX0_wantFlap 38 = .ok (.iadd, 1) := by decide +kernel
theorem dX0_wantFlap_39 : decode cX0_wantFlap 39 = .ok (.iload_n 2, 1) := by decide +kernel
theorem dX0_wantFlap_40 : decode cX0_wantFlap 40 = .ok (.iadd, 1) := by decide +kernel
theorem dX0_wantFlap_41 : decode cX0_wantFlap 41 = .ok (.istore 4, 2) := by decide +kernel
theorem dX0_wantFlap_43 : decode cX0_wantFlap 43 = .ok (.iload_n 2, 1) := by decide +kernel
theorem dX0_wantFlap_44 : decode cX0_wantFlap 44 = .ok (.iload_n 3, 1) := by decide +kernel
theorem dX0_wantFlap_45 : decode cX0_wantFlap 45 = .ok (.if_icmp .eq 29, 3) := by decide +kernel
theorem dX0_wantFlap_48 : decode cX0_wantFlap 48 = .ok (.iload 4, 2) := by decide +kernel
theorem dX0_wantFlap_50 : decode cX0_wantFlap 50 = .ok (.ifCond .lt 24, 3) := by decide +kernel
theorem dX0_wantFlap_53 : decode cX0_wantFlap 53 = .ok (.iload 4, 2) := by decide +kernel
theorem dX0_wantFlap_55 : decode cX0_wantFlap 55 = .ok (.aload_n 0, 1) := by decide +kernel
theorem dX0_wantFlap_56 : decode cX0_wantFlap 56 = .ok (.getfield 46, 3) := by decide +kernel
theorem dX0_wantFlap_59 : decode cX0_wantFlap 59 = .ok (.arraylength, 1) := by decide +kernel
theorem dX0_wantFlap_60 : decode cX0_wantFlap 60 = .ok (.if_icmp .ge 14, 3) := by decide +kernel
theorem dX0_wantFlap_63 : decode cX0_wantFlap 63 = .ok (.aload_n 0, 1) := by decide +kernel
theorem dX0_wantFlap_64 : decode cX0_wantFlap 64 = .ok (.getfield 46, 3) := by decide +kernel
theorem dX0_wantFlap_67 : decode cX0_wantFlap 67 = .ok (.iload 4, 2) := by decide +kernel
theorem dX0_wantFlap_69 : decode cX0_wantFlap 69 = .ok (.dup2, 1) := by decide +kernel
theorem dX0_wantFlap_70 : decode cX0_wantFlap 70 = .ok (.iaload, 1) := by decide +kernel
theorem dX0_wantFlap_71 : decode cX0_wantFlap 71 = .ok (.iconst 1, 1) := by decide +kernel
theorem dX0_wantFlap_72 : decode cX0_wantFlap 72 = .ok (.iadd, 1) := by decide +kernel
theorem dX0_wantFlap_73 : decode cX0_wantFlap 73 = .ok (.iastore, 1) := by decide +kernel
theorem dX0_wantFlap_74 : decode cX0_wantFlap 74 = .ok (.iconst 0, 1) := by decide +kernel
theorem dX0_wantFlap_75 : decode cX0_wantFlap 75 = .ok (.ireturn, 1) := by decide +kernel
theorem dX0_wantSigns_0 : decode cX0_wantSigns 0 = .ok (.iconst 0, 1) := by decide +kernel
theorem dX0_wantSigns_1 : decode cX0_wantSigns 1 = .ok (.istore 5, 2) := by decide +kernel
theorem dX0_wantSigns_3 : decode cX0_wantSigns 3 = .ok (.iconst 0, 1) := by decide +kernel
theorem dX0_wantSigns_4 : decode cX0_wantSigns 4 = .ok (.istore 6, 2) := by decide +kernel
theorem dX0_wantSigns_6 : decode cX0_wantSigns 6 = .ok (.iload 6, 2) := by decide +kernel
theorem dX0_wantSigns_8 : decode cX0_wantSigns 8 = .ok (.aload_n 0, 1) := by decide +kernel
theorem dX0_wantSigns_9 : decode cX0_wantSigns 9 = .ok (.getfield 53, 3) := by decide +kernel
theorem dX0_wantSigns_12 : decode cX0_wantSigns 12 = .ok (.if_icmp .ge 43, 3) := by decide +kernel
theorem dX0_wantSigns_15 : decode cX0_wantSigns 15 = .ok (.iload_n 1, 1) := by decide +kernel
theorem dX0_wantSigns_16 : decode cX0_wantSigns 16 = .ok (.aload_n 0, 1) := by decide +kernel
theorem dX0_wantSigns_17 : decode cX0_wantSigns 17 = .ok (.getfield 53, 3) := by decide +kernel
theorem dX0_wantSigns_20 : decode cX0_wantSigns 20 = .ok (.imul, 1) := by decide +kernel
theorem dX0_wantSigns_21 : decode cX0_wantSigns 21 = .ok (.iload 6, 2) := by decide +kernel
theorem dX0_wantSigns_23 : decode cX0_wantSigns 23 = .ok (.iadd, 1) := by decide +kernel
theorem dX0_wantSigns_24 : decode cX0_wantSigns 24 = .ok (.istore 7, 2) := by decide +kernel
theorem dX0_wantSigns_26 : decode cX0_wantSigns 26 = .ok (.iload 5, 2) := by decide +kernel
theorem dX0_wantSigns_28 : decode cX0_wantSigns 28 = .ok (.aload_n 0, 1) := by decide +kernel
theorem dX0_wantSigns_29 : decode cX0_wantSigns 29 = .ok (.iload 7, 2) := by decide +kernel
theorem dX0_wantSigns_31 : decode cX0_wantSigns 31 = .ok (.aload_n 0, 1) := by decide +kernel
theorem dX0_wantSigns_32 : decode cX0_wantSigns 32 = .ok (.iload 7, 2) := by decide +kernel
theorem dX0_wantSigns_34 : decode cX0_wantSigns 34 = .ok (.iload 6, 2) := by decide +kernel
theorem dX0_wantSigns_36 : decode cX0_wantSigns 36 = .ok (.aload_n 2, 1) := by decide +kernel
theorem dX0_wantSigns_37 : decode cX0_wantSigns 37 = .ok (.iload_n 3, 1) := by decide +kernel
theorem dX0_wantSigns_38 : decode cX0_wantSigns 38 = .ok (.iload 4, 2) := by decide +kernel
theorem dX0_wantSigns_40 : decode cX0_wantSigns 40 = .ok (.invokevirtual 157, 3) := by decide +kernel
theorem dX0_wantSigns_43 : decode cX0_wantSigns 43 = .ok (.invokevirtual 164, 3) := by decide +kernel
theorem dX0_wantSigns_46 : decode cX0_wantSigns 46 = .ok (.iadd, 1) := by decide +kernel
theorem dX0_wantSigns_47 : decode cX0_wantSigns 47 = .ok (.istore 5, 2) := by decide +kernel
theorem dX0_wantSigns_49 : decode cX0_wantSigns 49 = .ok (.iinc 6 1, 3) := by decide +kernel
theorem dX0_wantSigns_52 : decode cX0_wantSigns 52 = .ok (.goto (-46), 3) := by decide +kernel
theorem dX0_wantSigns_55 : decode cX0_wantSigns 55 = .ok (.iload 5, 2) := by decide +kernel
theorem dX0_wantSigns_57 : decode cX0_wantSigns 57 = .ok (.ireturn, 1) := by decide +kernel
theorem dX0_scrollUp_0 : decode cX0_scrollUp 0 = .ok (.iconst 0, 1) := by decide +kernel
theorem dX0_scrollUp_1 : decode cX0_scrollUp 1 = .ok (.istore 4, 2) := by decide +kernel
theorem dX0_scrollUp_3 : decode cX0_scrollUp 3 = .ok (.iconst 0, 1) := by decide +kernel
theorem dX0_scrollUp_4 : decode cX0_scrollUp 4 = .ok (.istore 5, 2) := by decide +kernel
theorem dX0_scrollUp_6 : decode cX0_scrollUp 6 = .ok (.iload 5, 2) := by decide +kernel
theorem dX0_scrollUp_8 : decode cX0_scrollUp 8 = .ok (.aload_n 0, 1) := by decide +kernel
theorem dX0_scrollUp_9 : decode cX0_scrollUp 9 = .ok (.invokevirtual 102, 3) := by decide +kernel
theorem dX0_scrollUp_12 : decode cX0_scrollUp 12 = .ok (.aload_n 0, 1) := by decide +kernel
theorem dX0_scrollUp_13 : decode cX0_scrollUp 13 = .ok (.getfield 53, 3) := by decide +kernel
theorem dX0_scrollUp_16 : decode cX0_scrollUp 16 = .ok (.isub, 1) := by decide +kernel
theorem dX0_scrollUp_17 : decode cX0_scrollUp 17 = .ok (.if_icmp .ge 37, 3) := by decide +kernel
theorem dX0_scrollUp_20 : decode cX0_scrollUp 20 = .ok (.iload 4, 2) := by decide +kernel
theorem dX0_scrollUp_22 : decode cX0_scrollUp 22 = .ok (.aload_n 0, 1) := by decide +kernel
theorem dX0_scrollUp_23 : decode cX0_scrollUp 23 = .ok (.iload 5, 2) := by decide +kernel
theorem dX0_scrollUp_25 : decode cX0_scrollUp 25 = .ok (.aload_n 0, 1) := by decide +kernel
theorem dX0_scrollUp_26 : decode cX0_scrollUp 26 = .ok (.iload 5, 2) := by decide +kernel
theorem dX0_scrollUp_28 : decode cX0_scrollUp 28 = .ok (.aload_n 0, 1) := by decide +kernel
theorem dX0_scrollUp_29 : decode cX0_scrollUp 29 = .ok (.iload 5, 2) := by decide +kernel
theorem dX0_scrollUp_31 : decode cX0_scrollUp 31 = .ok (.aload_n 0, 1) := by decide +kernel
theorem dX0_scrollUp_32 : decode cX0_scrollUp 32 = .ok (.getfield 53, 3) := by decide +kernel
theorem dX0_scrollUp_35 : decode cX0_scrollUp 35 = .ok (.iadd, 1) := by decide +kernel
theorem dX0_scrollUp_36 : decode cX0_scrollUp 36 = .ok (.invokevirtual 117, 3) := by decide +kernel
theorem dX0_scrollUp_39 : decode cX0_scrollUp 39 = .ok (.invokevirtual 137, 3) := by decide +kernel
theorem dX0_scrollUp_42 : decode cX0_scrollUp 42 = .ok (.invokevirtual 164, 3) := by decide +kernel
theorem dX0_scrollUp_45 : decode cX0_scrollUp 45 = .ok (.iadd, 1) := by decide +kernel
theorem dX0_scrollUp_46 : decode cX0_scrollUp 46 = .ok (.istore 4, 2) := by decide +kernel
theorem dX0_scrollUp_48 : decode cX0_scrollUp 48 = .ok (.iinc 5 1, 3) := by decide +kernel
theorem dX0_scrollUp_51 : decode cX0_scrollUp 51 = .ok (.goto (-45), 3) := by decide +kernel
theorem dX0_scrollUp_54 : decode cX0_scrollUp 54 = .ok (.iload 4, 2) := by decide +kernel
theorem dX0_scrollUp_56 : decode cX0_scrollUp 56 = .ok (.aload_n 0, 1) := by decide +kernel
theorem dX0_scrollUp_57 : decode cX0_scrollUp 57 = .ok (.aload_n 0, 1) := by decide +kernel
theorem dX0_scrollUp_58 : decode cX0_scrollUp 58 = .ok (.getfield 49, 3) := by decide +kernel
theorem dX0_scrollUp_61 : decode cX0_scrollUp 61 = .ok (.iconst 1, 1) := by decide +kernel
theorem dX0_scrollUp_62 : decode cX0_scrollUp 62 = .ok (.isub, 1) := by decide +kernel
theorem dX0_scrollUp_63 : decode cX0_scrollUp 63 = .ok (.aload_n 1, 1) := by decide +kernel
theorem dX0_scrollUp_64 : decode cX0_scrollUp 64 = .ok (.iload_n 2, 1) := by decide +kernel
theorem dX0_scrollUp_65 : decode cX0_scrollUp 65 = .ok (.iload_n 3, 1) := by decide +kernel
theorem dX0_scrollUp_66 : decode cX0_scrollUp 66 = .ok (.invokevirtual 167, 3) := by decide +kernel
theorem dX0_scrollUp_69 : decode cX0_scrollUp 69 = .ok (.iadd, 1) := by decide +kernel
theorem dX0_scrollUp_70 : decode cX0_scrollUp 70 = .ok (.ireturn, 1) := by decide +kernel
theorem dX0_wantHome_0 : decode cX0_wantHome 0 = .ok (.iconst 0, 1) := by decide +kernel
theorem dX0_wantHome_1 : decode cX0_wantHome 1 = .ok (.istore_n 2, 1) := by decide +kernel
theorem dX0_wantHome_2 : decode cX0_wantHome 2 = .ok (.iload_n 2, 1) := by decide +kernel
theorem dX0_wantHome_3 : decode cX0_wantHome 3 = .ok (.aload_n 0, 1) := by decide +kernel
theorem dX0_wantHome_4 : decode cX0_wantHome 4 = .ok (.getfield 53, 3) := by decide +kernel
theorem dX0_wantHome_7 : decode cX0_wantHome 7 = .ok (.if_icmp .ge 23, 3) := by decide +kernel
theorem dX0_wantHome_10 : decode cX0_wantHome 10 = .ok (.aload_n 0, 1) := by decide +kernel
theorem dX0_wantHome_11 : decode cX0_wantHome 11 = .ok (.getfield 30, 3) := by decide +kernel
theorem dX0_wantHome_14 : decode cX0_wantHome 14 = .ok (.iload_n 1, 1) := by decide +kernel
theorem dX0_wantHome_15 : decode cX0_wantHome 15 = .ok (.aload_n 0, 1) := by decide +kernel
theorem dX0_wantHome_16 : decode cX0_wantHome 16 = .ok (.getfield 53, 3) := by decide +kernel
theorem dX0_wantHome_19 : decode cX0_wantHome 19 = .ok (.imul, 1) := by decide +kernel
theorem dX0_wantHome_20 : decode cX0_wantHome 20 = .ok (.iload_n 2, 1) := by decide +kernel
theorem dX0_wantHome_21 : decode cX0_wantHome 21 = .ok (.iadd, 1) := by decide +kernel
theorem dX0_wantHome_22 : decode cX0_wantHome 22 = .ok (.iconst 0, 1) := by decide +kernel
theorem dX0_wantHome_23 : decode cX0_wantHome 23 = .ok (.iastore, 1) := by decide +kernel
theorem dX0_wantHome_24 : decode cX0_wantHome 24 = .ok (.iinc 2 1, 3) := by decide +kernel
theorem dX0_wantHome_27 : decode cX0_wantHome 27 = .ok (.goto (-25), 3) := by decide +kernel
theorem dX0_wantHome_30 : decode cX0_wantHome 30 = .ok (.return_, 1) := by decide +kernel
theorem dX0_showSigns_0 : decode cX0_showSigns 0 = .ok (.iconst 0, 1) := by decide +kernel
theorem dX0_showSigns_1 : decode cX0_showSigns 1 = .ok (.istore 5, 2) := by decide +kernel
theorem dX0_showSigns_3 : decode cX0_showSigns 3 = .ok (.iload 5, 2) := by decide +kernel
theorem dX0_showSigns_5 : decode cX0_showSigns 5 = .ok (.aload_n 0, 1) := by decide +kernel
theorem dX0_showSigns_6 : decode cX0_showSigns 6 = .ok (.getfield 53, 3) := by decide +kernel
theorem dX0_showSigns_9 : decode cX0_showSigns 9 = .ok (.if_icmp .ge 77, 3) := by decide +kernel
theorem dX0_showSigns_12 : decode cX0_showSigns 12 = .ok (.iload_n 1, 1) := by decide +kernel
theorem dX0_showSigns_13 : decode cX0_showSigns 13 = .ok (.aload_n 0, 1) := by decide +kernel
theorem dX0_showSigns_14 : decode cX0_showSigns 14 = .ok (.getfield 53, 3) := by decide +kernel
theorem dX0_showSigns_17 : decode cX0_showSigns 17 = .ok (.imul, 1) := by decide +kernel
theorem dX0_showSigns_18 : decode cX0_showSigns 18 = .ok (.iload 5, 2) := by decide +kernel
theorem dX0_showSigns_20 : decode cX0_showSigns 20 = .ok (.iadd, 1) := by decide +kernel
theorem dX0_showSigns_21 : decode cX0_showSigns 21 = .ok (.istore 6, 2) := by decide +kernel
theorem dX0_showSigns_23 : decode cX0_showSigns 23 = .ok (.aload_n 0, 1) := by decide +kernel
theorem dX0_showSigns_24 : decode cX0_showSigns 24 = .ok (.iload 6, 2) := by decide +kernel
theorem dX0_showSigns_26 : decode cX0_showSigns 26 = .ok (.iload 5, 2) := by decide +kernel
theorem dX0_showSigns_28 : decode cX0_showSigns 28 = .ok (.aload_n 2, 1) := by decide +kernel
theorem dX0_showSigns_29 : decode cX0_showSigns 29 = .ok (.iload_n 3, 1) := by decide +kernel
theorem dX0_showSigns_30 : decode cX0_showSigns 30 = .ok (.iload 4, 2) := by decide +kernel
theorem dX0_showSigns_32 : decode cX0_showSigns 32 = .ok (.invokevirtual 157, 3) := by decide +kernel
theorem dX0_showSigns_35 : decode cX0_showSigns 35 = .ok (.istore 7, 2) := by decide +kernel
theorem dX0_showSigns_37 : decode cX0_showSigns 37 = .ok (.iload 7, 2) := by decide +kernel
theorem dX0_showSigns_39 : decode cX0_showSigns 39 = .ok (.iconst (-1), 1) := by decide +kernel
theorem dX0_showSigns_40 : decode cX0_showSigns 40 = .ok (.if_icmp .eq 12, 3) := by decide +kernel
theorem dX0_showSigns_43 : decode cX0_showSigns 43 = .ok (.aload_n 0, 1) := by decide +kernel
theorem dX0_showSigns_44 : decode cX0_showSigns 44 = .ok (.getfield 30, 3) := by decide +kernel
theorem dX0_showSigns_47 : decode cX0_showSigns 47 = .ok (.iload 6, 2) := by decide +kernel
theorem dX0_showSigns_49 : decode cX0_showSigns 49 = .ok (.iload 7, 2) := by decide +kernel
theorem dX0_showSigns_51 : decode cX0_showSigns 51 = .ok (.iastore, 1) := by decide +kernel
theorem dX0_showSigns_52 : decode cX0_showSigns 52 = .ok (.aload_n 0, 1) := by decide +kernel
theorem dX0_showSigns_53 : decode cX0_showSigns 53 = .ok (.getfield 24, 3) := by decide +kernel
theorem dX0_showSigns_56 : decode cX0_showSigns 56 = .ok (.iload 6, 2) := by decide +kernel
theorem dX0_showSigns_58 : decode cX0_showSigns 58 = .ok (.aload_n 0, 1) := by decide +kernel
theorem dX0_showSigns_59 : decode cX0_showSigns 59 = .ok (.getfield 30, 3) := by decide +kernel
theorem dX0_showSigns_62 : decode cX0_showSigns 62 = .ok (.iload 6, 2) := by decide +kernel
theorem dX0_showSigns_64 : decode cX0_showSigns 64 = .ok (.iaload, 1) := by decide +kernel
theorem dX0_showSigns_65 : decode cX0_showSigns 65 = .ok (.iastore, 1) := by decide +kernel
theorem dX0_showSigns_66 : decode cX0_showSigns 66 = .ok (.aload_n 0, 1) := by decide +kernel
theorem dX0_showSigns_67 : decode cX0_showSigns 67 = .ok (.getfield 27, 3) := by decide +kernel
theorem dX0_showSigns_70 : decode cX0_showSigns 70 = .ok (.iload 6, 2) := by decide +kernel
theorem dX0_showSigns_72 : decode cX0_showSigns 72 = .ok (.aload_n 0, 1) := by decide +kernel
theorem dX0_showSigns_73 : decode cX0_showSigns 73 = .ok (.getfield 30, 3) := by decide +kernel
theorem dX0_showSigns_76 : decode cX0_showSigns 76 = .ok (.iload 6, 2) := by decide +kernel
theorem dX0_showSigns_78 : decode cX0_showSigns 78 = .ok (.iaload, 1) := by decide +kernel
theorem dX0_showSigns_79 : decode cX0_showSigns 79 = .ok (.iastore, 1) := by decide +kernel
theorem dX0_showSigns_80 : decode cX0_showSigns 80 = .ok (.iinc 5 1, 3) := by decide +kernel
theorem dX0_showSigns_83 : decode cX0_showSigns 83 = .ok (.goto (-80), 3) := by decide +kernel
theorem dX0_showSigns_86 : decode cX0_showSigns 86 = .ok (.return_, 1) := by decide +kernel
theorem dX6_behind_0 : decode cX6_behind 0 = .ok (.iload_n 0, 1) := by decide +kernel
theorem dX6_behind_1 : decode cX6_behind 1 = .ok (.iconst 1, 1) := by decide +kernel
theorem dX6_behind_2 : decode cX6_behind 2 = .ok (.iadd, 1) := by decide +kernel
theorem dX6_behind_3 : decode cX6_behind 3 = .ok (.iload_n 1, 1) := by decide +kernel
theorem dX6_behind_4 : decode cX6_behind 4 = .ok (.if_icmp .ge 9, 3) := by decide +kernel
theorem dX6_behind_7 : decode cX6_behind 7 = .ok (.iload_n 0, 1) := by decide +kernel
theorem dX6_behind_8 : decode cX6_behind 8 = .ok (.iconst 1, 1) := by decide +kernel
theorem dX6_behind_9 : decode cX6_behind 9 = .ok (.iadd, 1) := by decide +kernel
theorem dX6_behind_10 : decode cX6_behind 10 = .ok (.goto 4, 3) := by decide +kernel
theorem dX6_behind_13 : decode cX6_behind 13 = .ok (.iconst 0, 1) := by decide +kernel
theorem dX6_behind_14 : decode cX6_behind 14 = .ok (.ireturn, 1) := by decide +kernel
theorem dX0_stepOn_0 : decode cX0_stepOn 0 = .ok (.aload_n 0, 1) := by decide +kernel
theorem dX0_stepOn_1 : decode cX0_stepOn 1 = .ok (.iload_n 1, 1) := by decide +kernel
theorem dX0_stepOn_2 : decode cX0_stepOn 2 = .ok (.invokevirtual 105, 3) := by decide +kernel
theorem dX0_stepOn_5 : decode cX0_stepOn 5 = .ok (.istore_n 2, 1) := by decide +kernel
theorem dX0_stepOn_6 : decode cX0_stepOn 6 = .ok (.aload_n 0, 1) := by decide +kernel
theorem dX0_stepOn_7 : decode cX0_stepOn 7 = .ok (.getfield 27, 3) := by decide +kernel
theorem dX0_stepOn_10 : decode cX0_stepOn 10 = .ok (.iload_n 1, 1) := by decide +kernel
theorem dX0_stepOn_11 : decode cX0_stepOn 11 = .ok (.iaload, 1) := by decide +kernel
theorem dX0_stepOn_12 : decode cX0_stepOn 12 = .ok (.iload_n 2, 1) := by decide +kernel
theorem dX0_stepOn_13 : decode cX0_stepOn 13 = .ok (.invokestatic 174, 3) := by decide +kernel
theorem dX0_stepOn_16 : decode cX0_stepOn 16 = .ok (.istore_n 3, 1) := by decide +kernel
theorem dX0_stepOn_17 : decode cX0_stepOn 17 = .ok (.iconst 0, 1) := by decide +kernel
theorem dX0_stepOn_18 : decode cX0_stepOn 18 = .ok (.istore 4, 2) := by decide +kernel
theorem dX0_stepOn_20 : decode cX0_stepOn 20 = .ok (.aload_n 0, 1) := by decide +kernel
theorem dX0_stepOn_21 : decode cX0_stepOn 21 = .ok (.getfield 33, 3) := by decide +kernel
theorem dX0_stepOn_24 : decode cX0_stepOn 24 = .ok (.iload_n 1, 1) := by decide +kernel
theorem dX0_stepOn_25 : decode cX0_stepOn 25 = .ok (.iaload, 1) := by decide +kernel
theorem dX0_stepOn_26 : decode cX0_stepOn 26 = .ok (.ifCond .le 16, 3) := by decide +kernel
theorem dX0_stepOn_29 : decode cX0_stepOn 29 = .ok (.aload_n 0, 1) := by decide +kernel
theorem dX0_stepOn_30 : decode cX0_stepOn 30 = .ok (.getfield 33, 3) := by decide +kernel
theorem dX0_stepOn_33 : decode cX0_stepOn 33 = .ok (.iload_n 1, 1) := by decide +kernel
theorem dX0_stepOn_34 : decode cX0_stepOn 34 = .ok (.dup2, 1) := by decide +kernel
theorem dX0_stepOn_35 : decode cX0_stepOn 35 = .ok (.iaload, 1) := by decide +kernel
theorem dX0_stepOn_36 : decode cX0_stepOn 36 = .ok (.iconst 1, 1) := by decide +kernel
theorem dX0_stepOn_37 : decode cX0_stepOn 37 = .ok (.isub, 1) := by decide +kernel
theorem dX0_stepOn_38 : decode cX0_stepOn 38 = .ok (.iastore, 1) := by decide +kernel
theorem dX0_stepOn_39 : decode cX0_stepOn 39 = .ok (.goto 33, 3) := by decide +kernel
theorem dX0_stepOn_42 : decode cX0_stepOn 42 = .ok (.aload_n 0, 1) := by decide +kernel
theorem dX0_stepOn_43 : decode cX0_stepOn 43 = .ok (.getfield 24, 3) := by decide +kernel
theorem dX0_stepOn_46 : decode cX0_stepOn 46 = .ok (.iload_n 1, 1) := by decide +kernel
theorem dX0_stepOn_47 : decode cX0_stepOn 47 = .ok (.aload_n 0, 1) := by decide +kernel
theorem dX0_stepOn_48 : decode cX0_stepOn 48 = .ok (.getfield 24, 3) := by decide +kernel
theorem dX0_stepOn_51 : decode cX0_stepOn 51 = .ok (.iload_n 1, 1) := by decide +kernel
theorem dX0_stepOn_52 : decode cX0_stepOn 52 = .ok (.iaload, 1) := by decide +kernel
theorem dX0_stepOn_53 : decode cX0_stepOn 53 = .ok (.iload_n 2, 1) := by decide +kernel
theorem dX0_stepOn_54 : decode cX0_stepOn 54 = .ok (.invokestatic 174, 3) := by decide +kernel
theorem dX0_stepOn_57 : decode cX0_stepOn 57 = .ok (.iastore, 1) := by decide +kernel
theorem dX0_stepOn_58 : decode cX0_stepOn 58 = .ok (.aload_n 0, 1) := by decide +kernel
theorem dX0_stepOn_59 : decode cX0_stepOn 59 = .ok (.getfield 24, 3) := by decide +kernel
theorem dX0_stepOn_62 : decode cX0_stepOn 62 = .ok (.iload_n 1, 1) := by decide +kernel
theorem dX0_stepOn_63 : decode cX0_stepOn 63 = .ok (.iaload, 1) := by decide +kernel
theorem dX0_stepOn_64 : decode cX0_stepOn 64 = .ok (.ifCond .ne 8, 3) := by decide +kernel
theorem dX0_stepOn_67 : decode cX0_stepOn 67 = .ok (.iload_n 3, 1) := by decide +kernel
theorem dX0_stepOn_68 : decode cX0_stepOn 68 = .ok (.istore 4, 2) := by decide +kernel
theorem dX0_stepOn_70 : decode cX0_stepOn 70 = .ok (.iconst 0, 1) := by decide +kernel
theorem dX0_stepOn_71 : decode cX0_stepOn 71 = .ok (.istore_n 3, 1) := by decide +kernel
theorem dX0_stepOn_72 : decode cX0_stepOn 72 = .ok (.aload_n 0, 1) := by decide +kernel
theorem dX0_stepOn_73 : decode cX0_stepOn 73 = .ok (.getfield 27, 3) := by decide +kernel
theorem dX0_stepOn_76 : decode cX0_stepOn 76 = .ok (.iload_n 1, 1) := by decide +kernel

theorem dX0_stepOn_77 : decode cX0_stepOn 77 = .ok (.iload_n 3, 1) := by decide +kernel
theorem dX0_stepOn_78 : decode cX0_stepOn 78 = .ok (.iastore, 1) := by decide +kernel
theorem dX0_stepOn_79 : decode cX0_stepOn 79 = .ok (.aload_n 0, 1) := by decide +kernel
theorem dX0_stepOn_80 : decode cX0_stepOn 80 = .ok (.getfield 36, 3) := by decide +kernel
theorem dX0_stepOn_83 : decode cX0_stepOn 83 = .ok (.iload_n 1, 1) := by decide +kernel
theorem dX0_stepOn_84 : decode cX0_stepOn 84 = .ok (.dup2, 1) := by decide +kernel
theorem dX0_stepOn_85 : decode cX0_stepOn 85 = .ok (.iaload, 1) := by decide +kernel
theorem dX0_stepOn_86 : decode cX0_stepOn 86 = .ok (.iconst 1, 1) := by decide +kernel
theorem dX0_stepOn_87 : decode cX0_stepOn 87 = .ok (.iadd, 1) := by decide +kernel
theorem dX0_stepOn_88 : decode cX0_stepOn 88 = .ok (.iastore, 1) := by decide +kernel
theorem dX0_stepOn_89 : decode cX0_stepOn 89 = .ok (.aload_n 0, 1) := by decide +kernel
theorem dX0_stepOn_90 : decode cX0_stepOn 90 = .ok (.getfield 39, 3) := by decide +kernel
theorem dX0_stepOn_93 : decode cX0_stepOn 93 = .ok (.iload_n 1, 1) := by decide +kernel
theorem dX0_stepOn_94 : decode cX0_stepOn 94 = .ok (.dup2, 1) := by decide +kernel
theorem dX0_stepOn_95 : decode cX0_stepOn 95 = .ok (.iaload, 1) := by decide +kernel
theorem dX0_stepOn_96 : decode cX0_stepOn 96 = .ok (.iload 4, 2) := by decide +kernel
theorem dX0_stepOn_98 : decode cX0_stepOn 98 = .ok (.iadd, 1) := by decide +kernel
theorem dX0_stepOn_99 : decode cX0_stepOn 99 = .ok (.iastore, 1) := by decide +kernel
theorem dX0_stepOn_100 : decode cX0_stepOn 100 = .ok (.iload 4, 2) := by decide +kernel
theorem dX0_stepOn_102 : decode cX0_stepOn 102 = .ok (.ireturn, 1) := by decide +kernel
theorem dX0_leftOfAll_0 : decode cX0_leftOfAll 0 = .ok (.iconst 0, 1) := by decide +kernel
theorem dX0_leftOfAll_1 : decode cX0_leftOfAll 1 = .ok (.istore_n 2, 1) := by decide +kernel
theorem dX0_leftOfAll_2 : decode cX0_leftOfAll 2 = .ok (.iconst 0, 1) := by decide +kernel
theorem dX0_leftOfAll_3 : decode cX0_leftOfAll 3 = .ok (.istore_n 3, 1) := by decide +kernel
theorem dX0_leftOfAll_4 : decode cX0_leftOfAll 4 = .ok (.iload_n 3, 1) := by decide +kernel
theorem dX0_leftOfAll_5 : decode cX0_leftOfAll 5 = .ok (.aload_n 0, 1) := by decide +kernel
theorem dX0_leftOfAll_6 : decode cX0_leftOfAll 6 = .ok (.invokevirtual 102, 3) := by decide +kernel
theorem dX0_leftOfAll_9 : decode cX0_leftOfAll 9 = .ok (.if_icmp .ge 31, 3) := by decide +kernel
theorem dX0_leftOfAll_12 : decode cX0_leftOfAll 12 = .ok (.iload_n 2, 1) := by decide +kernel
theorem dX0_leftOfAll_13 : decode cX0_leftOfAll 13 = .ok (.aload_n 0, 1) := by decide +kernel
theorem dX0_leftOfAll_14 : decode cX0_leftOfAll 14 = .ok (.iload_n 3, 1) := by decide +kernel
theorem dX0_leftOfAll_15 : decode cX0_leftOfAll 15 = .ok (.invokevirtual 177, 3) := by decide +kernel
theorem dX0_leftOfAll_18 : decode cX0_leftOfAll 18 = .ok (.iload_n 1, 1) := by decide +kernel
theorem dX0_leftOfAll_19 : decode cX0_leftOfAll 19 = .ok (.ifCond .eq 11, 3) := by decide +kernel
theorem dX0_leftOfAll_22 : decode cX0_leftOfAll 22 = .ok (.aload_n 0, 1) := by decide +kernel
theorem dX0_leftOfAll_23 : decode cX0_leftOfAll 23 = .ok (.iload_n 3, 1) := by decide +kernel
theorem dX0_leftOfAll_24 : decode cX0_leftOfAll 24 = .ok (.invokevirtual 180, 3) := by decide +kernel
theorem dX0_leftOfAll_27 : decode cX0_leftOfAll 27 = .ok (.goto 4, 3) := by decide +kernel
theorem dX0_leftOfAll_30 : decode cX0_leftOfAll 30 = .ok (.iconst 1, 1) := by decide +kernel
theorem dX0_leftOfAll_31 : decode cX0_leftOfAll 31 = .ok (.imul, 1) := by decide +kernel
theorem dX0_leftOfAll_32 : decode cX0_leftOfAll 32 = .ok (.iadd, 1) := by decide +kernel
theorem dX0_leftOfAll_33 : decode cX0_leftOfAll 33 = .ok (.istore_n 2, 1) := by decide +kernel
theorem dX0_leftOfAll_34 : decode cX0_leftOfAll 34 = .ok (.iinc 3 1, 3) := by decide +kernel
theorem dX0_leftOfAll_37 : decode cX0_leftOfAll 37 = .ok (.goto (-33), 3) := by decide +kernel
theorem dX0_leftOfAll_40 : decode cX0_leftOfAll 40 = .ok (.iload_n 2, 1) := by decide +kernel
theorem dX0_leftOfAll_41 : decode cX0_leftOfAll 41 = .ok (.ireturn, 1) := by decide +kernel
theorem dX0_mostLeft_0 : decode cX0_mostLeft 0 = .ok (.iconst 0, 1) := by decide +kernel
theorem dX0_mostLeft_1 : decode cX0_mostLeft 1 = .ok (.istore_n 1, 1) := by decide +kernel
theorem dX0_mostLeft_2 : decode cX0_mostLeft 2 = .ok (.iconst 0, 1) := by decide +kernel
theorem dX0_mostLeft_3 : decode cX0_mostLeft 3 = .ok (.istore_n 2, 1) := by decide +kernel
theorem dX0_mostLeft_4 : decode cX0_mostLeft 4 = .ok (.iload_n 2, 1) := by decide +kernel
theorem dX0_mostLeft_5 : decode cX0_mostLeft 5 = .ok (.aload_n 0, 1) := by decide +kernel
theorem dX0_mostLeft_6 : decode cX0_mostLeft 6 = .ok (.invokevirtual 102, 3) := by decide +kernel
theorem dX0_mostLeft_9 : decode cX0_mostLeft 9 = .ok (.if_icmp .ge 19, 3) := by decide +kernel
theorem dX0_mostLeft_12 : decode cX0_mostLeft 12 = .ok (.iload_n 1, 1) := by decide +kernel
theorem dX0_mostLeft_13 : decode cX0_mostLeft 13 = .ok (.aload_n 0, 1) := by decide +kernel
theorem dX0_mostLeft_14 : decode cX0_mostLeft 14 = .ok (.iload_n 2, 1) := by decide +kernel
theorem dX0_mostLeft_15 : decode cX0_mostLeft 15 = .ok (.invokevirtual 177, 3) := by decide +kernel
theorem dX0_mostLeft_18 : decode cX0_mostLeft 18 = .ok (.invokestatic 143, 3) := by decide +kernel
theorem dX0_mostLeft_21 : decode cX0_mostLeft 21 = .ok (.istore_n 1, 1) := by decide +kernel
theorem dX0_mostLeft_22 : decode cX0_mostLeft 22 = .ok (.iinc 2 1, 3) := by decide +kernel
theorem dX0_mostLeft_25 : decode cX0_mostLeft 25 = .ok (.goto (-21), 3) := by decide +kernel
theorem dX0_mostLeft_28 : decode cX0_mostLeft 28 = .ok (.iload_n 1, 1) := by decide +kernel
theorem dX0_mostLeft_29 : decode cX0_mostLeft 29 = .ok (.ireturn, 1) := by decide +kernel
theorem dX0_emptyLog_0 : decode cX0_emptyLog 0 = .ok (.aload_n 0, 1) := by decide +kernel
theorem dX0_emptyLog_1 : decode cX0_emptyLog 1 = .ok (.invokevirtual 86, 3) := by decide +kernel
theorem dX0_emptyLog_4 : decode cX0_emptyLog 4 = .ok (.istore_n 1, 1) := by decide +kernel
theorem dX0_emptyLog_5 : decode cX0_emptyLog 5 = .ok (.aload_n 0, 1) := by decide +kernel
theorem dX0_emptyLog_6 : decode cX0_emptyLog 6 = .ok (.getfield 46, 3) := by decide +kernel
theorem dX0_emptyLog_9 : decode cX0_emptyLog 9 = .ok (.arraylength, 1) := by decide +kernel
theorem dX0_emptyLog_10 : decode cX0_emptyLog 10 = .ok (.iload_n 1, 1) := by decide +kernel
theorem dX0_emptyLog_11 : decode cX0_emptyLog 11 = .ok (.if_icmp .ge 13, 3) := by decide +kernel
theorem dX0_emptyLog_14 : decode cX0_emptyLog 14 = .ok (.aload_n 0, 1) := by decide +kernel
theorem dX0_emptyLog_15 : decode cX0_emptyLog 15 = .ok (.iload_n 1, 1) := by decide +kernel
theorem dX0_emptyLog_16 : decode cX0_emptyLog 16 = .ok (.newarray .int, 2) := by decide +kernel
theorem dX0_emptyLog_18 : decode cX0_emptyLog 18 = .ok (.putfield 46, 3) := by decide +kernel
theorem dX0_emptyLog_21 : decode cX0_emptyLog 21 = .ok (.goto 11, 3) := by decide +kernel
theorem dX0_emptyLog_24 : decode cX0_emptyLog 24 = .ok (.aload_n 0, 1) := by decide +kernel
theorem dX0_emptyLog_25 : decode cX0_emptyLog 25 = .ok (.getfield 46, 3) := by decide +kernel
theorem dX0_emptyLog_28 : decode cX0_emptyLog 28 = .ok (.iconst 0, 1) := by decide +kernel
theorem dX0_emptyLog_29 : decode cX0_emptyLog 29 = .ok (.invokestatic 183, 3) := by decide +kernel
theorem dX0_emptyLog_32 : decode cX0_emptyLog 32 = .ok (.return_, 1) := by decide +kernel
theorem dX0_entryAt_0 : decode cX0_entryAt 0 = .ok (.iload_n 1, 1) := by decide +kernel
theorem dX0_entryAt_1 : decode cX0_entryAt 1 = .ok (.iload_n 3, 1) := by decide +kernel
theorem dX0_entryAt_2 : decode cX0_entryAt 2 = .ok (.iload_n 2, 1) := by decide +kernel
theorem dX0_entryAt_3 : decode cX0_entryAt 3 = .ok (.imul, 1) := by decide +kernel
theorem dX0_entryAt_4 : decode cX0_entryAt 4 = .ok (.iadd, 1) := by decide +kernel
theorem dX0_entryAt_5 : decode cX0_entryAt 5 = .ok (.iload 4, 2) := by decide +kernel
theorem dX0_entryAt_7 : decode cX0_entryAt 7 = .ok (.iadd, 1) := by decide +kernel
theorem dX0_entryAt_8 : decode cX0_entryAt 8 = .ok (.istore 5, 2) := by decide +kernel
theorem dX0_entryAt_10 : decode cX0_entryAt 10 = .ok (.iload 5, 2) := by decide +kernel
theorem dX0_entryAt_12 : decode cX0_entryAt 12 = .ok (.ifCond .lt 23, 3) := by decide +kernel
theorem dX0_entryAt_15 : decode cX0_entryAt 15 = .ok (.iload 5, 2) := by decide +kernel
theorem dX0_entryAt_17 : decode cX0_entryAt 17 = .ok (.aload_n 0, 1) := by decide +kernel
theorem dX0_entryAt_18 : decode cX0_entryAt 18 = .ok (.getfield 46, 3) := by decide +kernel
theorem dX0_entryAt_21 : decode cX0_entryAt 21 = .ok (.arraylength, 1) := by decide +kernel
theorem dX0_entryAt_22 : decode cX0_entryAt 22 = .ok (.if_icmp .ge 13, 3) := by decide +kernel
theorem dX0_entryAt_25 : decode cX0_entryAt 25 = .ok (.aload_n 0, 1) := by decide +kernel
theorem dX0_entryAt_26 : decode cX0_entryAt 26 = .ok (.getfield 46, 3) := by decide +kernel
theorem dX0_entryAt_29 : decode cX0_entryAt 29 = .ok (.iload 5, 2) := by decide +kernel
theorem dX0_entryAt_31 : decode cX0_entryAt 31 = .ok (.iaload, 1) := by decide +kernel
theorem dX0_entryAt_32 : decode cX0_entryAt 32 = .ok (.goto 4, 3) := by decide +kernel
theorem dX0_entryAt_35 : decode cX0_entryAt 35 = .ok (.iconst 0, 1) := by decide +kernel
theorem dX0_entryAt_36 : decode cX0_entryAt 36 = .ok (.ireturn, 1) := by decide +kernel
theorem dX0_journey_0 : decode cX0_journey 0 = .ok (.aload_n 0, 1) := by decide +kernel
theorem dX0_journey_1 : decode cX0_journey 1 = .ok (.iload_n 1, 1) := by decide +kernel
theorem dX0_journey_2 : decode cX0_journey 2 = .ok (.invokevirtual 171, 3) := by decide +kernel
theorem dX0_journey_5 : decode cX0_journey 5 = .ok (.istore_n 2, 1) := by decide +kernel
theorem dX0_journey_6 : decode cX0_journey 6 = .ok (.aload_n 0, 1) := by decide +kernel
theorem dX0_journey_7 : decode cX0_journey 7 = .ok (.iload_n 1, 1) := by decide +kernel
theorem dX0_journey_8 : decode cX0_journey 8 = .ok (.invokevirtual 108, 3) := by decide +kernel
theorem dX0_journey_11 : decode cX0_journey 11 = .ok (.istore_n 3, 1) := by decide +kernel
theorem dX0_journey_12 : decode cX0_journey 12 = .ok (.iconst 0, 1) := by decide +kernel
theorem dX0_journey_13 : decode cX0_journey 13 = .ok (.istore 4, 2) := by decide +kernel
theorem dX0_journey_15 : decode cX0_journey 15 = .ok (.iconst 0, 1) := by decide +kernel
theorem dX0_journey_16 : decode cX0_journey 16 = .ok (.istore 5, 2) := by decide +kernel
theorem dX0_journey_18 : decode cX0_journey 18 = .ok (.iload 5, 2) := by decide +kernel
theorem dX0_journey_20 : decode cX0_journey 20 = .ok (.iload_n 3, 1) := by decide +kernel
theorem dX0_journey_21 : decode cX0_journey 21 = .ok (.if_icmp .ge 48, 3) := by decide +kernel
theorem dX0_journey_24 : decode cX0_journey 24 = .ok (.iconst 0, 1) := by decide +kernel
theorem dX0_journey_25 : decode cX0_journey 25 = .ok (.istore 6, 2) := by decide +kernel
theorem dX0_journey_27 : decode cX0_journey 27 = .ok (.iload 6, 2) := by decide +kernel
theorem dX0_journey_29 : decode cX0_journey 29 = .ok (.iload_n 3, 1) := by decide +kernel
theorem dX0_journey_30 : decode cX0_journey 30 = .ok (.if_icmp .ge 33, 3) := by decide +kernel
theorem dX0_journey_33 : decode cX0_journey 33 = .ok (.iload 4, 2) := by decide +kernel
theorem dX0_journey_35 : decode cX0_journey 35 = .ok (.aload_n 0, 1) := by decide +kernel
theorem dX0_journey_36 : decode cX0_journey 36 = .ok (.iload_n 2, 1) := by decide +kernel
theorem dX0_journey_37 : decode cX0_journey 37 = .ok (.iload_n 3, 1) := by decide +kernel
theorem dX0_journey_38 : decode cX0_journey 38 = .ok (.iload 5, 2) := by decide +kernel
theorem dX0_journey_40 : decode cX0_journey 40 = .ok (.iload 6, 2) := by decide +kernel
theorem dX0_journey_42 : decode cX0_journey 42 = .ok (.invokevirtual 189, 3) := by decide +kernel
theorem dX0_journey_45 : decode cX0_journey 45 = .ok (.iload 5, 2) := by decide +kernel
theorem dX0_journey_47 : decode cX0_journey 47 = .ok (.iload 6, 2) := by decide +kernel
theorem dX0_journey_49 : decode cX0_journey 49 = .ok (.iload_n 3, 1) := by decide +kernel
theorem dX0_journey_50 : decode cX0_journey 50 = .ok (.invokestatic 154, 3) := by decide +kernel
theorem dX0_journey_53 : decode cX0_journey 53 = .ok (.imul, 1) := by decide +kernel
theorem dX0_journey_54 : decode cX0_journey 54 = .ok (.iadd, 1) := by decide +kernel
theorem dX0_journey_55 : decode cX0_journey 55 = .ok (.istore 4, 2) := by decide +kernel
theorem dX0_journey_57 : decode cX0_journey 57 = .ok (.iinc 6 1, 3) := by decide +kernel
theorem dX0_journey_60 : decode cX0_journey 60 = .ok (.goto (-33), 3) := by decide +kernel
theorem dX0_journey_63 : decode cX0_journey 63 = .ok (.iinc 5 1, 3) := by decide +kernel
theorem dX0_journey_66 : decode cX0_journey 66 = .ok (.goto (-48), 3) := by decide +kernel
theorem dX0_journey_69 : decode cX0_journey 69 = .ok (.iload 4, 2) := by decide +kernel
theorem dX0_journey_71 : decode cX0_journey 71 = .ok (.ireturn, 1) := by decide +kernel
theorem dX0_entriesOf_0 : decode cX0_entriesOf 0 = .ok (.aload_n 0, 1) := by decide +kernel
theorem dX0_entriesOf_1 : decode cX0_entriesOf 1 = .ok (.iload_n 1, 1) := by decide +kernel
theorem dX0_entriesOf_2 : decode cX0_entriesOf 2 = .ok (.invokevirtual 171, 3) := by decide +kernel
theorem dX0_entriesOf_5 : decode cX0_entriesOf 5 = .ok (.istore 4, 2) := by decide +kernel
theorem dX0_entriesOf_7 : decode cX0_entriesOf 7 = .ok (.aload_n 0, 1) := by decide +kernel
theorem dX0_entriesOf_8 : decode cX0_entriesOf 8 = .ok (.iload_n 1, 1) := by decide +kernel
theorem dX0_entriesOf_9 : decode cX0_entriesOf 9 = .ok (.invokevirtual 108, 3) := by decide +kernel
theorem dX0_entriesOf_12 : decode cX0_entriesOf 12 = .ok (.istore 5, 2) := by decide +kernel
theorem dX0_entriesOf_14 : decode cX0_entriesOf 14 = .ok (.iconst 0, 1) := by decide +kernel
theorem dX0_entriesOf_15 : decode cX0_entriesOf 15 = .ok (.istore 6, 2) := by decide +kernel
theorem dX0_entriesOf_17 : decode cX0_entriesOf 17 = .ok (.iconst 0, 1) := by decide +kernel
theorem dX0_entriesOf_18 : decode cX0_entriesOf 18 = .ok (.istore 7, 2) := by decide +kernel
theorem dX0_entriesOf_20 : decode cX0_entriesOf 20 = .ok (.iload 7, 2) := by decide +kernel
theorem dX0_entriesOf_22 : decode cX0_entriesOf 22 = .ok (.iload 5, 2) := by decide +kernel
theorem dX0_entriesOf_24 : decode cX0_entriesOf 24 = .ok (.if_icmp .ge 43, 3) := by decide +kernel
theorem dX0_entriesOf_27 : decode cX0_entriesOf 27 = .ok (.iload 6, 2) := by decide +kernel
theorem dX0_entriesOf_29 : decode cX0_entriesOf 29 = .ok (.iload_n 3, 1) := by decide +kernel
theorem dX0_entriesOf_30 : decode cX0_entriesOf 30 = .ok (.ifCond .eq 17, 3) := by decide +kernel
theorem dX0_entriesOf_33 : decode cX0_entriesOf 33 = .ok (.aload_n 0, 1) := by decide +kernel
theorem dX0_entriesOf_34 : decode cX0_entriesOf 34 = .ok (.iload 4, 2) := by decide +kernel
theorem dX0_entriesOf_36 : decode cX0_entriesOf 36 = .ok (.iload 5, 2) := by decide +kernel
theorem dX0_entriesOf_38 : decode cX0_entriesOf 38 = .ok (.iload 7, 2) := by decide +kernel
theorem dX0_entriesOf_40 : decode cX0_entriesOf 40 = .ok (.iload_n 2, 1) := by decide +kernel
theorem dX0_entriesOf_41 : decode cX0_entriesOf 41 = .ok (.invokevirtual 189, 3) := by decide +kernel
theorem dX0_entriesOf_44 : decode cX0_entriesOf 44 = .ok (.goto 14, 3) := by decide +kernel
theorem dX0_entriesOf_47 : decode cX0_entriesOf 47 = .ok (.aload_n 0, 1) := by decide +kernel
theorem dX0_entriesOf_48 : decode cX0_entriesOf 48 = .ok (.iload 4, 2) := by decide +kernel
theorem dX0_entriesOf_50 : decode cX0_entriesOf 50 = .ok (.iload 5, 2) := by decide +kernel
theorem dX0_entriesOf_52 : decode cX0_entriesOf 52 = .ok (.iload_n 2, 1) := by decide +kernel
theorem dX0_entriesOf_53 : decode cX0_entriesOf 53 = .ok (.iload 7, 2) := by decide +kernel
theorem dX0_entriesOf_55 : decode cX0_entriesOf 55 = .ok (.invokevirtual 189, 3) := by decide +kernel
theorem dX0_entriesOf_58 : decode cX0_entriesOf 58 = .ok (.iadd, 1) := by decide +kernel
theorem dX0_entriesOf_59 : decode cX0_entriesOf 59 = .ok (.istore 6, 2) := by decide +kernel
theorem dX0_entriesOf_61 : decode cX0_entriesOf 61 = .ok (.iinc 7 1, 3) := by decide +kernel
theorem dX0_entriesOf_64 : decode cX0_entriesOf 64 = .ok (.goto (-44), 3) := by decide +kernel
theorem dX0_entriesOf_67 : decode cX0_entriesOf 67 = .ok (.iload 6, 2) := by decide +kernel
theorem dX0_entriesOf_69 : decode cX0_entriesOf 69 = .ok (.ireturn, 1) := by decide +kernel
theorem dX0_logSize_0 : decode cX0_logSize 0 = .ok (.iconst 0, 1) := by decide +kernel
theorem dX0_logSize_1 : decode cX0_logSize 1 = .ok (.istore_n 2, 1) := by decide +kernel
theorem dX0_logSize_2 : decode cX0_logSize 2 = .ok (.iconst 0, 1) := by decide +kernel
theorem dX0_logSize_3 : decode cX0_logSize 3 = .ok (.istore_n 3, 1) := by decide +kernel
theorem dX0_logSize_4 : decode cX0_logSize 4 = .ok (.iload_n 3, 1) := by decide +kernel
theorem dX0_logSize_5 : decode cX0_logSize 5 = .ok (.aload_n 0, 1) := by decide +kernel
theorem dX0_logSize_6 : decode cX0_logSize 6 = .ok (.iload_n 1, 1) := by decide +kernel
theorem dX0_logSize_7 : decode cX0_logSize 7 = .ok (.invokevirtual 108, 3) := by decide +kernel
theorem dX0_logSize_10 : decode cX0_logSize 10 = .ok (.if_icmp .ge 19, 3) := by decide +kernel
theorem dX0_logSize_13 : decode cX0_logSize 13 = .ok (.iload_n 2, 1) := by decide +kernel
theorem dX0_logSize_14 : decode cX0_logSize 14 = .ok (.aload_n 0, 1) := by decide +kernel
theorem dX0_logSize_15 : decode cX0_logSize 15 = .ok (.iload_n 1, 1) := by decide +kernel
theorem dX0_logSize_16 : decode cX0_logSize 16 = .ok (.iload_n 3, 1) := by decide +kernel
theorem dX0_logSize_17 : decode cX0_logSize 17 = .ok (.iconst 1, 1) := by decide +kernel
theorem dX0_logSize_18 : decode cX0_logSize 18 = .ok (.invokevirtual 193, 3) := by decide +kernel
theorem dX0_logSize_21 : decode cX0_logSize 21 = .ok (.iadd, 1) := by decide +kernel
theorem dX0_logSize_22 : decode cX0_logSize 22 = .ok (.istore_n 2, 1) := by decide +kernel
theorem dX0_logSize_23 : decode cX0_logSize 23 = .ok (.iinc 3 1, 3) := by decide +kernel
theorem dX0_logSize_26 : decode cX0_logSize 26 = .ok (.goto (-22), 3) := by decide +kernel
theorem dX0_logSize_29 : decode cX0_logSize 29 = .ok (.iload_n 2, 1) := by decide +kernel
theorem dX0_logSize_30 : decode cX0_logSize 30 = .ok (.ireturn, 1) := by decide +kernel
theorem dX0_unlikeEntries_0 : decode cX0_unlikeEntries 0 = .ok (.aload_n 0, 1) := by decide +kernel
theorem dX0_unlikeEntries_1 : decode cX0_unlikeEntries 1 = .ok (.iload_n 1, 1) := by decide +kernel
theorem dX0_unlikeEntries_2 : decode cX0_unlikeEntries 2 = .ok (.invokevirtual 171, 3) := by decide +kernel
theorem dX0_unlikeEntries_5 : decode cX0_unlikeEntries 5 = .ok (.istore_n 2, 1) := by decide +kernel
theorem dX0_unlikeEntries_6 : decode cX0_unlikeEntries 6 = .ok (.aload_n 0, 1) := by decide +kernel
theorem dX0_unlikeEntries_7 : decode cX0_unlikeEntries 7 = .ok (.iload_n 1, 1) := by decide +kernel
theorem dX0_unlikeEntries_8 : decode cX0_unlikeEntries 8 = .ok (.invokevirtual 108, 3) := by decide +kernel
theorem dX0_unlikeEntries_11 : decode cX0_unlikeEntries 11 = .ok (.istore_n 3, 1) := by decide +kernel
theorem dX0_unlikeEntries_12 : decode cX0_unlikeEntries 12 = .ok (.iconst 0, 1) := by decide +kernel
theorem dX0_unlikeEntries_13 : decode cX0_unlikeEntries 13 = .ok (.istore 4, 2) := by decide +kernel
theorem dX0_unlikeEntries_15 : decode cX0_unlikeEntries 15 = .ok (.iconst 0, 1) := by decide +kernel
theorem dX0_unlikeEntries_16 : decode cX0_unlikeEntries 16 = .ok (.istore 5, 2) := by decide +kernel
theorem dX0_unlikeEntries_18 : decode cX0_unlikeEntries 18 = .ok (.iload 5, 2) := by decide +kernel
theorem dX0_unlikeEntries_20 : decode cX0_unlikeEntries 20 = .ok (.iload_n 3, 1) := by decide +kernel
theorem dX0_unlikeEntries_21 : decode cX0_unlikeEntries 21 = .ok (.if_icmp .ge 40, 3) := by decide +kernel
theorem dX0_unlikeEntries_24 : decode cX0_unlikeEntries 24 = .ok (.iconst 0, 1) := by decide +kernel
theorem dX0_unlikeEntries_25 : decode cX0_unlikeEntries 25 = .ok (.istore 6, 2) := by decide +kernel
theorem dX0_unlikeEntries_27 : decode cX0_unlikeEntries 27 = .ok (.iload 6, 2) := by decide +kernel
theorem dX0_unlikeEntries_29 : decode cX0_unlikeEntries 29 = .ok (.iload_n 3, 1) := by decide +kernel
theorem dX0_unlikeEntries_30 : decode cX0_unlikeEntries 30 = .ok (.if_icmp .ge 25, 3) := by decide +kernel
theorem dX0_unlikeEntries_33 : decode cX0_unlikeEntries 33 = .ok (.aload_n 0, 1) := by decide +kernel
theorem dX0_unlikeEntries_34 : decode cX0_unlikeEntries 34 = .ok (.iload_n 2, 1) := by decide +kernel
theorem dX0_unlikeEntries_35 : decode cX0_unlikeEntries 35 = .ok (.iload_n 3, 1) := by decide +kernel
theorem dX0_unlikeEntries_36 : decode cX0_unlikeEntries 36 = .ok (.iload 5, 2) := by decide +kernel
theorem dX0_unlikeEntries_38 : decode cX0_unlikeEntries 38 = .ok (.iload 6, 2) := by decide +kernel
theorem dX0_unlikeEntries_40 : decode cX0_unlikeEntries 40 = .ok (.invokevirtual 189, 3) := by decide +kernel
theorem dX0_unlikeEntries_43 : decode cX0_unlikeEntries 43 = .ok (.ifCond .le 6, 3) := by decide +kernel
theorem dX0_unlikeEntries_46 : decode cX0_unlikeEntries 46 = .ok (.iinc 4 1, 3) := by decide +kernel
theorem dX0_unlikeEntries_49 : decode cX0_unlikeEntries 49 = .ok (.iinc 6 1, 3) := by decide +kernel
theorem dX0_unlikeEntries_52 : decode cX0_unlikeEntries 52 = .ok (.goto (-25), 3) := by decide +kernel
theorem dX0_unlikeEntries_55 : decode cX0_unlikeEntries 55 = .ok (.iinc 5 1, 3) := by decide +kernel
theorem dX0_unlikeEntries_58 : decode cX0_unlikeEntries 58 = .ok (.goto (-40), 3) := by decide +kernel
theorem dX0_unlikeEntries_61 : decode cX0_unlikeEntries 61 = .ok (.iload 4, 2) := by decide +kernel
theorem dX0_unlikeEntries_63 : decode cX0_unlikeEntries 63 = .ok (.ireturn, 1) := by decide +kernel
theorem dX0_journeyChange_0 : decode cX0_journeyChange 0 = .ok (.aload_n 0, 1) := by decide +kernel
theorem dX0_journeyChange_1 : decode cX0_journeyChange 1 = .ok (.iload_n 1, 1) := by decide +kernel
theorem dX0_journeyChange_2 : decode cX0_journeyChange 2 = .ok (.invokevirtual 171, 3) := by decide +kernel
theorem dX0_journeyChange_5 : decode cX0_journeyChange 5 = .ok (.istore 4, 2) := by decide +kernel
theorem dX0_journeyChange_7 : decode cX0_journeyChange 7 = .ok (.aload_n 0, 1) := by decide +kernel
theorem dX0_journeyChange_8 : decode cX0_journeyChange 8 = .ok (.iload_n 1, 1) := by decide +kernel
theorem dX0_journeyChange_9 : decode cX0_journeyChange 9 = .ok (.invokevirtual 108, 3) := by decide +kernel
theorem dX0_journeyChange_12 : decode cX0_journeyChange 12 = .ok (.istore 5, 2) := by decide +kernel
theorem dX0_journeyChange_14 : decode cX0_journeyChange 14 = .ok (.aload_n 0, 1) := by decide +kernel
theorem dX0_journeyChange_15 : decode cX0_journeyChange 15 = .ok (.iload 4, 2) := by decide +kernel
theorem dX0_journeyChange_17 : decode cX0_journeyChange 17 = .ok (.iload 5, 2) := by decide +kernel
theorem dX0_journeyChange_19 : decode cX0_journeyChange 19 = .ok (.iload_n 2, 1) := by decide +kernel
theorem dX0_journeyChange_20 : decode cX0_journeyChange 20 = .ok (.iload_n 3, 1) := by decide +kernel
theorem dX0_journeyChange_21 : decode cX0_journeyChange 21 = .ok (.invokevirtual 189, 3) := by decide +kernel
theorem dX0_journeyChange_24 : decode cX0_journeyChange 24 = .ok (.aload_n 0, 1) := by decide +kernel
theorem dX0_journeyChange_25 : decode cX0_journeyChange 25 = .ok (.iload 4, 2) := by decide +kernel
theorem dX0_journeyChange_27 : decode cX0_journeyChange 27 = .ok (.iload 5, 2) := by decide +kernel
theorem dX0_journeyChange_29 : decode cX0_journeyChange 29 = .ok (.iload_n 3, 1) := by decide +kernel
theorem dX0_journeyChange_30 : decode cX0_journeyChange 30 = .ok (.iload_n 2, 1) := by decide +kernel
theorem dX0_journeyChange_31 : decode cX0_journeyChange 31 = .ok (.invokevirtual 189, 3) := by decide +kernel
theorem dX0_journeyChange_34 : decode cX0_journeyChange 34 = .ok (.isub, 1) := by decide +kernel
theorem dX0_journeyChange_35 : decode cX0_journeyChange 35 = .ok (.istore 6, 2) := by decide +kernel
theorem dX0_journeyChange_37 : decode cX0_journeyChange 37 = .ok (.iload 6, 2) := by decide +kernel
theorem dX0_journeyChange_39 : decode cX0_journeyChange 39 = .ok (.iload_n 3, 1) := by decide +kernel
theorem dX0_journeyChange_40 : decode cX0_journeyChange 40 = .ok (.iload_n 2, 1) := by decide +kernel
theorem dX0_journeyChange_41 : decode cX0_journeyChange 41 = .ok (.iload 5, 2) := by decide +kernel
theorem dX0_journeyChange_43 : decode cX0_journeyChange 43 = .ok (.invokestatic 154, 3) := by decide +kernel
theorem dX0_journeyChange_46 : decode cX0_journeyChange 46 = .ok (.iload_n 2, 1) := by decide +kernel
theorem dX0_journeyChange_47 : decode cX0_journeyChange 47 = .ok (.iload_n 3, 1) := by decide +kernel
theorem dX0_journeyChange_48 : decode cX0_journeyChange 48 = .ok (.iload 5, 2) := by decide +kernel
theorem dX0_journeyChange_50 : decode cX0_journeyChange 50 = .ok (.invokestatic 154, 3) := by decide +kernel
theorem dX0_journeyChange_53 : decode cX0_journeyChange 53 = .ok (.isub, 1) := by decide +kernel
theorem dX0_journeyChange_54 : decode cX0_journeyChange 54 = .ok (.imul, 1) := by decide +kernel
theorem dX0_journeyChange_55 : decode cX0_journeyChange 55 = .ok (.istore 7, 2) := by decide +kernel
theorem dX0_journeyChange_57 : decode cX0_journeyChange 57 = .ok (.iconst 0, 1) := by decide +kernel
theorem dX0_journeyChange_58 : decode cX0_journeyChange 58 = .ok (.istore 8, 2) := by decide +kernel
theorem dX0_journeyChange_60 : decode cX0_journeyChange 60 = .ok (.iload 8, 2) := by decide +kernel
theorem dX0_journeyChange_62 : decode cX0_journeyChange 62 = .ok (.iload 5, 2) := by decide +kernel
theorem dX0_journeyChange_64 : decode cX0_journeyChange 64 = .ok (.if_icmp .ge 121, 3) := by decide +kernel
theorem dX0_journeyChange_67 : decode cX0_journeyChange 67 = .ok (.iload 8, 2) := by decide +kernel
theorem dX0_journeyChange_69 : decode cX0_journeyChange 69 = .ok (.iload_n 2, 1) := by decide +kernel
theorem dX0_journeyChange_70 : decode cX0_journeyChange 70 = .ok (.if_icmp .eq 109, 3) := by decide +kernel
theorem dX0_journeyChange_73 : decode cX0_journeyChange 73 = .ok (.iload 8, 2) := by decide +kernel
theorem dX0_journeyChange_75 : decode cX0_journeyChange 75 = .ok (.iload_n 3, 1) := by decide +kernel
theorem dX0_journeyChange_76 : decode cX0_journeyChange 76 = .ok (.if_icmp .eq 103, 3) := by decide +kernel
theorem dX0_journeyChange_79 : decode cX0_journeyChange 79 = .ok (.aload_n 0, 1) := by decide +kernel
theorem dX0_journeyChange_80 : decode cX0_journeyChange 80 = .ok (.iload 4, 2) := by decide +kernel
theorem dX0_journeyChange_82 : decode cX0_journeyChange 82 = .ok (.iload 5, 2) := by decide +kernel
theorem dX0_journeyChange_84 : decode cX0_journeyChange 84 = .ok (.iload_n 2, 1) := by decide +kernel
theorem dX0_journeyChange_85 : decode cX0_journeyChange 85 = .ok (.iload 8, 2) := by decide +kernel
theorem dX0_journeyChange_87 : decode cX0_journeyChange 87 = .ok (.invokevirtual 189, 3) := by decide +kernel
theorem dX0_journeyChange_90 : decode cX0_journeyChange 90 = .ok (.aload_n 0, 1) := by decide +kernel
theorem dX0_journeyChange_91 : decode cX0_journeyChange 91 = .ok (.iload 4, 2) := by decide +kernel
theorem dX0_journeyChange_93 : decode cX0_journeyChange 93 = .ok (.iload 5, 2) := by decide +kernel
theorem dX0_journeyChange_95 : decode cX0_journeyChange 95 = .ok (.iload_n 3, 1) := by decide +kernel
theorem dX0_journeyChange_96 : decode cX0_journeyChange 96 = .ok (.iload 8, 2) := by decide +kernel
theorem dX0_journeyChange_98 : decode cX0_journeyChange 98 = .ok (.invokevirtual 189, 3) := by decide +kernel
theorem dX0_journeyChange_101 : decode cX0_journeyChange 101 = .ok (.isub, 1) := by decide +kernel
theorem dX0_journeyChange_102 : decode cX0_journeyChange 102 = .ok (.istore 9, 2) := by decide +kernel
theorem dX0_journeyChange_104 : decode cX0_journeyChange 104 = .ok (.aload_n 0, 1) := by decide +kernel
theorem dX0_journeyChange_105 : decode cX0_journeyChange 105 = .ok (.iload 4, 2) := by decide +kernel
theorem dX0_journeyChange_107 : decode cX0_journeyChange 107 = .ok (.iload 5, 2) := by decide +kernel
theorem dX0_journeyChange_109 : decode cX0_journeyChange 109 = .ok (.iload 8, 2) := by decide +kernel
theorem dX0_journeyChange_111 : decode cX0_journeyChange 111 = .ok (.iload_n 2, 1) := by decide +kernel
theorem dX0_journeyChange_112 : decode cX0_journeyChange 112 = .ok (.invokevirtual 189, 3) := by decide +kernel
theorem dX0_journeyChange_115 : decode cX0_journeyChange 115 = .ok (.aload_n 0, 1) := by decide +kernel
theorem dX0_journeyChange_116 : decode cX0_journeyChange 116 = .ok (.iload 4, 2) := by decide +kernel
theorem dX0_journeyChange_118 : decode cX0_journeyChange 118 = .ok (.iload 5, 2) := by decide +kernel
theorem dX0_journeyChange_120 : decode cX0_journeyChange 120 = .ok (.iload 8, 2) := by decide +kernel
theorem dX0_journeyChange_122 : decode cX0_journeyChange 122 = .ok (.iload_n 3, 1) := by decide +kernel
theorem dX0_journeyChange_123 : decode cX0_journeyChange 123 = .ok (.invokevirtual 189, 3) := by decide +kernel
theorem dX0_journeyChange_126 : decode cX0_journeyChange 126 = .ok (.isub, 1) := by decide +kernel
theorem dX0_journeyChange_127 : decode cX0_journeyChange 127 = .ok (.istore 10, 2) := by decide +kernel
theorem dX0_journeyChange_129 : decode cX0_journeyChange 129 = .ok (.iload 7, 2) := by decide +kernel
theorem dX0_journeyChange_131 : decode cX0_journeyChange 131 = .ok (.iload 9, 2) := by decide +kernel
theorem dX0_journeyChange_133 : decode cX0_journeyChange 133 = .ok (.iload_n 3, 1) := by decide +kernel
theorem dX0_journeyChange_134 : decode cX0_journeyChange 134 = .ok (.iload 8, 2) := by decide +kernel
theorem dX0_journeyChange_136 : decode cX0_journeyChange 136 = .ok (.iload 5, 2) := by decide +kernel
theorem dX0_journeyChange_138 : decode cX0_journeyChange 138 = .ok (.invokestatic 154, 3) := by decide +kernel
theorem dX0_journeyChange_141 : decode cX0_journeyChange 141 = .ok (.iload_n 2, 1) := by decide +kernel
theorem dX0_journeyChange_142 : decode cX0_journeyChange 142 = .ok (.iload 8, 2) := by decide +kernel
theorem dX0_journeyChange_144 : decode cX0_journeyChange 144 = .ok (.iload 5, 2) := by decide +kernel
theorem dX0_journeyChange_146 : decode cX0_journeyChange 146 = .ok (.invokestatic 154, 3) := by decide +kernel
theorem dX0_journeyChange_149 : decode cX0_journeyChange 149 = .ok (.isub, 1) := by decide +kernel
theorem dX0_journeyChange_150 : decode cX0_journeyChange 150 = .ok (.imul, 1) := by decide +kernel
theorem dX0_journeyChange_151 : decode cX0_journeyChange 151 = .ok (.iadd, 1) := by decide +kernel
theorem dX0_journeyChange_152 : decode cX0_journeyChange 152 = .ok (.istore 7, 2) := by decide +kernel
theorem dX0_journeyChange_154 : decode cX0_journeyChange 154 = .ok (.iload 7, 2) := by decide +kernel
theorem dX0_journeyChange_156 : decode cX0_journeyChange 156 = .ok (.iload 10, 2) := by decide +kernel
theorem dX0_journeyChange_158 : decode cX0_journeyChange 158 = .ok (.iload 8, 2) := by decide +kernel
theorem dX0_journeyChange_160 : decode cX0_journeyChange 160 = .ok (.iload_n 3, 1) := by decide +kernel
theorem dX0_journeyChange_161 : decode cX0_journeyChange 161 = .ok (.iload 5, 2) := by decide +kernel
theorem dX0_journeyChange_163 : decode cX0_journeyChange 163 = .ok (.invokestatic 154, 3) := by decide +kernel
theorem dX0_journeyChange_166 : decode cX0_journeyChange 166 = .ok (.iload 8, 2) := by decide +kernel
theorem dX0_journeyChange_168 : decode cX0_journeyChange 168 = .ok (.iload_n 2, 1) := by decide +kernel
theorem dX0_journeyChange_169 : decode cX0_journeyChange 169 = .ok (.iload 5, 2) := by decide +kernel
theorem dX0_journeyChange_171 : decode cX0_journeyChange 171 = .ok (.invokestatic 154, 3) := by decide +kernel
theorem dX0_journeyChange_174 : decode cX0_journeyChange 174 = .ok (.isub, 1) := by decide +kernel
theorem dX0_journeyChange_175 : decode cX0_journeyChange 175 = .ok (.imul, 1) := by decide +kernel
theorem dX0_journeyChange_176 : decode cX0_journeyChange 176 = .ok (.iadd, 1) := by decide +kernel
theorem dX0_journeyChange_177 : decode cX0_journeyChange 177 = .ok (.istore 7, 2) := by decide +kernel
theorem dX0_journeyChange_179 : decode cX0_journeyChange 179 = .ok (.iinc 8 1, 3) := by decide +kernel
theorem dX0_journeyChange_182 : decode cX0_journeyChange 182 = .ok (.goto (-122), 3) := by decide +kernel
theorem dX0_journeyChange_185 : decode cX0_journeyChange 185 = .ok (.iload 7, 2) := by decide +kernel
theorem dX0_journeyChange_187 : decode cX0_journeyChange 187 = .ok (.ireturn, 1) := by decide +kernel
theorem dX5_startReading_0 : decode cX5_startReading 0 = .ok (.aload_n 0, 1) := by decide +kernel
theorem dX5_startReading_1 : decode cX5_startReading 1 = .ok (.iconst 0, 1) := by decide +kernel
theorem dX5_startReading_2 : decode cX5_startReading 2 = .ok (.putfield 19, 3) := by decide +kernel
theorem dX5_startReading_5 : decode cX5_startReading 5 = .ok (.aload_n 0, 1) := by decide +kernel
theorem dX5_startReading_6 : decode cX5_startReading 6 = .ok (.iconst 0, 1) := by decide +kernel
theorem dX5_startReading_7 : decode cX5_startReading 7 = .ok (.putfield 22, 3) := by decide +kernel
theorem dX5_startReading_10 : decode cX5_startReading 10 = .ok (.aload_n 0, 1) := by decide +kernel
theorem dX5_startReading_11 : decode cX5_startReading 11 = .ok (.iconst 0, 1) := by decide +kernel
theorem dX5_startReading_12 : decode cX5_startReading 12 = .ok (.putfield 25, 3) := by decide +kernel
theorem dX5_startReading_15 : decode cX5_startReading 15 = .ok (.aload_n 0, 1) := by decide +kernel
theorem dX5_startReading_16 : decode cX5_startReading 16 = .ok (.iconst 0, 1) := by decide +kernel
theorem dX5_startReading_17 : decode cX5_startReading 17 = .ok (.putfield 28, 3) := by decide +kernel
theorem dX5_startReading_20 : decode cX5_startReading 20 = .ok (.aload_n 0, 1) := by decide +kernel
theorem dX5_startReading_21 : decode cX5_startReading 21 = .ok (.iconst 0, 1) := by decide +kernel
theorem dX5_startReading_22 : decode cX5_startReading 22 = .ok (.putfield 31, 3) := by decide +kernel
theorem dX5_startReading_25 : decode cX5_startReading 25 = .ok (.return_, 1) := by decide +kernel
theorem dX5_peek_0 : decode cX5_peek 0 = .ok (.aload_n 0, 1) := by decide +kernel
theorem dX5_peek_1 : decode cX5_peek 1 = .ok (.getfield 19, 3) := by decide +kernel
theorem dX5_peek_4 : decode cX5_peek 4 = .ok (.aload_n 0, 1) := by decide +kernel
theorem dX5_peek_5 : decode cX5_peek 5 = .ok (.getfield 15, 3) := by decide +kernel
theorem dX5_peek_8 : decode cX5_peek 8 = .ok (.if_icmp .ge 30, 3) := by decide +kernel
theorem dX5_peek_11 : decode cX5_peek 11 = .ok (.aload_n 0, 1) := by decide +kernel
theorem dX5_peek_12 : decode cX5_peek 12 = .ok (.getfield 9, 3) := by decide +kernel
theorem dX5_peek_15 : decode cX5_peek 15 = .ok (.aload_n 0, 1) := by decide +kernel
theorem dX5_peek_16 : decode cX5_peek 16 = .ok (.getfield 19, 3) := by decide +kernel
theorem dX5_peek_19 : decode cX5_peek 19 = .ok (.iaload, 1) := by decide +kernel
theorem dX5_peek_20 : decode cX5_peek 20 = .ok (.bipush 32, 2) := by decide +kernel
theorem dX5_peek_22 : decode cX5_peek 22 = .ok (.if_icmp .ne 16, 3) := by decide +kernel
theorem dX5_peek_25 : decode cX5_peek 25 = .ok (.aload_n 0, 1) := by decide +kernel
theorem dX5_peek_26 : decode cX5_peek 26 = .ok (.dup, 1) := by decide +kernel
theorem dX5_peek_27 : decode cX5_peek 27 = .ok (.getfield 19, 3) := by decide +kernel
theorem dX5_peek_30 : decode cX5_peek 30 = .ok (.iconst 1, 1) := by decide +kernel
theorem dX5_peek_31 : decode cX5_peek 31 = .ok (.iadd, 1) := by decide +kernel
theorem dX5_peek_32 : decode cX5_peek 32 = .ok (.putfield 19, 3) := by decide +kernel
theorem dX5_peek_35 : decode cX5_peek 35 = .ok (.goto (-35), 3) := by decide +kernel
theorem dX5_peek_38 : decode cX5_peek 38 = .ok (.aload_n 0, 1) := by decide +kernel
theorem dX5_peek_39 : decode cX5_peek 39 = .ok (.getfield 19, 3) := by decide +kernel
theorem dX5_peek_42 : decode cX5_peek 42 = .ok (.aload_n 0, 1) := by decide +kernel
theorem dX5_peek_43 : decode cX5_peek 43 = .ok (.getfield 15, 3) := by decide +kernel
theorem dX5_peek_46 : decode cX5_peek 46 = .ok (.if_icmp .ge 15, 3) := by decide +kernel
theorem dX5_peek_49 : decode cX5_peek 49 = .ok (.aload_n 0, 1) := by decide +kernel
theorem dX5_peek_50 : decode cX5_peek 50 = .ok (.getfield 9, 3) := by decide +kernel
theorem dX5_peek_53 : decode cX5_peek 53 = .ok (.aload_n 0, 1) := by decide +kernel
theorem dX5_peek_54 : decode cX5_peek 54 = .ok (.getfield 19, 3) := by decide +kernel
theorem dX5_peek_57 : decode cX5_peek 57 = .ok (.iaload, 1) := by decide +kernel
theorem dX5_peek_58 : decode cX5_peek 58 = .ok (.goto 4, 3) := by decide +kernel
theorem dX5_peek_61 : decode cX5_peek 61 = .ok (.iconst (-1), 1) := by decide +kernel
theorem dX5_peek_62 : decode cX5_peek 62 = .ok (.ireturn, 1) := by decide +kernel
theorem dX5_isRead_0 : decode cX5_isRead 0 = .ok (.aload_n 1, 1) := by decide +kernel
theorem dX5_isRead_1 : decode cX5_isRead 1 = .ok (.invokevirtual 80, 3) := by decide +kernel
theorem dX5_isRead_4 : decode cX5_isRead 4 = .ok (.aload_n 0, 1) := by decide +kernel
theorem dX5_isRead_5 : decode cX5_isRead 5 = .ok (.getfield 19, 3) := by decide +kernel
theorem dX5_isRead_8 : decode cX5_isRead 8 = .ok (.aload_n 0, 1) := by decide +kernel
theorem dX5_isRead_9 : decode cX5_isRead 9 = .ok (.getfield 22, 3) := by decide +kernel
theorem dX5_isRead_12 : decode cX5_isRead 12 = .ok (.isub, 1) := by decide +kernel
theorem dX5_isRead_13 : decode cX5_isRead 13 = .ok (.if_icmp .eq 5, 3) := by decide +kernel
theorem dX5_isRead_16 : decode cX5_isRead 16 = .ok (.iconst 0, 1) := by decide +kernel
theorem dX5_isRead_17 : decode cX5_isRead 17 = .ok (.ireturn, 1) := by decide +kernel
theorem dX5_isRead_18 : decode cX5_isRead 18 = .ok (.iconst 0, 1) := by decide +kernel
theorem dX5_isRead_19 : decode cX5_isRead 19 = .ok (.istore_n 2, 1) := by decide +kernel
theorem dX5_isRead_20 : decode cX5_isRead 20 = .ok (.iload_n 2, 1) := by decide +kernel
theorem dX5_isRead_21 : decode cX5_isRead 21 = .ok (.aload_n 1, 1) := by decide +kernel
theorem dX5_isRead_22 : decode cX5_isRead 22 = .ok (.invokevirtual 80, 3) := by decide +kernel
theorem dX5_isRead_25 : decode cX5_isRead 25 = .ok (.if_icmp .ge 30, 3) := by decide +kernel
theorem dX5_isRead_28 : decode cX5_isRead 28 = .ok (.aload_n 1, 1) := by decide +kernel
theorem dX5_isRead_29 : decode cX5_isRead 29 = .ok (.iload_n 2, 1) := by decide +kernel
theorem dX5_isRead_30 : decode cX5_isRead 30 = .ok (.invokevirtual 85, 3) := by decide +kernel
theorem dX5_isRead_33 : decode cX5_isRead 33 = .ok (.aload_n 0, 1) := by decide +kernel
theorem dX5_isRead_34 : decode cX5_isRead 34 = .ok (.getfield 9, 3) := by decide +kernel
theorem dX5_isRead_37 : decode cX5_isRead 37 = .ok (.aload_n 0, 1) := by decide +kernel
theorem dX5_isRead_38 : decode cX5_isRead 38 = .ok (.getfield 22, 3) := by decide +kernel
theorem dX5_isRead_41 : decode cX5_isRead 41 = .ok (.iload_n 2, 1) := by decide +kernel
theorem dX5_isRead_42 : decode cX5_isRead 42 = .ok (.iadd, 1) := by decide +kernel
theorem dX5_isRead_43 : decode cX5_isRead 43 = .ok (.iaload, 1) := by decide +kernel
theorem dX5_isRead_44 : decode cX5_isRead 44 = .ok (.if_icmp .eq 5, 3) := by decide +kernel
theorem dX5_isRead_47 : decode cX5_isRead 47 = .ok (.iconst 0, 1) := by decide +kernel
theorem dX5_isRead_48 : decode cX5_isRead 48 = .ok (.ireturn, 1) := by decide +kernel
theorem dX5_isRead_49 : decode cX5_isRead 49 = .ok (.iinc 2 1, 3) := by decide +kernel
theorem dX5_isRead_52 : decode cX5_isRead 52 = .ok (.goto (-32), 3) := by decide +kernel
theorem dX5_isRead_55 : decode cX5_isRead 55 = .ok (.iconst 1, 1) := by decide +kernel
theorem dX5_isRead_56 : decode cX5_isRead 56 = .ok (.ireturn, 1) := by decide +kernel
theorem dX5_wordRead_0 : decode cX5_wordRead 0 = .ok (.aload_n 0, 1) := by decide +kernel
theorem dX5_wordRead_1 : decode cX5_wordRead 1 = .ok (.ldc 52, 2) := by decide +kernel
theorem dX5_wordRead_3 : decode cX5_wordRead 3 = .ok (.invokevirtual 54, 3) := by decide +kernel
theorem dX5_wordRead_6 : decode cX5_wordRead 6 = .ok (.ifCond .eq 5, 3) := by decide +kernel
theorem dX5_wordRead_9 : decode cX5_wordRead 9 = .ok (.iconst 1, 1) := by decide +kernel
theorem dX5_wordRead_10 : decode cX5_wordRead 10 = .ok (.ireturn, 1) := by decide +kernel
theorem dX5_wordRead_11 : decode cX5_wordRead 11 = .ok (.aload_n 0, 1) := by decide +kernel
theorem dX5_wordRead_12 : decode cX5_wordRead 12 = .ok (.ldc 58, 2) := by decide +kernel
theorem dX5_wordRead_14 : decode cX5_wordRead 14 = .ok (.invokevirtual 54, 3) := by decide +kernel
theorem dX5_wordRead_17 : decode cX5_wordRead 17 = .ok (.ifCond .eq 5, 3) := by decide +kernel
theorem dX5_wordRead_20 : decode cX5_wordRead 20 = .ok (.iconst 2, 1) := by decide +kernel
theorem dX5_wordRead_21 : decode cX5_wordRead 21 = .ok (.ireturn, 1) := by decide +kernel
theorem dX5_wordRead_22 : decode cX5_wordRead 22 = .ok (.aload_n 0, 1) := by decide +kernel
theorem dX5_wordRead_23 : decode cX5_wordRead 23 = .ok (.ldc 60, 2) := by decide +kernel
theorem dX5_wordRead_25 : decode cX5_wordRead 25 = .ok (.invokevirtual 54, 3) := by decide +kernel
theorem dX5_wordRead_28 : decode cX5_wordRead 28 = .ok (.ifCond .eq 5, 3) := by decide +kernel
theorem dX5_wordRead_31 : decode cX5_wordRead 31 = .ok (.iconst 3, 1) := by decide +kernel
theorem dX5_wordRead_32 : decode cX5_wordRead 32 = .ok (.ireturn, 1) := by decide +kernel
theorem dX5_wordRead_33 : decode cX5_wordRead 33 = .ok (.aload_n 0, 1) := by decide +kernel
theorem dX5_wordRead_34 : decode cX5_wordRead 34 = .ok (.ldc 62, 2) := by decide +kernel
theorem dX5_wordRead_36 : decode cX5_wordRead 36 = .ok (.invokevirtual 54, 3) := by decide +kernel
theorem dX5_wordRead_39 : decode cX5_wordRead 39 = .ok (.ifCond .eq 5, 3) := by decide +kernel
theorem dX5_wordRead_42 : decode cX5_wordRead 42 = .ok (.iconst 4, 1) := by decide +kernel
theorem dX5_wordRead_43 : decode cX5_wordRead 43 = .ok (.ireturn, 1) := by decide +kernel
theorem dX5_wordRead_44 : decode cX5_wordRead 44 = .ok (.aload_n 0, 1) := by decide +kernel
theorem dX5_wordRead_45 : decode cX5_wordRead 45 = .ok (.ldc 64, 2) := by decide +kernel
theorem dX5_wordRead_47 : decode cX5_wordRead 47 = .ok (.invokevirtual 54, 3) := by decide +kernel
theorem dX5_wordRead_50 : decode cX5_wordRead 50 = .ok (.ifCond .eq 5, 3) := by decide +kernel
theorem dX5_wordRead_53 : decode cX5_wordRead 53 = .ok (.iconst 5, 1) := by decide +kernel
theorem dX5_wordRead_54 : decode cX5_wordRead 54 = .ok (.ireturn, 1) := by decide +kernel
theorem dX5_wordRead_55 : decode cX5_wordRead 55 = .ok (.aload_n 0, 1) := by decide +kernel
theorem dX5_wordRead_56 : decode cX5_wordRead 56 = .ok (.ldc 66, 2) := by decide +kernel
theorem dX5_wordRead_58 : decode cX5_wordRead 58 = .ok (.invokevirtual 54, 3) := by decide +kernel
theorem dX5_wordRead_61 : decode cX5_wordRead 61 = .ok (.ifCond .eq 6, 3) := by decide +kernel
theorem dX5_wordRead_64 : decode cX5_wordRead 64 = .ok (.bipush 6, 2) := by decide +kernel
theorem dX5_wordRead_66 : decode cX5_wordRead 66 = .ok (.ireturn, 1) := by decide +kernel
theorem dX5_wordRead_67 : decode cX5_wordRead 67 = .ok (.aload_n 0, 1) := by decide +kernel
theorem dX5_wordRead_68 : decode cX5_wordRead 68 = .ok (.ldc 68, 2) := by decide +kernel
theorem dX5_wordRead_70 : decode cX5_wordRead 70 = .ok (.invokevirtual 54, 3) := by decide +kernel
theorem dX5_wordRead_73 : decode cX5_wordRead 73 = .ok (.ifCond .eq 6, 3) := by decide +kernel
theorem dX5_wordRead_76 : decode cX5_wordRead 76 = .ok (.bipush 7, 2) := by decide +kernel
theorem dX5_wordRead_78 : decode cX5_wordRead 78 = .ok (.ireturn, 1) := by decide +kernel
theorem dX5_wordRead_79 : decode cX5_wordRead 79 = .ok (.aload_n 0, 1) := by decide +kernel
theorem dX5_wordRead_80 : decode cX5_wordRead 80 = .ok (.ldc 70, 2) := by decide +kernel
theorem dX5_wordRead_82 : decode cX5_wordRead 82 = .ok (.invokevirtual 54, 3) := by decide +kernel
theorem dX5_wordRead_85 : decode cX5_wordRead 85 = .ok (.ifCond .eq 6, 3) := by decide +kernel
theorem dX5_wordRead_88 : decode cX5_wordRead 88 = .ok (.bipush 8, 2) := by decide +kernel
theorem dX5_wordRead_90 : decode cX5_wordRead 90 = .ok (.ireturn, 1) := by decide +kernel
theorem dX5_wordRead_91 : decode cX5_wordRead 91 = .ok (.aload_n 0, 1) := by decide +kernel
theorem dX5_wordRead_92 : decode cX5_wordRead 92 = .ok (.ldc 72, 2) := by decide +kernel
theorem dX5_wordRead_94 : decode cX5_wordRead 94 = .ok (.invokevirtual 54, 3) := by decide +kernel
theorem dX5_wordRead_97 : decode cX5_wordRead 97 = .ok (.ifCond .eq 6, 3) := by decide +kernel
theorem dX5_wordRead_100 : decode cX5_wordRead 100 = .ok (.bipush 9, 2) := by decide +kernel
theorem dX5_wordRead_102 : decode cX5_wordRead 102 = .ok (.ireturn, 1) := by decide +kernel
theorem dX5_wordRead_103 : decode cX5_wordRead 103 = .ok (.aload_n 0, 1) := by decide +kernel
theorem dX5_wordRead_104 : decode cX5_wordRead 104 = .ok (.ldc 74, 2) := by decide +kernel
theorem dX5_wordRead_106 : decode cX5_wordRead 106 = .ok (.invokevirtual 54, 3) := by decide +kernel
theorem dX5_wordRead_109 : decode cX5_wordRead 109 = .ok (.ifCond .eq 6, 3) := by decide +kernel
theorem dX5_wordRead_112 : decode cX5_wordRead 112 = .ok (.bipush 10, 2) := by decide +kernel
theorem dX5_wordRead_114 : decode cX5_wordRead 114 = .ok (.ireturn, 1) := by decide +kernel
theorem dX5_wordRead_115 : decode cX5_wordRead 115 = .ok (.aload_n 0, 1) := by decide +kernel
theorem dX5_wordRead_116 : decode cX5_wordRead 116 = .ok (.ldc 76, 2) := by decide +kernel
theorem dX5_wordRead_118 : decode cX5_wordRead 118 = .ok (.invokevirtual 54, 3) := by decide +kernel
theorem dX5_wordRead_121 : decode cX5_wordRead 121 = .ok (.ifCond .eq 6, 3) := by decide +kernel
theorem dX5_wordRead_124 : decode cX5_wordRead 124 = .ok (.bipush 11, 2) := by decide +kernel
theorem dX5_wordRead_126 : decode cX5_wordRead 126 = .ok (.ireturn, 1) := by decide +kernel
theorem dX5_wordRead_127 : decode cX5_wordRead 127 = .ok (.aload_n 0, 1) := by decide +kernel
theorem dX5_wordRead_128 : decode cX5_wordRead 128 = .ok (.ldc 78, 2) := by decide +kernel
theorem dX5_wordRead_130 : decode cX5_wordRead 130 = .ok (.invokevirtual 54, 3) := by decide +kernel
theorem dX5_wordRead_133 : decode cX5_wordRead 133 = .ok (.ifCond .eq 6, 3) := by decide +kernel
theorem dX5_wordRead_136 : decode cX5_wordRead 136 = .ok (.bipush 12, 2) := by decide +kernel
theorem dX5_wordRead_138 : decode cX5_wordRead 138 = .ok (.ireturn, 1) := by decide +kernel
theorem dX5_wordRead_139 : decode cX5_wordRead 139 = .ok (.iconst 0, 1) := by decide +kernel
theorem dX5_wordRead_140 : decode cX5_wordRead 140 = .ok (.ireturn, 1) := by decide +kernel
theorem dX5_takeWord_0 : decode cX5_takeWord 0 = .ok (.aload_n 0, 1) := by decide +kernel
theorem dX5_takeWord_1 : decode cX5_takeWord 1 = .ok (.invokevirtual 34, 3) := by decide +kernel
theorem dX5_takeWord_4 : decode cX5_takeWord 4 = .ok (.pop, 1) := by decide +kernel
theorem dX5_takeWord_5 : decode cX5_takeWord 5 = .ok (.aload_n 0, 1) := by decide +kernel
theorem dX5_takeWord_6 : decode cX5_takeWord 6 = .ok (.aload_n 0, 1) := by decide +kernel
theorem dX5_takeWord_7 : decode cX5_takeWord 7 = .ok (.getfield 19, 3) := by decide +kernel
theorem dX5_takeWord_10 : decode cX5_takeWord 10 = .ok (.putfield 22, 3) := by decide +kernel
theorem dX5_takeWord_13 : decode cX5_takeWord 13 = .ok (.aload_n 0, 1) := by decide +kernel
theorem dX5_takeWord_14 : decode cX5_takeWord 14 = .ok (.getfield 19, 3) := by decide +kernel
theorem dX5_takeWord_17 : decode cX5_takeWord 17 = .ok (.aload_n 0, 1) := by decide +kernel
theorem dX5_takeWord_18 : decode cX5_takeWord 18 = .ok (.getfield 15, 3) := by decide +kernel
theorem dX5_takeWord_21 : decode cX5_takeWord 21 = .ok (.if_icmp .ge 42, 3) := by decide +kernel
theorem dX5_takeWord_24 : decode cX5_takeWord 24 = .ok (.aload_n 0, 1) := by decide +kernel
theorem dX5_takeWord_25 : decode cX5_takeWord 25 = .ok (.aload_n 0, 1) := by decide +kernel
theorem dX5_takeWord_26 : decode cX5_takeWord 26 = .ok (.getfield 19, 3) := by decide +kernel
theorem dX5_takeWord_29 : decode cX5_takeWord 29 = .ok (.invokevirtual 42, 3) := by decide +kernel
theorem dX5_takeWord_32 : decode cX5_takeWord 32 = .ok (.bipush 97, 2) := by decide +kernel
theorem dX5_takeWord_34 : decode cX5_takeWord 34 = .ok (.if_icmp .lt 29, 3) := by decide +kernel
theorem dX5_takeWord_37 : decode cX5_takeWord 37 = .ok (.aload_n 0, 1) := by decide +kernel
theorem dX5_takeWord_38 : decode cX5_takeWord 38 = .ok (.aload_n 0, 1) := by decide +kernel
theorem dX5_takeWord_39 : decode cX5_takeWord 39 = .ok (.getfield 19, 3) := by decide +kernel
theorem dX5_takeWord_42 : decode cX5_takeWord 42 = .ok (.invokevirtual 42, 3) := by decide +kernel
theorem dX5_takeWord_45 : decode cX5_takeWord 45 = .ok (.bipush 122, 2) := by decide +kernel
theorem dX5_takeWord_47 : decode cX5_takeWord 47 = .ok (.if_icmp .gt 16, 3) := by decide +kernel
theorem dX5_takeWord_50 : decode cX5_takeWord 50 = .ok (.aload_n 0, 1) := by decide +kernel
theorem dX5_takeWord_51 : decode cX5_takeWord 51 = .ok (.dup, 1) := by decide +kernel
theorem dX5_takeWord_52 : decode cX5_takeWord 52 = .ok (.getfield 19, 3) := by decide +kernel
theorem dX5_takeWord_55 : decode cX5_takeWord 55 = .ok (.iconst 1, 1) := by decide +kernel
theorem dX5_takeWord_56 : decode cX5_takeWord 56 = .ok (.iadd, 1) := by decide +kernel
theorem dX5_takeWord_57 : decode cX5_takeWord 57 = .ok (.putfield 19, 3) := by decide +kernel
theorem dX5_takeWord_60 : decode cX5_takeWord 60 = .ok (.goto (-47), 3) := by decide +kernel
theorem dX5_takeWord_63 : decode cX5_takeWord 63 = .ok (.aload_n 0, 1) := by decide +kernel
theorem dX5_takeWord_64 : decode cX5_takeWord 64 = .ok (.invokevirtual 46, 3) := by decide +kernel
theorem dX5_takeWord_67 : decode cX5_takeWord 67 = .ok (.ireturn, 1) := by decide +kernel
theorem dX5_blame_0 : decode cX5_blame 0 = .ok (.aload_n 0, 1) := by decide +kernel
theorem dX5_blame_1 : decode cX5_blame 1 = .ok (.getfield 31, 3) := by decide +kernel
theorem dX5_blame_4 : decode cX5_blame 4 = .ok (.ifCond .ne 13, 3) := by decide +kernel
theorem dX5_blame_7 : decode cX5_blame 7 = .ok (.aload_n 0, 1) := by decide +kernel
theorem dX5_blame_8 : decode cX5_blame 8 = .ok (.bipush 8, 2) := by decide +kernel
theorem dX5_blame_10 : decode cX5_blame 10 = .ok (.iload_n 1, 1) := by decide +kernel
theorem dX5_blame_11 : decode cX5_blame 11 = .ok (.imul, 1) := by decide +kernel
theorem dX5_blame_12 : decode cX5_blame 12 = .ok (.iload_n 2, 1) := by decide +kernel
theorem dX5_blame_13 : decode cX5_blame 13 = .ok (.iadd, 1) := by decide +kernel
theorem dX5_blame_14 : decode cX5_blame 14 = .ok (.putfield 31, 3) := by decide +kernel
theorem dX5_blame_17 : decode cX5_blame 17 = .ok (.return_, 1) := by decide +kernel
theorem dX5_takeThisWord_0 : decode cX5_takeThisWord 0 = .ok (.aload_n 0, 1) := by decide +kernel
theorem dX5_takeThisWord_1 : decode cX5_takeThisWord 1 = .ok (.invokevirtual 49, 3) := by decide +kernel
theorem dX5_takeThisWord_4 : decode cX5_takeThisWord 4 = .ok (.iload_n 1, 1) := by decide +kernel
theorem dX5_takeThisWord_5 : decode cX5_takeThisWord 5 = .ok (.if_icmp .eq 12, 3) := by decide +kernel
theorem dX5_takeThisWord_8 : decode cX5_takeThisWord 8 = .ok (.aload_n 0, 1) := by decide +kernel
theorem dX5_takeThisWord_9 : decode cX5_takeThisWord 9 = .ok (.aload_n 0, 1) := by decide +kernel
theorem dX5_takeThisWord_10 : decode cX5_takeThisWord 10 = .ok (.getfield 22, 3) := by decide +kernel
theorem dX5_takeThisWord_13 : decode cX5_takeThisWord 13 = .ok (.iconst 1, 1) := by decide +kernel
theorem dX5_takeThisWord_14 : decode cX5_takeThisWord 14 = .ok (.invokevirtual 38, 3) := by decide +kernel
theorem dX5_takeThisWord_17 : decode cX5_takeThisWord 17 = .ok (.return_, 1) := by decide +kernel
theorem dX5_takeNumber_0 : decode cX5_takeNumber 0 = .ok (.aload_n 0, 1) := by decide +kernel
theorem dX5_takeNumber_1 : decode cX5_takeNumber 1 = .ok (.invokevirtual 34, 3) := by decide +kernel
theorem dX5_takeNumber_4 : decode cX5_takeNumber 4 = .ok (.pop, 1) := by decide +kernel
theorem dX5_takeNumber_5 : decode cX5_takeNumber 5 = .ok (.aload_n 0, 1) := by decide +kernel
theorem dX5_takeNumber_6 : decode cX5_takeNumber 6 = .ok (.aload_n 0, 1) := by decide +kernel
theorem dX5_takeNumber_7 : decode cX5_takeNumber 7 = .ok (.getfield 19, 3) := by decide +kernel
theorem dX5_takeNumber_10 : decode cX5_takeNumber 10 = .ok (.putfield 22, 3) := by decide +kernel
theorem dX5_takeNumber_13 : decode cX5_takeNumber 13 = .ok (.iconst 0, 1) := by decide +kernel
theorem dX5_takeNumber_14 : decode cX5_takeNumber 14 = .ok (.istore_n 3, 1) := by decide +kernel
theorem dX5_takeNumber_15 : decode cX5_takeNumber 15 = .ok (.aload_n 0, 1) := by decide +kernel
theorem dX5_takeNumber_16 : decode cX5_takeNumber 16 = .ok (.getfield 19, 3) := by decide +kernel
theorem dX5_takeNumber_19 : decode cX5_takeNumber 19 = .ok (.aload_n 0, 1) := by decide +kernel
theorem dX5_takeNumber_20 : decode cX5_takeNumber 20 = .ok (.getfield 15, 3) := by decide +kernel
theorem dX5_takeNumber_23 : decode cX5_takeNumber 23 = .ok (.if_icmp .ge 65, 3) := by decide +kernel
theorem dX5_takeNumber_26 : decode cX5_takeNumber 26 = .ok (.aload_n 0, 1) := by decide +kernel
theorem dX5_takeNumber_27 : decode cX5_takeNumber 27 = .ok (.aload_n 0, 1) := by decide +kernel
theorem dX5_takeNumber_28 : decode cX5_takeNumber 28 = .ok (.getfield 19, 3) := by decide +kernel
theorem dX5_takeNumber_31 : decode cX5_takeNumber 31 = .ok (.invokevirtual 42, 3) := by decide +kernel
theorem dX5_takeNumber_34 : decode cX5_takeNumber 34 = .ok (.bipush 48, 2) := by decide +kernel
theorem dX5_takeNumber_36 : decode cX5_takeNumber 36 = .ok (.if_icmp .lt 52, 3) := by decide +kernel
theorem dX5_takeNumber_39 : decode cX5_takeNumber 39 = .ok (.aload_n 0, 1) := by decide +kernel
theorem dX5_takeNumber_40 : decode cX5_takeNumber 40 = .ok (.aload_n 0, 1) := by decide +kernel
theorem dX5_takeNumber_41 : decode cX5_takeNumber 41 = .ok (.getfield 19, 3) := by decide +kernel
theorem dX5_takeNumber_44 : decode cX5_takeNumber 44 = .ok (.invokevirtual 42, 3) := by decide +kernel
theorem dX5_takeNumber_47 : decode cX5_takeNumber 47 = .ok (.bipush 57, 2) := by decide +kernel
theorem dX5_takeNumber_49 : decode cX5_takeNumber 49 = .ok (.if_icmp .gt 39, 3) := by decide +kernel
theorem dX5_takeNumber_52 : decode cX5_takeNumber 52 = .ok (.sipush 1000, 3) := by decide +kernel
theorem dX5_takeNumber_55 : decode cX5_takeNumber 55 = .ok (.iload_n 3, 1) := by decide +kernel
theorem dX5_takeNumber_56 : decode cX5_takeNumber 56 = .ok (.bipush 10, 2) := by decide +kernel
theorem dX5_takeNumber_58 : decode cX5_takeNumber 58 = .ok (.imul, 1) := by decide +kernel
theorem dX5_takeNumber_59 : decode cX5_takeNumber 59 = .ok (.aload_n 0, 1) := by decide +kernel
theorem dX5_takeNumber_60 : decode cX5_takeNumber 60 = .ok (.aload_n 0, 1) := by decide +kernel
theorem dX5_takeNumber_61 : decode cX5_takeNumber 61 = .ok (.getfield 19, 3) := by decide +kernel
theorem dX5_takeNumber_64 : decode cX5_takeNumber 64 = .ok (.invokevirtual 42, 3) := by decide +kernel
theorem dX5_takeNumber_67 : decode cX5_takeNumber 67 = .ok (.iadd, 1) := by decide +kernel
theorem dX5_takeNumber_68 : decode cX5_takeNumber 68 = .ok (.bipush 48, 2) := by decide +kernel
theorem dX5_takeNumber_70 : decode cX5_takeNumber 70 = .ok (.isub, 1) := by decide +kernel
theorem dX5_takeNumber_71 : decode cX5_takeNumber 71 = .ok (.invokestatic 89, 3) := by decide +kernel
theorem dX5_takeNumber_74 : decode cX5_takeNumber 74 = .ok (.istore_n 3, 1) := by decide +kernel
theorem dX5_takeNumber_75 : decode cX5_takeNumber 75 = .ok (.aload_n 0, 1) := by decide +kernel
theorem dX5_takeNumber_76 : decode cX5_takeNumber 76 = .ok (.dup, 1) := by decide +kernel
theorem dX5_takeNumber_77 : decode cX5_takeNumber 77 = .ok (.getfield 19, 3) := by decide +kernel
theorem dX5_takeNumber_80 : decode cX5_takeNumber 80 = .ok (.iconst 1, 1) := by decide +kernel
theorem dX5_takeNumber_81 : decode cX5_takeNumber 81 = .ok (.iadd, 1) := by decide +kernel
theorem dX5_takeNumber_82 : decode cX5_takeNumber 82 = .ok (.putfield 19, 3) := by decide +kernel
theorem dX5_takeNumber_85 : decode cX5_takeNumber 85 = .ok (.goto (-70), 3) := by decide +kernel
theorem dX5_takeNumber_88 : decode cX5_takeNumber 88 = .ok (.aload_n 0, 1) := by decide +kernel
theorem dX5_takeNumber_89 : decode cX5_takeNumber 89 = .ok (.getfield 19, 3) := by decide +kernel
theorem dX5_takeNumber_92 : decode cX5_takeNumber 92 = .ok (.aload_n 0, 1) := by decide +kernel
theorem dX5_takeNumber_93 : decode cX5_takeNumber 93 = .ok (.getfield 22, 3) := by decide +kernel
theorem dX5_takeNumber_96 : decode cX5_takeNumber 96 = .ok (.if_icmp .ne 14, 3) := by decide +kernel
theorem dX5_takeNumber_99 : decode cX5_takeNumber 99 = .ok (.aload_n 0, 1) := by decide +kernel
theorem dX5_takeNumber_100 : decode cX5_takeNumber 100 = .ok (.aload_n 0, 1) := by decide +kernel
theorem dX5_takeNumber_101 : decode cX5_takeNumber 101 = .ok (.getfield 19, 3) := by decide +kernel
theorem dX5_takeNumber_104 : decode cX5_takeNumber 104 = .ok (.iconst 1, 1) := by decide +kernel
theorem dX5_takeNumber_105 : decode cX5_takeNumber 105 = .ok (.invokevirtual 38, 3) := by decide +kernel
theorem dX5_takeNumber_108 : decode cX5_takeNumber 108 = .ok (.iload_n 1, 1) := by decide +kernel
theorem dX5_takeNumber_109 : decode cX5_takeNumber 109 = .ok (.ireturn, 1) := by decide +kernel
theorem dX5_takeNumber_110 : decode cX5_takeNumber 110 = .ok (.iload_n 3, 1) := by decide +kernel
theorem dX5_takeNumber_111 : decode cX5_takeNumber 111 = .ok (.iload_n 1, 1) := by decide +kernel
theorem dX5_takeNumber_112 : decode cX5_takeNumber 112 = .ok (.if_icmp .lt 8, 3) := by decide +kernel
theorem dX5_takeNumber_115 : decode cX5_takeNumber 115 = .ok (.iload_n 3, 1) := by decide +kernel
theorem dX5_takeNumber_116 : decode cX5_takeNumber 116 = .ok (.iload_n 2, 1) := by decide +kernel
theorem dX5_takeNumber_117 : decode cX5_takeNumber 117 = .ok (.if_icmp .le 14, 3) := by decide +kernel
theorem dX5_takeNumber_120 : decode cX5_takeNumber 120 = .ok (.aload_n 0, 1) := by decide +kernel
theorem dX5_takeNumber_121 : decode cX5_takeNumber 121 = .ok (.aload_n 0, 1) := by decide +kernel
theorem dX5_takeNumber_122 : decode cX5_takeNumber 122 = .ok (.getfield 22, 3) := by decide +kernel
theorem dX5_takeNumber_125 : decode cX5_takeNumber 125 = .ok (.iconst 2, 1) := by decide +kernel
theorem dX5_takeNumber_126 : decode cX5_takeNumber 126 = .ok (.invokevirtual 38, 3) := by decide +kernel
theorem dX5_takeNumber_129 : decode cX5_takeNumber 129 = .ok (.iload_n 1, 1) := by decide +kernel
theorem dX5_takeNumber_130 : decode cX5_takeNumber 130 = .ok (.ireturn, 1) := by decide +kernel
theorem dX5_takeNumber_131 : decode cX5_takeNumber 131 = .ok (.iload_n 3, 1) := by decide +kernel
theorem dX5_takeNumber_132 : decode cX5_takeNumber 132 = .ok (.ireturn, 1) := by decide +kernel
theorem dX5_isSound_0 : decode cX5_isSound 0 = .ok (.aload_n 0, 1) := by decide +kernel
theorem dX5_isSound_1 : decode cX5_isSound 1 = .ok (.getfield 31, 3) := by decide +kernel
theorem dX5_isSound_4 : decode cX5_isSound 4 = .ok (.ifCond .ne 7, 3) := by decide +kernel
theorem dX5_isSound_7 : decode cX5_isSound 7 = .ok (.iconst 1, 1) := by decide +kernel
theorem dX5_isSound_8 : decode cX5_isSound 8 = .ok (.goto 4, 3) := by decide +kernel
theorem dX5_isSound_11 : decode cX5_isSound 11 = .ok (.iconst 0, 1) := by decide +kernel
theorem dX5_isSound_12 : decode cX5_isSound 12 = .ok (.ireturn, 1) := by decide +kernel
theorem dX1_readHead_0 : decode cX1_readHead 0 = .ok (.aload_n 1, 1) := by decide +kernel
theorem dX1_readHead_1 : decode cX1_readHead 1 = .ok (.iconst 1, 1) := by decide +kernel
theorem dX1_readHead_2 : decode cX1_readHead 2 = .ok (.invokevirtual 51, 3) := by decide +kernel
theorem dX1_readHead_5 : decode cX1_readHead 5 = .ok (.aload_n 1, 1) := by decide +kernel
theorem dX1_readHead_6 : decode cX1_readHead 6 = .ok (.iconst 1, 1) := by decide +kernel
theorem dX1_readHead_7 : decode cX1_readHead 7 = .ok (.bipush 6, 2) := by decide +kernel
theorem dX1_readHead_9 : decode cX1_readHead 9 = .ok (.invokevirtual 54, 3) := by decide +kernel
theorem dX1_readHead_12 : decode cX1_readHead 12 = .ok (.istore_n 2, 1) := by decide +kernel
theorem dX1_readHead_13 : decode cX1_readHead 13 = .ok (.iload_n 2, 1) := by decide +kernel
theorem dX1_readHead_14 : decode cX1_readHead 14 = .ok (.ifCond .le 10, 3) := by decide +kernel
theorem dX1_readHead_17 : decode cX1_readHead 17 = .ok (.bipush 40, 2) := by decide +kernel
theorem dX1_readHead_19 : decode cX1_readHead 19 = .ok (.iload_n 2, 1) := by decide +kernel
theorem dX1_readHead_20 : decode cX1_readHead 20 = .ok (.idiv, 1) := by decide +kernel
theorem dX1_readHead_21 : decode cX1_readHead 21 = .ok (.goto 4, 3) := by decide +kernel
theorem dX1_readHead_24 : decode cX1_readHead 24 = .ok (.iconst 0, 1) := by decide +kernel
theorem dX1_readHead_25 : decode cX1_readHead 25 = .ok (.istore_n 3, 1) := by decide +kernel
theorem dX1_readHead_26 : decode cX1_readHead 26 = .ok (.aload_n 1, 1) := by decide +kernel
theorem dX1_readHead_27 : decode cX1_readHead 27 = .ok (.iconst 1, 1) := by decide +kernel
theorem dX1_readHead_28 : decode cX1_readHead 28 = .ok (.bipush 10, 2) := by decide +kernel
theorem dX1_readHead_30 : decode cX1_readHead 30 = .ok (.iload_n 3, 1) := by decide +kernel
theorem dX1_readHead_31 : decode cX1_readHead 31 = .ok (.invokestatic 58, 3) := by decide +kernel
theorem dX1_readHead_34 : decode cX1_readHead 34 = .ok (.invokevirtual 54, 3) := by decide +kernel
theorem dX1_readHead_37 : decode cX1_readHead 37 = .ok (.istore 4, 2) := by decide +kernel
theorem dX1_readHead_39 : decode cX1_readHead 39 = .ok (.aload_n 1, 1) := by decide +kernel
theorem dX1_readHead_40 : decode cX1_readHead 40 = .ok (.iconst 2, 1) := by decide +kernel
theorem dX1_readHead_41 : decode cX1_readHead 41 = .ok (.invokevirtual 51, 3) := by decide +kernel
theorem dX1_readHead_44 : decode cX1_readHead 44 = .ok (.aload_n 1, 1) := by decide +kernel
theorem dX1_readHead_45 : decode cX1_readHead 45 = .ok (.iconst 1, 1) := by decide +kernel
theorem dX1_readHead_46 : decode cX1_readHead 46 = .ok (.bipush 99, 2) := by decide +kernel
theorem dX1_readHead_48 : decode cX1_readHead 48 = .ok (.invokevirtual 54, 3) := by decide +kernel
theorem dX1_readHead_51 : decode cX1_readHead 51 = .ok (.istore 5, 2) := by decide +kernel
theorem dX1_readHead_53 : decode cX1_readHead 53 = .ok (.aload_n 1, 1) := by decide +kernel
theorem dX1_readHead_54 : decode cX1_readHead 54 = .ok (.invokevirtual 25, 3) := by decide +kernel
theorem dX1_readHead_57 : decode cX1_readHead 57 = .ok (.ifCond .eq 20, 3) := by decide +kernel
theorem dX1_readHead_60 : decode cX1_readHead 60 = .ok (.aload_n 0, 1) := by decide +kernel
theorem dX1_readHead_61 : decode cX1_readHead 61 = .ok (.iload_n 2, 1) := by decide +kernel
theorem dX1_readHead_62 : decode cX1_readHead 62 = .ok (.putfield 63, 3) := by decide +kernel
theorem dX1_readHead_65 : decode cX1_readHead 65 = .ok (.aload_n 0, 1) := by decide +kernel
theorem dX1_readHead_66 : decode cX1_readHead 66 = .ok (.iload 4, 2) := by decide +kernel
theorem dX1_readHead_68 : decode cX1_readHead 68 = .ok (.putfield 66, 3) := by decide +kernel
theorem dX1_readHead_71 : decode cX1_readHead 71 = .ok (.aload_n 0, 1) := by decide +kernel
theorem dX1_readHead_72 : decode cX1_readHead 72 = .ok (.iload 5, 2) := by decide +kernel
theorem dX1_readHead_74 : decode cX1_readHead 74 = .ok (.putfield 69, 3) := by decide +kernel
theorem dX1_readHead_77 : decode cX1_readHead 77 = .ok (.return_, 1) := by decide +kernel
theorem dX5_takeByte_0 : decode cX5_takeByte 0 = .ok (.aload_n 0, 1) := by decide +kernel
theorem dX5_takeByte_1 : decode cX5_takeByte 1 = .ok (.invokevirtual 34, 3) := by decide +kernel
theorem dX5_takeByte_4 : decode cX5_takeByte 4 = .ok (.iload_n 1, 1) := by decide +kernel
theorem dX5_takeByte_5 : decode cX5_takeByte 5 = .ok (.if_icmp .ne 16, 3) := by decide +kernel
theorem dX5_takeByte_8 : decode cX5_takeByte 8 = .ok (.aload_n 0, 1) := by decide +kernel
theorem dX5_takeByte_9 : decode cX5_takeByte 9 = .ok (.dup, 1) := by decide +kernel
theorem dX5_takeByte_10 : decode cX5_takeByte 10 = .ok (.getfield 19, 3) := by decide +kernel
theorem dX5_takeByte_13 : decode cX5_takeByte 13 = .ok (.iconst 1, 1) := by decide +kernel
theorem dX5_takeByte_14 : decode cX5_takeByte 14 = .ok (.iadd, 1) := by decide +kernel
theorem dX5_takeByte_15 : decode cX5_takeByte 15 = .ok (.putfield 19, 3) := by decide +kernel
theorem dX5_takeByte_18 : decode cX5_takeByte 18 = .ok (.goto 12, 3) := by decide +kernel
theorem dX5_takeByte_21 : decode cX5_takeByte 21 = .ok (.aload_n 0, 1) := by decide +kernel
theorem dX5_takeByte_22 : decode cX5_takeByte 22 = .ok (.aload_n 0, 1) := by decide +kernel
theorem dX5_takeByte_23 : decode cX5_takeByte 23 = .ok (.getfield 19, 3) := by decide +kernel
theorem dX5_takeByte_26 : decode cX5_takeByte 26 = .ok (.iconst 1, 1) := by decide +kernel
theorem dX5_takeByte_27 : decode cX5_takeByte 27 = .ok (.invokevirtual 38, 3) := by decide +kernel
theorem dX5_takeByte_30 : decode cX5_takeByte 30 = .ok (.return_, 1) := by decide +kernel
theorem dX6_isSign_0 : decode cX6_isSign 0 = .ok (.iload_n 0, 1) := by decide +kernel
theorem dX6_isSign_1 : decode cX6_isSign 1 = .ok (.bipush 32, 2) := by decide +kernel
theorem dX6_isSign_3 : decode cX6_isSign 3 = .ok (.if_icmp .lt 19, 3) := by decide +kernel
theorem dX6_isSign_6 : decode cX6_isSign 6 = .ok (.iload_n 0, 1) := by decide +kernel
theorem dX6_isSign_7 : decode cX6_isSign 7 = .ok (.bipush 126, 2) := by decide +kernel
theorem dX6_isSign_9 : decode cX6_isSign 9 = .ok (.if_icmp .gt 13, 3) := by decide +kernel
theorem dX6_isSign_12 : decode cX6_isSign 12 = .ok (.iload_n 0, 1) := by decide +kernel
theorem dX6_isSign_13 : decode cX6_isSign 13 = .ok (.bipush 39, 2) := by decide +kernel

theorem dX6_isSign_15 : decode cX6_isSign 15 = .ok (.if_icmp .eq 7, 3) := by decide +kernel
theorem dX6_isSign_18 : decode cX6_isSign 18 = .ok (.iconst 1, 1) := by decide +kernel
theorem dX6_isSign_19 : decode cX6_isSign 19 = .ok (.goto 4, 3) := by decide +kernel
theorem dX6_isSign_22 : decode cX6_isSign 22 = .ok (.iconst 0, 1) := by decide +kernel
theorem dX6_isSign_23 : decode cX6_isSign 23 = .ok (.ireturn, 1) := by decide +kernel
theorem dX5_takeQuoted_0 : decode cX5_takeQuoted 0 = .ok (.aload_n 0, 1) := by decide +kernel
theorem dX5_takeQuoted_1 : decode cX5_takeQuoted 1 = .ok (.bipush 39, 2) := by decide +kernel
theorem dX5_takeQuoted_3 : decode cX5_takeQuoted 3 = .ok (.invokevirtual 95, 3) := by decide +kernel
theorem dX5_takeQuoted_6 : decode cX5_takeQuoted 6 = .ok (.aload_n 0, 1) := by decide +kernel
theorem dX5_takeQuoted_7 : decode cX5_takeQuoted 7 = .ok (.aload_n 0, 1) := by decide +kernel
theorem dX5_takeQuoted_8 : decode cX5_takeQuoted 8 = .ok (.getfield 19, 3) := by decide +kernel
theorem dX5_takeQuoted_11 : decode cX5_takeQuoted 11 = .ok (.putfield 25, 3) := by decide +kernel
theorem dX5_takeQuoted_14 : decode cX5_takeQuoted 14 = .ok (.aload_n 0, 1) := by decide +kernel
theorem dX5_takeQuoted_15 : decode cX5_takeQuoted 15 = .ok (.getfield 19, 3) := by decide +kernel
theorem dX5_takeQuoted_18 : decode cX5_takeQuoted 18 = .ok (.aload_n 0, 1) := by decide +kernel
theorem dX5_takeQuoted_19 : decode cX5_takeQuoted 19 = .ok (.getfield 15, 3) := by decide +kernel
theorem dX5_takeQuoted_22 : decode cX5_takeQuoted 22 = .ok (.if_icmp .ge 84, 3) := by decide +kernel
theorem dX5_takeQuoted_25 : decode cX5_takeQuoted 25 = .ok (.aload_n 0, 1) := by decide +kernel
theorem dX5_takeQuoted_26 : decode cX5_takeQuoted 26 = .ok (.invokevirtual 99, 3) := by decide +kernel
theorem dX5_takeQuoted_29 : decode cX5_takeQuoted 29 = .ok (.ifCond .eq 77, 3) := by decide +kernel
theorem dX5_takeQuoted_32 : decode cX5_takeQuoted 32 = .ok (.aload_n 0, 1) := by decide +kernel
theorem dX5_takeQuoted_33 : decode cX5_takeQuoted 33 = .ok (.aload_n 0, 1) := by decide +kernel
theorem dX5_takeQuoted_34 : decode cX5_takeQuoted 34 = .ok (.getfield 19, 3) := by decide +kernel
theorem dX5_takeQuoted_37 : decode cX5_takeQuoted 37 = .ok (.invokevirtual 42, 3) := by decide +kernel
theorem dX5_takeQuoted_40 : decode cX5_takeQuoted 40 = .ok (.bipush 39, 2) := by decide +kernel
theorem dX5_takeQuoted_42 : decode cX5_takeQuoted 42 = .ok (.if_icmp .eq 64, 3) := by decide +kernel
theorem dX5_takeQuoted_45 : decode cX5_takeQuoted 45 = .ok (.aload_n 0, 1) := by decide +kernel
theorem dX5_takeQuoted_46 : decode cX5_takeQuoted 46 = .ok (.aload_n 0, 1) := by decide +kernel
theorem dX5_takeQuoted_47 : decode cX5_takeQuoted 47 = .ok (.getfield 19, 3) := by decide +kernel
theorem dX5_takeQuoted_50 : decode cX5_takeQuoted 50 = .ok (.invokevirtual 42, 3) := by decide +kernel
theorem dX5_takeQuoted_53 : decode cX5_takeQuoted 53 = .ok (.invokestatic 103, 3) := by decide +kernel
theorem dX5_takeQuoted_56 : decode cX5_takeQuoted 56 = .ok (.ifCond .ne 15, 3) := by decide +kernel
theorem dX5_takeQuoted_59 : decode cX5_takeQuoted 59 = .ok (.aload_n 0, 1) := by decide +kernel
theorem dX5_takeQuoted_60 : decode cX5_takeQuoted 60 = .ok (.aload_n 0, 1) := by decide +kernel
theorem dX5_takeQuoted_61 : decode cX5_takeQuoted 61 = .ok (.getfield 19, 3) := by decide +kernel
theorem dX5_takeQuoted_64 : decode cX5_takeQuoted 64 = .ok (.iconst 1, 1) := by decide +kernel
theorem dX5_takeQuoted_65 : decode cX5_takeQuoted 65 = .ok (.invokevirtual 38, 3) := by decide +kernel
theorem dX5_takeQuoted_68 : decode cX5_takeQuoted 68 = .ok (.goto 25, 3) := by decide +kernel
theorem dX5_takeQuoted_71 : decode cX5_takeQuoted 71 = .ok (.aload_n 0, 1) := by decide +kernel
theorem dX5_takeQuoted_72 : decode cX5_takeQuoted 72 = .ok (.getfield 19, 3) := by decide +kernel
theorem dX5_takeQuoted_75 : decode cX5_takeQuoted 75 = .ok (.aload_n 0, 1) := by decide +kernel
theorem dX5_takeQuoted_76 : decode cX5_takeQuoted 76 = .ok (.getfield 25, 3) := by decide +kernel
theorem dX5_takeQuoted_79 : decode cX5_takeQuoted 79 = .ok (.isub, 1) := by decide +kernel
theorem dX5_takeQuoted_80 : decode cX5_takeQuoted 80 = .ok (.iload_n 2, 1) := by decide +kernel
theorem dX5_takeQuoted_81 : decode cX5_takeQuoted 81 = .ok (.if_icmp .lt 12, 3) := by decide +kernel
theorem dX5_takeQuoted_84 : decode cX5_takeQuoted 84 = .ok (.aload_n 0, 1) := by decide +kernel
theorem dX5_takeQuoted_85 : decode cX5_takeQuoted 85 = .ok (.aload_n 0, 1) := by decide +kernel
theorem dX5_takeQuoted_86 : decode cX5_takeQuoted 86 = .ok (.getfield 19, 3) := by decide +kernel
theorem dX5_takeQuoted_89 : decode cX5_takeQuoted 89 = .ok (.iconst 2, 1) := by decide +kernel
theorem dX5_takeQuoted_90 : decode cX5_takeQuoted 90 = .ok (.invokevirtual 38, 3) := by decide +kernel
theorem dX5_takeQuoted_93 : decode cX5_takeQuoted 93 = .ok (.aload_n 0, 1) := by decide +kernel
theorem dX5_takeQuoted_94 : decode cX5_takeQuoted 94 = .ok (.dup, 1) := by decide +kernel
theorem dX5_takeQuoted_95 : decode cX5_takeQuoted 95 = .ok (.getfield 19, 3) := by decide +kernel
theorem dX5_takeQuoted_98 : decode cX5_takeQuoted 98 = .ok (.iconst 1, 1) := by decide +kernel
theorem dX5_takeQuoted_99 : decode cX5_takeQuoted 99 = .ok (.iadd, 1) := by decide +kernel
theorem dX5_takeQuoted_100 : decode cX5_takeQuoted 100 = .ok (.putfield 19, 3) := by decide +kernel
theorem dX5_takeQuoted_103 : decode cX5_takeQuoted 103 = .ok (.goto (-89), 3) := by decide +kernel
theorem dX5_takeQuoted_106 : decode cX5_takeQuoted 106 = .ok (.aload_n 0, 1) := by decide +kernel
theorem dX5_takeQuoted_107 : decode cX5_takeQuoted 107 = .ok (.aload_n 0, 1) := by decide +kernel
theorem dX5_takeQuoted_108 : decode cX5_takeQuoted 108 = .ok (.getfield 19, 3) := by decide +kernel
theorem dX5_takeQuoted_111 : decode cX5_takeQuoted 111 = .ok (.aload_n 0, 1) := by decide +kernel
theorem dX5_takeQuoted_112 : decode cX5_takeQuoted 112 = .ok (.getfield 25, 3) := by decide +kernel
theorem dX5_takeQuoted_115 : decode cX5_takeQuoted 115 = .ok (.isub, 1) := by decide +kernel
theorem dX5_takeQuoted_116 : decode cX5_takeQuoted 116 = .ok (.putfield 28, 3) := by decide +kernel
theorem dX5_takeQuoted_119 : decode cX5_takeQuoted 119 = .ok (.aload_n 0, 1) := by decide +kernel
theorem dX5_takeQuoted_120 : decode cX5_takeQuoted 120 = .ok (.getfield 19, 3) := by decide +kernel
theorem dX5_takeQuoted_123 : decode cX5_takeQuoted 123 = .ok (.aload_n 0, 1) := by decide +kernel
theorem dX5_takeQuoted_124 : decode cX5_takeQuoted 124 = .ok (.getfield 15, 3) := by decide +kernel
theorem dX5_takeQuoted_127 : decode cX5_takeQuoted 127 = .ok (.if_icmp .lt 15, 3) := by decide +kernel
theorem dX5_takeQuoted_130 : decode cX5_takeQuoted 130 = .ok (.aload_n 0, 1) := by decide +kernel
theorem dX5_takeQuoted_131 : decode cX5_takeQuoted 131 = .ok (.aload_n 0, 1) := by decide +kernel
theorem dX5_takeQuoted_132 : decode cX5_takeQuoted 132 = .ok (.getfield 15, 3) := by decide +kernel
theorem dX5_takeQuoted_135 : decode cX5_takeQuoted 135 = .ok (.iconst 1, 1) := by decide +kernel
theorem dX5_takeQuoted_136 : decode cX5_takeQuoted 136 = .ok (.invokevirtual 38, 3) := by decide +kernel
theorem dX5_takeQuoted_139 : decode cX5_takeQuoted 139 = .ok (.goto 20, 3) := by decide +kernel
theorem dX5_takeQuoted_142 : decode cX5_takeQuoted 142 = .ok (.aload_n 0, 1) := by decide +kernel
theorem dX5_takeQuoted_143 : decode cX5_takeQuoted 143 = .ok (.getfield 28, 3) := by decide +kernel
theorem dX5_takeQuoted_146 : decode cX5_takeQuoted 146 = .ok (.iload_n 1, 1) := by decide +kernel
theorem dX5_takeQuoted_147 : decode cX5_takeQuoted 147 = .ok (.if_icmp .ge 12, 3) := by decide +kernel
theorem dX5_takeQuoted_150 : decode cX5_takeQuoted 150 = .ok (.aload_n 0, 1) := by decide +kernel
theorem dX5_takeQuoted_151 : decode cX5_takeQuoted 151 = .ok (.aload_n 0, 1) := by decide +kernel
theorem dX5_takeQuoted_152 : decode cX5_takeQuoted 152 = .ok (.getfield 19, 3) := by decide +kernel
theorem dX5_takeQuoted_155 : decode cX5_takeQuoted 155 = .ok (.iconst 2, 1) := by decide +kernel
theorem dX5_takeQuoted_156 : decode cX5_takeQuoted 156 = .ok (.invokevirtual 38, 3) := by decide +kernel
theorem dX5_takeQuoted_159 : decode cX5_takeQuoted 159 = .ok (.aload_n 0, 1) := by decide +kernel
theorem dX5_takeQuoted_160 : decode cX5_takeQuoted 160 = .ok (.dup, 1) := by decide +kernel
theorem dX5_takeQuoted_161 : decode cX5_takeQuoted 161 = .ok (.getfield 19, 3) := by decide +kernel
theorem dX5_takeQuoted_164 : decode cX5_takeQuoted 164 = .ok (.iconst 1, 1) := by decide +kernel
theorem dX5_takeQuoted_165 : decode cX5_takeQuoted 165 = .ok (.iadd, 1) := by decide +kernel
theorem dX5_takeQuoted_166 : decode cX5_takeQuoted 166 = .ok (.putfield 19, 3) := by decide +kernel
theorem dX5_takeQuoted_169 : decode cX5_takeQuoted 169 = .ok (.return_, 1) := by decide +kernel
theorem dX1_readDrum_0 : decode cX1_readDrum 0 = .ok (.aload_n 1, 1) := by decide +kernel
theorem dX1_readDrum_1 : decode cX1_readDrum 1 = .ok (.iconst 1, 1) := by decide +kernel
theorem dX1_readDrum_2 : decode cX1_readDrum 2 = .ok (.bipush 9, 2) := by decide +kernel
theorem dX1_readDrum_4 : decode cX1_readDrum 4 = .ok (.invokevirtual 54, 3) := by decide +kernel
theorem dX1_readDrum_7 : decode cX1_readDrum 7 = .ok (.istore_n 2, 1) := by decide +kernel
theorem dX1_readDrum_8 : decode cX1_readDrum 8 = .ok (.aload_n 1, 1) := by decide +kernel
theorem dX1_readDrum_9 : decode cX1_readDrum 9 = .ok (.iconst 2, 1) := by decide +kernel
theorem dX1_readDrum_10 : decode cX1_readDrum 10 = .ok (.bipush 40, 2) := by decide +kernel
theorem dX1_readDrum_12 : decode cX1_readDrum 12 = .ok (.invokevirtual 93, 3) := by decide +kernel
theorem dX1_readDrum_15 : decode cX1_readDrum 15 = .ok (.aload_n 1, 1) := by decide +kernel
theorem dX1_readDrum_16 : decode cX1_readDrum 16 = .ok (.invokevirtual 25, 3) := by decide +kernel
theorem dX1_readDrum_19 : decode cX1_readDrum 19 = .ok (.ifCond .eq 17, 3) := by decide +kernel
theorem dX1_readDrum_22 : decode cX1_readDrum 22 = .ok (.aload_n 0, 1) := by decide +kernel
theorem dX1_readDrum_23 : decode cX1_readDrum 23 = .ok (.iload_n 2, 1) := by decide +kernel
theorem dX1_readDrum_24 : decode cX1_readDrum 24 = .ok (.aload_n 1, 1) := by decide +kernel
theorem dX1_readDrum_25 : decode cX1_readDrum 25 = .ok (.aload_n 1, 1) := by decide +kernel
theorem dX1_readDrum_26 : decode cX1_readDrum 26 = .ok (.getfield 96, 3) := by decide +kernel
theorem dX1_readDrum_29 : decode cX1_readDrum 29 = .ok (.aload_n 1, 1) := by decide +kernel
theorem dX1_readDrum_30 : decode cX1_readDrum 30 = .ok (.getfield 99, 3) := by decide +kernel
theorem dX1_readDrum_33 : decode cX1_readDrum 33 = .ok (.invokevirtual 102, 3) := by decide +kernel
theorem dX1_readDrum_36 : decode cX1_readDrum 36 = .ok (.return_, 1) := by decide +kernel
theorem dX1_readCells_0 : decode cX1_readCells 0 = .ok (.aload_n 0, 1) := by decide +kernel
theorem dX1_readCells_1 : decode cX1_readCells 1 = .ok (.invokevirtual 106, 3) := by decide +kernel
theorem dX1_readCells_4 : decode cX1_readCells 4 = .ok (.iconst 1, 1) := by decide +kernel
theorem dX1_readCells_5 : decode cX1_readCells 5 = .ok (.isub, 1) := by decide +kernel
theorem dX1_readCells_6 : decode cX1_readCells 6 = .ok (.istore_n 2, 1) := by decide +kernel
theorem dX1_readCells_7 : decode cX1_readCells 7 = .ok (.aload_n 1, 1) := by decide +kernel
theorem dX1_readCells_8 : decode cX1_readCells 8 = .ok (.iconst 0, 1) := by decide +kernel
theorem dX1_readCells_9 : decode cX1_readCells 9 = .ok (.iload_n 2, 1) := by decide +kernel
theorem dX1_readCells_10 : decode cX1_readCells 10 = .ok (.invokevirtual 54, 3) := by decide +kernel
theorem dX1_readCells_13 : decode cX1_readCells 13 = .ok (.istore_n 3, 1) := by decide +kernel
theorem dX1_readCells_14 : decode cX1_readCells 14 = .ok (.aload_n 1, 1) := by decide +kernel
theorem dX1_readCells_15 : decode cX1_readCells 15 = .ok (.iload_n 3, 1) := by decide +kernel
theorem dX1_readCells_16 : decode cX1_readCells 16 = .ok (.iload_n 2, 1) := by decide +kernel
theorem dX1_readCells_17 : decode cX1_readCells 17 = .ok (.invokevirtual 54, 3) := by decide +kernel
theorem dX1_readCells_20 : decode cX1_readCells 20 = .ok (.istore 4, 2) := by decide +kernel
theorem dX1_readCells_22 : decode cX1_readCells 22 = .ok (.aload_n 1, 1) := by decide +kernel
theorem dX1_readCells_23 : decode cX1_readCells 23 = .ok (.iconst 0, 1) := by decide +kernel
theorem dX1_readCells_24 : decode cX1_readCells 24 = .ok (.aload_n 0, 1) := by decide +kernel
theorem dX1_readCells_25 : decode cX1_readCells 25 = .ok (.getfield 40, 3) := by decide +kernel
theorem dX1_readCells_28 : decode cX1_readCells 28 = .ok (.iconst 1, 1) := by decide +kernel
theorem dX1_readCells_29 : decode cX1_readCells 29 = .ok (.isub, 1) := by decide +kernel
theorem dX1_readCells_30 : decode cX1_readCells 30 = .ok (.invokevirtual 54, 3) := by decide +kernel
theorem dX1_readCells_33 : decode cX1_readCells 33 = .ok (.istore 5, 2) := by decide +kernel
theorem dX1_readCells_35 : decode cX1_readCells 35 = .ok (.iload_n 3, 1) := by decide +kernel
theorem dX1_readCells_36 : decode cX1_readCells 36 = .ok (.istore 6, 2) := by decide +kernel
theorem dX1_readCells_38 : decode cX1_readCells 38 = .ok (.iload 6, 2) := by decide +kernel
theorem dX1_readCells_40 : decode cX1_readCells 40 = .ok (.iload 4, 2) := by decide +kernel
theorem dX1_readCells_42 : decode cX1_readCells 42 = .ok (.if_icmp .gt 24, 3) := by decide +kernel
theorem dX1_readCells_45 : decode cX1_readCells 45 = .ok (.aload_n 1, 1) := by decide +kernel
theorem dX1_readCells_46 : decode cX1_readCells 46 = .ok (.invokevirtual 25, 3) := by decide +kernel
theorem dX1_readCells_49 : decode cX1_readCells 49 = .ok (.ifCond .eq 17, 3) := by decide +kernel
theorem dX1_readCells_52 : decode cX1_readCells 52 = .ok (.aload_n 0, 1) := by decide +kernel
theorem dX1_readCells_53 : decode cX1_readCells 53 = .ok (.iload 6, 2) := by decide +kernel
theorem dX1_readCells_55 : decode cX1_readCells 55 = .ok (.iload 5, 2) := by decide +kernel
theorem dX1_readCells_57 : decode cX1_readCells 57 = .ok (.invokevirtual 109, 3) := by decide +kernel
theorem dX1_readCells_60 : decode cX1_readCells 60 = .ok (.iinc 6 1, 3) := by decide +kernel
theorem dX1_readCells_63 : decode cX1_readCells 63 = .ok (.goto (-25), 3) := by decide +kernel
theorem dX1_readCells_66 : decode cX1_readCells 66 = .ok (.return_, 1) := by decide +kernel
theorem dX1_readWorn_0 : decode cX1_readWorn 0 = .ok (.aload_n 1, 1) := by decide +kernel
theorem dX1_readWorn_1 : decode cX1_readWorn 1 = .ok (.iconst 0, 1) := by decide +kernel
theorem dX1_readWorn_2 : decode cX1_readWorn 2 = .ok (.aload_n 0, 1) := by decide +kernel
theorem dX1_readWorn_3 : decode cX1_readWorn 3 = .ok (.invokevirtual 106, 3) := by decide +kernel
theorem dX1_readWorn_6 : decode cX1_readWorn 6 = .ok (.iconst 1, 1) := by decide +kernel
theorem dX1_readWorn_7 : decode cX1_readWorn 7 = .ok (.isub, 1) := by decide +kernel
theorem dX1_readWorn_8 : decode cX1_readWorn 8 = .ok (.invokevirtual 54, 3) := by decide +kernel
theorem dX1_readWorn_11 : decode cX1_readWorn 11 = .ok (.istore_n 2, 1) := by decide +kernel
theorem dX1_readWorn_12 : decode cX1_readWorn 12 = .ok (.aload_n 1, 1) := by decide +kernel
theorem dX1_readWorn_13 : decode cX1_readWorn 13 = .ok (.iconst 1, 1) := by decide +kernel
theorem dX1_readWorn_14 : decode cX1_readWorn 14 = .ok (.aload_n 0, 1) := by decide +kernel
theorem dX1_readWorn_15 : decode cX1_readWorn 15 = .ok (.iload_n 2, 1) := by decide +kernel
theorem dX1_readWorn_16 : decode cX1_readWorn 16 = .ok (.invokevirtual 112, 3) := by decide +kernel
theorem dX1_readWorn_19 : decode cX1_readWorn 19 = .ok (.iconst 1, 1) := by decide +kernel
theorem dX1_readWorn_20 : decode cX1_readWorn 20 = .ok (.isub, 1) := by decide +kernel
theorem dX1_readWorn_21 : decode cX1_readWorn 21 = .ok (.invokevirtual 54, 3) := by decide +kernel
theorem dX1_readWorn_24 : decode cX1_readWorn 24 = .ok (.istore_n 3, 1) := by decide +kernel
theorem dX1_readWorn_25 : decode cX1_readWorn 25 = .ok (.aload_n 1, 1) := by decide +kernel
theorem dX1_readWorn_26 : decode cX1_readWorn 26 = .ok (.invokevirtual 25, 3) := by decide +kernel
theorem dX1_readWorn_29 : decode cX1_readWorn 29 = .ok (.ifCond .eq 21, 3) := by decide +kernel
theorem dX1_readWorn_32 : decode cX1_readWorn 32 = .ok (.aload_n 0, 1) := by decide +kernel
theorem dX1_readWorn_33 : decode cX1_readWorn 33 = .ok (.iload_n 2, 1) := by decide +kernel
theorem dX1_readWorn_34 : decode cX1_readWorn 34 = .ok (.iload_n 3, 1) := by decide +kernel
theorem dX1_readWorn_35 : decode cX1_readWorn 35 = .ok (.invokevirtual 116, 3) := by decide +kernel
theorem dX1_readWorn_38 : decode cX1_readWorn 38 = .ok (.ifCond .eq 12, 3) := by decide +kernel
theorem dX1_readWorn_41 : decode cX1_readWorn 41 = .ok (.aload_n 1, 1) := by decide +kernel
theorem dX1_readWorn_42 : decode cX1_readWorn 42 = .ok (.aload_n 1, 1) := by decide +kernel
theorem dX1_readWorn_43 : decode cX1_readWorn 43 = .ok (.getfield 75, 3) := by decide +kernel
theorem dX1_readWorn_46 : decode cX1_readWorn 46 = .ok (.iconst 2, 1) := by decide +kernel
theorem dX1_readWorn_47 : decode cX1_readWorn 47 = .ok (.invokevirtual 47, 3) := by decide +kernel
theorem dX1_readWorn_50 : decode cX1_readWorn 50 = .ok (.aload_n 1, 1) := by decide +kernel
theorem dX1_readWorn_51 : decode cX1_readWorn 51 = .ok (.invokevirtual 25, 3) := by decide +kernel
theorem dX1_readWorn_54 : decode cX1_readWorn 54 = .ok (.ifCond .eq 9, 3) := by decide +kernel
theorem dX1_readWorn_57 : decode cX1_readWorn 57 = .ok (.aload_n 0, 1) := by decide +kernel
theorem dX1_readWorn_58 : decode cX1_readWorn 58 = .ok (.iload_n 2, 1) := by decide +kernel
theorem dX1_readWorn_59 : decode cX1_readWorn 59 = .ok (.iload_n 3, 1) := by decide +kernel
theorem dX1_readWorn_60 : decode cX1_readWorn 60 = .ok (.invokevirtual 120, 3) := by decide +kernel
theorem dX1_readWorn_63 : decode cX1_readWorn 63 = .ok (.return_, 1) := by decide +kernel
theorem dX1_readRow_0 : decode cX1_readRow 0 = .ok (.aload_n 1, 1) := by decide +kernel
theorem dX1_readRow_1 : decode cX1_readRow 1 = .ok (.iconst 0, 1) := by decide +kernel
theorem dX1_readRow_2 : decode cX1_readRow 2 = .ok (.aload_n 0, 1) := by decide +kernel
theorem dX1_readRow_3 : decode cX1_readRow 3 = .ok (.getfield 63, 3) := by decide +kernel
theorem dX1_readRow_6 : decode cX1_readRow 6 = .ok (.iconst 1, 1) := by decide +kernel
theorem dX1_readRow_7 : decode cX1_readRow 7 = .ok (.isub, 1) := by decide +kernel
theorem dX1_readRow_8 : decode cX1_readRow 8 = .ok (.invokevirtual 54, 3) := by decide +kernel
theorem dX1_readRow_11 : decode cX1_readRow 11 = .ok (.istore_n 2, 1) := by decide +kernel
theorem dX1_readRow_12 : decode cX1_readRow 12 = .ok (.aload_n 1, 1) := by decide +kernel
theorem dX1_readRow_13 : decode cX1_readRow 13 = .ok (.iconst 0, 1) := by decide +kernel
theorem dX1_readRow_14 : decode cX1_readRow 14 = .ok (.aload_n 0, 1) := by decide +kernel
theorem dX1_readRow_15 : decode cX1_readRow 15 = .ok (.getfield 66, 3) := by decide +kernel
theorem dX1_readRow_18 : decode cX1_readRow 18 = .ok (.invokevirtual 93, 3) := by decide +kernel
theorem dX1_readRow_21 : decode cX1_readRow 21 = .ok (.aload_n 1, 1) := by decide +kernel
theorem dX1_readRow_22 : decode cX1_readRow 22 = .ok (.invokevirtual 25, 3) := by decide +kernel
theorem dX1_readRow_25 : decode cX1_readRow 25 = .ok (.ifCond .eq 17, 3) := by decide +kernel
theorem dX1_readRow_28 : decode cX1_readRow 28 = .ok (.aload_n 0, 1) := by decide +kernel
theorem dX1_readRow_29 : decode cX1_readRow 29 = .ok (.iload_n 2, 1) := by decide +kernel
theorem dX1_readRow_30 : decode cX1_readRow 30 = .ok (.aload_n 1, 1) := by decide +kernel
theorem dX1_readRow_31 : decode cX1_readRow 31 = .ok (.aload_n 1, 1) := by decide +kernel
theorem dX1_readRow_32 : decode cX1_readRow 32 = .ok (.getfield 96, 3) := by decide +kernel
theorem dX1_readRow_35 : decode cX1_readRow 35 = .ok (.aload_n 1, 1) := by decide +kernel
theorem dX1_readRow_36 : decode cX1_readRow 36 = .ok (.getfield 99, 3) := by decide +kernel
theorem dX1_readRow_39 : decode cX1_readRow 39 = .ok (.invokevirtual 123, 3) := by decide +kernel
theorem dX1_readRow_42 : decode cX1_readRow 42 = .ok (.return_, 1) := by decide +kernel
theorem dX1_readLose_0 : decode cX1_readLose 0 = .ok (.aload_n 1, 1) := by decide +kernel
theorem dX1_readLose_1 : decode cX1_readLose 1 = .ok (.iconst 0, 1) := by decide +kernel
theorem dX1_readLose_2 : decode cX1_readLose 2 = .ok (.aload_n 0, 1) := by decide +kernel
theorem dX1_readLose_3 : decode cX1_readLose 3 = .ok (.invokevirtual 106, 3) := by decide +kernel
theorem dX1_readLose_6 : decode cX1_readLose 6 = .ok (.iconst 1, 1) := by decide +kernel
theorem dX1_readLose_7 : decode cX1_readLose 7 = .ok (.isub, 1) := by decide +kernel
theorem dX1_readLose_8 : decode cX1_readLose 8 = .ok (.invokevirtual 54, 3) := by decide +kernel
theorem dX1_readLose_11 : decode cX1_readLose 11 = .ok (.istore_n 2, 1) := by decide +kernel
theorem dX1_readLose_12 : decode cX1_readLose 12 = .ok (.aload_n 1, 1) := by decide +kernel
theorem dX1_readLose_13 : decode cX1_readLose 13 = .ok (.iconst 0, 1) := by decide +kernel
theorem dX1_readLose_14 : decode cX1_readLose 14 = .ok (.bipush 9, 2) := by decide +kernel
theorem dX1_readLose_16 : decode cX1_readLose 16 = .ok (.invokevirtual 54, 3) := by decide +kernel
theorem dX1_readLose_19 : decode cX1_readLose 19 = .ok (.istore_n 3, 1) := by decide +kernel
theorem dX1_readLose_20 : decode cX1_readLose 20 = .ok (.aload_n 1, 1) := by decide +kernel
theorem dX1_readLose_21 : decode cX1_readLose 21 = .ok (.invokevirtual 25, 3) := by decide +kernel
theorem dX1_readLose_24 : decode cX1_readLose 24 = .ok (.ifCond .eq 9, 3) := by decide +kernel
theorem dX1_readLose_27 : decode cX1_readLose 27 = .ok (.aload_n 0, 1) := by decide +kernel
theorem dX1_readLose_28 : decode cX1_readLose 28 = .ok (.iload_n 2, 1) := by decide +kernel
theorem dX1_readLose_29 : decode cX1_readLose 29 = .ok (.iload_n 3, 1) := by decide +kernel
theorem dX1_readLose_30 : decode cX1_readLose 30 = .ok (.invokevirtual 126, 3) := by decide +kernel
theorem dX1_readLose_33 : decode cX1_readLose 33 = .ok (.return_, 1) := by decide +kernel
theorem dX1_readPart_0 : decode cX1_readPart 0 = .ok (.aload_n 1, 1) := by decide +kernel
theorem dX1_readPart_1 : decode cX1_readPart 1 = .ok (.invokevirtual 72, 3) := by decide +kernel
theorem dX1_readPart_4 : decode cX1_readPart 4 = .ok (.istore_n 2, 1) := by decide +kernel
theorem dX1_readPart_5 : decode cX1_readPart 5 = .ok (.aload_n 1, 1) := by decide +kernel
theorem dX1_readPart_6 : decode cX1_readPart 6 = .ok (.getfield 75, 3) := by decide +kernel
theorem dX1_readPart_9 : decode cX1_readPart 9 = .ok (.istore_n 3, 1) := by decide +kernel
theorem dX1_readPart_10 : decode cX1_readPart 10 = .ok (.iload_n 2, 1) := by decide +kernel
theorem dX1_readPart_11 : decode cX1_readPart 11 = .ok (.iconst 3, 1) := by decide +kernel
theorem dX1_readPart_12 : decode cX1_readPart 12 = .ok (.if_icmp .lt 9, 3) := by decide +kernel
theorem dX1_readPart_15 : decode cX1_readPart 15 = .ok (.iload_n 2, 1) := by decide +kernel
theorem dX1_readPart_16 : decode cX1_readPart 16 = .ok (.bipush 7, 2) := by decide +kernel
theorem dX1_readPart_18 : decode cX1_readPart 18 = .ok (.if_icmp .le 12, 3) := by decide +kernel
theorem dX1_readPart_21 : decode cX1_readPart 21 = .ok (.aload_n 1, 1) := by decide +kernel
theorem dX1_readPart_22 : decode cX1_readPart 22 = .ok (.iload_n 3, 1) := by decide +kernel
theorem dX1_readPart_23 : decode cX1_readPart 23 = .ok (.iconst 1, 1) := by decide +kernel
theorem dX1_readPart_24 : decode cX1_readPart 24 = .ok (.invokevirtual 47, 3) := by decide +kernel
theorem dX1_readPart_27 : decode cX1_readPart 27 = .ok (.goto 32, 3) := by decide +kernel
theorem dX1_readPart_30 : decode cX1_readPart 30 = .ok (.iload_n 2, 1) := by decide +kernel
theorem dX1_readPart_31 : decode cX1_readPart 31 = .ok (.iconst 3, 1) := by decide +kernel
theorem dX1_readPart_32 : decode cX1_readPart 32 = .ok (.if_icmp .ne 14, 3) := by decide +kernel
theorem dX1_readPart_35 : decode cX1_readPart 35 = .ok (.aload_n 0, 1) := by decide +kernel
theorem dX1_readPart_36 : decode cX1_readPart 36 = .ok (.getfield 40, 3) := by decide +kernel
theorem dX1_readPart_39 : decode cX1_readPart 39 = .ok (.iconst 4, 1) := by decide +kernel
theorem dX1_readPart_40 : decode cX1_readPart 40 = .ok (.if_icmp .ne 19, 3) := by decide +kernel
theorem dX1_readPart_43 : decode cX1_readPart 43 = .ok (.goto 10, 3) := by decide +kernel
theorem dX1_readPart_46 : decode cX1_readPart 46 = .ok (.aload_n 0, 1) := by decide +kernel
theorem dX1_readPart_47 : decode cX1_readPart 47 = .ok (.getfield 40, 3) := by decide +kernel
theorem dX1_readPart_50 : decode cX1_readPart 50 = .ok (.ifCond .ne 9, 3) := by decide +kernel
theorem dX1_readPart_53 : decode cX1_readPart 53 = .ok (.aload_n 1, 1) := by decide +kernel
theorem dX1_readPart_54 : decode cX1_readPart 54 = .ok (.iload_n 3, 1) := by decide +kernel
theorem dX1_readPart_55 : decode cX1_readPart 55 = .ok (.iconst 3, 1) := by decide +kernel
theorem dX1_readPart_56 : decode cX1_readPart 56 = .ok (.invokevirtual 47, 3) := by decide +kernel
theorem dX1_readPart_59 : decode cX1_readPart 59 = .ok (.aload_n 1, 1) := by decide +kernel
theorem dX1_readPart_60 : decode cX1_readPart 60 = .ok (.invokevirtual 25, 3) := by decide +kernel
theorem dX1_readPart_63 : decode cX1_readPart 63 = .ok (.ifCond .ne 4, 3) := by decide +kernel
theorem dX1_readPart_66 : decode cX1_readPart 66 = .ok (.return_, 1) := by decide +kernel
theorem dX1_readPart_67 : decode cX1_readPart 67 = .ok (.iload_n 2, 1) := by decide +kernel
theorem dX1_readPart_68 : decode cX1_readPart 68 = .ok (.tableswitch 64 3 6 #[32, 40, 48, 56], 32) := by decide +kernel
theorem dX1_readPart_100 : decode cX1_readPart 100 = .ok (.aload_n 0, 1) := by decide +kernel
theorem dX1_readPart_101 : decode cX1_readPart 101 = .ok (.aload_n 1, 1) := by decide +kernel
theorem dX1_readPart_102 : decode cX1_readPart 102 = .ok (.invokestatic 78, 3) := by decide +kernel
theorem dX1_readPart_105 : decode cX1_readPart 105 = .ok (.goto 32, 3) := by decide +kernel
theorem dX1_readPart_108 : decode cX1_readPart 108 = .ok (.aload_n 0, 1) := by decide +kernel
theorem dX1_readPart_109 : decode cX1_readPart 109 = .ok (.aload_n 1, 1) := by decide +kernel
theorem dX1_readPart_110 : decode cX1_readPart 110 = .ok (.invokestatic 81, 3) := by decide +kernel
theorem dX1_readPart_113 : decode cX1_readPart 113 = .ok (.goto 24, 3) := by decide +kernel
theorem dX1_readPart_116 : decode cX1_readPart 116 = .ok (.aload_n 0, 1) := by decide +kernel
theorem dX1_readPart_117 : decode cX1_readPart 117 = .ok (.aload_n 1, 1) := by decide +kernel
theorem dX1_readPart_118 : decode cX1_readPart 118 = .ok (.invokestatic 84, 3) := by decide +kernel
theorem dX1_readPart_121 : decode cX1_readPart 121 = .ok (.goto 16, 3) := by decide +kernel
theorem dX1_readPart_124 : decode cX1_readPart 124 = .ok (.aload_n 0, 1) := by decide +kernel
theorem dX1_readPart_125 : decode cX1_readPart 125 = .ok (.aload_n 1, 1) := by decide +kernel
theorem dX1_readPart_126 : decode cX1_readPart 126 = .ok (.invokestatic 87, 3) := by decide +kernel
theorem dX1_readPart_129 : decode cX1_readPart 129 = .ok (.goto 8, 3) := by decide +kernel
theorem dX1_readPart_132 : decode cX1_readPart 132 = .ok (.aload_n 0, 1) := by decide +kernel
theorem dX1_readPart_133 : decode cX1_readPart 133 = .ok (.aload_n 1, 1) := by decide +kernel
theorem dX1_readPart_134 : decode cX1_readPart 134 = .ok (.invokestatic 90, 3) := by decide +kernel
theorem dX1_readPart_137 : decode cX1_readPart 137 = .ok (.return_, 1) := by decide +kernel
theorem dX1_readInto_0 : decode cX1_readInto 0 = .ok (.aload_n 0, 1) := by decide +kernel
theorem dX1_readInto_1 : decode cX1_readInto 1 = .ok (.invokevirtual 9, 3) := by decide +kernel
theorem dX1_readInto_4 : decode cX1_readInto 4 = .ok (.aload_n 1, 1) := by decide +kernel
theorem dX1_readInto_5 : decode cX1_readInto 5 = .ok (.invokevirtual 14, 3) := by decide +kernel
theorem dX1_readInto_8 : decode cX1_readInto 8 = .ok (.aload_n 0, 1) := by decide +kernel
theorem dX1_readInto_9 : decode cX1_readInto 9 = .ok (.aload_n 1, 1) := by decide +kernel
theorem dX1_readInto_10 : decode cX1_readInto 10 = .ok (.invokestatic 19, 3) := by decide +kernel
theorem dX1_readInto_13 : decode cX1_readInto 13 = .ok (.iconst 0, 1) := by decide +kernel
theorem dX1_readInto_14 : decode cX1_readInto 14 = .ok (.istore_n 2, 1) := by decide +kernel
theorem dX1_readInto_15 : decode cX1_readInto 15 = .ok (.iload_n 2, 1) := by decide +kernel
theorem dX1_readInto_16 : decode cX1_readInto 16 = .ok (.sipush 400, 3) := by decide +kernel
theorem dX1_readInto_19 : decode cX1_readInto 19 = .ok (.if_icmp .ge 35, 3) := by decide +kernel
theorem dX1_readInto_22 : decode cX1_readInto 22 = .ok (.aload_n 1, 1) := by decide +kernel
theorem dX1_readInto_23 : decode cX1_readInto 23 = .ok (.invokevirtual 25, 3) := by decide +kernel
theorem dX1_readInto_26 : decode cX1_readInto 26 = .ok (.ifCond .eq 28, 3) := by decide +kernel
theorem dX1_readInto_29 : decode cX1_readInto 29 = .ok (.aload_n 1, 1) := by decide +kernel
theorem dX1_readInto_30 : decode cX1_readInto 30 = .ok (.invokevirtual 29, 3) := by decide +kernel
theorem dX1_readInto_33 : decode cX1_readInto 33 = .ok (.iconst (-1), 1) := by decide +kernel
theorem dX1_readInto_34 : decode cX1_readInto 34 = .ok (.if_icmp .eq 20, 3) := by decide +kernel
theorem dX1_readInto_37 : decode cX1_readInto 37 = .ok (.aload_n 1, 1) := by decide +kernel
theorem dX1_readInto_38 : decode cX1_readInto 38 = .ok (.bipush 59, 2) := by decide +kernel
theorem dX1_readInto_40 : decode cX1_readInto 40 = .ok (.invokevirtual 33, 3) := by decide +kernel
theorem dX1_readInto_43 : decode cX1_readInto 43 = .ok (.aload_n 0, 1) := by decide +kernel
theorem dX1_readInto_44 : decode cX1_readInto 44 = .ok (.aload_n 1, 1) := by decide +kernel
theorem dX1_readInto_45 : decode cX1_readInto 45 = .ok (.invokestatic 37, 3) := by decide +kernel
theorem dX1_readInto_48 : decode cX1_readInto 48 = .ok (.iinc 2 1, 3) := by decide +kernel
theorem dX1_readInto_51 : decode cX1_readInto 51 = .ok (.goto (-36), 3) := by decide +kernel
theorem dX1_readInto_54 : decode cX1_readInto 54 = .ok (.aload_n 0, 1) := by decide +kernel
theorem dX1_readInto_55 : decode cX1_readInto 55 = .ok (.getfield 40, 3) := by decide +kernel
theorem dX1_readInto_58 : decode cX1_readInto 58 = .ok (.ifCond .ne 12, 3) := by decide +kernel
theorem dX1_readInto_61 : decode cX1_readInto 61 = .ok (.aload_n 1, 1) := by decide +kernel
theorem dX1_readInto_62 : decode cX1_readInto 62 = .ok (.aload_n 1, 1) := by decide +kernel
theorem dX1_readInto_63 : decode cX1_readInto 63 = .ok (.getfield 44, 3) := by decide +kernel
theorem dX1_readInto_66 : decode cX1_readInto 66 = .ok (.iconst 4, 1) := by decide +kernel
theorem dX1_readInto_67 : decode cX1_readInto 67 = .ok (.invokevirtual 47, 3) := by decide +kernel
theorem dX1_readInto_70 : decode cX1_readInto 70 = .ok (.return_, 1) := by decide +kernel
theorem dX2_startCounting_0 : decode cX2_startCounting 0 = .ok (.aload_n 0, 1) := by decide +kernel
theorem dX2_startCounting_1 : decode cX2_startCounting 1 = .ok (.iconst 0, 1) := by decide +kernel
theorem dX2_startCounting_2 : decode cX2_startCounting 2 = .ok (.putfield 51, 3) := by decide +kernel
theorem dX2_startCounting_5 : decode cX2_startCounting 5 = .ok (.aload_n 0, 1) := by decide +kernel
theorem dX2_startCounting_6 : decode cX2_startCounting 6 = .ok (.iconst 0, 1) := by decide +kernel
theorem dX2_startCounting_7 : decode cX2_startCounting 7 = .ok (.putfield 52, 3) := by decide +kernel
theorem dX2_startCounting_10 : decode cX2_startCounting 10 = .ok (.aload_n 0, 1) := by decide +kernel
theorem dX2_startCounting_11 : decode cX2_startCounting 11 = .ok (.iconst 0, 1) := by decide +kernel
theorem dX2_startCounting_12 : decode cX2_startCounting 12 = .ok (.putfield 55, 3) := by decide +kernel
theorem dX2_startCounting_15 : decode cX2_startCounting 15 = .ok (.aload_n 0, 1) := by decide +kernel
theorem dX2_startCounting_16 : decode cX2_startCounting 16 = .ok (.iconst 0, 1) := by decide +kernel
theorem dX2_startCounting_17 : decode cX2_startCounting 17 = .ok (.putfield 56, 3) := by decide +kernel
theorem dX2_startCounting_20 : decode cX2_startCounting 20 = .ok (.aload_n 0, 1) := by decide +kernel
theorem dX2_startCounting_21 : decode cX2_startCounting 21 = .ok (.iconst 0, 1) := by decide +kernel
theorem dX2_startCounting_22 : decode cX2_startCounting 22 = .ok (.putfield 59, 3) := by decide +kernel
theorem dX2_startCounting_25 : decode cX2_startCounting 25 = .ok (.aload_n 0, 1) := by decide +kernel
theorem dX2_startCounting_26 : decode cX2_startCounting 26 = .ok (.iconst 0, 1) := by decide +kernel
theorem dX2_startCounting_27 : decode cX2_startCounting 27 = .ok (.putfield 62, 3) := by decide +kernel
theorem dX2_startCounting_30 : decode cX2_startCounting 30 = .ok (.aload_n 0, 1) := by decide +kernel
theorem dX2_startCounting_31 : decode cX2_startCounting 31 = .ok (.iconst 0, 1) := by decide +kernel
theorem dX2_startCounting_32 : decode cX2_startCounting 32 = .ok (.putfield 32, 3) := by decide +kernel
theorem dX2_startCounting_35 : decode cX2_startCounting 35 = .ok (.return_, 1) := by decide +kernel
theorem dX2_sortByLeft_0 : decode cX2_sortByLeft 0 = .ok (.aload_n 0, 1) := by decide +kernel
theorem dX2_sortByLeft_1 : decode cX2_sortByLeft 1 = .ok (.getfield 9, 3) := by decide +kernel
theorem dX2_sortByLeft_4 : decode cX2_sortByLeft 4 = .ok (.iconst (-1), 1) := by decide +kernel
theorem dX2_sortByLeft_5 : decode cX2_sortByLeft 5 = .ok (.invokestatic 84, 3) := by decide +kernel
theorem dX2_sortByLeft_8 : decode cX2_sortByLeft 8 = .ok (.iconst 0, 1) := by decide +kernel
theorem dX2_sortByLeft_9 : decode cX2_sortByLeft 9 = .ok (.istore_n 2, 1) := by decide +kernel
theorem dX2_sortByLeft_10 : decode cX2_sortByLeft 10 = .ok (.aload_n 1, 1) := by decide +kernel
theorem dX2_sortByLeft_11 : decode cX2_sortByLeft 11 = .ok (.invokevirtual 90, 3) := by decide +kernel
theorem dX2_sortByLeft_14 : decode cX2_sortByLeft 14 = .ok (.iconst 1, 1) := by decide +kernel
theorem dX2_sortByLeft_15 : decode cX2_sortByLeft 15 = .ok (.isub, 1) := by decide +kernel
theorem dX2_sortByLeft_16 : decode cX2_sortByLeft 16 = .ok (.istore_n 3, 1) := by decide +kernel
theorem dX2_sortByLeft_17 : decode cX2_sortByLeft 17 = .ok (.iload_n 3, 1) := by decide +kernel
theorem dX2_sortByLeft_18 : decode cX2_sortByLeft 18 = .ok (.ifCond .lt 56, 3) := by decide +kernel
theorem dX2_sortByLeft_21 : decode cX2_sortByLeft 21 = .ok (.aload_n 1, 1) := by decide +kernel
theorem dX2_sortByLeft_22 : decode cX2_sortByLeft 22 = .ok (.iload_n 3, 1) := by decide +kernel
theorem dX2_sortByLeft_23 : decode cX2_sortByLeft 23 = .ok (.invokevirtual 94, 3) := by decide +kernel
theorem dX2_sortByLeft_26 : decode cX2_sortByLeft 26 = .ok (.istore 4, 2) := by decide +kernel
theorem dX2_sortByLeft_28 : decode cX2_sortByLeft 28 = .ok (.iload 4, 2) := by decide +kernel
theorem dX2_sortByLeft_30 : decode cX2_sortByLeft 30 = .ok (.ifCond .le 38, 3) := by decide +kernel
theorem dX2_sortByLeft_33 : decode cX2_sortByLeft 33 = .ok (.iload 4, 2) := by decide +kernel
theorem dX2_sortByLeft_35 : decode cX2_sortByLeft 35 = .ok (.bipush 40, 2) := by decide +kernel
theorem dX2_sortByLeft_37 : decode cX2_sortByLeft 37 = .ok (.if_icmp .ge 31, 3) := by decide +kernel
theorem dX2_sortByLeft_40 : decode cX2_sortByLeft 40 = .ok (.aload_n 0, 1) := by decide +kernel
theorem dX2_sortByLeft_41 : decode cX2_sortByLeft 41 = .ok (.getfield 15, 3) := by decide +kernel
theorem dX2_sortByLeft_44 : decode cX2_sortByLeft 44 = .ok (.iload_n 3, 1) := by decide +kernel
theorem dX2_sortByLeft_45 : decode cX2_sortByLeft 45 = .ok (.aload_n 0, 1) := by decide +kernel
theorem dX2_sortByLeft_46 : decode cX2_sortByLeft 46 = .ok (.getfield 9, 3) := by decide +kernel
theorem dX2_sortByLeft_49 : decode cX2_sortByLeft 49 = .ok (.iload 4, 2) := by decide +kernel
theorem dX2_sortByLeft_51 : decode cX2_sortByLeft 51 = .ok (.iaload, 1) := by decide +kernel
theorem dX2_sortByLeft_52 : decode cX2_sortByLeft 52 = .ok (.iastore, 1) := by decide +kernel
theorem dX2_sortByLeft_53 : decode cX2_sortByLeft 53 = .ok (.aload_n 0, 1) := by decide +kernel
theorem dX2_sortByLeft_54 : decode cX2_sortByLeft 54 = .ok (.getfield 9, 3) := by decide +kernel
theorem dX2_sortByLeft_57 : decode cX2_sortByLeft 57 = .ok (.iload 4, 2) := by decide +kernel
theorem dX2_sortByLeft_59 : decode cX2_sortByLeft 59 = .ok (.iload_n 3, 1) := by decide +kernel
theorem dX2_sortByLeft_60 : decode cX2_sortByLeft 60 = .ok (.iastore, 1) := by decide +kernel
theorem dX2_sortByLeft_61 : decode cX2_sortByLeft 61 = .ok (.iload_n 2, 1) := by decide +kernel
theorem dX2_sortByLeft_62 : decode cX2_sortByLeft 62 = .ok (.iload 4, 2) := by decide +kernel
theorem dX2_sortByLeft_64 : decode cX2_sortByLeft 64 = .ok (.invokestatic 68, 3) := by decide +kernel
theorem dX2_sortByLeft_67 : decode cX2_sortByLeft 67 = .ok (.istore_n 2, 1) := by decide +kernel
theorem dX2_sortByLeft_68 : decode cX2_sortByLeft 68 = .ok (.iinc 3 (-1), 3) := by decide +kernel
theorem dX2_sortByLeft_71 : decode cX2_sortByLeft 71 = .ok (.goto (-54), 3) := by decide +kernel
theorem dX2_sortByLeft_74 : decode cX2_sortByLeft 74 = .ok (.iload_n 2, 1) := by decide +kernel
theorem dX2_sortByLeft_75 : decode cX2_sortByLeft 75 = .ok (.ireturn, 1) := by decide +kernel
theorem dX2_choose_0 : decode cX2_choose 0 = .ok (.aload_n 0, 1) := by decide +kernel
theorem dX2_choose_1 : decode cX2_choose 1 = .ok (.iconst 0, 1) := by decide +kernel
theorem dX2_choose_2 : decode cX2_choose 2 = .ok (.putfield 28, 3) := by decide +kernel
theorem dX2_choose_5 : decode cX2_choose 5 = .ok (.aload_n 0, 1) := by decide +kernel
theorem dX2_choose_6 : decode cX2_choose 6 = .ok (.iconst 0, 1) := by decide +kernel
theorem dX2_choose_7 : decode cX2_choose 7 = .ok (.putfield 65, 3) := by decide +kernel
theorem dX2_choose_10 : decode cX2_choose 10 = .ok (.aload_n 0, 1) := by decide +kernel
theorem dX2_choose_11 : decode cX2_choose 11 = .ok (.aload_n 1, 1) := by decide +kernel
theorem dX2_choose_12 : decode cX2_choose 12 = .ok (.invokevirtual 74, 3) := by decide +kernel
theorem dX2_choose_15 : decode cX2_choose 15 = .ok (.istore_n 2, 1) := by decide +kernel
theorem dX2_choose_16 : decode cX2_choose 16 = .ok (.iload_n 2, 1) := by decide +kernel
theorem dX2_choose_17 : decode cX2_choose 17 = .ok (.istore_n 3, 1) := by decide +kernel
theorem dX2_choose_18 : decode cX2_choose 18 = .ok (.iload_n 3, 1) := by decide +kernel
theorem dX2_choose_19 : decode cX2_choose 19 = .ok (.ifCond .le 117, 3) := by decide +kernel
theorem dX2_choose_22 : decode cX2_choose 22 = .ok (.aload_n 0, 1) := by decide +kernel
theorem dX2_choose_23 : decode cX2_choose 23 = .ok (.getfield 65, 3) := by decide +kernel
theorem dX2_choose_26 : decode cX2_choose 26 = .ok (.aload_n 1, 1) := by decide +kernel
theorem dX2_choose_27 : decode cX2_choose 27 = .ok (.getfield 78, 3) := by decide +kernel
theorem dX2_choose_30 : decode cX2_choose 30 = .ok (.if_icmp .ge 106, 3) := by decide +kernel
theorem dX2_choose_33 : decode cX2_choose 33 = .ok (.aload_n 0, 1) := by decide +kernel
theorem dX2_choose_34 : decode cX2_choose 34 = .ok (.getfield 9, 3) := by decide +kernel
theorem dX2_choose_37 : decode cX2_choose 37 = .ok (.iload_n 3, 1) := by decide +kernel
theorem dX2_choose_38 : decode cX2_choose 38 = .ok (.iaload, 1) := by decide +kernel
theorem dX2_choose_39 : decode cX2_choose 39 = .ok (.istore 4, 2) := by decide +kernel
theorem dX2_choose_41 : decode cX2_choose 41 = .ok (.iconst 0, 1) := by decide +kernel
theorem dX2_choose_42 : decode cX2_choose 42 = .ok (.istore 5, 2) := by decide +kernel
theorem dX2_choose_44 : decode cX2_choose 44 = .ok (.iload 5, 2) := by decide +kernel
theorem dX2_choose_46 : decode cX2_choose 46 = .ok (.bipush 40, 2) := by decide +kernel
theorem dX2_choose_48 : decode cX2_choose 48 = .ok (.if_icmp .ge 82, 3) := by decide +kernel
theorem dX2_choose_51 : decode cX2_choose 51 = .ok (.iload 4, 2) := by decide +kernel
theorem dX2_choose_53 : decode cX2_choose 53 = .ok (.iconst (-1), 1) := by decide +kernel
theorem dX2_choose_54 : decode cX2_choose 54 = .ok (.if_icmp .eq 76, 3) := by decide +kernel
theorem dX2_choose_57 : decode cX2_choose 57 = .ok (.aload_n 0, 1) := by decide +kernel
theorem dX2_choose_58 : decode cX2_choose 58 = .ok (.getfield 65, 3) := by decide +kernel
theorem dX2_choose_61 : decode cX2_choose 61 = .ok (.aload_n 1, 1) := by decide +kernel
theorem dX2_choose_62 : decode cX2_choose 62 = .ok (.iload 4, 2) := by decide +kernel
theorem dX2_choose_64 : decode cX2_choose 64 = .ok (.invokevirtual 81, 3) := by decide +kernel
theorem dX2_choose_67 : decode cX2_choose 67 = .ok (.iadd, 1) := by decide +kernel
theorem dX2_choose_68 : decode cX2_choose 68 = .ok (.istore 6, 2) := by decide +kernel
theorem dX2_choose_70 : decode cX2_choose 70 = .ok (.iload 6, 2) := by decide +kernel
theorem dX2_choose_72 : decode cX2_choose 72 = .ok (.aload_n 1, 1) := by decide +kernel
theorem dX2_choose_73 : decode cX2_choose 73 = .ok (.getfield 78, 3) := by decide +kernel
theorem dX2_choose_76 : decode cX2_choose 76 = .ok (.if_icmp .gt 39, 3) := by decide +kernel
theorem dX2_choose_79 : decode cX2_choose 79 = .ok (.aload_n 0, 1) := by decide +kernel
theorem dX2_choose_80 : decode cX2_choose 80 = .ok (.getfield 28, 3) := by decide +kernel
theorem dX2_choose_83 : decode cX2_choose 83 = .ok (.bipush 40, 2) := by decide +kernel
theorem dX2_choose_85 : decode cX2_choose 85 = .ok (.if_icmp .ge 30, 3) := by decide +kernel
theorem dX2_choose_88 : decode cX2_choose 88 = .ok (.aload_n 0, 1) := by decide +kernel
theorem dX2_choose_89 : decode cX2_choose 89 = .ok (.iload 6, 2) := by decide +kernel
theorem dX2_choose_91 : decode cX2_choose 91 = .ok (.putfield 65, 3) := by decide +kernel
theorem dX2_choose_94 : decode cX2_choose 94 = .ok (.aload_n 0, 1) := by decide +kernel
theorem dX2_choose_95 : decode cX2_choose 95 = .ok (.getfield 18, 3) := by decide +kernel
theorem dX2_choose_98 : decode cX2_choose 98 = .ok (.aload_n 0, 1) := by decide +kernel
theorem dX2_choose_99 : decode cX2_choose 99 = .ok (.getfield 28, 3) := by decide +kernel
theorem dX2_choose_102 : decode cX2_choose 102 = .ok (.iload 4, 2) := by decide +kernel
theorem dX2_choose_104 : decode cX2_choose 104 = .ok (.iastore, 1) := by decide +kernel
theorem dX2_choose_105 : decode cX2_choose 105 = .ok (.aload_n 0, 1) := by decide +kernel
theorem dX2_choose_106 : decode cX2_choose 106 = .ok (.dup, 1) := by decide +kernel
theorem dX2_choose_107 : decode cX2_choose 107 = .ok (.getfield 28, 3) := by decide +kernel
theorem dX2_choose_110 : decode cX2_choose 110 = .ok (.iconst 1, 1) := by decide +kernel
theorem dX2_choose_111 : decode cX2_choose 111 = .ok (.iadd, 1) := by decide +kernel
theorem dX2_choose_112 : decode cX2_choose 112 = .ok (.putfield 28, 3) := by decide +kernel
theorem dX2_choose_115 : decode cX2_choose 115 = .ok (.aload_n 0, 1) := by decide +kernel
theorem dX2_choose_116 : decode cX2_choose 116 = .ok (.getfield 15, 3) := by decide +kernel
theorem dX2_choose_119 : decode cX2_choose 119 = .ok (.iload 4, 2) := by decide +kernel
theorem dX2_choose_121 : decode cX2_choose 121 = .ok (.iaload, 1) := by decide +kernel
theorem dX2_choose_122 : decode cX2_choose 122 = .ok (.istore 4, 2) := by decide +kernel
theorem dX2_choose_124 : decode cX2_choose 124 = .ok (.iinc 5 1, 3) := by decide +kernel
theorem dX2_choose_127 : decode cX2_choose 127 = .ok (.goto (-83), 3) := by decide +kernel
theorem dX2_choose_130 : decode cX2_choose 130 = .ok (.iinc 3 (-1), 3) := by decide +kernel
theorem dX2_choose_133 : decode cX2_choose 133 = .ok (.goto (-115), 3) := by decide +kernel
theorem dX2_choose_136 : decode cX2_choose 136 = .ok (.return_, 1) := by decide +kernel
theorem dX2_countTick_0 : decode cX2_countTick 0 = .ok (.iload_n 1, 1) := by decide +kernel
theorem dX2_countTick_1 : decode cX2_countTick 1 = .ok (.aload_n 0, 1) := by decide +kernel
theorem dX2_countTick_2 : decode cX2_countTick 2 = .ok (.getfield 62, 3) := by decide +kernel
theorem dX2_countTick_5 : decode cX2_countTick 5 = .ok (.if_icmp .le 16, 3) := by decide +kernel
theorem dX2_countTick_8 : decode cX2_countTick 8 = .ok (.aload_n 0, 1) := by decide +kernel
theorem dX2_countTick_9 : decode cX2_countTick 9 = .ok (.iload_n 1, 1) := by decide +kernel
theorem dX2_countTick_10 : decode cX2_countTick 10 = .ok (.putfield 62, 3) := by decide +kernel
theorem dX2_countTick_13 : decode cX2_countTick 13 = .ok (.aload_n 0, 1) := by decide +kernel
theorem dX2_countTick_14 : decode cX2_countTick 14 = .ok (.aload_n 0, 1) := by decide +kernel
theorem dX2_countTick_15 : decode cX2_countTick 15 = .ok (.getfield 51, 3) := by decide +kernel
theorem dX2_countTick_18 : decode cX2_countTick 18 = .ok (.putfield 59, 3) := by decide +kernel
theorem dX2_countTick_21 : decode cX2_countTick 21 = .ok (.aload_n 0, 1) := by decide +kernel
theorem dX2_countTick_22 : decode cX2_countTick 22 = .ok (.aload_n 0, 1) := by decide +kernel
theorem dX2_countTick_23 : decode cX2_countTick 23 = .ok (.getfield 56, 3) := by decide +kernel
theorem dX2_countTick_26 : decode cX2_countTick 26 = .ok (.aload_n 0, 1) := by decide +kernel
theorem dX2_countTick_27 : decode cX2_countTick 27 = .ok (.getfield 65, 3) := by decide +kernel
theorem dX2_countTick_30 : decode cX2_countTick 30 = .ok (.invokestatic 68, 3) := by decide +kernel
theorem dX2_countTick_33 : decode cX2_countTick 33 = .ok (.putfield 56, 3) := by decide +kernel
theorem dX2_countTick_36 : decode cX2_countTick 36 = .ok (.aload_n 0, 1) := by decide +kernel
theorem dX2_countTick_37 : decode cX2_countTick 37 = .ok (.dup, 1) := by decide +kernel
theorem dX2_countTick_38 : decode cX2_countTick 38 = .ok (.getfield 55, 3) := by decide +kernel
theorem dX2_countTick_41 : decode cX2_countTick 41 = .ok (.iload_n 1, 1) := by decide +kernel
theorem dX2_countTick_42 : decode cX2_countTick 42 = .ok (.iadd, 1) := by decide +kernel
theorem dX2_countTick_43 : decode cX2_countTick 43 = .ok (.putfield 55, 3) := by decide +kernel
theorem dX2_countTick_46 : decode cX2_countTick 46 = .ok (.aload_n 0, 1) := by decide +kernel
theorem dX2_countTick_47 : decode cX2_countTick 47 = .ok (.dup, 1) := by decide +kernel
theorem dX2_countTick_48 : decode cX2_countTick 48 = .ok (.getfield 52, 3) := by decide +kernel
theorem dX2_countTick_51 : decode cX2_countTick 51 = .ok (.aload_n 0, 1) := by decide +kernel
theorem dX2_countTick_52 : decode cX2_countTick 52 = .ok (.getfield 28, 3) := by decide +kernel
theorem dX2_countTick_55 : decode cX2_countTick 55 = .ok (.iadd, 1) := by decide +kernel
theorem dX2_countTick_56 : decode cX2_countTick 56 = .ok (.putfield 52, 3) := by decide +kernel
theorem dX2_countTick_59 : decode cX2_countTick 59 = .ok (.aload_n 0, 1) := by decide +kernel
theorem dX2_countTick_60 : decode cX2_countTick 60 = .ok (.dup, 1) := by decide +kernel
theorem dX2_countTick_61 : decode cX2_countTick 61 = .ok (.getfield 51, 3) := by decide +kernel
theorem dX2_countTick_64 : decode cX2_countTick 64 = .ok (.iconst 1, 1) := by decide +kernel
theorem dX2_countTick_65 : decode cX2_countTick 65 = .ok (.iadd, 1) := by decide +kernel
theorem dX2_countTick_66 : decode cX2_countTick 66 = .ok (.putfield 51, 3) := by decide +kernel
theorem dX2_countTick_69 : decode cX2_countTick 69 = .ok (.return_, 1) := by decide +kernel
theorem dX2_turn_0 : decode cX2_turn 0 = .ok (.aload_n 0, 1) := by decide +kernel
theorem dX2_turn_1 : decode cX2_turn 1 = .ok (.invokevirtual 21, 3) := by decide +kernel
theorem dX2_turn_4 : decode cX2_turn 4 = .ok (.iconst 0, 1) := by decide +kernel
theorem dX2_turn_5 : decode cX2_turn 5 = .ok (.istore_n 3, 1) := by decide +kernel
theorem dX2_turn_6 : decode cX2_turn 6 = .ok (.iload_n 3, 1) := by decide +kernel
theorem dX2_turn_7 : decode cX2_turn 7 = .ok (.iload_n 2, 1) := by decide +kernel
theorem dX2_turn_8 : decode cX2_turn 8 = .ok (.if_icmp .ge 101, 3) := by decide +kernel
theorem dX2_turn_11 : decode cX2_turn 11 = .ok (.aload_n 0, 1) := by decide +kernel
theorem dX2_turn_12 : decode cX2_turn 12 = .ok (.aload_n 1, 1) := by decide +kernel
theorem dX2_turn_13 : decode cX2_turn 13 = .ok (.invokevirtual 24, 3) := by decide +kernel
theorem dX2_turn_16 : decode cX2_turn 16 = .ok (.aload_n 0, 1) := by decide +kernel
theorem dX2_turn_17 : decode cX2_turn 17 = .ok (.getfield 28, 3) := by decide +kernel
theorem dX2_turn_20 : decode cX2_turn 20 = .ok (.ifCond .ne 4, 3) := by decide +kernel
theorem dX2_turn_23 : decode cX2_turn 23 = .ok (.return_, 1) := by decide +kernel
theorem dX2_turn_24 : decode cX2_turn 24 = .ok (.iconst 0, 1) := by decide +kernel
theorem dX2_turn_25 : decode cX2_turn 25 = .ok (.istore 4, 2) := by decide +kernel
theorem dX2_turn_27 : decode cX2_turn 27 = .ok (.iload 4, 2) := by decide +kernel
theorem dX2_turn_29 : decode cX2_turn 29 = .ok (.aload_n 0, 1) := by decide +kernel
theorem dX2_turn_30 : decode cX2_turn 30 = .ok (.getfield 28, 3) := by decide +kernel
theorem dX2_turn_33 : decode cX2_turn 33 = .ok (.if_icmp .ge 29, 3) := by decide +kernel
theorem dX2_turn_36 : decode cX2_turn 36 = .ok (.aload_n 0, 1) := by decide +kernel
theorem dX2_turn_37 : decode cX2_turn 37 = .ok (.dup, 1) := by decide +kernel
theorem dX2_turn_38 : decode cX2_turn 38 = .ok (.getfield 32, 3) := by decide +kernel
theorem dX2_turn_41 : decode cX2_turn 41 = .ok (.aload_n 1, 1) := by decide +kernel
theorem dX2_turn_42 : decode cX2_turn 42 = .ok (.aload_n 0, 1) := by decide +kernel
theorem dX2_turn_43 : decode cX2_turn 43 = .ok (.getfield 18, 3) := by decide +kernel
theorem dX2_turn_46 : decode cX2_turn 46 = .ok (.iload 4, 2) := by decide +kernel
theorem dX2_turn_48 : decode cX2_turn 48 = .ok (.iaload, 1) := by decide +kernel
theorem dX2_turn_49 : decode cX2_turn 49 = .ok (.invokevirtual 35, 3) := by decide +kernel
theorem dX2_turn_52 : decode cX2_turn 52 = .ok (.iadd, 1) := by decide +kernel
theorem dX2_turn_53 : decode cX2_turn 53 = .ok (.putfield 32, 3) := by decide +kernel
theorem dX2_turn_56 : decode cX2_turn 56 = .ok (.iinc 4 1, 3) := by decide +kernel
theorem dX2_turn_59 : decode cX2_turn 59 = .ok (.goto (-32), 3) := by decide +kernel
theorem dX2_turn_62 : decode cX2_turn 62 = .ok (.aload_n 1, 1) := by decide +kernel
theorem dX2_turn_63 : decode cX2_turn 63 = .ok (.dup, 1) := by decide +kernel
theorem dX2_turn_64 : decode cX2_turn 64 = .ok (.getfield 41, 3) := by decide +kernel
theorem dX2_turn_67 : decode cX2_turn 67 = .ok (.aload_n 0, 1) := by decide +kernel
theorem dX2_turn_68 : decode cX2_turn 68 = .ok (.getfield 28, 3) := by decide +kernel
theorem dX2_turn_71 : decode cX2_turn 71 = .ok (.aload_n 0, 1) := by decide +kernel
theorem dX2_turn_72 : decode cX2_turn 72 = .ok (.getfield 28, 3) := by decide +kernel
theorem dX2_turn_75 : decode cX2_turn 75 = .ok (.imul, 1) := by decide +kernel
theorem dX2_turn_76 : decode cX2_turn 76 = .ok (.iadd, 1) := by decide +kernel
theorem dX2_turn_77 : decode cX2_turn 77 = .ok (.putfield 41, 3) := by decide +kernel
theorem dX2_turn_80 : decode cX2_turn 80 = .ok (.aload_n 1, 1) := by decide +kernel
theorem dX2_turn_81 : decode cX2_turn 81 = .ok (.dup, 1) := by decide +kernel
theorem dX2_turn_82 : decode cX2_turn 82 = .ok (.getfield 44, 3) := by decide +kernel
theorem dX2_turn_85 : decode cX2_turn 85 = .ok (.iconst 1, 1) := by decide +kernel
theorem dX2_turn_86 : decode cX2_turn 86 = .ok (.iadd, 1) := by decide +kernel
theorem dX2_turn_87 : decode cX2_turn 87 = .ok (.putfield 44, 3) := by decide +kernel
theorem dX2_turn_90 : decode cX2_turn 90 = .ok (.aload_n 0, 1) := by decide +kernel
theorem dX2_turn_91 : decode cX2_turn 91 = .ok (.aload_n 0, 1) := by decide +kernel
theorem dX2_turn_92 : decode cX2_turn 92 = .ok (.getfield 28, 3) := by decide +kernel
theorem dX2_turn_95 : decode cX2_turn 95 = .ok (.aload_n 0, 1) := by decide +kernel
theorem dX2_turn_96 : decode cX2_turn 96 = .ok (.getfield 28, 3) := by decide +kernel
theorem dX2_turn_99 : decode cX2_turn 99 = .ok (.imul, 1) := by decide +kernel
theorem dX2_turn_100 : decode cX2_turn 100 = .ok (.invokevirtual 47, 3) := by decide +kernel
theorem dX2_turn_103 : decode cX2_turn 103 = .ok (.iinc 3 1, 3) := by decide +kernel
theorem dX2_turn_106 : decode cX2_turn 106 = .ok (.goto (-100), 3) := by decide +kernel
theorem dX2_turn_109 : decode cX2_turn 109 = .ok (.return_, 1) := by decide +kernel
theorem dX2_chosenBits_0 : decode cX2_chosenBits 0 = .ok (.lconst 0, 1) := by decide +kernel
theorem dX2_chosenBits_1 : decode cX2_chosenBits 1 = .ok (.lstore_n 1, 1) := by decide +kernel
theorem dX2_chosenBits_2 : decode cX2_chosenBits 2 = .ok (.iconst 0, 1) := by decide +kernel
theorem dX2_chosenBits_3 : decode cX2_chosenBits 3 = .ok (.istore_n 3, 1) := by decide +kernel
theorem dX2_chosenBits_4 : decode cX2_chosenBits 4 = .ok (.iload_n 3, 1) := by decide +kernel
theorem dX2_chosenBits_5 : decode cX2_chosenBits 5 = .ok (.aload_n 0, 1) := by decide +kernel
theorem dX2_chosenBits_6 : decode cX2_chosenBits 6 = .ok (.getfield 28, 3) := by decide +kernel
theorem dX2_chosenBits_9 : decode cX2_chosenBits 9 = .ok (.if_icmp .ge 20, 3) := by decide +kernel
theorem dX2_chosenBits_12 : decode cX2_chosenBits 12 = .ok (.lload_n 1, 1) := by decide +kernel
theorem dX2_chosenBits_13 : decode cX2_chosenBits 13 = .ok (.lconst 1, 1) := by decide +kernel
theorem dX2_chosenBits_14 : decode cX2_chosenBits 14 = .ok (.aload_n 0, 1) := by decide +kernel
theorem dX2_chosenBits_15 : decode cX2_chosenBits 15 = .ok (.getfield 18, 3) := by decide +kernel
theorem dX2_chosenBits_18 : decode cX2_chosenBits 18 = .ok (.iload_n 3, 1) := by decide +kernel
theorem dX2_chosenBits_19 : decode cX2_chosenBits 19 = .ok (.iaload, 1) := by decide +kernel
theorem dX2_chosenBits_20 : decode cX2_chosenBits 20 = .ok (.lshl, 1) := by decide +kernel
theorem dX2_chosenBits_21 : decode cX2_chosenBits 21 = .ok (.lor, 1) := by decide +kernel
theorem dX2_chosenBits_22 : decode cX2_chosenBits 22 = .ok (.lstore_n 1, 1) := by decide +kernel
theorem dX2_chosenBits_23 : decode cX2_chosenBits 23 = .ok (.iinc 3 1, 3) := by decide +kernel
theorem dX2_chosenBits_26 : decode cX2_chosenBits 26 = .ok (.goto (-22), 3) := by decide +kernel
theorem dX2_chosenBits_29 : decode cX2_chosenBits 29 = .ok (.lload_n 1, 1) := by decide +kernel
theorem dX2_chosenBits_30 : decode cX2_chosenBits 30 = .ok (.lreturn, 1) := by decide +kernel
theorem dX4_hasStep_0 : decode cX4_hasStep 0 = .ok (.iload_n 1, 1) := by decide +kernel
theorem dX4_hasStep_1 : decode cX4_hasStep 1 = .ok (.ifCond .lt 15, 3) := by decide +kernel
theorem dX4_hasStep_4 : decode cX4_hasStep 4 = .ok (.iload_n 1, 1) := by decide +kernel
theorem dX4_hasStep_5 : decode cX4_hasStep 5 = .ok (.aload_n 0, 1) := by decide +kernel
theorem dX4_hasStep_6 : decode cX4_hasStep 6 = .ok (.getfield 33, 3) := by decide +kernel
theorem dX4_hasStep_9 : decode cX4_hasStep 9 = .ok (.if_icmp .ge 7, 3) := by decide +kernel
theorem dX4_hasStep_12 : decode cX4_hasStep 12 = .ok (.iconst 1, 1) := by decide +kernel
theorem dX4_hasStep_13 : decode cX4_hasStep 13 = .ok (.goto 4, 3) := by decide +kernel
theorem dX4_hasStep_16 : decode cX4_hasStep 16 = .ok (.iconst 0, 1) := by decide +kernel
theorem dX4_hasStep_17 : decode cX4_hasStep 17 = .ok (.ireturn, 1) := by decide +kernel
theorem dX4_kindOf_0 : decode cX4_kindOf 0 = .ok (.aload_n 0, 1) := by decide +kernel
theorem dX4_kindOf_1 : decode cX4_kindOf 1 = .ok (.iload_n 1, 1) := by decide +kernel
theorem dX4_kindOf_2 : decode cX4_kindOf 2 = .ok (.invokevirtual 37, 3) := by decide +kernel
theorem dX4_kindOf_5 : decode cX4_kindOf 5 = .ok (.ifCond .eq 12, 3) := by decide +kernel
theorem dX4_kindOf_8 : decode cX4_kindOf 8 = .ok (.aload_n 0, 1) := by decide +kernel
theorem dX4_kindOf_9 : decode cX4_kindOf 9 = .ok (.getfield 11, 3) := by decide +kernel
theorem dX4_kindOf_12 : decode cX4_kindOf 12 = .ok (.iload_n 1, 1) := by decide +kernel
theorem dX4_kindOf_13 : decode cX4_kindOf 13 = .ok (.iaload, 1) := by decide +kernel
theorem dX4_kindOf_14 : decode cX4_kindOf 14 = .ok (.goto 4, 3) := by decide +kernel
theorem dX4_kindOf_17 : decode cX4_kindOf 17 = .ok (.iconst 0, 1) := by decide +kernel
theorem dX4_kindOf_18 : decode cX4_kindOf 18 = .ok (.ireturn, 1) := by decide +kernel
theorem dX4_oneOf_0 : decode cX4_oneOf 0 = .ok (.aload_n 0, 1) := by decide +kernel
theorem dX4_oneOf_1 : decode cX4_oneOf 1 = .ok (.iload_n 1, 1) := by decide +kernel
theorem dX4_oneOf_2 : decode cX4_oneOf 2 = .ok (.invokevirtual 37, 3) := by decide +kernel
theorem dX4_oneOf_5 : decode cX4_oneOf 5 = .ok (.ifCond .eq 12, 3) := by decide +kernel
theorem dX4_oneOf_8 : decode cX4_oneOf 8 = .ok (.aload_n 0, 1) := by decide +kernel
theorem dX4_oneOf_9 : decode cX4_oneOf 9 = .ok (.getfield 15, 3) := by decide +kernel
theorem dX4_oneOf_12 : decode cX4_oneOf 12 = .ok (.iload_n 1, 1) := by decide +kernel
theorem dX4_oneOf_13 : decode cX4_oneOf 13 = .ok (.iaload, 1) := by decide +kernel
theorem dX4_oneOf_14 : decode cX4_oneOf 14 = .ok (.goto 4, 3) := by decide +kernel
theorem dX4_oneOf_17 : decode cX4_oneOf 17 = .ok (.iconst 0, 1) := by decide +kernel
theorem dX4_oneOf_18 : decode cX4_oneOf 18 = .ok (.ireturn, 1) := by decide +kernel
theorem dX4_twoOf_0 : decode cX4_twoOf 0 = .ok (.aload_n 0, 1) := by decide +kernel
theorem dX4_twoOf_1 : decode cX4_twoOf 1 = .ok (.iload_n 1, 1) := by decide +kernel
theorem dX4_twoOf_2 : decode cX4_twoOf 2 = .ok (.invokevirtual 37, 3) := by decide +kernel
theorem dX4_twoOf_5 : decode cX4_twoOf 5 = .ok (.ifCond .eq 12, 3) := by decide +kernel
theorem dX4_twoOf_8 : decode cX4_twoOf 8 = .ok (.aload_n 0, 1) := by decide +kernel
theorem dX4_twoOf_9 : decode cX4_twoOf 9 = .ok (.getfield 18, 3) := by decide +kernel
theorem dX4_twoOf_12 : decode cX4_twoOf 12 = .ok (.iload_n 1, 1) := by decide +kernel
theorem dX4_twoOf_13 : decode cX4_twoOf 13 = .ok (.iaload, 1) := by decide +kernel
theorem dX4_twoOf_14 : decode cX4_twoOf 14 = .ok (.goto 4, 3) := by decide +kernel
theorem dX4_twoOf_17 : decode cX4_twoOf 17 = .ok (.iconst 0, 1) := by decide +kernel
theorem dX4_twoOf_18 : decode cX4_twoOf 18 = .ok (.ireturn, 1) := by decide +kernel
theorem dX4_quotedOf_0 : decode cX4_quotedOf 0 = .ok (.aload_n 0, 1) := by decide +kernel
theorem dX4_quotedOf_1 : decode cX4_quotedOf 1 = .ok (.iload_n 1, 1) := by decide +kernel
theorem dX4_quotedOf_2 : decode cX4_quotedOf 2 = .ok (.invokevirtual 37, 3) := by decide +kernel
theorem dX4_quotedOf_5 : decode cX4_quotedOf 5 = .ok (.ifCond .eq 12, 3) := by decide +kernel
theorem dX4_quotedOf_8 : decode cX4_quotedOf 8 = .ok (.aload_n 0, 1) := by decide +kernel
theorem dX4_quotedOf_9 : decode cX4_quotedOf 9 = .ok (.getfield 21, 3) := by decide +kernel
theorem dX4_quotedOf_12 : decode cX4_quotedOf 12 = .ok (.iload_n 1, 1) := by decide +kernel
theorem dX4_quotedOf_13 : decode cX4_quotedOf 13 = .ok (.iaload, 1) := by decide +kernel
theorem dX4_quotedOf_14 : decode cX4_quotedOf 14 = .ok (.goto 4, 3) := by decide +kernel
theorem dX4_quotedOf_17 : decode cX4_quotedOf 17 = .ok (.iconst 0, 1) := by decide +kernel
theorem dX4_quotedOf_18 : decode cX4_quotedOf 18 = .ok (.ireturn, 1) := by decide +kernel
theorem dX4_endOf_0 : decode cX4_endOf 0 = .ok (.aload_n 0, 1) := by decide +kernel
theorem dX4_endOf_1 : decode cX4_endOf 1 = .ok (.iload_n 1, 1) := by decide +kernel
theorem dX4_endOf_2 : decode cX4_endOf 2 = .ok (.invokevirtual 37, 3) := by decide +kernel
theorem dX4_endOf_5 : decode cX4_endOf 5 = .ok (.ifCond .eq 12, 3) := by decide +kernel
theorem dX4_endOf_8 : decode cX4_endOf 8 = .ok (.aload_n 0, 1) := by decide +kernel
theorem dX4_endOf_9 : decode cX4_endOf 9 = .ok (.getfield 24, 3) := by decide +kernel
theorem dX4_endOf_12 : decode cX4_endOf 12 = .ok (.iload_n 1, 1) := by decide +kernel
theorem dX4_endOf_13 : decode cX4_endOf 13 = .ok (.iaload, 1) := by decide +kernel
theorem dX4_endOf_14 : decode cX4_endOf 14 = .ok (.goto 7, 3) := by decide +kernel
theorem dX4_endOf_17 : decode cX4_endOf 17 = .ok (.aload_n 0, 1) := by decide +kernel
theorem dX4_endOf_18 : decode cX4_endOf 18 = .ok (.getfield 33, 3) := by decide +kernel
theorem dX4_endOf_21 : decode cX4_endOf 21 = .ok (.ireturn, 1) := by decide +kernel
theorem dX4_startDoing_0 : decode cX4_startDoing 0 = .ok (.aload_n 0, 1) := by decide +kernel
theorem dX4_startDoing_1 : decode cX4_startDoing 1 = .ok (.iconst 0, 1) := by decide +kernel
theorem dX4_startDoing_2 : decode cX4_startDoing 2 = .ok (.putfield 41, 3) := by decide +kernel
theorem dX4_startDoing_5 : decode cX4_startDoing 5 = .ok (.aload_n 0, 1) := by decide +kernel
theorem dX4_startDoing_6 : decode cX4_startDoing 6 = .ok (.iconst 0, 1) := by decide +kernel
theorem dX4_startDoing_7 : decode cX4_startDoing 7 = .ok (.putfield 44, 3) := by decide +kernel
theorem dX4_startDoing_10 : decode cX4_startDoing 10 = .ok (.return_, 1) := by decide +kernel
theorem dX4_goOn_0 : decode cX4_goOn 0 = .ok (.aload_n 0, 1) := by decide +kernel
theorem dX4_goOn_1 : decode cX4_goOn 1 = .ok (.aload_n 0, 1) := by decide +kernel
theorem dX4_goOn_2 : decode cX4_goOn 2 = .ok (.getfield 41, 3) := by decide +kernel
theorem dX4_goOn_5 : decode cX4_goOn 5 = .ok (.invokevirtual 47, 3) := by decide +kernel
theorem dX4_goOn_8 : decode cX4_goOn 8 = .ok (.bipush 12, 2) := by decide +kernel
theorem dX4_goOn_10 : decode cX4_goOn 10 = .ok (.if_icmp .ne 75, 3) := by decide +kernel
theorem dX4_goOn_13 : decode cX4_goOn 13 = .ok (.aload_n 0, 1) := by decide +kernel
theorem dX4_goOn_14 : decode cX4_goOn 14 = .ok (.aload_n 0, 1) := by decide +kernel
theorem dX4_goOn_15 : decode cX4_goOn 15 = .ok (.getfield 41, 3) := by decide +kernel
theorem dX4_goOn_18 : decode cX4_goOn 18 = .ok (.invokevirtual 51, 3) := by decide +kernel
theorem dX4_goOn_21 : decode cX4_goOn 21 = .ok (.ifCond .le 64, 3) := by decide +kernel
theorem dX4_goOn_24 : decode cX4_goOn 24 = .ok (.aload_n 0, 1) := by decide +kernel
theorem dX4_goOn_25 : decode cX4_goOn 25 = .ok (.getfield 44, 3) := by decide +kernel
theorem dX4_goOn_28 : decode cX4_goOn 28 = .ok (.iconst 3, 1) := by decide +kernel
theorem dX4_goOn_29 : decode cX4_goOn 29 = .ok (.if_icmp .ge 56, 3) := by decide +kernel
theorem dX4_goOn_32 : decode cX4_goOn 32 = .ok (.aload_n 0, 1) := by decide +kernel
theorem dX4_goOn_33 : decode cX4_goOn 33 = .ok (.getfield 27, 3) := by decide +kernel
theorem dX4_goOn_36 : decode cX4_goOn 36 = .ok (.aload_n 0, 1) := by decide +kernel
theorem dX4_goOn_37 : decode cX4_goOn 37 = .ok (.getfield 44, 3) := by decide +kernel
theorem dX4_goOn_40 : decode cX4_goOn 40 = .ok (.aload_n 0, 1) := by decide +kernel
theorem dX4_goOn_41 : decode cX4_goOn 41 = .ok (.getfield 41, 3) := by decide +kernel
theorem dX4_goOn_44 : decode cX4_goOn 44 = .ok (.iastore, 1) := by decide +kernel
theorem dX4_goOn_45 : decode cX4_goOn 45 = .ok (.aload_n 0, 1) := by decide +kernel
theorem dX4_goOn_46 : decode cX4_goOn 46 = .ok (.getfield 30, 3) := by decide +kernel
theorem dX4_goOn_49 : decode cX4_goOn 49 = .ok (.aload_n 0, 1) := by decide +kernel
theorem dX4_goOn_50 : decode cX4_goOn 50 = .ok (.getfield 44, 3) := by decide +kernel
theorem dX4_goOn_53 : decode cX4_goOn 53 = .ok (.aload_n 0, 1) := by decide +kernel
theorem dX4_goOn_54 : decode cX4_goOn 54 = .ok (.aload_n 0, 1) := by decide +kernel
theorem dX4_goOn_55 : decode cX4_goOn 55 = .ok (.getfield 41, 3) := by decide +kernel
theorem dX4_goOn_58 : decode cX4_goOn 58 = .ok (.invokevirtual 51, 3) := by decide +kernel
theorem dX4_goOn_61 : decode cX4_goOn 61 = .ok (.iconst 1, 1) := by decide +kernel
theorem dX4_goOn_62 : decode cX4_goOn 62 = .ok (.isub, 1) := by decide +kernel
theorem dX4_goOn_63 : decode cX4_goOn 63 = .ok (.iastore, 1) := by decide +kernel
theorem dX4_goOn_64 : decode cX4_goOn 64 = .ok (.aload_n 0, 1) := by decide +kernel
theorem dX4_goOn_65 : decode cX4_goOn 65 = .ok (.dup, 1) := by decide +kernel
theorem dX4_goOn_66 : decode cX4_goOn 66 = .ok (.getfield 44, 3) := by decide +kernel
theorem dX4_goOn_69 : decode cX4_goOn 69 = .ok (.iconst 1, 1) := by decide +kernel
theorem dX4_goOn_70 : decode cX4_goOn 70 = .ok (.iadd, 1) := by decide +kernel
theorem dX4_goOn_71 : decode cX4_goOn 71 = .ok (.putfield 44, 3) := by decide +kernel
theorem dX4_goOn_74 : decode cX4_goOn 74 = .ok (.aload_n 0, 1) := by decide +kernel
theorem dX4_goOn_75 : decode cX4_goOn 75 = .ok (.dup, 1) := by decide +kernel
theorem dX4_goOn_76 : decode cX4_goOn 76 = .ok (.getfield 41, 3) := by decide +kernel
theorem dX4_goOn_79 : decode cX4_goOn 79 = .ok (.iconst 1, 1) := by decide +kernel
theorem dX4_goOn_80 : decode cX4_goOn 80 = .ok (.iadd, 1) := by decide +kernel

theorem dX4_goOn_81 : decode cX4_goOn 81 = .ok (.putfield 41, 3) := by decide +kernel
theorem dX4_goOn_84 : decode cX4_goOn 84 = .ok (.return_, 1) := by decide +kernel
theorem dX4_goOn_85 : decode cX4_goOn 85 = .ok (.aload_n 0, 1) := by decide +kernel
theorem dX4_goOn_86 : decode cX4_goOn 86 = .ok (.aload_n 0, 1) := by decide +kernel
theorem dX4_goOn_87 : decode cX4_goOn 87 = .ok (.aload_n 0, 1) := by decide +kernel
theorem dX4_goOn_88 : decode cX4_goOn 88 = .ok (.getfield 41, 3) := by decide +kernel
theorem dX4_goOn_91 : decode cX4_goOn 91 = .ok (.invokevirtual 54, 3) := by decide +kernel
theorem dX4_goOn_94 : decode cX4_goOn 94 = .ok (.putfield 41, 3) := by decide +kernel
theorem dX4_goOn_97 : decode cX4_goOn 97 = .ok (.iconst 0, 1) := by decide +kernel
theorem dX4_goOn_98 : decode cX4_goOn 98 = .ok (.istore_n 1, 1) := by decide +kernel
theorem dX4_goOn_99 : decode cX4_goOn 99 = .ok (.iload_n 1, 1) := by decide +kernel
theorem dX4_goOn_100 : decode cX4_goOn 100 = .ok (.iconst 3, 1) := by decide +kernel
theorem dX4_goOn_101 : decode cX4_goOn 101 = .ok (.if_icmp .ge 97, 3) := by decide +kernel
theorem dX4_goOn_104 : decode cX4_goOn 104 = .ok (.aload_n 0, 1) := by decide +kernel
theorem dX4_goOn_105 : decode cX4_goOn 105 = .ok (.getfield 44, 3) := by decide +kernel
theorem dX4_goOn_108 : decode cX4_goOn 108 = .ok (.ifCond .le 90, 3) := by decide +kernel
theorem dX4_goOn_111 : decode cX4_goOn 111 = .ok (.aload_n 0, 1) := by decide +kernel
theorem dX4_goOn_112 : decode cX4_goOn 112 = .ok (.getfield 41, 3) := by decide +kernel
theorem dX4_goOn_115 : decode cX4_goOn 115 = .ok (.aload_n 0, 1) := by decide +kernel
theorem dX4_goOn_116 : decode cX4_goOn 116 = .ok (.aload_n 0, 1) := by decide +kernel
theorem dX4_goOn_117 : decode cX4_goOn 117 = .ok (.getfield 27, 3) := by decide +kernel
theorem dX4_goOn_120 : decode cX4_goOn 120 = .ok (.aload_n 0, 1) := by decide +kernel
theorem dX4_goOn_121 : decode cX4_goOn 121 = .ok (.getfield 44, 3) := by decide +kernel
theorem dX4_goOn_124 : decode cX4_goOn 124 = .ok (.iconst 1, 1) := by decide +kernel
theorem dX4_goOn_125 : decode cX4_goOn 125 = .ok (.isub, 1) := by decide +kernel
theorem dX4_goOn_126 : decode cX4_goOn 126 = .ok (.iaload, 1) := by decide +kernel
theorem dX4_goOn_127 : decode cX4_goOn 127 = .ok (.invokevirtual 54, 3) := by decide +kernel
theorem dX4_goOn_130 : decode cX4_goOn 130 = .ok (.if_icmp .ne 68, 3) := by decide +kernel
theorem dX4_goOn_133 : decode cX4_goOn 133 = .ok (.aload_n 0, 1) := by decide +kernel
theorem dX4_goOn_134 : decode cX4_goOn 134 = .ok (.getfield 30, 3) := by decide +kernel
theorem dX4_goOn_137 : decode cX4_goOn 137 = .ok (.aload_n 0, 1) := by decide +kernel
theorem dX4_goOn_138 : decode cX4_goOn 138 = .ok (.getfield 44, 3) := by decide +kernel
theorem dX4_goOn_141 : decode cX4_goOn 141 = .ok (.iconst 1, 1) := by decide +kernel
theorem dX4_goOn_142 : decode cX4_goOn 142 = .ok (.isub, 1) := by decide +kernel
theorem dX4_goOn_143 : decode cX4_goOn 143 = .ok (.iaload, 1) := by decide +kernel
theorem dX4_goOn_144 : decode cX4_goOn 144 = .ok (.ifCond .le 38, 3) := by decide +kernel
theorem dX4_goOn_147 : decode cX4_goOn 147 = .ok (.aload_n 0, 1) := by decide +kernel
theorem dX4_goOn_148 : decode cX4_goOn 148 = .ok (.getfield 30, 3) := by decide +kernel
theorem dX4_goOn_151 : decode cX4_goOn 151 = .ok (.aload_n 0, 1) := by decide +kernel
theorem dX4_goOn_152 : decode cX4_goOn 152 = .ok (.getfield 44, 3) := by decide +kernel
theorem dX4_goOn_155 : decode cX4_goOn 155 = .ok (.iconst 1, 1) := by decide +kernel
theorem dX4_goOn_156 : decode cX4_goOn 156 = .ok (.isub, 1) := by decide +kernel
theorem dX4_goOn_157 : decode cX4_goOn 157 = .ok (.dup2, 1) := by decide +kernel
theorem dX4_goOn_158 : decode cX4_goOn 158 = .ok (.iaload, 1) := by decide +kernel
theorem dX4_goOn_159 : decode cX4_goOn 159 = .ok (.iconst 1, 1) := by decide +kernel
theorem dX4_goOn_160 : decode cX4_goOn 160 = .ok (.isub, 1) := by decide +kernel
theorem dX4_goOn_161 : decode cX4_goOn 161 = .ok (.iastore, 1) := by decide +kernel
theorem dX4_goOn_162 : decode cX4_goOn 162 = .ok (.aload_n 0, 1) := by decide +kernel
theorem dX4_goOn_163 : decode cX4_goOn 163 = .ok (.aload_n 0, 1) := by decide +kernel
theorem dX4_goOn_164 : decode cX4_goOn 164 = .ok (.getfield 27, 3) := by decide +kernel
theorem dX4_goOn_167 : decode cX4_goOn 167 = .ok (.aload_n 0, 1) := by decide +kernel
theorem dX4_goOn_168 : decode cX4_goOn 168 = .ok (.getfield 44, 3) := by decide +kernel
theorem dX4_goOn_171 : decode cX4_goOn 171 = .ok (.iconst 1, 1) := by decide +kernel
theorem dX4_goOn_172 : decode cX4_goOn 172 = .ok (.isub, 1) := by decide +kernel
theorem dX4_goOn_173 : decode cX4_goOn 173 = .ok (.iaload, 1) := by decide +kernel
theorem dX4_goOn_174 : decode cX4_goOn 174 = .ok (.iconst 1, 1) := by decide +kernel
theorem dX4_goOn_175 : decode cX4_goOn 175 = .ok (.iadd, 1) := by decide +kernel
theorem dX4_goOn_176 : decode cX4_goOn 176 = .ok (.putfield 41, 3) := by decide +kernel
theorem dX4_goOn_179 : decode cX4_goOn 179 = .ok (.goto 13, 3) := by decide +kernel
theorem dX4_goOn_182 : decode cX4_goOn 182 = .ok (.aload_n 0, 1) := by decide +kernel
theorem dX4_goOn_183 : decode cX4_goOn 183 = .ok (.dup, 1) := by decide +kernel
theorem dX4_goOn_184 : decode cX4_goOn 184 = .ok (.getfield 44, 3) := by decide +kernel
theorem dX4_goOn_187 : decode cX4_goOn 187 = .ok (.iconst 1, 1) := by decide +kernel
theorem dX4_goOn_188 : decode cX4_goOn 188 = .ok (.isub, 1) := by decide +kernel
theorem dX4_goOn_189 : decode cX4_goOn 189 = .ok (.putfield 44, 3) := by decide +kernel
theorem dX4_goOn_192 : decode cX4_goOn 192 = .ok (.iinc 1 1, 3) := by decide +kernel
theorem dX4_goOn_195 : decode cX4_goOn 195 = .ok (.goto (-96), 3) := by decide +kernel
theorem dX4_goOn_198 : decode cX4_goOn 198 = .ok (.return_, 1) := by decide +kernel
theorem dX4_openTimes_0 : decode cX4_openTimes 0 = .ok (.aload_n 1, 1) := by decide +kernel
theorem dX4_openTimes_1 : decode cX4_openTimes 1 = .ok (.invokevirtual 117, 3) := by decide +kernel
theorem dX4_openTimes_4 : decode cX4_openTimes 4 = .ok (.bipush 40, 2) := by decide +kernel
theorem dX4_openTimes_6 : decode cX4_openTimes 6 = .ok (.if_icmp .ne 20, 3) := by decide +kernel
theorem dX4_openTimes_9 : decode cX4_openTimes 9 = .ok (.aload_n 0, 1) := by decide +kernel
theorem dX4_openTimes_10 : decode cX4_openTimes 10 = .ok (.getfield 44, 3) := by decide +kernel
theorem dX4_openTimes_13 : decode cX4_openTimes 13 = .ok (.iconst 3, 1) := by decide +kernel
theorem dX4_openTimes_14 : decode cX4_openTimes 14 = .ok (.if_icmp .lt 12, 3) := by decide +kernel
theorem dX4_openTimes_17 : decode cX4_openTimes 17 = .ok (.aload_n 1, 1) := by decide +kernel
theorem dX4_openTimes_18 : decode cX4_openTimes 18 = .ok (.aload_n 1, 1) := by decide +kernel
theorem dX4_openTimes_19 : decode cX4_openTimes 19 = .ok (.getfield 120, 3) := by decide +kernel
theorem dX4_openTimes_22 : decode cX4_openTimes 22 = .ok (.iconst 3, 1) := by decide +kernel
theorem dX4_openTimes_23 : decode cX4_openTimes 23 = .ok (.invokevirtual 110, 3) := by decide +kernel
theorem dX4_openTimes_26 : decode cX4_openTimes 26 = .ok (.aload_n 1, 1) := by decide +kernel
theorem dX4_openTimes_27 : decode cX4_openTimes 27 = .ok (.bipush 40, 2) := by decide +kernel
theorem dX4_openTimes_29 : decode cX4_openTimes 29 = .ok (.invokevirtual 121, 3) := by decide +kernel
theorem dX4_openTimes_32 : decode cX4_openTimes 32 = .ok (.aload_n 1, 1) := by decide +kernel
theorem dX4_openTimes_33 : decode cX4_openTimes 33 = .ok (.invokevirtual 70, 3) := by decide +kernel
theorem dX4_openTimes_36 : decode cX4_openTimes 36 = .ok (.ifCond .eq 26, 3) := by decide +kernel
theorem dX4_openTimes_39 : decode cX4_openTimes 39 = .ok (.aload_n 0, 1) := by decide +kernel
theorem dX4_openTimes_40 : decode cX4_openTimes 40 = .ok (.getfield 27, 3) := by decide +kernel
theorem dX4_openTimes_43 : decode cX4_openTimes 43 = .ok (.aload_n 0, 1) := by decide +kernel
theorem dX4_openTimes_44 : decode cX4_openTimes 44 = .ok (.getfield 44, 3) := by decide +kernel
theorem dX4_openTimes_47 : decode cX4_openTimes 47 = .ok (.aload_n 0, 1) := by decide +kernel
theorem dX4_openTimes_48 : decode cX4_openTimes 48 = .ok (.getfield 33, 3) := by decide +kernel
theorem dX4_openTimes_51 : decode cX4_openTimes 51 = .ok (.iastore, 1) := by decide +kernel
theorem dX4_openTimes_52 : decode cX4_openTimes 52 = .ok (.aload_n 0, 1) := by decide +kernel
theorem dX4_openTimes_53 : decode cX4_openTimes 53 = .ok (.dup, 1) := by decide +kernel
theorem dX4_openTimes_54 : decode cX4_openTimes 54 = .ok (.getfield 44, 3) := by decide +kernel
theorem dX4_openTimes_57 : decode cX4_openTimes 57 = .ok (.iconst 1, 1) := by decide +kernel
theorem dX4_openTimes_58 : decode cX4_openTimes 58 = .ok (.iadd, 1) := by decide +kernel
theorem dX4_openTimes_59 : decode cX4_openTimes 59 = .ok (.putfield 44, 3) := by decide +kernel
theorem dX4_openTimes_62 : decode cX4_openTimes 62 = .ok (.return_, 1) := by decide +kernel
theorem dX4_addStep_0 : decode cX4_addStep 0 = .ok (.aload_n 0, 1) := by decide +kernel
theorem dX4_addStep_1 : decode cX4_addStep 1 = .ok (.getfield 33, 3) := by decide +kernel
theorem dX4_addStep_4 : decode cX4_addStep 4 = .ok (.bipush 80, 2) := by decide +kernel
theorem dX4_addStep_6 : decode cX4_addStep 6 = .ok (.if_icmp .ge 69, 3) := by decide +kernel
theorem dX4_addStep_9 : decode cX4_addStep 9 = .ok (.aload_n 0, 1) := by decide +kernel
theorem dX4_addStep_10 : decode cX4_addStep 10 = .ok (.getfield 11, 3) := by decide +kernel
theorem dX4_addStep_13 : decode cX4_addStep 13 = .ok (.aload_n 0, 1) := by decide +kernel
theorem dX4_addStep_14 : decode cX4_addStep 14 = .ok (.getfield 33, 3) := by decide +kernel
theorem dX4_addStep_17 : decode cX4_addStep 17 = .ok (.iload_n 1, 1) := by decide +kernel
theorem dX4_addStep_18 : decode cX4_addStep 18 = .ok (.iastore, 1) := by decide +kernel
theorem dX4_addStep_19 : decode cX4_addStep 19 = .ok (.aload_n 0, 1) := by decide +kernel
theorem dX4_addStep_20 : decode cX4_addStep 20 = .ok (.getfield 15, 3) := by decide +kernel
theorem dX4_addStep_23 : decode cX4_addStep 23 = .ok (.aload_n 0, 1) := by decide +kernel
theorem dX4_addStep_24 : decode cX4_addStep 24 = .ok (.getfield 33, 3) := by decide +kernel
theorem dX4_addStep_27 : decode cX4_addStep 27 = .ok (.iload_n 2, 1) := by decide +kernel
theorem dX4_addStep_28 : decode cX4_addStep 28 = .ok (.iastore, 1) := by decide +kernel
theorem dX4_addStep_29 : decode cX4_addStep 29 = .ok (.aload_n 0, 1) := by decide +kernel
theorem dX4_addStep_30 : decode cX4_addStep 30 = .ok (.getfield 18, 3) := by decide +kernel
theorem dX4_addStep_33 : decode cX4_addStep 33 = .ok (.aload_n 0, 1) := by decide +kernel
theorem dX4_addStep_34 : decode cX4_addStep 34 = .ok (.getfield 33, 3) := by decide +kernel
theorem dX4_addStep_37 : decode cX4_addStep 37 = .ok (.iload_n 3, 1) := by decide +kernel
theorem dX4_addStep_38 : decode cX4_addStep 38 = .ok (.iastore, 1) := by decide +kernel
theorem dX4_addStep_39 : decode cX4_addStep 39 = .ok (.aload_n 0, 1) := by decide +kernel
theorem dX4_addStep_40 : decode cX4_addStep 40 = .ok (.getfield 21, 3) := by decide +kernel
theorem dX4_addStep_43 : decode cX4_addStep 43 = .ok (.aload_n 0, 1) := by decide +kernel
theorem dX4_addStep_44 : decode cX4_addStep 44 = .ok (.getfield 33, 3) := by decide +kernel
theorem dX4_addStep_47 : decode cX4_addStep 47 = .ok (.iload 4, 2) := by decide +kernel
theorem dX4_addStep_49 : decode cX4_addStep 49 = .ok (.iastore, 1) := by decide +kernel
theorem dX4_addStep_50 : decode cX4_addStep 50 = .ok (.aload_n 0, 1) := by decide +kernel
theorem dX4_addStep_51 : decode cX4_addStep 51 = .ok (.getfield 24, 3) := by decide +kernel
theorem dX4_addStep_54 : decode cX4_addStep 54 = .ok (.aload_n 0, 1) := by decide +kernel
theorem dX4_addStep_55 : decode cX4_addStep 55 = .ok (.getfield 33, 3) := by decide +kernel
theorem dX4_addStep_58 : decode cX4_addStep 58 = .ok (.aload_n 0, 1) := by decide +kernel
theorem dX4_addStep_59 : decode cX4_addStep 59 = .ok (.getfield 33, 3) := by decide +kernel
theorem dX4_addStep_62 : decode cX4_addStep 62 = .ok (.iconst 1, 1) := by decide +kernel
theorem dX4_addStep_63 : decode cX4_addStep 63 = .ok (.iadd, 1) := by decide +kernel
theorem dX4_addStep_64 : decode cX4_addStep 64 = .ok (.iastore, 1) := by decide +kernel
theorem dX4_addStep_65 : decode cX4_addStep 65 = .ok (.aload_n 0, 1) := by decide +kernel
theorem dX4_addStep_66 : decode cX4_addStep 66 = .ok (.dup, 1) := by decide +kernel
theorem dX4_addStep_67 : decode cX4_addStep 67 = .ok (.getfield 33, 3) := by decide +kernel
theorem dX4_addStep_70 : decode cX4_addStep 70 = .ok (.iconst 1, 1) := by decide +kernel
theorem dX4_addStep_71 : decode cX4_addStep 71 = .ok (.iadd, 1) := by decide +kernel
theorem dX4_addStep_72 : decode cX4_addStep 72 = .ok (.putfield 33, 3) := by decide +kernel
theorem dX4_addStep_75 : decode cX4_addStep 75 = .ok (.return_, 1) := by decide +kernel
theorem dX4_readStep_0 : decode cX4_readStep 0 = .ok (.iconst 0, 1) := by decide +kernel
theorem dX4_readStep_1 : decode cX4_readStep 1 = .ok (.istore 4, 2) := by decide +kernel
theorem dX4_readStep_3 : decode cX4_readStep 3 = .ok (.iconst 0, 1) := by decide +kernel
theorem dX4_readStep_4 : decode cX4_readStep 4 = .ok (.istore 5, 2) := by decide +kernel
theorem dX4_readStep_6 : decode cX4_readStep 6 = .ok (.aload_n 2, 1) := by decide +kernel
theorem dX4_readStep_7 : decode cX4_readStep 7 = .ok (.iconst 0, 1) := by decide +kernel
theorem dX4_readStep_8 : decode cX4_readStep 8 = .ok (.putfield 78, 3) := by decide +kernel
theorem dX4_readStep_11 : decode cX4_readStep 11 = .ok (.iload_n 1, 1) := by decide +kernel
theorem dX4_readStep_12 : decode cX4_readStep 12 = .ok (.tableswitch 166 6 12 #[44, 124, 75, 93, 109, 121, 149], 44) := by decide +kernel
theorem dX4_readStep_56 : decode cX4_readStep 56 = .ok (.aload_n 2, 1) := by decide +kernel
theorem dX4_readStep_57 : decode cX4_readStep 57 = .ok (.iconst 0, 1) := by decide +kernel
theorem dX4_readStep_58 : decode cX4_readStep 58 = .ok (.aload_n 3, 1) := by decide +kernel
theorem dX4_readStep_59 : decode cX4_readStep 59 = .ok (.getfield 81, 3) := by decide +kernel
theorem dX4_readStep_62 : decode cX4_readStep 62 = .ok (.iconst 1, 1) := by decide +kernel
theorem dX4_readStep_63 : decode cX4_readStep 63 = .ok (.isub, 1) := by decide +kernel
theorem dX4_readStep_64 : decode cX4_readStep 64 = .ok (.invokevirtual 86, 3) := by decide +kernel
theorem dX4_readStep_67 : decode cX4_readStep 67 = .ok (.istore 4, 2) := by decide +kernel
theorem dX4_readStep_69 : decode cX4_readStep 69 = .ok (.aload_n 2, 1) := by decide +kernel
theorem dX4_readStep_70 : decode cX4_readStep 70 = .ok (.iconst 0, 1) := by decide +kernel
theorem dX4_readStep_71 : decode cX4_readStep 71 = .ok (.aload_n 3, 1) := by decide +kernel
theorem dX4_readStep_72 : decode cX4_readStep 72 = .ok (.getfield 90, 3) := by decide +kernel
theorem dX4_readStep_75 : decode cX4_readStep 75 = .ok (.invokevirtual 93, 3) := by decide +kernel
theorem dX4_readStep_78 : decode cX4_readStep 78 = .ok (.aload_n 2, 1) := by decide +kernel
theorem dX4_readStep_79 : decode cX4_readStep 79 = .ok (.getfield 97, 3) := by decide +kernel
theorem dX4_readStep_82 : decode cX4_readStep 82 = .ok (.istore 5, 2) := by decide +kernel
theorem dX4_readStep_84 : decode cX4_readStep 84 = .ok (.goto 103, 3) := by decide +kernel
theorem dX4_readStep_87 : decode cX4_readStep 87 = .ok (.aload_n 2, 1) := by decide +kernel
theorem dX4_readStep_88 : decode cX4_readStep 88 = .ok (.iconst 0, 1) := by decide +kernel
theorem dX4_readStep_89 : decode cX4_readStep 89 = .ok (.aload_n 3, 1) := by decide +kernel
theorem dX4_readStep_90 : decode cX4_readStep 90 = .ok (.getfield 90, 3) := by decide +kernel
theorem dX4_readStep_93 : decode cX4_readStep 93 = .ok (.invokevirtual 93, 3) := by decide +kernel
theorem dX4_readStep_96 : decode cX4_readStep 96 = .ok (.aload_n 2, 1) := by decide +kernel
theorem dX4_readStep_97 : decode cX4_readStep 97 = .ok (.getfield 97, 3) := by decide +kernel
theorem dX4_readStep_100 : decode cX4_readStep 100 = .ok (.istore 5, 2) := by decide +kernel
theorem dX4_readStep_102 : decode cX4_readStep 102 = .ok (.goto 85, 3) := by decide +kernel
theorem dX4_readStep_105 : decode cX4_readStep 105 = .ok (.aload_n 2, 1) := by decide +kernel
theorem dX4_readStep_106 : decode cX4_readStep 106 = .ok (.iconst 0, 1) := by decide +kernel
theorem dX4_readStep_107 : decode cX4_readStep 107 = .ok (.aload_n 3, 1) := by decide +kernel
theorem dX4_readStep_108 : decode cX4_readStep 108 = .ok (.getfield 81, 3) := by decide +kernel
theorem dX4_readStep_111 : decode cX4_readStep 111 = .ok (.iconst 1, 1) := by decide +kernel
theorem dX4_readStep_112 : decode cX4_readStep 112 = .ok (.isub, 1) := by decide +kernel
theorem dX4_readStep_113 : decode cX4_readStep 113 = .ok (.invokevirtual 86, 3) := by decide +kernel
theorem dX4_readStep_116 : decode cX4_readStep 116 = .ok (.istore 4, 2) := by decide +kernel
theorem dX4_readStep_118 : decode cX4_readStep 118 = .ok (.goto 69, 3) := by decide +kernel
theorem dX4_readStep_121 : decode cX4_readStep 121 = .ok (.aload_n 2, 1) := by decide +kernel
theorem dX4_readStep_122 : decode cX4_readStep 122 = .ok (.iconst 1, 1) := by decide +kernel
theorem dX4_readStep_123 : decode cX4_readStep 123 = .ok (.bipush 99, 2) := by decide +kernel
theorem dX4_readStep_125 : decode cX4_readStep 125 = .ok (.invokevirtual 86, 3) := by decide +kernel
theorem dX4_readStep_128 : decode cX4_readStep 128 = .ok (.istore 4, 2) := by decide +kernel
theorem dX4_readStep_130 : decode cX4_readStep 130 = .ok (.goto 57, 3) := by decide +kernel
theorem dX4_readStep_133 : decode cX4_readStep 133 = .ok (.goto 54, 3) := by decide +kernel
theorem dX4_readStep_136 : decode cX4_readStep 136 = .ok (.aload_n 2, 1) := by decide +kernel
theorem dX4_readStep_137 : decode cX4_readStep 137 = .ok (.iconst 0, 1) := by decide +kernel
theorem dX4_readStep_138 : decode cX4_readStep 138 = .ok (.aload_n 3, 1) := by decide +kernel
theorem dX4_readStep_139 : decode cX4_readStep 139 = .ok (.invokevirtual 100, 3) := by decide +kernel
theorem dX4_readStep_142 : decode cX4_readStep 142 = .ok (.iconst 1, 1) := by decide +kernel
theorem dX4_readStep_143 : decode cX4_readStep 143 = .ok (.isub, 1) := by decide +kernel
theorem dX4_readStep_144 : decode cX4_readStep 144 = .ok (.invokevirtual 86, 3) := by decide +kernel
theorem dX4_readStep_147 : decode cX4_readStep 147 = .ok (.istore 4, 2) := by decide +kernel
theorem dX4_readStep_149 : decode cX4_readStep 149 = .ok (.aload_n 2, 1) := by decide +kernel
theorem dX4_readStep_150 : decode cX4_readStep 150 = .ok (.iconst 0, 1) := by decide +kernel
theorem dX4_readStep_151 : decode cX4_readStep 151 = .ok (.bipush 9, 2) := by decide +kernel
theorem dX4_readStep_153 : decode cX4_readStep 153 = .ok (.invokevirtual 86, 3) := by decide +kernel
theorem dX4_readStep_156 : decode cX4_readStep 156 = .ok (.istore 5, 2) := by decide +kernel
theorem dX4_readStep_158 : decode cX4_readStep 158 = .ok (.goto 29, 3) := by decide +kernel
theorem dX4_readStep_161 : decode cX4_readStep 161 = .ok (.aload_n 2, 1) := by decide +kernel
theorem dX4_readStep_162 : decode cX4_readStep 162 = .ok (.iconst 0, 1) := by decide +kernel
theorem dX4_readStep_163 : decode cX4_readStep 163 = .ok (.bipush 20, 2) := by decide +kernel
theorem dX4_readStep_165 : decode cX4_readStep 165 = .ok (.invokevirtual 86, 3) := by decide +kernel
theorem dX4_readStep_168 : decode cX4_readStep 168 = .ok (.istore 4, 2) := by decide +kernel
theorem dX4_readStep_170 : decode cX4_readStep 170 = .ok (.aload_n 0, 1) := by decide +kernel
theorem dX4_readStep_171 : decode cX4_readStep 171 = .ok (.aload_n 2, 1) := by decide +kernel
theorem dX4_readStep_172 : decode cX4_readStep 172 = .ok (.invokevirtual 103, 3) := by decide +kernel
theorem dX4_readStep_175 : decode cX4_readStep 175 = .ok (.goto 12, 3) := by decide +kernel
theorem dX4_readStep_178 : decode cX4_readStep 178 = .ok (.aload_n 2, 1) := by decide +kernel
theorem dX4_readStep_179 : decode cX4_readStep 179 = .ok (.aload_n 2, 1) := by decide +kernel
theorem dX4_readStep_180 : decode cX4_readStep 180 = .ok (.getfield 107, 3) := by decide +kernel
theorem dX4_readStep_183 : decode cX4_readStep 183 = .ok (.iconst 1, 1) := by decide +kernel
theorem dX4_readStep_184 : decode cX4_readStep 184 = .ok (.invokevirtual 110, 3) := by decide +kernel
theorem dX4_readStep_187 : decode cX4_readStep 187 = .ok (.aload_n 2, 1) := by decide +kernel
theorem dX4_readStep_188 : decode cX4_readStep 188 = .ok (.invokevirtual 70, 3) := by decide +kernel
theorem dX4_readStep_191 : decode cX4_readStep 191 = .ok (.ifCond .eq 16, 3) := by decide +kernel
theorem dX4_readStep_194 : decode cX4_readStep 194 = .ok (.aload_n 0, 1) := by decide +kernel
theorem dX4_readStep_195 : decode cX4_readStep 195 = .ok (.iload_n 1, 1) := by decide +kernel
theorem dX4_readStep_196 : decode cX4_readStep 196 = .ok (.iload 4, 2) := by decide +kernel
theorem dX4_readStep_198 : decode cX4_readStep 198 = .ok (.iload 5, 2) := by decide +kernel
theorem dX4_readStep_200 : decode cX4_readStep 200 = .ok (.aload_n 2, 1) := by decide +kernel
theorem dX4_readStep_201 : decode cX4_readStep 201 = .ok (.getfield 78, 3) := by decide +kernel
theorem dX4_readStep_204 : decode cX4_readStep 204 = .ok (.invokevirtual 113, 3) := by decide +kernel
theorem dX4_readStep_207 : decode cX4_readStep 207 = .ok (.return_, 1) := by decide +kernel
theorem dX4_closeTimes_0 : decode cX4_closeTimes 0 = .ok (.aload_n 0, 1) := by decide +kernel
theorem dX4_closeTimes_1 : decode cX4_closeTimes 1 = .ok (.iload_n 1, 1) := by decide +kernel
theorem dX4_closeTimes_2 : decode cX4_closeTimes 2 = .ok (.invokevirtual 37, 3) := by decide +kernel
theorem dX4_closeTimes_5 : decode cX4_closeTimes 5 = .ok (.ifCond .eq 13, 3) := by decide +kernel
theorem dX4_closeTimes_8 : decode cX4_closeTimes 8 = .ok (.aload_n 0, 1) := by decide +kernel
theorem dX4_closeTimes_9 : decode cX4_closeTimes 9 = .ok (.getfield 24, 3) := by decide +kernel
theorem dX4_closeTimes_12 : decode cX4_closeTimes 12 = .ok (.iload_n 1, 1) := by decide +kernel
theorem dX4_closeTimes_13 : decode cX4_closeTimes 13 = .ok (.aload_n 0, 1) := by decide +kernel
theorem dX4_closeTimes_14 : decode cX4_closeTimes 14 = .ok (.getfield 33, 3) := by decide +kernel
theorem dX4_closeTimes_17 : decode cX4_closeTimes 17 = .ok (.iastore, 1) := by decide +kernel
theorem dX4_closeTimes_18 : decode cX4_closeTimes 18 = .ok (.return_, 1) := by decide +kernel
theorem dX4_goesOn_0 : decode cX4_goesOn 0 = .ok (.iconst 0, 1) := by decide +kernel
theorem dX4_goesOn_1 : decode cX4_goesOn 1 = .ok (.istore_n 2, 1) := by decide +kernel
theorem dX4_goesOn_2 : decode cX4_goesOn 2 = .ok (.iload_n 2, 1) := by decide +kernel
theorem dX4_goesOn_3 : decode cX4_goesOn 3 = .ok (.iconst 3, 1) := by decide +kernel
theorem dX4_goesOn_4 : decode cX4_goesOn 4 = .ok (.if_icmp .gt 101, 3) := by decide +kernel
theorem dX4_goesOn_7 : decode cX4_goesOn 7 = .ok (.aload_n 1, 1) := by decide +kernel
theorem dX4_goesOn_8 : decode cX4_goesOn 8 = .ok (.invokevirtual 117, 3) := by decide +kernel
theorem dX4_goesOn_11 : decode cX4_goesOn 11 = .ok (.istore_n 3, 1) := by decide +kernel
theorem dX4_goesOn_12 : decode cX4_goesOn 12 = .ok (.iload_n 3, 1) := by decide +kernel
theorem dX4_goesOn_13 : decode cX4_goesOn 13 = .ok (.bipush 59, 2) := by decide +kernel
theorem dX4_goesOn_15 : decode cX4_goesOn 15 = .ok (.if_icmp .ne 15, 3) := by decide +kernel
theorem dX4_goesOn_18 : decode cX4_goesOn 18 = .ok (.aload_n 1, 1) := by decide +kernel
theorem dX4_goesOn_19 : decode cX4_goesOn 19 = .ok (.dup, 1) := by decide +kernel
theorem dX4_goesOn_20 : decode cX4_goesOn 20 = .ok (.getfield 120, 3) := by decide +kernel
theorem dX4_goesOn_23 : decode cX4_goesOn 23 = .ok (.iconst 1, 1) := by decide +kernel
theorem dX4_goesOn_24 : decode cX4_goesOn 24 = .ok (.iadd, 1) := by decide +kernel
theorem dX4_goesOn_25 : decode cX4_goesOn 25 = .ok (.putfield 120, 3) := by decide +kernel
theorem dX4_goesOn_28 : decode cX4_goesOn 28 = .ok (.iconst 1, 1) := by decide +kernel
theorem dX4_goesOn_29 : decode cX4_goesOn 29 = .ok (.ireturn, 1) := by decide +kernel
theorem dX4_goesOn_30 : decode cX4_goesOn 30 = .ok (.iload_n 3, 1) := by decide +kernel
theorem dX4_goesOn_31 : decode cX4_goesOn 31 = .ok (.bipush 41, 2) := by decide +kernel
theorem dX4_goesOn_33 : decode cX4_goesOn 33 = .ok (.if_icmp .ne 10, 3) := by decide +kernel
theorem dX4_goesOn_36 : decode cX4_goesOn 36 = .ok (.aload_n 0, 1) := by decide +kernel
theorem dX4_goesOn_37 : decode cX4_goesOn 37 = .ok (.getfield 44, 3) := by decide +kernel
theorem dX4_goesOn_40 : decode cX4_goesOn 40 = .ok (.ifCond .gt 26, 3) := by decide +kernel
theorem dX4_goesOn_43 : decode cX4_goesOn 43 = .ok (.iload_n 3, 1) := by decide +kernel
theorem dX4_goesOn_44 : decode cX4_goesOn 44 = .ok (.iconst (-1), 1) := by decide +kernel
theorem dX4_goesOn_45 : decode cX4_goesOn 45 = .ok (.if_icmp .ne 10, 3) := by decide +kernel
theorem dX4_goesOn_48 : decode cX4_goesOn 48 = .ok (.aload_n 0, 1) := by decide +kernel
theorem dX4_goesOn_49 : decode cX4_goesOn 49 = .ok (.getfield 44, 3) := by decide +kernel
theorem dX4_goesOn_52 : decode cX4_goesOn 52 = .ok (.ifCond .le 12, 3) := by decide +kernel
theorem dX4_goesOn_55 : decode cX4_goesOn 55 = .ok (.aload_n 1, 1) := by decide +kernel
theorem dX4_goesOn_56 : decode cX4_goesOn 56 = .ok (.aload_n 1, 1) := by decide +kernel
theorem dX4_goesOn_57 : decode cX4_goesOn 57 = .ok (.getfield 120, 3) := by decide +kernel
theorem dX4_goesOn_60 : decode cX4_goesOn 60 = .ok (.iconst 1, 1) := by decide +kernel
theorem dX4_goesOn_61 : decode cX4_goesOn 61 = .ok (.invokevirtual 110, 3) := by decide +kernel
theorem dX4_goesOn_64 : decode cX4_goesOn 64 = .ok (.iconst 0, 1) := by decide +kernel
theorem dX4_goesOn_65 : decode cX4_goesOn 65 = .ok (.ireturn, 1) := by decide +kernel
theorem dX4_goesOn_66 : decode cX4_goesOn 66 = .ok (.aload_n 1, 1) := by decide +kernel
theorem dX4_goesOn_67 : decode cX4_goesOn 67 = .ok (.dup, 1) := by decide +kernel
theorem dX4_goesOn_68 : decode cX4_goesOn 68 = .ok (.getfield 120, 3) := by decide +kernel
theorem dX4_goesOn_71 : decode cX4_goesOn 71 = .ok (.iconst 1, 1) := by decide +kernel
theorem dX4_goesOn_72 : decode cX4_goesOn 72 = .ok (.iadd, 1) := by decide +kernel
theorem dX4_goesOn_73 : decode cX4_goesOn 73 = .ok (.putfield 120, 3) := by decide +kernel
theorem dX4_goesOn_76 : decode cX4_goesOn 76 = .ok (.aload_n 0, 1) := by decide +kernel
theorem dX4_goesOn_77 : decode cX4_goesOn 77 = .ok (.dup, 1) := by decide +kernel
theorem dX4_goesOn_78 : decode cX4_goesOn 78 = .ok (.getfield 44, 3) := by decide +kernel
theorem dX4_goesOn_81 : decode cX4_goesOn 81 = .ok (.iconst 1, 1) := by decide +kernel
theorem dX4_goesOn_82 : decode cX4_goesOn 82 = .ok (.isub, 1) := by decide +kernel
theorem dX4_goesOn_83 : decode cX4_goesOn 83 = .ok (.putfield 44, 3) := by decide +kernel
theorem dX4_goesOn_86 : decode cX4_goesOn 86 = .ok (.aload_n 0, 1) := by decide +kernel
theorem dX4_goesOn_87 : decode cX4_goesOn 87 = .ok (.aload_n 0, 1) := by decide +kernel
theorem dX4_goesOn_88 : decode cX4_goesOn 88 = .ok (.getfield 27, 3) := by decide +kernel
theorem dX4_goesOn_91 : decode cX4_goesOn 91 = .ok (.aload_n 0, 1) := by decide +kernel
theorem dX4_goesOn_92 : decode cX4_goesOn 92 = .ok (.getfield 44, 3) := by decide +kernel
theorem dX4_goesOn_95 : decode cX4_goesOn 95 = .ok (.iaload, 1) := by decide +kernel
theorem dX4_goesOn_96 : decode cX4_goesOn 96 = .ok (.invokevirtual 125, 3) := by decide +kernel
theorem dX4_goesOn_99 : decode cX4_goesOn 99 = .ok (.iinc 2 1, 3) := by decide +kernel
theorem dX4_goesOn_102 : decode cX4_goesOn 102 = .ok (.goto (-100), 3) := by decide +kernel
theorem dX4_goesOn_105 : decode cX4_goesOn 105 = .ok (.iconst 0, 1) := by decide +kernel
theorem dX4_goesOn_106 : decode cX4_goesOn 106 = .ok (.ireturn, 1) := by decide +kernel
theorem dX4_readFrom_0 : decode cX4_readFrom 0 = .ok (.aload_n 0, 1) := by decide +kernel
theorem dX4_readFrom_1 : decode cX4_readFrom 1 = .ok (.iconst 0, 1) := by decide +kernel
theorem dX4_readFrom_2 : decode cX4_readFrom 2 = .ok (.putfield 33, 3) := by decide +kernel
theorem dX4_readFrom_5 : decode cX4_readFrom 5 = .ok (.aload_n 0, 1) := by decide +kernel
theorem dX4_readFrom_6 : decode cX4_readFrom 6 = .ok (.iconst 0, 1) := by decide +kernel
theorem dX4_readFrom_7 : decode cX4_readFrom 7 = .ok (.putfield 44, 3) := by decide +kernel
theorem dX4_readFrom_10 : decode cX4_readFrom 10 = .ok (.aload_n 1, 1) := by decide +kernel
theorem dX4_readFrom_11 : decode cX4_readFrom 11 = .ok (.invokevirtual 57, 3) := by decide +kernel
theorem dX4_readFrom_14 : decode cX4_readFrom 14 = .ok (.iconst 1, 1) := by decide +kernel
theorem dX4_readFrom_15 : decode cX4_readFrom 15 = .ok (.istore_n 3, 1) := by decide +kernel
theorem dX4_readFrom_16 : decode cX4_readFrom 16 = .ok (.iconst 0, 1) := by decide +kernel
theorem dX4_readFrom_17 : decode cX4_readFrom 17 = .ok (.istore 4, 2) := by decide +kernel
theorem dX4_readFrom_19 : decode cX4_readFrom 19 = .ok (.iload 4, 2) := by decide +kernel
theorem dX4_readFrom_21 : decode cX4_readFrom 21 = .ok (.bipush 80, 2) := by decide +kernel
theorem dX4_readFrom_23 : decode cX4_readFrom 23 = .ok (.if_icmp .ge 55, 3) := by decide +kernel
theorem dX4_readFrom_26 : decode cX4_readFrom 26 = .ok (.iload_n 3, 1) := by decide +kernel
theorem dX4_readFrom_27 : decode cX4_readFrom 27 = .ok (.ifCond .eq 51, 3) := by decide +kernel
theorem dX4_readFrom_30 : decode cX4_readFrom 30 = .ok (.aload_n 1, 1) := by decide +kernel
theorem dX4_readFrom_31 : decode cX4_readFrom 31 = .ok (.invokevirtual 62, 3) := by decide +kernel
theorem dX4_readFrom_34 : decode cX4_readFrom 34 = .ok (.istore 5, 2) := by decide +kernel
theorem dX4_readFrom_36 : decode cX4_readFrom 36 = .ok (.aload_n 0, 1) := by decide +kernel
theorem dX4_readFrom_37 : decode cX4_readFrom 37 = .ok (.iload 5, 2) := by decide +kernel
theorem dX4_readFrom_39 : decode cX4_readFrom 39 = .ok (.aload_n 1, 1) := by decide +kernel
theorem dX4_readFrom_40 : decode cX4_readFrom 40 = .ok (.aload_n 2, 1) := by decide +kernel
theorem dX4_readFrom_41 : decode cX4_readFrom 41 = .ok (.invokevirtual 66, 3) := by decide +kernel
theorem dX4_readFrom_44 : decode cX4_readFrom 44 = .ok (.aload_n 1, 1) := by decide +kernel
theorem dX4_readFrom_45 : decode cX4_readFrom 45 = .ok (.invokevirtual 70, 3) := by decide +kernel
theorem dX4_readFrom_48 : decode cX4_readFrom 48 = .ok (.ifCond .eq 22, 3) := by decide +kernel
theorem dX4_readFrom_51 : decode cX4_readFrom 51 = .ok (.iload 5, 2) := by decide +kernel
theorem dX4_readFrom_53 : decode cX4_readFrom 53 = .ok (.bipush 12, 2) := by decide +kernel
theorem dX4_readFrom_55 : decode cX4_readFrom 55 = .ok (.if_icmp .eq 11, 3) := by decide +kernel
theorem dX4_readFrom_58 : decode cX4_readFrom 58 = .ok (.aload_n 0, 1) := by decide +kernel
theorem dX4_readFrom_59 : decode cX4_readFrom 59 = .ok (.aload_n 1, 1) := by decide +kernel
theorem dX4_readFrom_60 : decode cX4_readFrom 60 = .ok (.invokevirtual 74, 3) := by decide +kernel
theorem dX4_readFrom_63 : decode cX4_readFrom 63 = .ok (.ifCond .eq 7, 3) := by decide +kernel
theorem dX4_readFrom_66 : decode cX4_readFrom 66 = .ok (.iconst 1, 1) := by decide +kernel
theorem dX4_readFrom_67 : decode cX4_readFrom 67 = .ok (.goto 4, 3) := by decide +kernel
theorem dX4_readFrom_70 : decode cX4_readFrom 70 = .ok (.iconst 0, 1) := by decide +kernel
theorem dX4_readFrom_71 : decode cX4_readFrom 71 = .ok (.istore_n 3, 1) := by decide +kernel
theorem dX4_readFrom_72 : decode cX4_readFrom 72 = .ok (.iinc 4 1, 3) := by decide +kernel
theorem dX4_readFrom_75 : decode cX4_readFrom 75 = .ok (.goto (-56), 3) := by decide +kernel
theorem dX4_readFrom_78 : decode cX4_readFrom 78 = .ok (.return_, 1) := by decide +kernel
theorem dX5_addNumber_0 : decode cX5_addNumber 0 = .ok (.bipush 24, 2) := by decide +kernel
theorem dX5_addNumber_2 : decode cX5_addNumber 2 = .ok (.istore_n 2, 1) := by decide +kernel
theorem dX5_addNumber_3 : decode cX5_addNumber 3 = .ok (.iload_n 2, 1) := by decide +kernel
theorem dX5_addNumber_4 : decode cX5_addNumber 4 = .ok (.ifCond .lt 45, 3) := by decide +kernel
theorem dX5_addNumber_7 : decode cX5_addNumber 7 = .ok (.aload_n 0, 1) := by decide +kernel
theorem dX5_addNumber_8 : decode cX5_addNumber 8 = .ok (.getfield 15, 3) := by decide +kernel
theorem dX5_addNumber_11 : decode cX5_addNumber 11 = .ok (.sipush 400, 3) := by decide +kernel
theorem dX5_addNumber_14 : decode cX5_addNumber 14 = .ok (.if_icmp .ge 29, 3) := by decide +kernel
theorem dX5_addNumber_17 : decode cX5_addNumber 17 = .ok (.aload_n 0, 1) := by decide +kernel
theorem dX5_addNumber_18 : decode cX5_addNumber 18 = .ok (.getfield 9, 3) := by decide +kernel
theorem dX5_addNumber_21 : decode cX5_addNumber 21 = .ok (.aload_n 0, 1) := by decide +kernel
theorem dX5_addNumber_22 : decode cX5_addNumber 22 = .ok (.getfield 15, 3) := by decide +kernel
theorem dX5_addNumber_25 : decode cX5_addNumber 25 = .ok (.iload_n 1, 1) := by decide +kernel
theorem dX5_addNumber_26 : decode cX5_addNumber 26 = .ok (.iload_n 2, 1) := by decide +kernel
theorem dX5_addNumber_27 : decode cX5_addNumber 27 = .ok (.ishr, 1) := by decide +kernel
theorem dX5_addNumber_28 : decode cX5_addNumber 28 = .ok (.sipush 255, 3) := by decide +kernel
theorem dX5_addNumber_31 : decode cX5_addNumber 31 = .ok (.iand, 1) := by decide +kernel
theorem dX5_addNumber_32 : decode cX5_addNumber 32 = .ok (.iastore, 1) := by decide +kernel
theorem dX5_addNumber_33 : decode cX5_addNumber 33 = .ok (.aload_n 0, 1) := by decide +kernel
theorem dX5_addNumber_34 : decode cX5_addNumber 34 = .ok (.dup, 1) := by decide +kernel
theorem dX5_addNumber_35 : decode cX5_addNumber 35 = .ok (.getfield 15, 3) := by decide +kernel
theorem dX5_addNumber_38 : decode cX5_addNumber 38 = .ok (.iconst 1, 1) := by decide +kernel
theorem dX5_addNumber_39 : decode cX5_addNumber 39 = .ok (.iadd, 1) := by decide +kernel
theorem dX5_addNumber_40 : decode cX5_addNumber 40 = .ok (.putfield 15, 3) := by decide +kernel
theorem dX5_addNumber_43 : decode cX5_addNumber 43 = .ok (.iinc 2 (-8), 3) := by decide +kernel
theorem dX5_addNumber_46 : decode cX5_addNumber 46 = .ok (.goto (-43), 3) := by decide +kernel
theorem dX5_addNumber_49 : decode cX5_addNumber 49 = .ok (.return_, 1) := by decide +kernel
theorem dX6_feed_0 : decode cX6_feed 0 = .ok (.aload_n 0, 1) := by decide +kernel
theorem dX6_feed_1 : decode cX6_feed 1 = .ok (.getfield 10, 3) := by decide +kernel
theorem dX6_feed_4 : decode cX6_feed 4 = .ok (.getfield 51, 3) := by decide +kernel
theorem dX6_feed_7 : decode cX6_feed 7 = .ok (.bipush 20, 2) := by decide +kernel
theorem dX6_feed_9 : decode cX6_feed 9 = .ok (.iadd, 1) := by decide +kernel
theorem dX6_feed_10 : decode cX6_feed 10 = .ok (.sipush 400, 3) := by decide +kernel
theorem dX6_feed_13 : decode cX6_feed 13 = .ok (.if_icmp .le 5, 3) := by decide +kernel
theorem dX6_feed_16 : decode cX6_feed 16 = .ok (.iconst (-1), 1) := by decide +kernel
theorem dX6_feed_17 : decode cX6_feed 17 = .ok (.ireturn, 1) := by decide +kernel
theorem dX6_feed_18 : decode cX6_feed 18 = .ok (.aload_n 0, 1) := by decide +kernel
theorem dX6_feed_19 : decode cX6_feed 19 = .ok (.getfield 10, 3) := by decide +kernel
theorem dX6_feed_22 : decode cX6_feed 22 = .ok (.iload_n 1, 1) := by decide +kernel
theorem dX6_feed_23 : decode cX6_feed 23 = .ok (.invokevirtual 55, 3) := by decide +kernel
theorem dX6_feed_26 : decode cX6_feed 26 = .ok (.aload_n 0, 1) := by decide +kernel
theorem dX6_feed_27 : decode cX6_feed 27 = .ok (.getfield 10, 3) := by decide +kernel
theorem dX6_feed_30 : decode cX6_feed 30 = .ok (.iload_n 2, 1) := by decide +kernel
theorem dX6_feed_31 : decode cX6_feed 31 = .ok (.invokevirtual 55, 3) := by decide +kernel
theorem dX6_feed_34 : decode cX6_feed 34 = .ok (.aload_n 0, 1) := by decide +kernel
theorem dX6_feed_35 : decode cX6_feed 35 = .ok (.getfield 10, 3) := by decide +kernel
theorem dX6_feed_38 : decode cX6_feed 38 = .ok (.iload_n 3, 1) := by decide +kernel
theorem dX6_feed_39 : decode cX6_feed 39 = .ok (.invokevirtual 55, 3) := by decide +kernel
theorem dX6_feed_42 : decode cX6_feed 42 = .ok (.aload_n 0, 1) := by decide +kernel
theorem dX6_feed_43 : decode cX6_feed 43 = .ok (.getfield 10, 3) := by decide +kernel
theorem dX6_feed_46 : decode cX6_feed 46 = .ok (.iload 4, 2) := by decide +kernel
theorem dX6_feed_48 : decode cX6_feed 48 = .ok (.invokevirtual 55, 3) := by decide +kernel
theorem dX6_feed_51 : decode cX6_feed 51 = .ok (.aload_n 0, 1) := by decide +kernel
theorem dX6_feed_52 : decode cX6_feed 52 = .ok (.getfield 10, 3) := by decide +kernel
theorem dX6_feed_55 : decode cX6_feed 55 = .ok (.iload 5, 2) := by decide +kernel
theorem dX6_feed_57 : decode cX6_feed 57 = .ok (.invokevirtual 55, 3) := by decide +kernel
theorem dX6_feed_60 : decode cX6_feed 60 = .ok (.aload_n 0, 1) := by decide +kernel
theorem dX6_feed_61 : decode cX6_feed 61 = .ok (.getfield 10, 3) := by decide +kernel
theorem dX6_feed_64 : decode cX6_feed 64 = .ok (.getfield 51, 3) := by decide +kernel
theorem dX6_feed_67 : decode cX6_feed 67 = .ok (.ireturn, 1) := by decide +kernel
theorem dX6_end_0 : decode cX6_end 0 = .ok (.iload_n 1, 1) := by decide +kernel
theorem dX6_end_1 : decode cX6_end 1 = .ok (.ifCond .lt 14, 3) := by decide +kernel
theorem dX6_end_4 : decode cX6_end 4 = .ok (.iload_n 1, 1) := by decide +kernel
theorem dX6_end_5 : decode cX6_end 5 = .ok (.aload_n 0, 1) := by decide +kernel
theorem dX6_end_6 : decode cX6_end 6 = .ok (.getfield 10, 3) := by decide +kernel
theorem dX6_end_9 : decode cX6_end 9 = .ok (.getfield 51, 3) := by decide +kernel
theorem dX6_end_12 : decode cX6_end 12 = .ok (.if_icmp .le 5, 3) := by decide +kernel
theorem dX6_end_15 : decode cX6_end 15 = .ok (.iconst (-1), 1) := by decide +kernel
theorem dX6_end_16 : decode cX6_end 16 = .ok (.ireturn, 1) := by decide +kernel
theorem dX6_end_17 : decode cX6_end 17 = .ok (.aload_n 0, 1) := by decide +kernel
theorem dX6_end_18 : decode cX6_end 18 = .ok (.getfield 10, 3) := by decide +kernel
theorem dX6_end_21 : decode cX6_end 21 = .ok (.iload_n 1, 1) := by decide +kernel
theorem dX6_end_22 : decode cX6_end 22 = .ok (.putfield 51, 3) := by decide +kernel
theorem dX6_end_25 : decode cX6_end 25 = .ok (.iload_n 1, 1) := by decide +kernel
theorem dX6_end_26 : decode cX6_end 26 = .ok (.ireturn, 1) := by decide +kernel
theorem dX6_tell_0 : decode cX6_tell 0 = .ok (.aload_n 0, 1) := by decide +kernel
theorem dX6_tell_1 : decode cX6_tell 1 = .ok (.getfield 23, 3) := by decide +kernel
theorem dX6_tell_4 : decode cX6_tell 4 = .ok (.aload_n 0, 1) := by decide +kernel
theorem dX6_tell_5 : decode cX6_tell 5 = .ok (.getfield 10, 3) := by decide +kernel
theorem dX6_tell_8 : decode cX6_tell 8 = .ok (.invokestatic 59, 3) := by decide +kernel
theorem dX6_tell_11 : decode cX6_tell 11 = .ok (.aload_n 0, 1) := by decide +kernel
theorem dX6_tell_12 : decode cX6_tell 12 = .ok (.getfield 10, 3) := by decide +kernel
theorem dX6_tell_15 : decode cX6_tell 15 = .ok (.iconst 0, 1) := by decide +kernel
theorem dX6_tell_16 : decode cX6_tell 16 = .ok (.putfield 51, 3) := by decide +kernel
theorem dX6_tell_19 : decode cX6_tell 19 = .ok (.aload_n 0, 1) := by decide +kernel
theorem dX6_tell_20 : decode cX6_tell 20 = .ok (.getfield 10, 3) := by decide +kernel
theorem dX6_tell_23 : decode cX6_tell 23 = .ok (.invokevirtual 65, 3) := by decide +kernel
theorem dX6_tell_26 : decode cX6_tell 26 = .ok (.ifCond .ne 14, 3) := by decide +kernel
theorem dX6_tell_40 : decode cX6_tell 40 = .ok (.aload_n 0, 1) := by decide +kernel
theorem dX6_tell_41 : decode cX6_tell 41 = .ok (.getfield 19, 3) := by decide +kernel
theorem dX6_tell_44 : decode cX6_tell 44 = .ok (.aload_n 0, 1) := by decide +kernel
theorem dX6_tell_45 : decode cX6_tell 45 = .ok (.getfield 23, 3) := by decide +kernel
theorem dX6_tell_48 : decode cX6_tell 48 = .ok (.invokevirtual 72, 3) := by decide +kernel
theorem dX6_tell_51 : decode cX6_tell 51 = .ok (.aload_n 0, 1) := by decide +kernel
theorem dX6_tell_52 : decode cX6_tell 52 = .ok (.getfield 19, 3) := by decide +kernel
theorem dX6_tell_55 : decode cX6_tell 55 = .ok (.invokevirtual 76, 3) := by decide +kernel
theorem dX6_tell_58 : decode cX6_tell 58 = .ok (.aload_n 0, 1) := by decide +kernel
theorem dX6_tell_59 : decode cX6_tell 59 = .ok (.getfield 43, 3) := by decide +kernel
theorem dX6_tell_62 : decode cX6_tell 62 = .ok (.iconst 0, 1) := by decide +kernel
theorem dX6_isRowText_0 : decode cX6_isRowText 0 = .ok (.iload_n 2, 1) := by decide +kernel
theorem dX6_isRowText_1 : decode cX6_isRowText 1 = .ok (.aload_n 0, 1) := by decide +kernel
theorem dX6_isRowText_2 : decode cX6_isRowText 2 = .ok (.getfield 19, 3) := by decide +kernel
theorem dX6_isRowText_5 : decode cX6_isRowText 5 = .ok (.getfield 261, 3) := by decide +kernel
theorem dX6_isRowText_8 : decode cX6_isRowText 8 = .ok (.if_icmp .le 5, 3) := by decide +kernel
theorem dX6_isRowText_11 : decode cX6_isRowText 11 = .ok (.iconst 0, 1) := by decide +kernel
theorem dX6_isRowText_12 : decode cX6_isRowText 12 = .ok (.ireturn, 1) := by decide +kernel
theorem dX6_isRowText_13 : decode cX6_isRowText 13 = .ok (.iconst 0, 1) := by decide +kernel
theorem dX6_isRowText_14 : decode cX6_isRowText 14 = .ok (.istore_n 3, 1) := by decide +kernel
theorem dX6_isRowText_15 : decode cX6_isRowText 15 = .ok (.iload_n 3, 1) := by decide +kernel
theorem dX6_isRowText_16 : decode cX6_isRowText 16 = .ok (.iload_n 2, 1) := by decide +kernel
theorem dX6_isRowText_17 : decode cX6_isRowText 17 = .ok (.if_icmp .ge 27, 3) := by decide +kernel
theorem dX6_isRowText_20 : decode cX6_isRowText 20 = .ok (.aload_n 0, 1) := by decide +kernel
theorem dX6_isRowText_21 : decode cX6_isRowText 21 = .ok (.getfield 10, 3) := by decide +kernel
theorem dX6_isRowText_24 : decode cX6_isRowText 24 = .ok (.iload_n 1, 1) := by decide +kernel
theorem dX6_isRowText_25 : decode cX6_isRowText 25 = .ok (.iload_n 3, 1) := by decide +kernel
theorem dX6_isRowText_26 : decode cX6_isRowText 26 = .ok (.iadd, 1) := by decide +kernel
theorem dX6_isRowText_27 : decode cX6_isRowText 27 = .ok (.invokevirtual 326, 3) := by decide +kernel
theorem dX6_isRowText_30 : decode cX6_isRowText 30 = .ok (.invokestatic 335, 3) := by decide +kernel
theorem dX6_isRowText_33 : decode cX6_isRowText 33 = .ok (.ifCond .ne 5, 3) := by decide +kernel
theorem dX6_isRowText_36 : decode cX6_isRowText 36 = .ok (.iconst 0, 1) := by decide +kernel
theorem dX6_isRowText_37 : decode cX6_isRowText 37 = .ok (.ireturn, 1) := by decide +kernel
theorem dX6_isRowText_38 : decode cX6_isRowText 38 = .ok (.iinc 3 1, 3) := by decide +kernel
theorem dX6_isRowText_41 : decode cX6_isRowText 41 = .ok (.goto (-26), 3) := by decide +kernel
theorem dX6_isRowText_44 : decode cX6_isRowText 44 = .ok (.iconst 1, 1) := by decide +kernel
theorem dX6_isRowText_45 : decode cX6_isRowText 45 = .ok (.ireturn, 1) := by decide +kernel
theorem dX6_whyNotRow_0 : decode cX6_whyNotRow 0 = .ok (.aload_n 0, 1) := by decide +kernel
theorem dX6_whyNotRow_1 : decode cX6_whyNotRow 1 = .ok (.getfield 19, 3) := by decide +kernel
theorem dX6_whyNotRow_4 : decode cX6_whyNotRow 4 = .ok (.iload_n 1, 1) := by decide +kernel
theorem dX6_whyNotRow_5 : decode cX6_whyNotRow 5 = .ok (.invokevirtual 258, 3) := by decide +kernel
theorem dX6_whyNotRow_8 : decode cX6_whyNotRow 8 = .ok (.ifCond .ne 5, 3) := by decide +kernel
theorem dX6_whyNotRow_11 : decode cX6_whyNotRow 11 = .ok (.iconst (-1), 1) := by decide +kernel
theorem dX6_whyNotRow_12 : decode cX6_whyNotRow 12 = .ok (.ireturn, 1) := by decide +kernel
theorem dX6_whyNotRow_13 : decode cX6_whyNotRow 13 = .ok (.aload_n 0, 1) := by decide +kernel
theorem dX6_whyNotRow_14 : decode cX6_whyNotRow 14 = .ok (.iconst 0, 1) := by decide +kernel
theorem dX6_whyNotRow_15 : decode cX6_whyNotRow 15 = .ok (.aload_n 0, 1) := by decide +kernel
theorem dX6_whyNotRow_16 : decode cX6_whyNotRow 16 = .ok (.getfield 10, 3) := by decide +kernel
theorem dX6_whyNotRow_19 : decode cX6_whyNotRow 19 = .ok (.getfield 51, 3) := by decide +kernel
theorem dX6_whyNotRow_22 : decode cX6_whyNotRow 22 = .ok (.invokevirtual 329, 3) := by decide +kernel
theorem dX6_whyNotRow_25 : decode cX6_whyNotRow 25 = .ok (.ifCond .eq 7, 3) := by decide +kernel
theorem dX6_whyNotRow_28 : decode cX6_whyNotRow 28 = .ok (.iconst 0, 1) := by decide +kernel
theorem dX6_whyNotRow_29 : decode cX6_whyNotRow 29 = .ok (.goto 5, 3) := by decide +kernel
theorem dX6_whyNotRow_32 : decode cX6_whyNotRow 32 = .ok (.bipush (-2), 2) := by decide +kernel
theorem dX6_whyNotRow_34 : decode cX6_whyNotRow 34 = .ok (.ireturn, 1) := by decide +kernel
theorem dX6_row_0 : decode cX6_row 0 = .ok (.aload_n 0, 1) := by decide +kernel
theorem dX6_row_1 : decode cX6_row 1 = .ok (.iload_n 1, 1) := by decide +kernel
theorem dX6_row_2 : decode cX6_row 2 = .ok (.invokevirtual 83, 3) := by decide +kernel
theorem dX6_row_5 : decode cX6_row 5 = .ok (.istore_n 2, 1) := by decide +kernel
theorem dX6_row_6 : decode cX6_row 6 = .ok (.iload_n 2, 1) := by decide +kernel
theorem dX6_row_7 : decode cX6_row 7 = .ok (.ifCond .ne 35, 3) := by decide +kernel
theorem dX6_row_10 : decode cX6_row 10 = .ok (.aload_n 0, 1) := by decide +kernel
theorem dX6_row_11 : decode cX6_row 11 = .ok (.getfield 43, 3) := by decide +kernel
theorem dX6_row_14 : decode cX6_row 14 = .ok (.aload_n 0, 1) := by decide +kernel
theorem dX6_row_15 : decode cX6_row 15 = .ok (.getfield 19, 3) := by decide +kernel
theorem dX6_row_42 : decode cX6_row 42 = .ok (.aload_n 0, 1) := by decide +kernel
theorem dX6_row_43 : decode cX6_row 43 = .ok (.getfield 10, 3) := by decide +kernel
theorem dX6_row_46 : decode cX6_row 46 = .ok (.iconst 0, 1) := by decide +kernel
theorem dX6_row_47 : decode cX6_row 47 = .ok (.putfield 51, 3) := by decide +kernel
theorem dX6_row_50 : decode cX6_row 50 = .ok (.iload_n 2, 1) := by decide +kernel
theorem dX6_row_51 : decode cX6_row 51 = .ok (.ireturn, 1) := by decide +kernel
theorem dX6_scroll_0 : decode cX6_scroll 0 = .ok (.aload_n 0, 1) := by decide +kernel
theorem dX6_scroll_1 : decode cX6_scroll 1 = .ok (.aload_n 0, 1) := by decide +kernel
theorem dX6_scroll_2 : decode cX6_scroll 2 = .ok (.getfield 19, 3) := by decide +kernel
theorem dX6_scroll_5 : decode cX6_scroll 5 = .ok (.getfield 94, 3) := by decide +kernel
theorem dX6_scroll_8 : decode cX6_scroll 8 = .ok (.iconst 1, 1) := by decide +kernel
theorem dX6_scroll_9 : decode cX6_scroll 9 = .ok (.isub, 1) := by decide +kernel
theorem dX6_scroll_10 : decode cX6_scroll 10 = .ok (.invokevirtual 83, 3) := by decide +kernel
theorem dX6_scroll_13 : decode cX6_scroll 13 = .ok (.istore_n 1, 1) := by decide +kernel
theorem dX6_scroll_14 : decode cX6_scroll 14 = .ok (.iload_n 1, 1) := by decide +kernel
theorem dX6_scroll_15 : decode cX6_scroll 15 = .ok (.ifCond .ne 34, 3) := by decide +kernel
theorem dX6_scroll_18 : decode cX6_scroll 18 = .ok (.aload_n 0, 1) := by decide +kernel
theorem dX6_scroll_19 : decode cX6_scroll 19 = .ok (.getfield 43, 3) := by decide +kernel
theorem dX6_scroll_22 : decode cX6_scroll 22 = .ok (.aload_n 0, 1) := by decide +kernel
theorem dX6_scroll_23 : decode cX6_scroll 23 = .ok (.getfield 19, 3) := by decide +kernel
theorem dX6_scroll_49 : decode cX6_scroll 49 = .ok (.aload_n 0, 1) := by decide +kernel
theorem dX6_scroll_50 : decode cX6_scroll 50 = .ok (.getfield 10, 3) := by decide +kernel
theorem dX6_scroll_53 : decode cX6_scroll 53 = .ok (.iconst 0, 1) := by decide +kernel
theorem dX6_scroll_54 : decode cX6_scroll 54 = .ok (.putfield 51, 3) := by decide +kernel
theorem dX6_scroll_57 : decode cX6_scroll 57 = .ok (.iload_n 1, 1) := by decide +kernel
theorem dX6_scroll_58 : decode cX6_scroll 58 = .ok (.ireturn, 1) := by decide +kernel
theorem dX6_tick_0 : decode cX6_tick 0 = .ok (.aload_n 0, 1) := by decide +kernel
theorem dX6_tick_1 : decode cX6_tick 1 = .ok (.getfield 19, 3) := by decide +kernel
theorem dX6_tick_4 : decode cX6_tick 4 = .ok (.invokevirtual 101, 3) := by decide +kernel
theorem dX6_tick_7 : decode cX6_tick 7 = .ok (.ifCond .eq 14, 3) := by decide +kernel
theorem dX6_tick_10 : decode cX6_tick 10 = .ok (.iload_n 1, 1) := by decide +kernel
theorem dX6_tick_11 : decode cX6_tick 11 = .ok (.iconst 1, 1) := by decide +kernel
theorem dX6_tick_12 : decode cX6_tick 12 = .ok (.if_icmp .lt 9, 3) := by decide +kernel
theorem dX6_tick_15 : decode cX6_tick 15 = .ok (.iload_n 1, 1) := by decide +kernel
theorem dX6_tick_16 : decode cX6_tick 16 = .ok (.bipush 99, 2) := by decide +kernel
theorem dX6_tick_18 : decode cX6_tick 18 = .ok (.if_icmp .le 5, 3) := by decide +kernel
theorem dX6_tick_21 : decode cX6_tick 21 = .ok (.iconst (-1), 1) := by decide +kernel
theorem dX6_tick_22 : decode cX6_tick 22 = .ok (.ireturn, 1) := by decide +kernel
theorem dX6_tick_23 : decode cX6_tick 23 = .ok (.aload_n 0, 1) := by decide +kernel
theorem dX6_tick_24 : decode cX6_tick 24 = .ok (.getfield 43, 3) := by decide +kernel
theorem dX6_tick_27 : decode cX6_tick 27 = .ok (.aload_n 0, 1) := by decide +kernel
theorem dX6_tick_28 : decode cX6_tick 28 = .ok (.getfield 19, 3) := by decide +kernel
theorem dX6_settle_0 : decode cX6_settle 0 = .ok (.aload_n 0, 1) := by decide +kernel
theorem dX6_settle_1 : decode cX6_settle 1 = .ok (.getfield 19, 3) := by decide +kernel
theorem dX6_settle_4 : decode cX6_settle 4 = .ok (.invokevirtual 101, 3) := by decide +kernel
theorem dX6_settle_7 : decode cX6_settle 7 = .ok (.ifCond .ne 5, 3) := by decide +kernel
theorem dX6_settle_12 : decode cX6_settle 12 = .ok (.aload_n 0, 1) := by decide +kernel
theorem dX6_settle_13 : decode cX6_settle 13 = .ok (.getfield 29, 3) := by decide +kernel
theorem dX6_settle_16 : decode cX6_settle 16 = .ok (.aload_n 0, 1) := by decide +kernel
theorem dX6_settle_17 : decode cX6_settle 17 = .ok (.getfield 19, 3) := by decide +kernel
theorem dX6_settle_20 : decode cX6_settle 20 = .ok (.invokevirtual 111, 3) := by decide +kernel
theorem dX6_settle_23 : decode cX6_settle 23 = .ok (.aload_n 0, 1) := by decide +kernel
theorem dX6_settle_24 : decode cX6_settle 24 = .ok (.getfield 29, 3) := by decide +kernel
theorem dX6_settle_27 : decode cX6_settle 27 = .ok (.getfield 114, 3) := by decide +kernel
theorem dX6_settle_30 : decode cX6_settle 30 = .ok (.ifCond .ne 6, 3) := by decide +kernel
theorem dX6_settle_36 : decode cX6_settle 36 = .ok (.aload_n 0, 1) := by decide +kernel
theorem dX6_settle_37 : decode cX6_settle 37 = .ok (.getfield 43, 3) := by decide +kernel
theorem dX6_settle_40 : decode cX6_settle 40 = .ok (.aload_n 0, 1) := by decide +kernel
theorem dX6_settle_41 : decode cX6_settle 41 = .ok (.getfield 19, 3) := by decide +kernel
theorem dX6_lose_0 : decode cX6_lose 0 = .ok (.aload_n 0, 1) := by decide +kernel
theorem dX6_lose_1 : decode cX6_lose 1 = .ok (.getfield 19, 3) := by decide +kernel
theorem dX6_lose_4 : decode cX6_lose 4 = .ok (.iload_n 1, 1) := by decide +kernel
theorem dX6_lose_5 : decode cX6_lose 5 = .ok (.invokevirtual 118, 3) := by decide +kernel
theorem dX6_lose_8 : decode cX6_lose 8 = .ok (.ifCond .eq 13, 3) := by decide +kernel
theorem dX6_lose_11 : decode cX6_lose 11 = .ok (.iload_n 2, 1) := by decide +kernel
theorem dX6_lose_12 : decode cX6_lose 12 = .ok (.ifCond .lt 9, 3) := by decide +kernel
theorem dX6_lose_15 : decode cX6_lose 15 = .ok (.iload_n 2, 1) := by decide +kernel
theorem dX6_lose_16 : decode cX6_lose 16 = .ok (.bipush 9, 2) := by decide +kernel
theorem dX6_lose_18 : decode cX6_lose 18 = .ok (.if_icmp .le 5, 3) := by decide +kernel
theorem dX6_lose_21 : decode cX6_lose 21 = .ok (.iconst (-1), 1) := by decide +kernel
theorem dX6_lose_22 : decode cX6_lose 22 = .ok (.ireturn, 1) := by decide +kernel
theorem dX6_lose_23 : decode cX6_lose 23 = .ok (.aload_n 0, 1) := by decide +kernel
theorem dX6_lose_24 : decode cX6_lose 24 = .ok (.getfield 19, 3) := by decide +kernel
theorem dX6_lose_27 : decode cX6_lose 27 = .ok (.getfield 122, 3) := by decide +kernel
theorem dX6_lose_30 : decode cX6_lose 30 = .ok (.iload_n 1, 1) := by decide +kernel
theorem dX6_lose_31 : decode cX6_lose 31 = .ok (.iaload, 1) := by decide +kernel
theorem dX6_lose_32 : decode cX6_lose 32 = .ok (.istore_n 3, 1) := by decide +kernel
theorem dX6_lose_33 : decode cX6_lose 33 = .ok (.iload_n 3, 1) := by decide +kernel
theorem dX6_lose_34 : decode cX6_lose 34 = .ok (.iload_n 2, 1) := by decide +kernel
theorem dX6_lose_35 : decode cX6_lose 35 = .ok (.if_icmp .ne 6, 3) := by decide +kernel
theorem dX6_lose_41 : decode cX6_lose 41 = .ok (.aload_n 0, 1) := by decide +kernel
theorem dX6_lose_42 : decode cX6_lose 42 = .ok (.getfield 43, 3) := by decide +kernel
theorem dX6_lose_45 : decode cX6_lose 45 = .ok (.aload_n 0, 1) := by decide +kernel
theorem dX6_lose_46 : decode cX6_lose 46 = .ok (.getfield 19, 3) := by decide +kernel
theorem dX6_wear_0 : decode cX6_wear 0 = .ok (.aload_n 0, 1) := by decide +kernel
theorem dX6_wear_1 : decode cX6_wear 1 = .ok (.getfield 19, 3) := by decide +kernel
theorem dX6_wear_4 : decode cX6_wear 4 = .ok (.iload_n 1, 1) := by decide +kernel
theorem dX6_wear_5 : decode cX6_wear 5 = .ok (.iload_n 2, 1) := by decide +kernel
theorem dX6_wear_6 : decode cX6_wear 6 = .ok (.invokevirtual 130, 3) := by decide +kernel
theorem dX6_wear_9 : decode cX6_wear 9 = .ok (.ifCond .eq 7, 3) := by decide +kernel
theorem dX6_wear_12 : decode cX6_wear 12 = .ok (.iload_n 2, 1) := by decide +kernel
theorem dX6_wear_13 : decode cX6_wear 13 = .ok (.ifCond .ne 5, 3) := by decide +kernel
theorem dX6_wear_16 : decode cX6_wear 16 = .ok (.iconst (-1), 1) := by decide +kernel
theorem dX6_wear_17 : decode cX6_wear 17 = .ok (.ireturn, 1) := by decide +kernel
theorem dX6_wear_18 : decode cX6_wear 18 = .ok (.aload_n 0, 1) := by decide +kernel
theorem dX6_wear_19 : decode cX6_wear 19 = .ok (.getfield 19, 3) := by decide +kernel
theorem dX6_wear_22 : decode cX6_wear 22 = .ok (.iload_n 1, 1) := by decide +kernel
theorem dX6_wear_23 : decode cX6_wear 23 = .ok (.iload_n 2, 1) := by decide +kernel
theorem dX6_wear_24 : decode cX6_wear 24 = .ok (.invokevirtual 134, 3) := by decide +kernel
theorem dX6_wear_27 : decode cX6_wear 27 = .ok (.ifCond .eq 6, 3) := by decide +kernel
theorem dX6_wear_33 : decode cX6_wear 33 = .ok (.aload_n 0, 1) := by decide +kernel
theorem dX6_wear_34 : decode cX6_wear 34 = .ok (.getfield 43, 3) := by decide +kernel
theorem dX6_wear_37 : decode cX6_wear 37 = .ok (.aload_n 0, 1) := by decide +kernel
theorem dX6_wear_38 : decode cX6_wear 38 = .ok (.getfield 19, 3) := by decide +kernel
theorem dX6_mend_0 : decode cX6_mend 0 = .ok (.aload_n 0, 1) := by decide +kernel
theorem dX6_mend_1 : decode cX6_mend 1 = .ok (.getfield 19, 3) := by decide +kernel
theorem dX6_mend_4 : decode cX6_mend 4 = .ok (.iload_n 1, 1) := by decide +kernel
theorem dX6_mend_5 : decode cX6_mend 5 = .ok (.iload_n 2, 1) := by decide +kernel
theorem dX6_mend_6 : decode cX6_mend 6 = .ok (.invokevirtual 130, 3) := by decide +kernel
theorem dX6_mend_9 : decode cX6_mend 9 = .ok (.ifCond .ne 5, 3) := by decide +kernel
theorem dX6_mend_14 : decode cX6_mend 14 = .ok (.aload_n 0, 1) := by decide +kernel
theorem dX6_mend_15 : decode cX6_mend 15 = .ok (.getfield 19, 3) := by decide +kernel
theorem dX6_mend_18 : decode cX6_mend 18 = .ok (.iload_n 1, 1) := by decide +kernel
theorem dX6_mend_19 : decode cX6_mend 19 = .ok (.iload_n 2, 1) := by decide +kernel
theorem dX6_mend_20 : decode cX6_mend 20 = .ok (.invokevirtual 134, 3) := by decide +kernel
theorem dX6_mend_23 : decode cX6_mend 23 = .ok (.ifCond .ne 6, 3) := by decide +kernel
theorem dX6_mend_29 : decode cX6_mend 29 = .ok (.aload_n 0, 1) := by decide +kernel
theorem dX6_mend_30 : decode cX6_mend 30 = .ok (.getfield 43, 3) := by decide +kernel
theorem dX6_mend_33 : decode cX6_mend 33 = .ok (.aload_n 0, 1) := by decide +kernel
theorem dX6_mend_34 : decode cX6_mend 34 = .ok (.getfield 19, 3) := by decide +kernel
theorem dX6_limit_0 : decode cX6_limit 0 = .ok (.aload_n 0, 1) := by decide +kernel
theorem dX6_limit_1 : decode cX6_limit 1 = .ok (.getfield 19, 3) := by decide +kernel
theorem dX6_limit_4 : decode cX6_limit 4 = .ok (.invokevirtual 101, 3) := by decide +kernel
theorem dX6_limit_7 : decode cX6_limit 7 = .ok (.ifCond .eq 14, 3) := by decide +kernel
theorem dX6_limit_10 : decode cX6_limit 10 = .ok (.iload_n 1, 1) := by decide +kernel
theorem dX6_limit_11 : decode cX6_limit 11 = .ok (.iconst 1, 1) := by decide +kernel
theorem dX6_limit_12 : decode cX6_limit 12 = .ok (.if_icmp .lt 9, 3) := by decide +kernel
theorem dX6_limit_15 : decode cX6_limit 15 = .ok (.iload_n 1, 1) := by decide +kernel
theorem dX6_limit_16 : decode cX6_limit 16 = .ok (.bipush 99, 2) := by decide +kernel
theorem dX6_limit_18 : decode cX6_limit 18 = .ok (.if_icmp .le 5, 3) := by decide +kernel
theorem dX6_limit_21 : decode cX6_limit 21 = .ok (.iconst (-1), 1) := by decide +kernel
theorem dX6_limit_22 : decode cX6_limit 22 = .ok (.ireturn, 1) := by decide +kernel
theorem dX6_limit_23 : decode cX6_limit 23 = .ok (.aload_n 0, 1) := by decide +kernel
theorem dX6_limit_24 : decode cX6_limit 24 = .ok (.getfield 19, 3) := by decide +kernel
theorem dX6_limit_27 : decode cX6_limit 27 = .ok (.getfield 146, 3) := by decide +kernel
theorem dX6_limit_30 : decode cX6_limit 30 = .ok (.istore_n 2, 1) := by decide +kernel
theorem dX6_limit_31 : decode cX6_limit 31 = .ok (.iload_n 2, 1) := by decide +kernel
theorem dX6_limit_32 : decode cX6_limit 32 = .ok (.iload_n 1, 1) := by decide +kernel
theorem dX6_limit_33 : decode cX6_limit 33 = .ok (.if_icmp .ne 6, 3) := by decide +kernel
theorem dX6_limit_39 : decode cX6_limit 39 = .ok (.aload_n 0, 1) := by decide +kernel
theorem dX6_limit_40 : decode cX6_limit 40 = .ok (.getfield 43, 3) := by decide +kernel
theorem dX6_limit_43 : decode cX6_limit 43 = .ok (.aload_n 0, 1) := by decide +kernel
theorem dX6_limit_44 : decode cX6_limit 44 = .ok (.getfield 19, 3) := by decide +kernel
theorem dX6_exchange_0 : decode cX6_exchange 0 = .ok (.aload_n 0, 1) := by decide +kernel
theorem dX6_exchange_1 : decode cX6_exchange 1 = .ok (.getfield 19, 3) := by decide +kernel
theorem dX6_exchange_4 : decode cX6_exchange 4 = .ok (.iload_n 1, 1) := by decide +kernel
theorem dX6_exchange_5 : decode cX6_exchange 5 = .ok (.iload_n 2, 1) := by decide +kernel
theorem dX6_exchange_6 : decode cX6_exchange 6 = .ok (.invokevirtual 149, 3) := by decide +kernel
theorem dX6_exchange_9 : decode cX6_exchange 9 = .ok (.ifCond .eq 20, 3) := by decide +kernel
theorem dX6_exchange_12 : decode cX6_exchange 12 = .ok (.aload_n 0, 1) := by decide +kernel
theorem dX6_exchange_13 : decode cX6_exchange 13 = .ok (.getfield 19, 3) := by decide +kernel
theorem dX6_exchange_16 : decode cX6_exchange 16 = .ok (.iload_n 1, 1) := by decide +kernel
theorem dX6_exchange_17 : decode cX6_exchange 17 = .ok (.iload_n 3, 1) := by decide +kernel
theorem dX6_exchange_18 : decode cX6_exchange 18 = .ok (.invokevirtual 149, 3) := by decide +kernel
theorem dX6_exchange_21 : decode cX6_exchange 21 = .ok (.ifCond .eq 8, 3) := by decide +kernel
theorem dX6_exchange_24 : decode cX6_exchange 24 = .ok (.iload_n 2, 1) := by decide +kernel
theorem dX6_exchange_25 : decode cX6_exchange 25 = .ok (.iload_n 3, 1) := by decide +kernel
theorem dX6_exchange_26 : decode cX6_exchange 26 = .ok (.if_icmp .ne 5, 3) := by decide +kernel
theorem dX6_exchange_29 : decode cX6_exchange 29 = .ok (.iconst (-1), 1) := by decide +kernel
theorem dX6_exchange_30 : decode cX6_exchange 30 = .ok (.ireturn, 1) := by decide +kernel
theorem dX6_exchange_31 : decode cX6_exchange 31 = .ok (.aload_n 0, 1) := by decide +kernel
theorem dX6_exchange_32 : decode cX6_exchange 32 = .ok (.getfield 43, 3) := by decide +kernel
theorem dX6_exchange_35 : decode cX6_exchange 35 = .ok (.aload_n 0, 1) := by decide +kernel
theorem dX6_exchange_36 : decode cX6_exchange 36 = .ok (.getfield 19, 3) := by decide +kernel
theorem dX6_whyNotProgram_0 : decode cX6_whyNotProgram 0 = .ok (.aload_n 0, 1) := by decide +kernel
theorem dX6_whyNotProgram_1 : decode cX6_whyNotProgram 1 = .ok (.getfield 19, 3) := by decide +kernel
theorem dX6_whyNotProgram_4 : decode cX6_whyNotProgram 4 = .ok (.invokevirtual 101, 3) := by decide +kernel
theorem dX6_whyNotProgram_7 : decode cX6_whyNotProgram 7 = .ok (.ifCond .ne 5, 3) := by decide +kernel
theorem dX6_whyNotProgram_10 : decode cX6_whyNotProgram 10 = .ok (.iconst (-1), 1) := by decide +kernel
theorem dX6_whyNotProgram_11 : decode cX6_whyNotProgram 11 = .ok (.ireturn, 1) := by decide +kernel
theorem dX6_whyNotProgram_12 : decode cX6_whyNotProgram 12 = .ok (.aload_n 0, 1) := by decide +kernel
theorem dX6_whyNotProgram_13 : decode cX6_whyNotProgram 13 = .ok (.getfield 36, 3) := by decide +kernel
theorem dX6_whyNotProgram_16 : decode cX6_whyNotProgram 16 = .ok (.aload_n 0, 1) := by decide +kernel
theorem dX6_whyNotProgram_17 : decode cX6_whyNotProgram 17 = .ok (.getfield 10, 3) := by decide +kernel
theorem dX6_whyNotProgram_20 : decode cX6_whyNotProgram 20 = .ok (.aload_n 0, 1) := by decide +kernel
theorem dX6_whyNotProgram_21 : decode cX6_whyNotProgram 21 = .ok (.getfield 19, 3) := by decide +kernel
theorem dX6_whyNotProgram_24 : decode cX6_whyNotProgram 24 = .ok (.invokevirtual 163, 3) := by decide +kernel
theorem dX6_whyNotProgram_27 : decode cX6_whyNotProgram 27 = .ok (.aload_n 0, 1) := by decide +kernel
theorem dX6_whyNotProgram_28 : decode cX6_whyNotProgram 28 = .ok (.getfield 10, 3) := by decide +kernel
theorem dX6_whyNotProgram_31 : decode cX6_whyNotProgram 31 = .ok (.invokevirtual 65, 3) := by decide +kernel
theorem dX6_whyNotProgram_34 : decode cX6_whyNotProgram 34 = .ok (.ifCond .eq 7, 3) := by decide +kernel
theorem dX6_whyNotProgram_37 : decode cX6_whyNotProgram 37 = .ok (.iconst 0, 1) := by decide +kernel
theorem dX6_whyNotProgram_38 : decode cX6_whyNotProgram 38 = .ok (.goto 13, 3) := by decide +kernel
theorem dX6_whyNotProgram_41 : decode cX6_whyNotProgram 41 = .ok (.bipush (-2), 2) := by decide +kernel
theorem dX6_whyNotProgram_43 : decode cX6_whyNotProgram 43 = .ok (.aload_n 0, 1) := by decide +kernel
theorem dX6_whyNotProgram_44 : decode cX6_whyNotProgram 44 = .ok (.getfield 10, 3) := by decide +kernel
theorem dX6_whyNotProgram_47 : decode cX6_whyNotProgram 47 = .ok (.getfield 69, 3) := by decide +kernel
theorem dX6_whyNotProgram_50 : decode cX6_whyNotProgram 50 = .ok (.isub, 1) := by decide +kernel
theorem dX6_whyNotProgram_51 : decode cX6_whyNotProgram 51 = .ok (.ireturn, 1) := by decide +kernel
theorem dX6_doStep_0 : decode cX6_doStep 0 = .ok (.aload_n 0, 1) := by decide +kernel
theorem dX6_doStep_1 : decode cX6_doStep 1 = .ok (.getfield 36, 3) := by decide +kernel
theorem dX6_doStep_4 : decode cX6_doStep 4 = .ok (.iload_n 1, 1) := by decide +kernel
theorem dX6_doStep_5 : decode cX6_doStep 5 = .ok (.invokevirtual 182, 3) := by decide +kernel
theorem dX6_doStep_8 : decode cX6_doStep 8 = .ok (.istore_n 2, 1) := by decide +kernel
theorem dX6_doStep_9 : decode cX6_doStep 9 = .ok (.aload_n 0, 1) := by decide +kernel
theorem dX6_doStep_10 : decode cX6_doStep 10 = .ok (.getfield 36, 3) := by decide +kernel
theorem dX6_doStep_13 : decode cX6_doStep 13 = .ok (.iload_n 1, 1) := by decide +kernel
theorem dX6_doStep_14 : decode cX6_doStep 14 = .ok (.invokevirtual 185, 3) := by decide +kernel

theorem dX6_doStep_17 : decode cX6_doStep 17 = .ok (.istore_n 3, 1) := by decide +kernel
theorem dX6_doStep_18 : decode cX6_doStep 18 = .ok (.aload_n 0, 1) := by decide +kernel
theorem dX6_doStep_19 : decode cX6_doStep 19 = .ok (.getfield 36, 3) := by decide +kernel
theorem dX6_doStep_22 : decode cX6_doStep 22 = .ok (.iload_n 1, 1) := by decide +kernel
theorem dX6_doStep_23 : decode cX6_doStep 23 = .ok (.invokevirtual 188, 3) := by decide +kernel
theorem dX6_doStep_26 : decode cX6_doStep 26 = .ok (.tableswitch 142 6 11 #[38, 130, 63, 87, 98, 113], 38) := by decide +kernel
theorem dX6_doStep_64 : decode cX6_doStep 64 = .ok (.aload_n 0, 1) := by decide +kernel
theorem dX6_doStep_65 : decode cX6_doStep 65 = .ok (.getfield 19, 3) := by decide +kernel
theorem dX6_doStep_68 : decode cX6_doStep 68 = .ok (.iload_n 2, 1) := by decide +kernel
theorem dX6_doStep_69 : decode cX6_doStep 69 = .ok (.aload_n 0, 1) := by decide +kernel
theorem dX6_doStep_70 : decode cX6_doStep 70 = .ok (.getfield 10, 3) := by decide +kernel
theorem dX6_doStep_73 : decode cX6_doStep 73 = .ok (.iload_n 3, 1) := by decide +kernel
theorem dX6_doStep_74 : decode cX6_doStep 74 = .ok (.aload_n 0, 1) := by decide +kernel
theorem dX6_doStep_75 : decode cX6_doStep 75 = .ok (.getfield 36, 3) := by decide +kernel
theorem dX6_doStep_78 : decode cX6_doStep 78 = .ok (.iload_n 1, 1) := by decide +kernel
theorem dX6_doStep_79 : decode cX6_doStep 79 = .ok (.invokevirtual 191, 3) := by decide +kernel
theorem dX6_doStep_82 : decode cX6_doStep 82 = .ok (.invokevirtual 90, 3) := by decide +kernel
theorem dX6_doStep_85 : decode cX6_doStep 85 = .ok (.pop, 1) := by decide +kernel
theorem dX6_doStep_86 : decode cX6_doStep 86 = .ok (.goto 82, 3) := by decide +kernel
theorem dX6_doStep_89 : decode cX6_doStep 89 = .ok (.aload_n 0, 1) := by decide +kernel
theorem dX6_doStep_90 : decode cX6_doStep 90 = .ok (.getfield 19, 3) := by decide +kernel
theorem dX6_doStep_93 : decode cX6_doStep 93 = .ok (.aload_n 0, 1) := by decide +kernel
theorem dX6_doStep_94 : decode cX6_doStep 94 = .ok (.getfield 10, 3) := by decide +kernel
theorem dX6_doStep_97 : decode cX6_doStep 97 = .ok (.iload_n 3, 1) := by decide +kernel
theorem dX6_doStep_98 : decode cX6_doStep 98 = .ok (.aload_n 0, 1) := by decide +kernel
theorem dX6_doStep_99 : decode cX6_doStep 99 = .ok (.getfield 36, 3) := by decide +kernel
theorem dX6_doStep_102 : decode cX6_doStep 102 = .ok (.iload_n 1, 1) := by decide +kernel
theorem dX6_doStep_103 : decode cX6_doStep 103 = .ok (.invokevirtual 191, 3) := by decide +kernel
theorem dX6_doStep_106 : decode cX6_doStep 106 = .ok (.invokevirtual 97, 3) := by decide +kernel
theorem dX6_doStep_109 : decode cX6_doStep 109 = .ok (.pop, 1) := by decide +kernel
theorem dX6_doStep_110 : decode cX6_doStep 110 = .ok (.goto 58, 3) := by decide +kernel
theorem dX6_doStep_113 : decode cX6_doStep 113 = .ok (.aload_n 0, 1) := by decide +kernel
theorem dX6_doStep_114 : decode cX6_doStep 114 = .ok (.getfield 19, 3) := by decide +kernel
theorem dX6_doStep_117 : decode cX6_doStep 117 = .ok (.iload_n 2, 1) := by decide +kernel
theorem dX6_doStep_118 : decode cX6_doStep 118 = .ok (.invokevirtual 194, 3) := by decide +kernel
theorem dX6_doStep_121 : decode cX6_doStep 121 = .ok (.goto 47, 3) := by decide +kernel
theorem dX6_doStep_124 : decode cX6_doStep 124 = .ok (.aload_n 0, 1) := by decide +kernel
theorem dX6_doStep_125 : decode cX6_doStep 125 = .ok (.getfield 29, 3) := by decide +kernel
theorem dX6_doStep_128 : decode cX6_doStep 128 = .ok (.aload_n 0, 1) := by decide +kernel
theorem dX6_doStep_129 : decode cX6_doStep 129 = .ok (.getfield 19, 3) := by decide +kernel
theorem dX6_doStep_132 : decode cX6_doStep 132 = .ok (.iload_n 2, 1) := by decide +kernel
theorem dX6_doStep_133 : decode cX6_doStep 133 = .ok (.invokevirtual 104, 3) := by decide +kernel
theorem dX6_doStep_136 : decode cX6_doStep 136 = .ok (.goto 32, 3) := by decide +kernel
theorem dX6_doStep_139 : decode cX6_doStep 139 = .ok (.aload_n 0, 1) := by decide +kernel
theorem dX6_doStep_140 : decode cX6_doStep 140 = .ok (.getfield 29, 3) := by decide +kernel
theorem dX6_doStep_143 : decode cX6_doStep 143 = .ok (.aload_n 0, 1) := by decide +kernel
theorem dX6_doStep_144 : decode cX6_doStep 144 = .ok (.getfield 19, 3) := by decide +kernel
theorem dX6_doStep_147 : decode cX6_doStep 147 = .ok (.sipush 9999, 3) := by decide +kernel
theorem dX6_doStep_150 : decode cX6_doStep 150 = .ok (.invokevirtual 104, 3) := by decide +kernel
theorem dX6_doStep_153 : decode cX6_doStep 153 = .ok (.goto 15, 3) := by decide +kernel
theorem dX6_doStep_156 : decode cX6_doStep 156 = .ok (.aload_n 0, 1) := by decide +kernel
theorem dX6_doStep_157 : decode cX6_doStep 157 = .ok (.getfield 19, 3) := by decide +kernel
theorem dX6_doStep_160 : decode cX6_doStep 160 = .ok (.iload_n 2, 1) := by decide +kernel
theorem dX6_doStep_161 : decode cX6_doStep 161 = .ok (.iload_n 3, 1) := by decide +kernel
theorem dX6_doStep_162 : decode cX6_doStep 162 = .ok (.invokevirtual 126, 3) := by decide +kernel
theorem dX6_doStep_165 : decode cX6_doStep 165 = .ok (.goto 3, 3) := by decide +kernel
theorem dX6_doStep_168 : decode cX6_doStep 168 = .ok (.return_, 1) := by decide +kernel
theorem dX6_doProgram_0 : decode cX6_doProgram 0 = .ok (.aload_n 0, 1) := by decide +kernel
theorem dX6_doProgram_1 : decode cX6_doProgram 1 = .ok (.getfield 36, 3) := by decide +kernel
theorem dX6_doProgram_4 : decode cX6_doProgram 4 = .ok (.invokevirtual 167, 3) := by decide +kernel
theorem dX6_doProgram_7 : decode cX6_doProgram 7 = .ok (.iconst 0, 1) := by decide +kernel
theorem dX6_doProgram_8 : decode cX6_doProgram 8 = .ok (.istore_n 1, 1) := by decide +kernel
theorem dX6_doProgram_9 : decode cX6_doProgram 9 = .ok (.iload_n 1, 1) := by decide +kernel
theorem dX6_doProgram_10 : decode cX6_doProgram 10 = .ok (.sipush 200, 3) := by decide +kernel
theorem dX6_doProgram_13 : decode cX6_doProgram 13 = .ok (.if_icmp .ge 46, 3) := by decide +kernel
theorem dX6_doProgram_16 : decode cX6_doProgram 16 = .ok (.aload_n 0, 1) := by decide +kernel
theorem dX6_doProgram_17 : decode cX6_doProgram 17 = .ok (.getfield 36, 3) := by decide +kernel
theorem dX6_doProgram_20 : decode cX6_doProgram 20 = .ok (.aload_n 0, 1) := by decide +kernel
theorem dX6_doProgram_21 : decode cX6_doProgram 21 = .ok (.getfield 36, 3) := by decide +kernel
theorem dX6_doProgram_24 : decode cX6_doProgram 24 = .ok (.getfield 170, 3) := by decide +kernel
theorem dX6_doProgram_27 : decode cX6_doProgram 27 = .ok (.invokevirtual 173, 3) := by decide +kernel
theorem dX6_doProgram_30 : decode cX6_doProgram 30 = .ok (.ifCond .ne 5, 3) := by decide +kernel
theorem dX6_doProgram_33 : decode cX6_doProgram 33 = .ok (.iload_n 1, 1) := by decide +kernel
theorem dX6_doProgram_34 : decode cX6_doProgram 34 = .ok (.ireturn, 1) := by decide +kernel
theorem dX6_doProgram_35 : decode cX6_doProgram 35 = .ok (.aload_n 0, 1) := by decide +kernel
theorem dX6_doProgram_36 : decode cX6_doProgram 36 = .ok (.aload_n 0, 1) := by decide +kernel
theorem dX6_doProgram_37 : decode cX6_doProgram 37 = .ok (.getfield 36, 3) := by decide +kernel
theorem dX6_doProgram_40 : decode cX6_doProgram 40 = .ok (.getfield 170, 3) := by decide +kernel
theorem dX6_doProgram_43 : decode cX6_doProgram 43 = .ok (.invokevirtual 176, 3) := by decide +kernel
theorem dX6_doProgram_46 : decode cX6_doProgram 46 = .ok (.aload_n 0, 1) := by decide +kernel
theorem dX6_doProgram_47 : decode cX6_doProgram 47 = .ok (.getfield 36, 3) := by decide +kernel
theorem dX6_doProgram_50 : decode cX6_doProgram 50 = .ok (.invokevirtual 179, 3) := by decide +kernel
theorem dX6_doProgram_53 : decode cX6_doProgram 53 = .ok (.iinc 1 1, 3) := by decide +kernel
theorem dX6_doProgram_56 : decode cX6_doProgram 56 = .ok (.goto (-47), 3) := by decide +kernel
theorem dX6_doProgram_59 : decode cX6_doProgram 59 = .ok (.sipush 200, 3) := by decide +kernel
theorem dX6_doProgram_62 : decode cX6_doProgram 62 = .ok (.ireturn, 1) := by decide +kernel
theorem dX6_run_0 : decode cX6_run 0 = .ok (.aload_n 0, 1) := by decide +kernel
theorem dX6_run_1 : decode cX6_run 1 = .ok (.invokevirtual 156, 3) := by decide +kernel
theorem dX6_run_4 : decode cX6_run 4 = .ok (.istore_n 1, 1) := by decide +kernel
theorem dX6_run_5 : decode cX6_run 5 = .ok (.iload_n 1, 1) := by decide +kernel
theorem dX6_run_6 : decode cX6_run 6 = .ok (.ifCond .ne 19, 3) := by decide +kernel
theorem dX6_run_9 : decode cX6_run 9 = .ok (.aload_n 0, 1) := by decide +kernel
theorem dX6_run_10 : decode cX6_run 10 = .ok (.getfield 43, 3) := by decide +kernel
theorem dX6_run_13 : decode cX6_run 13 = .ok (.aload_n 0, 1) := by decide +kernel
theorem dX6_run_14 : decode cX6_run 14 = .ok (.getfield 19, 3) := by decide +kernel
theorem dX6_run_25 : decode cX6_run 25 = .ok (.aload_n 0, 1) := by decide +kernel
theorem dX6_run_26 : decode cX6_run 26 = .ok (.getfield 10, 3) := by decide +kernel
theorem dX6_run_29 : decode cX6_run 29 = .ok (.iconst 0, 1) := by decide +kernel
theorem dX6_run_30 : decode cX6_run 30 = .ok (.putfield 51, 3) := by decide +kernel
theorem dX6_run_33 : decode cX6_run 33 = .ok (.iload_n 1, 1) := by decide +kernel
theorem dX6_run_34 : decode cX6_run 34 = .ok (.ireturn, 1) := by decide +kernel
theorem dX6_undo_0 : decode cX6_undo 0 = .ok (.aload_n 0, 1) := by decide +kernel
theorem dX6_undo_1 : decode cX6_undo 1 = .ok (.getfield 43, 3) := by decide +kernel
theorem dX6_undo_4 : decode cX6_undo 4 = .ok (.aload_n 0, 1) := by decide +kernel
theorem dX6_undo_5 : decode cX6_undo 5 = .ok (.getfield 19, 3) := by decide +kernel
theorem dX6_isShelf_0 : decode cX6_isShelf 0 = .ok (.iload_n 0, 1) := by decide +kernel
theorem dX6_isShelf_1 : decode cX6_isShelf 1 = .ok (.ifCond .lt 12, 3) := by decide +kernel
theorem dX6_isShelf_4 : decode cX6_isShelf 4 = .ok (.iload_n 0, 1) := by decide +kernel
theorem dX6_isShelf_5 : decode cX6_isShelf 5 = .ok (.iconst 2, 1) := by decide +kernel
theorem dX6_isShelf_6 : decode cX6_isShelf 6 = .ok (.if_icmp .ge 7, 3) := by decide +kernel
theorem dX6_isShelf_9 : decode cX6_isShelf 9 = .ok (.iconst 1, 1) := by decide +kernel
theorem dX6_isShelf_10 : decode cX6_isShelf 10 = .ok (.goto 4, 3) := by decide +kernel
theorem dX6_isShelf_13 : decode cX6_isShelf 13 = .ok (.iconst 0, 1) := by decide +kernel
theorem dX6_isShelf_14 : decode cX6_isShelf 14 = .ok (.ireturn, 1) := by decide +kernel
theorem dX6_keep_0 : decode cX6_keep 0 = .ok (.iload_n 1, 1) := by decide +kernel
theorem dX6_keep_1 : decode cX6_keep 1 = .ok (.invokestatic 201, 3) := by decide +kernel
theorem dX6_keep_4 : decode cX6_keep 4 = .ok (.ifCond .ne 5, 3) := by decide +kernel
theorem dX6_keep_9 : decode cX6_keep 9 = .ok (.aload_n 0, 1) := by decide +kernel
theorem dX6_keep_10 : decode cX6_keep 10 = .ok (.getfield 47, 3) := by decide +kernel
theorem dX6_keep_13 : decode cX6_keep 13 = .ok (.iload_n 1, 1) := by decide +kernel
theorem dX6_back_0 : decode cX6_back 0 = .ok (.iload_n 1, 1) := by decide +kernel
theorem dX6_back_1 : decode cX6_back 1 = .ok (.invokestatic 201, 3) := by decide +kernel
theorem dX6_back_4 : decode cX6_back 4 = .ok (.ifCond .ne 5, 3) := by decide +kernel
theorem dX6_back_9 : decode cX6_back 9 = .ok (.aload_n 0, 1) := by decide +kernel
theorem dX6_back_10 : decode cX6_back 10 = .ok (.getfield 47, 3) := by decide +kernel
theorem dX6_back_13 : decode cX6_back 13 = .ok (.iload_n 1, 1) := by decide +kernel
theorem dX6_shelvesUsed_0 : decode cX6_shelvesUsed 0 = .ok (.iconst 0, 1) := by decide +kernel
theorem dX6_shelvesUsed_1 : decode cX6_shelvesUsed 1 = .ok (.istore_n 1, 1) := by decide +kernel
theorem dX6_shelvesUsed_2 : decode cX6_shelvesUsed 2 = .ok (.iconst 0, 1) := by decide +kernel
theorem dX6_shelvesUsed_3 : decode cX6_shelvesUsed 3 = .ok (.istore_n 2, 1) := by decide +kernel
theorem dX6_shelvesUsed_4 : decode cX6_shelvesUsed 4 = .ok (.iload_n 2, 1) := by decide +kernel
theorem dX6_shelvesUsed_5 : decode cX6_shelvesUsed 5 = .ok (.iconst 2, 1) := by decide +kernel
theorem dX6_shelvesUsed_6 : decode cX6_shelvesUsed 6 = .ok (.if_icmp .ge 24, 3) := by decide +kernel
theorem dX6_shelvesUsed_9 : decode cX6_shelvesUsed 9 = .ok (.aload_n 0, 1) := by decide +kernel
theorem dX6_shelvesUsed_10 : decode cX6_shelvesUsed 10 = .ok (.getfield 47, 3) := by decide +kernel
theorem dX6_shelvesUsed_13 : decode cX6_shelvesUsed 13 = .ok (.iload_n 2, 1) := by decide +kernel
theorem dX6_cell_0 : decode cX6_cell 0 = .ok (.aload_n 0, 1) := by decide +kernel
theorem dX6_cell_1 : decode cX6_cell 1 = .ok (.getfield 19, 3) := by decide +kernel
theorem dX6_cell_4 : decode cX6_cell 4 = .ok (.iload_n 1, 1) := by decide +kernel
theorem dX6_cell_5 : decode cX6_cell 5 = .ok (.invokevirtual 118, 3) := by decide +kernel
theorem dX6_cell_8 : decode cX6_cell 8 = .ok (.ifCond .ne 5, 3) := by decide +kernel
theorem dX6_cell_11 : decode cX6_cell 11 = .ok (.iconst (-1), 1) := by decide +kernel
theorem dX6_cell_12 : decode cX6_cell 12 = .ok (.ireturn, 1) := by decide +kernel
theorem dX6_cell_13 : decode cX6_cell 13 = .ok (.iload_n 2, 1) := by decide +kernel
theorem dX6_cell_14 : decode cX6_cell 14 = .ok (.tableswitch 138 0 8 #[50, 60, 70, 80, 90, 99, 109, 119, 129], 50) := by decide +kernel
theorem dX6_cell_64 : decode cX6_cell 64 = .ok (.aload_n 0, 1) := by decide +kernel
theorem dX6_cell_65 : decode cX6_cell 65 = .ok (.getfield 19, 3) := by decide +kernel
theorem dX6_cell_68 : decode cX6_cell 68 = .ok (.getfield 210, 3) := by decide +kernel
theorem dX6_cell_71 : decode cX6_cell 71 = .ok (.iload_n 1, 1) := by decide +kernel
theorem dX6_cell_72 : decode cX6_cell 72 = .ok (.iaload, 1) := by decide +kernel
theorem dX6_cell_73 : decode cX6_cell 73 = .ok (.ireturn, 1) := by decide +kernel
theorem dX6_cell_74 : decode cX6_cell 74 = .ok (.aload_n 0, 1) := by decide +kernel
theorem dX6_cell_75 : decode cX6_cell 75 = .ok (.getfield 19, 3) := by decide +kernel
theorem dX6_cell_78 : decode cX6_cell 78 = .ok (.getfield 213, 3) := by decide +kernel
theorem dX6_cell_81 : decode cX6_cell 81 = .ok (.iload_n 1, 1) := by decide +kernel
theorem dX6_cell_82 : decode cX6_cell 82 = .ok (.iaload, 1) := by decide +kernel
theorem dX6_cell_83 : decode cX6_cell 83 = .ok (.ireturn, 1) := by decide +kernel
theorem dX6_cell_84 : decode cX6_cell 84 = .ok (.aload_n 0, 1) := by decide +kernel
theorem dX6_cell_85 : decode cX6_cell 85 = .ok (.getfield 19, 3) := by decide +kernel
theorem dX6_cell_88 : decode cX6_cell 88 = .ok (.getfield 216, 3) := by decide +kernel
theorem dX6_cell_91 : decode cX6_cell 91 = .ok (.iload_n 1, 1) := by decide +kernel
theorem dX6_cell_92 : decode cX6_cell 92 = .ok (.iaload, 1) := by decide +kernel
theorem dX6_cell_93 : decode cX6_cell 93 = .ok (.ireturn, 1) := by decide +kernel
theorem dX6_cell_94 : decode cX6_cell 94 = .ok (.aload_n 0, 1) := by decide +kernel
theorem dX6_cell_95 : decode cX6_cell 95 = .ok (.getfield 19, 3) := by decide +kernel
theorem dX6_cell_98 : decode cX6_cell 98 = .ok (.getfield 219, 3) := by decide +kernel
theorem dX6_cell_101 : decode cX6_cell 101 = .ok (.iload_n 1, 1) := by decide +kernel
theorem dX6_cell_102 : decode cX6_cell 102 = .ok (.iaload, 1) := by decide +kernel
theorem dX6_cell_103 : decode cX6_cell 103 = .ok (.ireturn, 1) := by decide +kernel
theorem dX6_cell_104 : decode cX6_cell 104 = .ok (.aload_n 0, 1) := by decide +kernel
theorem dX6_cell_105 : decode cX6_cell 105 = .ok (.getfield 19, 3) := by decide +kernel
theorem dX6_cell_108 : decode cX6_cell 108 = .ok (.iload_n 1, 1) := by decide +kernel
theorem dX6_cell_109 : decode cX6_cell 109 = .ok (.invokevirtual 222, 3) := by decide +kernel
theorem dX6_cell_112 : decode cX6_cell 112 = .ok (.ireturn, 1) := by decide +kernel
theorem dX6_cell_113 : decode cX6_cell 113 = .ok (.aload_n 0, 1) := by decide +kernel
theorem dX6_cell_114 : decode cX6_cell 114 = .ok (.getfield 19, 3) := by decide +kernel
theorem dX6_cell_117 : decode cX6_cell 117 = .ok (.getfield 122, 3) := by decide +kernel
theorem dX6_cell_120 : decode cX6_cell 120 = .ok (.iload_n 1, 1) := by decide +kernel
theorem dX6_cell_121 : decode cX6_cell 121 = .ok (.iaload, 1) := by decide +kernel
theorem dX6_cell_122 : decode cX6_cell 122 = .ok (.ireturn, 1) := by decide +kernel
theorem dX6_cell_123 : decode cX6_cell 123 = .ok (.aload_n 0, 1) := by decide +kernel
theorem dX6_cell_124 : decode cX6_cell 124 = .ok (.getfield 19, 3) := by decide +kernel
theorem dX6_cell_127 : decode cX6_cell 127 = .ok (.getfield 225, 3) := by decide +kernel
theorem dX6_cell_130 : decode cX6_cell 130 = .ok (.iload_n 1, 1) := by decide +kernel
theorem dX6_cell_131 : decode cX6_cell 131 = .ok (.iaload, 1) := by decide +kernel
theorem dX6_cell_132 : decode cX6_cell 132 = .ok (.ireturn, 1) := by decide +kernel
theorem dX6_cell_133 : decode cX6_cell 133 = .ok (.aload_n 0, 1) := by decide +kernel
theorem dX6_cell_134 : decode cX6_cell 134 = .ok (.getfield 19, 3) := by decide +kernel
theorem dX6_cell_137 : decode cX6_cell 137 = .ok (.getfield 227, 3) := by decide +kernel
theorem dX6_cell_140 : decode cX6_cell 140 = .ok (.iload_n 1, 1) := by decide +kernel
theorem dX6_cell_141 : decode cX6_cell 141 = .ok (.iaload, 1) := by decide +kernel
theorem dX6_cell_142 : decode cX6_cell 142 = .ok (.ireturn, 1) := by decide +kernel
theorem dX6_cell_143 : decode cX6_cell 143 = .ok (.aload_n 0, 1) := by decide +kernel
theorem dX6_cell_144 : decode cX6_cell 144 = .ok (.getfield 19, 3) := by decide +kernel
theorem dX6_cell_147 : decode cX6_cell 147 = .ok (.iload_n 1, 1) := by decide +kernel
theorem dX6_cell_148 : decode cX6_cell 148 = .ok (.invokevirtual 140, 3) := by decide +kernel
theorem dX6_cell_151 : decode cX6_cell 151 = .ok (.ireturn, 1) := by decide +kernel
theorem dX6_cell_152 : decode cX6_cell 152 = .ok (.iconst (-1), 1) := by decide +kernel
theorem dX6_cell_153 : decode cX6_cell 153 = .ok (.ireturn, 1) := by decide +kernel
theorem dX6_worn_0 : decode cX6_worn 0 = .ok (.aload_n 0, 1) := by decide +kernel
theorem dX6_worn_1 : decode cX6_worn 1 = .ok (.getfield 19, 3) := by decide +kernel
theorem dX6_worn_4 : decode cX6_worn 4 = .ok (.iload_n 1, 1) := by decide +kernel
theorem dX6_worn_5 : decode cX6_worn 5 = .ok (.invokevirtual 118, 3) := by decide +kernel
theorem dX6_worn_8 : decode cX6_worn 8 = .ok (.ifCond .eq 15, 3) := by decide +kernel
theorem dX6_worn_11 : decode cX6_worn 11 = .ok (.aload_n 0, 1) := by decide +kernel
theorem dX6_worn_12 : decode cX6_worn 12 = .ok (.getfield 19, 3) := by decide +kernel
theorem dX6_worn_15 : decode cX6_worn 15 = .ok (.getfield 230, 3) := by decide +kernel
theorem dX6_worn_18 : decode cX6_worn 18 = .ok (.iload_n 1, 1) := by decide +kernel
theorem dX6_worn_19 : decode cX6_worn 19 = .ok (.laload, 1) := by decide +kernel
theorem dX6_worn_20 : decode cX6_worn 20 = .ok (.goto 6, 3) := by decide +kernel
theorem dX6_worn_23 : decode cX6_worn 23 = .ok (.ldc2_w 234, 3) := by decide +kernel
theorem dX6_worn_26 : decode cX6_worn 26 = .ok (.lreturn, 1) := by decide +kernel
theorem dX6_drum_0 : decode cX6_drum 0 = .ok (.aload_n 0, 1) := by decide +kernel
theorem dX6_drum_1 : decode cX6_drum 1 = .ok (.getfield 19, 3) := by decide +kernel
theorem dX6_drum_4 : decode cX6_drum 4 = .ok (.iload_n 1, 1) := by decide +kernel
theorem dX6_drum_5 : decode cX6_drum 5 = .ok (.invokevirtual 236, 3) := by decide +kernel
theorem dX6_drum_8 : decode cX6_drum 8 = .ok (.ifCond .ne 5, 3) := by decide +kernel
theorem dX6_drum_11 : decode cX6_drum 11 = .ok (.iconst (-1), 1) := by decide +kernel
theorem dX6_drum_12 : decode cX6_drum 12 = .ok (.ireturn, 1) := by decide +kernel
theorem dX6_drum_13 : decode cX6_drum 13 = .ok (.iload_n 2, 1) := by decide +kernel
theorem dX6_drum_14 : decode cX6_drum 14 = .ok (.tableswitch 80 0 4 #[34, 44, 53, 62, 71], 34) := by decide +kernel
theorem dX6_drum_48 : decode cX6_drum 48 = .ok (.aload_n 0, 1) := by decide +kernel
theorem dX6_drum_49 : decode cX6_drum 49 = .ok (.getfield 19, 3) := by decide +kernel
theorem dX6_drum_52 : decode cX6_drum 52 = .ok (.getfield 239, 3) := by decide +kernel
theorem dX6_drum_55 : decode cX6_drum 55 = .ok (.iload_n 1, 1) := by decide +kernel
theorem dX6_drum_56 : decode cX6_drum 56 = .ok (.iaload, 1) := by decide +kernel
theorem dX6_drum_57 : decode cX6_drum 57 = .ok (.ireturn, 1) := by decide +kernel
theorem dX6_drum_58 : decode cX6_drum 58 = .ok (.aload_n 0, 1) := by decide +kernel
theorem dX6_drum_59 : decode cX6_drum 59 = .ok (.getfield 19, 3) := by decide +kernel
theorem dX6_drum_62 : decode cX6_drum 62 = .ok (.iload_n 1, 1) := by decide +kernel
theorem dX6_drum_63 : decode cX6_drum 63 = .ok (.invokevirtual 242, 3) := by decide +kernel
theorem dX6_drum_66 : decode cX6_drum 66 = .ok (.ireturn, 1) := by decide +kernel
theorem dX6_drum_67 : decode cX6_drum 67 = .ok (.aload_n 0, 1) := by decide +kernel
theorem dX6_drum_68 : decode cX6_drum 68 = .ok (.getfield 19, 3) := by decide +kernel
theorem dX6_drum_71 : decode cX6_drum 71 = .ok (.iload_n 1, 1) := by decide +kernel
theorem dX6_drum_72 : decode cX6_drum 72 = .ok (.invokevirtual 245, 3) := by decide +kernel
theorem dX6_drum_75 : decode cX6_drum 75 = .ok (.ireturn, 1) := by decide +kernel
theorem dX6_drum_76 : decode cX6_drum 76 = .ok (.aload_n 0, 1) := by decide +kernel
theorem dX6_drum_77 : decode cX6_drum 77 = .ok (.getfield 19, 3) := by decide +kernel
theorem dX6_drum_80 : decode cX6_drum 80 = .ok (.iload_n 1, 1) := by decide +kernel
theorem dX6_drum_81 : decode cX6_drum 81 = .ok (.invokevirtual 248, 3) := by decide +kernel
theorem dX6_drum_84 : decode cX6_drum 84 = .ok (.ireturn, 1) := by decide +kernel
theorem dX6_drum_85 : decode cX6_drum 85 = .ok (.aload_n 0, 1) := by decide +kernel
theorem dX6_drum_86 : decode cX6_drum 86 = .ok (.getfield 19, 3) := by decide +kernel
theorem dX6_drum_89 : decode cX6_drum 89 = .ok (.iload_n 1, 1) := by decide +kernel
theorem dX6_drum_90 : decode cX6_drum 90 = .ok (.invokevirtual 251, 3) := by decide +kernel
theorem dX6_drum_93 : decode cX6_drum 93 = .ok (.ireturn, 1) := by decide +kernel
theorem dX6_drum_94 : decode cX6_drum 94 = .ok (.iconst (-1), 1) := by decide +kernel
theorem dX6_drum_95 : decode cX6_drum 95 = .ok (.ireturn, 1) := by decide +kernel
theorem dX6_sign_0 : decode cX6_sign 0 = .ok (.aload_n 0, 1) := by decide +kernel
theorem dX6_sign_1 : decode cX6_sign 1 = .ok (.getfield 19, 3) := by decide +kernel
theorem dX6_sign_4 : decode cX6_sign 4 = .ok (.iload_n 1, 1) := by decide +kernel
theorem dX6_sign_5 : decode cX6_sign 5 = .ok (.iload_n 2, 1) := by decide +kernel
theorem dX6_sign_6 : decode cX6_sign 6 = .ok (.invokevirtual 254, 3) := by decide +kernel
theorem dX6_sign_9 : decode cX6_sign 9 = .ok (.ireturn, 1) := by decide +kernel
theorem dX6_at_0 : decode cX6_at 0 = .ok (.aload_n 0, 1) := by decide +kernel
theorem dX6_at_1 : decode cX6_at 1 = .ok (.getfield 19, 3) := by decide +kernel
theorem dX6_at_4 : decode cX6_at 4 = .ok (.iload_n 1, 1) := by decide +kernel
theorem dX6_at_5 : decode cX6_at 5 = .ok (.invokevirtual 258, 3) := by decide +kernel
theorem dX6_at_8 : decode cX6_at 8 = .ok (.ifCond .eq 18, 3) := by decide +kernel
theorem dX6_at_11 : decode cX6_at 11 = .ok (.iload_n 2, 1) := by decide +kernel
theorem dX6_at_12 : decode cX6_at 12 = .ok (.ifCond .lt 14, 3) := by decide +kernel
theorem dX6_at_15 : decode cX6_at 15 = .ok (.iload_n 2, 1) := by decide +kernel
theorem dX6_at_16 : decode cX6_at 16 = .ok (.aload_n 0, 1) := by decide +kernel
theorem dX6_at_17 : decode cX6_at 17 = .ok (.getfield 19, 3) := by decide +kernel
theorem dX6_at_20 : decode cX6_at 20 = .ok (.getfield 261, 3) := by decide +kernel
theorem dX6_at_23 : decode cX6_at 23 = .ok (.if_icmp .lt 5, 3) := by decide +kernel
theorem dX6_at_26 : decode cX6_at 26 = .ok (.iconst (-1), 1) := by decide +kernel
theorem dX6_at_27 : decode cX6_at 27 = .ok (.ireturn, 1) := by decide +kernel
theorem dX6_at_28 : decode cX6_at 28 = .ok (.iload_n 1, 1) := by decide +kernel
theorem dX6_at_29 : decode cX6_at 29 = .ok (.aload_n 0, 1) := by decide +kernel
theorem dX6_at_30 : decode cX6_at 30 = .ok (.getfield 19, 3) := by decide +kernel
theorem dX6_at_33 : decode cX6_at 33 = .ok (.getfield 261, 3) := by decide +kernel
theorem dX6_at_36 : decode cX6_at 36 = .ok (.imul, 1) := by decide +kernel
theorem dX6_at_37 : decode cX6_at 37 = .ok (.iload_n 2, 1) := by decide +kernel
theorem dX6_at_38 : decode cX6_at 38 = .ok (.iadd, 1) := by decide +kernel
theorem dX6_at_39 : decode cX6_at 39 = .ok (.istore 4, 2) := by decide +kernel
theorem dX6_at_41 : decode cX6_at 41 = .ok (.iload_n 3, 1) := by decide +kernel
theorem dX6_at_42 : decode cX6_at 42 = .ok (.tableswitch 86 0 2 #[26, 46, 66], 26) := by decide +kernel
theorem dX6_at_68 : decode cX6_at 68 = .ok (.aload_n 0, 1) := by decide +kernel
theorem dX6_at_69 : decode cX6_at 69 = .ok (.getfield 19, 3) := by decide +kernel
theorem dX6_at_72 : decode cX6_at 72 = .ok (.iload 4, 2) := by decide +kernel
theorem dX6_at_74 : decode cX6_at 74 = .ok (.aload_n 0, 1) := by decide +kernel
theorem dX6_at_75 : decode cX6_at 75 = .ok (.getfield 19, 3) := by decide +kernel
theorem dX6_at_78 : decode cX6_at 78 = .ok (.getfield 213, 3) := by decide +kernel
theorem dX6_at_81 : decode cX6_at 81 = .ok (.iload 4, 2) := by decide +kernel
theorem dX6_at_83 : decode cX6_at 83 = .ok (.iaload, 1) := by decide +kernel
theorem dX6_at_84 : decode cX6_at 84 = .ok (.invokevirtual 264, 3) := by decide +kernel
theorem dX6_at_87 : decode cX6_at 87 = .ok (.ireturn, 1) := by decide +kernel
theorem dX6_at_88 : decode cX6_at 88 = .ok (.aload_n 0, 1) := by decide +kernel
theorem dX6_at_89 : decode cX6_at 89 = .ok (.getfield 19, 3) := by decide +kernel
theorem dX6_at_92 : decode cX6_at 92 = .ok (.iload 4, 2) := by decide +kernel
theorem dX6_at_94 : decode cX6_at 94 = .ok (.aload_n 0, 1) := by decide +kernel
theorem dX6_at_95 : decode cX6_at 95 = .ok (.getfield 19, 3) := by decide +kernel
theorem dX6_at_98 : decode cX6_at 98 = .ok (.getfield 216, 3) := by decide +kernel
theorem dX6_at_101 : decode cX6_at 101 = .ok (.iload 4, 2) := by decide +kernel
theorem dX6_at_103 : decode cX6_at 103 = .ok (.iaload, 1) := by decide +kernel
theorem dX6_at_104 : decode cX6_at 104 = .ok (.invokevirtual 264, 3) := by decide +kernel
theorem dX6_at_107 : decode cX6_at 107 = .ok (.ireturn, 1) := by decide +kernel
theorem dX6_at_108 : decode cX6_at 108 = .ok (.aload_n 0, 1) := by decide +kernel
theorem dX6_at_109 : decode cX6_at 109 = .ok (.getfield 19, 3) := by decide +kernel
theorem dX6_at_112 : decode cX6_at 112 = .ok (.iload 4, 2) := by decide +kernel
theorem dX6_at_114 : decode cX6_at 114 = .ok (.aload_n 0, 1) := by decide +kernel
theorem dX6_at_115 : decode cX6_at 115 = .ok (.getfield 19, 3) := by decide +kernel
theorem dX6_at_118 : decode cX6_at 118 = .ok (.getfield 219, 3) := by decide +kernel
theorem dX6_at_121 : decode cX6_at 121 = .ok (.iload 4, 2) := by decide +kernel
theorem dX6_at_123 : decode cX6_at 123 = .ok (.iaload, 1) := by decide +kernel
theorem dX6_at_124 : decode cX6_at 124 = .ok (.invokevirtual 264, 3) := by decide +kernel
theorem dX6_at_127 : decode cX6_at 127 = .ok (.ireturn, 1) := by decide +kernel
theorem dX6_at_128 : decode cX6_at 128 = .ok (.iconst (-1), 1) := by decide +kernel
theorem dX6_at_129 : decode cX6_at 129 = .ok (.ireturn, 1) := by decide +kernel
theorem dX6_isSuch_0 : decode cX6_isSuch 0 = .ok (.iload_n 2, 1) := by decide +kernel
theorem dX6_isSuch_1 : decode cX6_isSuch 1 = .ok (.tableswitch 112 0 4 #[35, 52, 79, 112, 88], 35) := by decide +kernel
theorem dX6_isSuch_36 : decode cX6_isSuch 36 = .ok (.aload_n 0, 1) := by decide +kernel
theorem dX6_isSuch_37 : decode cX6_isSuch 37 = .ok (.getfield 19, 3) := by decide +kernel
theorem dX6_isSuch_40 : decode cX6_isSuch 40 = .ok (.iload_n 1, 1) := by decide +kernel
theorem dX6_isSuch_41 : decode cX6_isSuch 41 = .ok (.invokevirtual 222, 3) := by decide +kernel
theorem dX6_isSuch_44 : decode cX6_isSuch 44 = .ok (.ifCond .le 7, 3) := by decide +kernel
theorem dX6_isSuch_47 : decode cX6_isSuch 47 = .ok (.iconst 1, 1) := by decide +kernel
theorem dX6_isSuch_48 : decode cX6_isSuch 48 = .ok (.goto 4, 3) := by decide +kernel
theorem dX6_isSuch_51 : decode cX6_isSuch 51 = .ok (.iconst 0, 1) := by decide +kernel
theorem dX6_isSuch_52 : decode cX6_isSuch 52 = .ok (.ireturn, 1) := by decide +kernel
theorem dX6_isSuch_53 : decode cX6_isSuch 53 = .ok (.aload_n 0, 1) := by decide +kernel
theorem dX6_isSuch_54 : decode cX6_isSuch 54 = .ok (.getfield 19, 3) := by decide +kernel
theorem dX6_isSuch_57 : decode cX6_isSuch 57 = .ok (.getfield 213, 3) := by decide +kernel
theorem dX6_isSuch_60 : decode cX6_isSuch 60 = .ok (.iload_n 1, 1) := by decide +kernel
theorem dX6_isSuch_61 : decode cX6_isSuch 61 = .ok (.iaload, 1) := by decide +kernel
theorem dX6_isSuch_62 : decode cX6_isSuch 62 = .ok (.aload_n 0, 1) := by decide +kernel
theorem dX6_isSuch_63 : decode cX6_isSuch 63 = .ok (.getfield 19, 3) := by decide +kernel
theorem dX6_isSuch_66 : decode cX6_isSuch 66 = .ok (.getfield 216, 3) := by decide +kernel
theorem dX6_isSuch_69 : decode cX6_isSuch 69 = .ok (.iload_n 1, 1) := by decide +kernel
theorem dX6_isSuch_70 : decode cX6_isSuch 70 = .ok (.iaload, 1) := by decide +kernel
theorem dX6_isSuch_71 : decode cX6_isSuch 71 = .ok (.if_icmp .eq 7, 3) := by decide +kernel
theorem dX6_isSuch_74 : decode cX6_isSuch 74 = .ok (.iconst 1, 1) := by decide +kernel
theorem dX6_isSuch_75 : decode cX6_isSuch 75 = .ok (.goto 4, 3) := by decide +kernel
theorem dX6_isSuch_78 : decode cX6_isSuch 78 = .ok (.iconst 0, 1) := by decide +kernel
theorem dX6_isSuch_79 : decode cX6_isSuch 79 = .ok (.ireturn, 1) := by decide +kernel
theorem dX6_isSuch_80 : decode cX6_isSuch 80 = .ok (.aload_n 0, 1) := by decide +kernel
theorem dX6_isSuch_81 : decode cX6_isSuch 81 = .ok (.getfield 19, 3) := by decide +kernel
theorem dX6_isSuch_84 : decode cX6_isSuch 84 = .ok (.iload_n 1, 1) := by decide +kernel
theorem dX6_isSuch_85 : decode cX6_isSuch 85 = .ok (.invokevirtual 274, 3) := by decide +kernel
theorem dX6_isSuch_88 : decode cX6_isSuch 88 = .ok (.ireturn, 1) := by decide +kernel
theorem dX6_isSuch_89 : decode cX6_isSuch 89 = .ok (.aload_n 0, 1) := by decide +kernel
theorem dX6_isSuch_90 : decode cX6_isSuch 90 = .ok (.getfield 19, 3) := by decide +kernel
theorem dX6_isSuch_93 : decode cX6_isSuch 93 = .ok (.iload_n 1, 1) := by decide +kernel
theorem dX6_isSuch_94 : decode cX6_isSuch 94 = .ok (.invokevirtual 277, 3) := by decide +kernel
theorem dX6_isSuch_97 : decode cX6_isSuch 97 = .ok (.aload_n 0, 1) := by decide +kernel
theorem dX6_isSuch_98 : decode cX6_isSuch 98 = .ok (.getfield 19, 3) := by decide +kernel
theorem dX6_isSuch_101 : decode cX6_isSuch 101 = .ok (.getfield 146, 3) := by decide +kernel
theorem dX6_isSuch_104 : decode cX6_isSuch 104 = .ok (.if_icmp .le 7, 3) := by decide +kernel
theorem dX6_isSuch_107 : decode cX6_isSuch 107 = .ok (.iconst 1, 1) := by decide +kernel
theorem dX6_isSuch_108 : decode cX6_isSuch 108 = .ok (.goto 4, 3) := by decide +kernel
theorem dX6_isSuch_111 : decode cX6_isSuch 111 = .ok (.iconst 0, 1) := by decide +kernel
theorem dX6_isSuch_112 : decode cX6_isSuch 112 = .ok (.ireturn, 1) := by decide +kernel
theorem dX6_isSuch_113 : decode cX6_isSuch 113 = .ok (.iconst 0, 1) := by decide +kernel
theorem dX6_isSuch_114 : decode cX6_isSuch 114 = .ok (.ireturn, 1) := by decide +kernel
theorem dX6_which_0 : decode cX6_which 0 = .ok (.aload_n 0, 1) := by decide +kernel
theorem dX6_which_1 : decode cX6_which 1 = .ok (.getfield 19, 3) := by decide +kernel
theorem dX6_which_4 : decode cX6_which 4 = .ok (.invokevirtual 101, 3) := by decide +kernel
theorem dX6_which_7 : decode cX6_which 7 = .ok (.ifCond .eq 12, 3) := by decide +kernel
theorem dX6_which_10 : decode cX6_which 10 = .ok (.iload_n 1, 1) := by decide +kernel
theorem dX6_which_11 : decode cX6_which 11 = .ok (.ifCond .lt 8, 3) := by decide +kernel
theorem dX6_which_14 : decode cX6_which 14 = .ok (.iload_n 1, 1) := by decide +kernel
theorem dX6_which_15 : decode cX6_which 15 = .ok (.iconst 4, 1) := by decide +kernel
theorem dX6_which_16 : decode cX6_which 16 = .ok (.if_icmp .le 7, 3) := by decide +kernel
theorem dX6_which_19 : decode cX6_which 19 = .ok (.ldc2_w 234, 3) := by decide +kernel
theorem dX6_which_22 : decode cX6_which 22 = .ok (.lreturn, 1) := by decide +kernel
theorem dX6_which_23 : decode cX6_which 23 = .ok (.iload_n 1, 1) := by decide +kernel
theorem dX6_which_24 : decode cX6_which 24 = .ok (.iconst 3, 1) := by decide +kernel
theorem dX6_which_25 : decode cX6_which 25 = .ok (.if_icmp .ne 22, 3) := by decide +kernel
theorem dX6_which_28 : decode cX6_which 28 = .ok (.aload_n 0, 1) := by decide +kernel
theorem dX6_which_29 : decode cX6_which 29 = .ok (.getfield 29, 3) := by decide +kernel
theorem dX6_which_32 : decode cX6_which 32 = .ok (.aload_n 0, 1) := by decide +kernel
theorem dX6_which_33 : decode cX6_which 33 = .ok (.getfield 19, 3) := by decide +kernel
theorem dX6_which_36 : decode cX6_which 36 = .ok (.invokevirtual 111, 3) := by decide +kernel
theorem dX6_which_39 : decode cX6_which 39 = .ok (.aload_n 0, 1) := by decide +kernel
theorem dX6_which_40 : decode cX6_which 40 = .ok (.getfield 29, 3) := by decide +kernel
theorem dX6_which_43 : decode cX6_which 43 = .ok (.invokevirtual 267, 3) := by decide +kernel
theorem dX6_which_46 : decode cX6_which 46 = .ok (.lreturn, 1) := by decide +kernel
theorem dX6_which_47 : decode cX6_which 47 = .ok (.lconst 0, 1) := by decide +kernel
theorem dX6_which_48 : decode cX6_which 48 = .ok (.lstore_n 2, 1) := by decide +kernel
theorem dX6_which_49 : decode cX6_which 49 = .ok (.iconst 0, 1) := by decide +kernel
theorem dX6_which_50 : decode cX6_which 50 = .ok (.istore 4, 2) := by decide +kernel
theorem dX6_which_52 : decode cX6_which 52 = .ok (.iload 4, 2) := by decide +kernel
theorem dX6_which_54 : decode cX6_which 54 = .ok (.aload_n 0, 1) := by decide +kernel
theorem dX6_which_55 : decode cX6_which 55 = .ok (.getfield 19, 3) := by decide +kernel
theorem dX6_which_58 : decode cX6_which 58 = .ok (.invokevirtual 207, 3) := by decide +kernel
theorem dX6_which_61 : decode cX6_which 61 = .ok (.if_icmp .ge 26, 3) := by decide +kernel
theorem dX6_which_64 : decode cX6_which 64 = .ok (.aload_n 0, 1) := by decide +kernel
theorem dX6_which_65 : decode cX6_which 65 = .ok (.iload 4, 2) := by decide +kernel
theorem dX6_which_67 : decode cX6_which 67 = .ok (.iload_n 1, 1) := by decide +kernel
theorem dX6_which_68 : decode cX6_which 68 = .ok (.invokevirtual 271, 3) := by decide +kernel
theorem dX6_which_71 : decode cX6_which 71 = .ok (.ifCond .eq 10, 3) := by decide +kernel
theorem dX6_which_74 : decode cX6_which 74 = .ok (.lload_n 2, 1) := by decide +kernel
theorem dX6_which_75 : decode cX6_which 75 = .ok (.lconst 1, 1) := by decide +kernel
theorem dX6_which_76 : decode cX6_which 76 = .ok (.iload 4, 2) := by decide +kernel
theorem dX6_which_78 : decode cX6_which 78 = .ok (.lshl, 1) := by decide +kernel
theorem dX6_which_79 : decode cX6_which 79 = .ok (.lor, 1) := by decide +kernel
theorem dX6_which_80 : decode cX6_which 80 = .ok (.lstore_n 2, 1) := by decide +kernel
theorem dX6_which_81 : decode cX6_which 81 = .ok (.iinc 4 1, 3) := by decide +kernel
theorem dX6_which_84 : decode cX6_which 84 = .ok (.goto (-32), 3) := by decide +kernel
theorem dX6_which_87 : decode cX6_which 87 = .ok (.lload_n 2, 1) := by decide +kernel
theorem dX6_which_88 : decode cX6_which 88 = .ok (.lreturn, 1) := by decide +kernel
theorem dX6_leastTicks_0 : decode cX6_leastTicks 0 = .ok (.iconst 1, 1) := by decide +kernel
theorem dX6_leastTicks_1 : decode cX6_leastTicks 1 = .ok (.aload_n 0, 1) := by decide +kernel
theorem dX6_leastTicks_2 : decode cX6_leastTicks 2 = .ok (.getfield 19, 3) := by decide +kernel
theorem dX6_leastTicks_5 : decode cX6_leastTicks 5 = .ok (.getfield 146, 3) := by decide +kernel
theorem dX6_leastTicks_8 : decode cX6_leastTicks 8 = .ok (.invokestatic 290, 3) := by decide +kernel
theorem dX6_leastTicks_11 : decode cX6_leastTicks 11 = .ok (.istore_n 1, 1) := by decide +kernel
theorem dX6_leastTicks_12 : decode cX6_leastTicks 12 = .ok (.aload_n 0, 1) := by decide +kernel
theorem dX6_leastTicks_13 : decode cX6_leastTicks 13 = .ok (.getfield 19, 3) := by decide +kernel
theorem dX6_leastTicks_16 : decode cX6_leastTicks 16 = .ok (.iconst 1, 1) := by decide +kernel
theorem dX6_leastTicks_17 : decode cX6_leastTicks 17 = .ok (.invokevirtual 280, 3) := by decide +kernel
theorem dX6_leastTicks_20 : decode cX6_leastTicks 20 = .ok (.iload_n 1, 1) := by decide +kernel
theorem dX6_leastTicks_21 : decode cX6_leastTicks 21 = .ok (.iadd, 1) := by decide +kernel
theorem dX6_leastTicks_22 : decode cX6_leastTicks 22 = .ok (.iconst 1, 1) := by decide +kernel
theorem dX6_leastTicks_23 : decode cX6_leastTicks 23 = .ok (.isub, 1) := by decide +kernel
theorem dX6_leastTicks_24 : decode cX6_leastTicks 24 = .ok (.iload_n 1, 1) := by decide +kernel
theorem dX6_leastTicks_25 : decode cX6_leastTicks 25 = .ok (.idiv, 1) := by decide +kernel
theorem dX6_leastTicks_26 : decode cX6_leastTicks 26 = .ok (.istore_n 2, 1) := by decide +kernel
theorem dX6_leastTicks_27 : decode cX6_leastTicks 27 = .ok (.aload_n 0, 1) := by decide +kernel
theorem dX6_leastTicks_28 : decode cX6_leastTicks 28 = .ok (.getfield 19, 3) := by decide +kernel
theorem dX6_leastTicks_31 : decode cX6_leastTicks 31 = .ok (.invokevirtual 284, 3) := by decide +kernel
theorem dX6_leastTicks_34 : decode cX6_leastTicks 34 = .ok (.iload_n 2, 1) := by decide +kernel
theorem dX6_leastTicks_35 : decode cX6_leastTicks 35 = .ok (.invokestatic 290, 3) := by decide +kernel
theorem dX6_leastTicks_38 : decode cX6_leastTicks 38 = .ok (.ireturn, 1) := by decide +kernel
theorem dX6_left_0 : decode cX6_left 0 = .ok (.aload_n 0, 1) := by decide +kernel
theorem dX6_left_1 : decode cX6_left 1 = .ok (.getfield 19, 3) := by decide +kernel
theorem dX6_left_4 : decode cX6_left 4 = .ok (.invokevirtual 101, 3) := by decide +kernel
theorem dX6_left_7 : decode cX6_left 7 = .ok (.ifCond .ne 5, 3) := by decide +kernel
theorem dX6_left_10 : decode cX6_left 10 = .ok (.iconst (-1), 1) := by decide +kernel
theorem dX6_left_11 : decode cX6_left 11 = .ok (.ireturn, 1) := by decide +kernel
theorem dX6_left_12 : decode cX6_left 12 = .ok (.iload_n 1, 1) := by decide +kernel
theorem dX6_left_13 : decode cX6_left 13 = .ok (.tableswitch 62 0 3 #[31, 40, 48, 57], 31) := by decide +kernel
theorem dX6_left_44 : decode cX6_left 44 = .ok (.aload_n 0, 1) := by decide +kernel
theorem dX6_left_45 : decode cX6_left 45 = .ok (.getfield 19, 3) := by decide +kernel
theorem dX6_left_48 : decode cX6_left 48 = .ok (.iconst 0, 1) := by decide +kernel
theorem dX6_left_49 : decode cX6_left 49 = .ok (.invokevirtual 280, 3) := by decide +kernel
theorem dX6_left_52 : decode cX6_left 52 = .ok (.ireturn, 1) := by decide +kernel
theorem dX6_left_53 : decode cX6_left 53 = .ok (.aload_n 0, 1) := by decide +kernel
theorem dX6_left_54 : decode cX6_left 54 = .ok (.getfield 19, 3) := by decide +kernel
theorem dX6_left_57 : decode cX6_left 57 = .ok (.invokevirtual 284, 3) := by decide +kernel
theorem dX6_left_60 : decode cX6_left 60 = .ok (.ireturn, 1) := by decide +kernel
theorem dX6_left_61 : decode cX6_left 61 = .ok (.aload_n 0, 1) := by decide +kernel
theorem dX6_left_62 : decode cX6_left 62 = .ok (.getfield 19, 3) := by decide +kernel
theorem dX6_left_65 : decode cX6_left 65 = .ok (.iconst 1, 1) := by decide +kernel
theorem dX6_left_66 : decode cX6_left 66 = .ok (.invokevirtual 280, 3) := by decide +kernel
theorem dX6_left_69 : decode cX6_left 69 = .ok (.ireturn, 1) := by decide +kernel
theorem dX6_left_70 : decode cX6_left 70 = .ok (.aload_n 0, 1) := by decide +kernel
theorem dX6_left_71 : decode cX6_left 71 = .ok (.invokevirtual 287, 3) := by decide +kernel
theorem dX6_left_74 : decode cX6_left 74 = .ok (.ireturn, 1) := by decide +kernel
theorem dX6_left_75 : decode cX6_left 75 = .ok (.iconst (-1), 1) := by decide +kernel
theorem dX6_left_76 : decode cX6_left 76 = .ok (.ireturn, 1) := by decide +kernel
theorem dX6_tryToSettle_0 : decode cX6_tryToSettle 0 = .ok (.aload_n 0, 1) := by decide +kernel
theorem dX6_tryToSettle_1 : decode cX6_tryToSettle 1 = .ok (.getfield 23, 3) := by decide +kernel
theorem dX6_tryToSettle_4 : decode cX6_tryToSettle 4 = .ok (.aload_n 0, 1) := by decide +kernel
theorem dX6_tryToSettle_5 : decode cX6_tryToSettle 5 = .ok (.getfield 19, 3) := by decide +kernel
theorem dX6_tryToSettle_8 : decode cX6_tryToSettle 8 = .ok (.invokevirtual 72, 3) := by decide +kernel
theorem dX6_tryToSettle_11 : decode cX6_tryToSettle 11 = .ok (.aload_n 0, 1) := by decide +kernel
theorem dX6_tryToSettle_12 : decode cX6_tryToSettle 12 = .ok (.getfield 29, 3) := by decide +kernel
theorem dX6_tryToSettle_15 : decode cX6_tryToSettle 15 = .ok (.aload_n 0, 1) := by decide +kernel
theorem dX6_tryToSettle_16 : decode cX6_tryToSettle 16 = .ok (.getfield 23, 3) := by decide +kernel
theorem dX6_tryToSettle_19 : decode cX6_tryToSettle 19 = .ok (.sipush 9999, 3) := by decide +kernel
theorem dX6_tryToSettle_22 : decode cX6_tryToSettle 22 = .ok (.invokevirtual 104, 3) := by decide +kernel
theorem dX6_tryToSettle_25 : decode cX6_tryToSettle 25 = .ok (.return_, 1) := by decide +kernel
theorem dX6_when_0 : decode cX6_when 0 = .ok (.aload_n 0, 1) := by decide +kernel
theorem dX6_when_1 : decode cX6_when 1 = .ok (.getfield 19, 3) := by decide +kernel
theorem dX6_when_4 : decode cX6_when 4 = .ok (.invokevirtual 101, 3) := by decide +kernel
theorem dX6_when_7 : decode cX6_when 7 = .ok (.ifCond .eq 12, 3) := by decide +kernel
theorem dX6_when_10 : decode cX6_when 10 = .ok (.iload_n 1, 1) := by decide +kernel
theorem dX6_when_11 : decode cX6_when 11 = .ok (.ifCond .lt 8, 3) := by decide +kernel
theorem dX6_when_14 : decode cX6_when 14 = .ok (.iload_n 1, 1) := by decide +kernel
theorem dX6_when_15 : decode cX6_when 15 = .ok (.iconst 5, 1) := by decide +kernel
theorem dX6_when_16 : decode cX6_when 16 = .ok (.if_icmp .le 5, 3) := by decide +kernel
theorem dX6_when_19 : decode cX6_when 19 = .ok (.iconst (-1), 1) := by decide +kernel
theorem dX6_when_20 : decode cX6_when 20 = .ok (.ireturn, 1) := by decide +kernel
theorem dX6_when_21 : decode cX6_when 21 = .ok (.aload_n 0, 1) := by decide +kernel
theorem dX6_when_22 : decode cX6_when 22 = .ok (.invokevirtual 295, 3) := by decide +kernel
theorem dX6_when_25 : decode cX6_when 25 = .ok (.iload_n 1, 1) := by decide +kernel
theorem dX6_when_26 : decode cX6_when 26 = .ok (.tableswitch 86 0 5 #[38, 46, 54, 62, 70, 78], 38) := by decide +kernel
theorem dX6_when_64 : decode cX6_when 64 = .ok (.aload_n 0, 1) := by decide +kernel
theorem dX6_when_65 : decode cX6_when 65 = .ok (.getfield 29, 3) := by decide +kernel
theorem dX6_when_68 : decode cX6_when 68 = .ok (.getfield 115, 3) := by decide +kernel
theorem dX6_when_71 : decode cX6_when 71 = .ok (.ireturn, 1) := by decide +kernel
theorem dX6_when_72 : decode cX6_when 72 = .ok (.aload_n 0, 1) := by decide +kernel
theorem dX6_when_73 : decode cX6_when 73 = .ok (.getfield 29, 3) := by decide +kernel
theorem dX6_when_76 : decode cX6_when 76 = .ok (.getfield 108, 3) := by decide +kernel
theorem dX6_when_79 : decode cX6_when 79 = .ok (.ireturn, 1) := by decide +kernel
theorem dX6_when_80 : decode cX6_when 80 = .ok (.aload_n 0, 1) := by decide +kernel
theorem dX6_when_81 : decode cX6_when 81 = .ok (.getfield 29, 3) := by decide +kernel
theorem dX6_when_84 : decode cX6_when 84 = .ok (.getfield 298, 3) := by decide +kernel
theorem dX6_when_87 : decode cX6_when 87 = .ok (.ireturn, 1) := by decide +kernel
theorem dX6_when_88 : decode cX6_when 88 = .ok (.aload_n 0, 1) := by decide +kernel
theorem dX6_when_89 : decode cX6_when 89 = .ok (.getfield 29, 3) := by decide +kernel
theorem dX6_when_92 : decode cX6_when 92 = .ok (.getfield 301, 3) := by decide +kernel
theorem dX6_when_95 : decode cX6_when 95 = .ok (.ireturn, 1) := by decide +kernel
theorem dX6_when_96 : decode cX6_when 96 = .ok (.aload_n 0, 1) := by decide +kernel
theorem dX6_when_97 : decode cX6_when 97 = .ok (.getfield 23, 3) := by decide +kernel
theorem dX6_when_100 : decode cX6_when 100 = .ok (.invokevirtual 304, 3) := by decide +kernel
theorem dX6_when_103 : decode cX6_when 103 = .ok (.ireturn, 1) := by decide +kernel
theorem dX6_when_104 : decode cX6_when 104 = .ok (.aload_n 0, 1) := by decide +kernel
theorem dX6_when_105 : decode cX6_when 105 = .ok (.getfield 29, 3) := by decide +kernel
theorem dX6_when_108 : decode cX6_when 108 = .ok (.getfield 307, 3) := by decide +kernel
theorem dX6_when_111 : decode cX6_when 111 = .ok (.ireturn, 1) := by decide +kernel
theorem dX6_when_112 : decode cX6_when 112 = .ok (.iconst (-1), 1) := by decide +kernel
theorem dX6_when_113 : decode cX6_when 113 = .ok (.ireturn, 1) := by decide +kernel
theorem dX6_loudest_0 : decode cX6_loudest 0 = .ok (.aload_n 0, 1) := by decide +kernel
theorem dX6_loudest_1 : decode cX6_loudest 1 = .ok (.getfield 19, 3) := by decide +kernel
theorem dX6_loudest_4 : decode cX6_loudest 4 = .ok (.invokevirtual 101, 3) := by decide +kernel
theorem dX6_loudest_7 : decode cX6_loudest 7 = .ok (.ifCond .eq 12, 3) := by decide +kernel
theorem dX6_loudest_10 : decode cX6_loudest 10 = .ok (.iload_n 1, 1) := by decide +kernel
theorem dX6_loudest_11 : decode cX6_loudest 11 = .ok (.ifCond .lt 8, 3) := by decide +kernel
theorem dX6_loudest_14 : decode cX6_loudest 14 = .ok (.iload_n 1, 1) := by decide +kernel
theorem dX6_loudest_15 : decode cX6_loudest 15 = .ok (.iconst 1, 1) := by decide +kernel
theorem dX6_loudest_16 : decode cX6_loudest 16 = .ok (.if_icmp .le 5, 3) := by decide +kernel
theorem dX6_loudest_19 : decode cX6_loudest 19 = .ok (.iconst (-1), 1) := by decide +kernel
theorem dX6_loudest_20 : decode cX6_loudest 20 = .ok (.ireturn, 1) := by decide +kernel
theorem dX6_loudest_21 : decode cX6_loudest 21 = .ok (.aload_n 0, 1) := by decide +kernel
theorem dX6_loudest_22 : decode cX6_loudest 22 = .ok (.invokevirtual 295, 3) := by decide +kernel
theorem dX6_loudest_25 : decode cX6_loudest 25 = .ok (.aload_n 0, 1) := by decide +kernel
theorem dX6_loudest_26 : decode cX6_loudest 26 = .ok (.getfield 29, 3) := by decide +kernel
theorem dX6_loudest_29 : decode cX6_loudest 29 = .ok (.getfield 115, 3) := by decide +kernel
theorem dX6_loudest_32 : decode cX6_loudest 32 = .ok (.ifCond .ne 6, 3) := by decide +kernel
theorem dX6_loudest_35 : decode cX6_loudest 35 = .ok (.bipush (-2), 2) := by decide +kernel
theorem dX6_loudest_37 : decode cX6_loudest 37 = .ok (.ireturn, 1) := by decide +kernel
theorem dX6_loudest_38 : decode cX6_loudest 38 = .ok (.iload_n 1, 1) := by decide +kernel
theorem dX6_loudest_39 : decode cX6_loudest 39 = .ok (.ifCond .ne 13, 3) := by decide +kernel
theorem dX6_loudest_42 : decode cX6_loudest 42 = .ok (.aload_n 0, 1) := by decide +kernel
theorem dX6_loudest_43 : decode cX6_loudest 43 = .ok (.getfield 29, 3) := by decide +kernel
theorem dX6_loudest_46 : decode cX6_loudest 46 = .ok (.getfield 310, 3) := by decide +kernel
theorem dX6_loudest_49 : decode cX6_loudest 49 = .ok (.goto 10, 3) := by decide +kernel
theorem dX6_loudest_52 : decode cX6_loudest 52 = .ok (.aload_n 0, 1) := by decide +kernel
theorem dX6_loudest_53 : decode cX6_loudest 53 = .ok (.getfield 29, 3) := by decide +kernel
theorem dX6_loudest_56 : decode cX6_loudest 56 = .ok (.getfield 313, 3) := by decide +kernel
theorem dX6_loudest_59 : decode cX6_loudest 59 = .ok (.ireturn, 1) := by decide +kernel
theorem dX6_total_0 : decode cX6_total 0 = .ok (.aload_n 0, 1) := by decide +kernel
theorem dX6_total_1 : decode cX6_total 1 = .ok (.getfield 19, 3) := by decide +kernel
theorem dX6_total_4 : decode cX6_total 4 = .ok (.invokevirtual 101, 3) := by decide +kernel
theorem dX6_total_7 : decode cX6_total 7 = .ok (.ifCond .ne 5, 3) := by decide +kernel
theorem dX6_total_10 : decode cX6_total 10 = .ok (.iconst (-1), 1) := by decide +kernel
theorem dX6_total_11 : decode cX6_total 11 = .ok (.ireturn, 1) := by decide +kernel
theorem dX6_total_12 : decode cX6_total 12 = .ok (.iload_n 1, 1) := by decide +kernel
theorem dX6_total_13 : decode cX6_total 13 = .ok (.tableswitch 77 0 3 #[31, 39, 47, 62], 31) := by decide +kernel
theorem dX6_total_44 : decode cX6_total 44 = .ok (.aload_n 0, 1) := by decide +kernel
theorem dX6_total_45 : decode cX6_total 45 = .ok (.getfield 19, 3) := by decide +kernel
theorem dX6_total_48 : decode cX6_total 48 = .ok (.getfield 316, 3) := by decide +kernel
theorem dX6_total_51 : decode cX6_total 51 = .ok (.ireturn, 1) := by decide +kernel
theorem dX6_total_52 : decode cX6_total 52 = .ok (.aload_n 0, 1) := by decide +kernel
theorem dX6_total_53 : decode cX6_total 53 = .ok (.getfield 19, 3) := by decide +kernel
theorem dX6_total_56 : decode cX6_total 56 = .ok (.getfield 317, 3) := by decide +kernel
theorem dX6_total_59 : decode cX6_total 59 = .ok (.ireturn, 1) := by decide +kernel
theorem dX6_total_60 : decode cX6_total 60 = .ok (.aload_n 0, 1) := by decide +kernel
theorem dX6_total_61 : decode cX6_total 61 = .ok (.getfield 19, 3) := by decide +kernel
theorem dX6_total_64 : decode cX6_total 64 = .ok (.aload_n 0, 1) := by decide +kernel
theorem dX6_total_65 : decode cX6_total 65 = .ok (.getfield 19, 3) := by decide +kernel
theorem dX6_total_68 : decode cX6_total 68 = .ok (.getfield 225, 3) := by decide +kernel
theorem dX6_total_71 : decode cX6_total 71 = .ok (.invokevirtual 318, 3) := by decide +kernel
theorem dX6_total_74 : decode cX6_total 74 = .ok (.ireturn, 1) := by decide +kernel
theorem dX6_total_75 : decode cX6_total 75 = .ok (.aload_n 0, 1) := by decide +kernel
theorem dX6_total_76 : decode cX6_total 76 = .ok (.getfield 19, 3) := by decide +kernel
theorem dX6_total_79 : decode cX6_total 79 = .ok (.aload_n 0, 1) := by decide +kernel
theorem dX6_total_80 : decode cX6_total 80 = .ok (.getfield 19, 3) := by decide +kernel
theorem dX6_total_83 : decode cX6_total 83 = .ok (.getfield 227, 3) := by decide +kernel
theorem dX6_total_86 : decode cX6_total 86 = .ok (.invokevirtual 318, 3) := by decide +kernel
theorem dX6_total_89 : decode cX6_total 89 = .ok (.ireturn, 1) := by decide +kernel
theorem dX6_total_90 : decode cX6_total 90 = .ok (.iconst (-1), 1) := by decide +kernel
theorem dX6_total_91 : decode cX6_total 91 = .ok (.ireturn, 1) := by decide +kernel
theorem dX6_rests_0 : decode cX6_rests 0 = .ok (.aload_n 0, 1) := by decide +kernel
theorem dX6_rests_1 : decode cX6_rests 1 = .ok (.getfield 19, 3) := by decide +kernel
theorem dX6_rests_4 : decode cX6_rests 4 = .ok (.iload_n 1, 1) := by decide +kernel
theorem dX6_rests_5 : decode cX6_rests 5 = .ok (.invokevirtual 118, 3) := by decide +kernel
theorem dX6_rests_8 : decode cX6_rests 8 = .ok (.ifCond .ne 5, 3) := by decide +kernel
theorem dX6_rests_11 : decode cX6_rests 11 = .ok (.iconst (-1), 1) := by decide +kernel
theorem dX6_rests_12 : decode cX6_rests 12 = .ok (.ireturn, 1) := by decide +kernel
theorem dX6_rests_13 : decode cX6_rests 13 = .ok (.aload_n 0, 1) := by decide +kernel
theorem dX6_rests_14 : decode cX6_rests 14 = .ok (.getfield 23, 3) := by decide +kernel
theorem dX6_rests_17 : decode cX6_rests 17 = .ok (.aload_n 0, 1) := by decide +kernel
theorem dX6_rests_18 : decode cX6_rests 18 = .ok (.getfield 19, 3) := by decide +kernel
theorem dX6_rests_21 : decode cX6_rests 21 = .ok (.invokevirtual 72, 3) := by decide +kernel
theorem dX6_rests_24 : decode cX6_rests 24 = .ok (.iconst 0, 1) := by decide +kernel
theorem dX6_rests_25 : decode cX6_rests 25 = .ok (.istore_n 2, 1) := by decide +kernel
theorem dX6_rests_26 : decode cX6_rests 26 = .ok (.iload_n 2, 1) := by decide +kernel
theorem dX6_rests_27 : decode cX6_rests 27 = .ok (.sipush 9999, 3) := by decide +kernel
theorem dX6_rests_30 : decode cX6_rests 30 = .ok (.if_icmp .gt 47, 3) := by decide +kernel
theorem dX6_rests_33 : decode cX6_rests 33 = .ok (.aload_n 0, 1) := by decide +kernel
theorem dX6_rests_34 : decode cX6_rests 34 = .ok (.getfield 23, 3) := by decide +kernel
theorem dX6_rests_37 : decode cX6_rests 37 = .ok (.iload_n 1, 1) := by decide +kernel
theorem dX6_rests_38 : decode cX6_rests 38 = .ok (.invokevirtual 222, 3) := by decide +kernel
theorem dX6_rests_41 : decode cX6_rests 41 = .ok (.ifCond .ne 5, 3) := by decide +kernel
theorem dX6_rests_44 : decode cX6_rests 44 = .ok (.iload_n 2, 1) := by decide +kernel
theorem dX6_rests_45 : decode cX6_rests 45 = .ok (.ireturn, 1) := by decide +kernel
theorem dX6_rests_46 : decode cX6_rests 46 = .ok (.aload_n 0, 1) := by decide +kernel
theorem dX6_rests_47 : decode cX6_rests 47 = .ok (.getfield 29, 3) := by decide +kernel
theorem dX6_rests_50 : decode cX6_rests 50 = .ok (.aload_n 0, 1) := by decide +kernel
theorem dX6_rests_51 : decode cX6_rests 51 = .ok (.getfield 23, 3) := by decide +kernel
theorem dX6_rests_54 : decode cX6_rests 54 = .ok (.iconst 1, 1) := by decide +kernel
theorem dX6_rests_55 : decode cX6_rests 55 = .ok (.invokevirtual 104, 3) := by decide +kernel
theorem dX6_rests_58 : decode cX6_rests 58 = .ok (.aload_n 0, 1) := by decide +kernel
theorem dX6_rests_59 : decode cX6_rests 59 = .ok (.getfield 29, 3) := by decide +kernel
theorem dX6_rests_62 : decode cX6_rests 62 = .ok (.getfield 115, 3) := by decide +kernel
theorem dX6_rests_65 : decode cX6_rests 65 = .ok (.ifCond .ne 6, 3) := by decide +kernel
theorem dX6_rests_68 : decode cX6_rests 68 = .ok (.bipush (-2), 2) := by decide +kernel
theorem dX6_rests_70 : decode cX6_rests 70 = .ok (.ireturn, 1) := by decide +kernel
theorem dX6_rests_71 : decode cX6_rests 71 = .ok (.iinc 2 1, 3) := by decide +kernel
theorem dX6_rests_74 : decode cX6_rests 74 = .ok (.goto (-48), 3) := by decide +kernel
theorem dX6_rests_77 : decode cX6_rests 77 = .ok (.bipush (-2), 2) := by decide +kernel
theorem dX6_rests_79 : decode cX6_rests 79 = .ok (.ireturn, 1) := by decide +kernel
theorem dX6_cost_0 : decode cX6_cost 0 = .ok (.aload_n 0, 1) := by decide +kernel
theorem dX6_cost_1 : decode cX6_cost 1 = .ok (.iload_n 1, 1) := by decide +kernel
theorem dX6_cost_2 : decode cX6_cost 2 = .ok (.invokevirtual 83, 3) := by decide +kernel
theorem dX6_cost_5 : decode cX6_cost 5 = .ok (.istore_n 2, 1) := by decide +kernel
theorem dX6_cost_6 : decode cX6_cost 6 = .ok (.iload_n 2, 1) := by decide +kernel
theorem dX6_cost_7 : decode cX6_cost 7 = .ok (.ifCond .ne 27, 3) := by decide +kernel
theorem dX6_cost_10 : decode cX6_cost 10 = .ok (.aload_n 0, 1) := by decide +kernel
theorem dX6_cost_11 : decode cX6_cost 11 = .ok (.getfield 19, 3) := by decide +kernel
theorem dX6_cost_14 : decode cX6_cost 14 = .ok (.iload_n 1, 1) := by decide +kernel
theorem dX6_cost_15 : decode cX6_cost 15 = .ok (.iconst 0, 1) := by decide +kernel
theorem dX6_cost_16 : decode cX6_cost 16 = .ok (.aload_n 0, 1) := by decide +kernel
theorem dX6_cost_17 : decode cX6_cost 17 = .ok (.getfield 10, 3) := by decide +kernel
theorem dX6_cost_20 : decode cX6_cost 20 = .ok (.iconst 0, 1) := by decide +kernel
theorem dX6_cost_21 : decode cX6_cost 21 = .ok (.aload_n 0, 1) := by decide +kernel
theorem dX6_cost_22 : decode cX6_cost 22 = .ok (.getfield 10, 3) := by decide +kernel
theorem dX6_cost_25 : decode cX6_cost 25 = .ok (.getfield 51, 3) := by decide +kernel
theorem dX6_cost_28 : decode cX6_cost 28 = .ok (.invokevirtual 322, 3) := by decide +kernel
theorem dX6_cost_31 : decode cX6_cost 31 = .ok (.goto 4, 3) := by decide +kernel
theorem dX6_cost_34 : decode cX6_cost 34 = .ok (.iload_n 2, 1) := by decide +kernel
theorem dX6_cost_35 : decode cX6_cost 35 = .ok (.ireturn, 1) := by decide +kernel
theorem dX6_best_0 : decode cX6_best 0 = .ok (.aload_n 0, 1) := by decide +kernel
theorem dX6_best_1 : decode cX6_best 1 = .ok (.getfield 19, 3) := by decide +kernel
theorem dX6_best_4 : decode cX6_best 4 = .ok (.iload_n 1, 1) := by decide +kernel
theorem dX6_best_5 : decode cX6_best 5 = .ok (.invokevirtual 258, 3) := by decide +kernel
theorem dX6_best_8 : decode cX6_best 8 = .ok (.ifCond .eq 12, 3) := by decide +kernel
theorem dX6_best_11 : decode cX6_best 11 = .ok (.iload_n 2, 1) := by decide +kernel
theorem dX6_best_12 : decode cX6_best 12 = .ok (.ifCond .lt 8, 3) := by decide +kernel
theorem dX6_best_15 : decode cX6_best 15 = .ok (.iload_n 2, 1) := by decide +kernel
theorem dX6_best_16 : decode cX6_best 16 = .ok (.iconst 2, 1) := by decide +kernel
theorem dX6_best_17 : decode cX6_best 17 = .ok (.if_icmp .le 5, 3) := by decide +kernel
theorem dX6_best_20 : decode cX6_best 20 = .ok (.iconst (-1), 1) := by decide +kernel
theorem dX6_best_21 : decode cX6_best 21 = .ok (.ireturn, 1) := by decide +kernel
theorem dX6_best_22 : decode cX6_best 22 = .ok (.iconst 0, 1) := by decide +kernel
theorem dX6_best_23 : decode cX6_best 23 = .ok (.istore_n 3, 1) := by decide +kernel
theorem dX6_best_24 : decode cX6_best 24 = .ok (.iconst 0, 1) := by decide +kernel
theorem dX6_best_25 : decode cX6_best 25 = .ok (.istore 4, 2) := by decide +kernel
theorem dX6_best_27 : decode cX6_best 27 = .ok (.iconst 0, 1) := by decide +kernel
theorem dX6_best_28 : decode cX6_best 28 = .ok (.istore 5, 2) := by decide +kernel
theorem dX6_best_30 : decode cX6_best 30 = .ok (.iconst 0, 1) := by decide +kernel
theorem dX6_best_31 : decode cX6_best 31 = .ok (.istore 6, 2) := by decide +kernel
theorem dX6_best_33 : decode cX6_best 33 = .ok (.iconst 0, 1) := by decide +kernel
theorem dX6_best_34 : decode cX6_best 34 = .ok (.istore 7, 2) := by decide +kernel
theorem dX6_best_36 : decode cX6_best 36 = .ok (.iconst 0, 1) := by decide +kernel
theorem dX6_best_37 : decode cX6_best 37 = .ok (.istore 8, 2) := by decide +kernel
theorem dX6_best_39 : decode cX6_best 39 = .ok (.iload 8, 2) := by decide +kernel
theorem dX6_best_41 : decode cX6_best 41 = .ok (.aload_n 0, 1) := by decide +kernel
theorem dX6_best_42 : decode cX6_best 42 = .ok (.getfield 10, 3) := by decide +kernel
theorem dX6_best_45 : decode cX6_best 45 = .ok (.getfield 51, 3) := by decide +kernel
theorem dX6_best_48 : decode cX6_best 48 = .ok (.if_icmp .gt 139, 3) := by decide +kernel
theorem dX6_best_51 : decode cX6_best 51 = .ok (.iload 8, 2) := by decide +kernel
theorem dX6_best_53 : decode cX6_best 53 = .ok (.aload_n 0, 1) := by decide +kernel
theorem dX6_best_54 : decode cX6_best 54 = .ok (.getfield 10, 3) := by decide +kernel
theorem dX6_best_57 : decode cX6_best 57 = .ok (.getfield 51, 3) := by decide +kernel
theorem dX6_best_60 : decode cX6_best 60 = .ok (.if_icmp .eq 17, 3) := by decide +kernel
theorem dX6_best_63 : decode cX6_best 63 = .ok (.aload_n 0, 1) := by decide +kernel
theorem dX6_best_64 : decode cX6_best 64 = .ok (.getfield 10, 3) := by decide +kernel
theorem dX6_best_67 : decode cX6_best 67 = .ok (.iload 8, 2) := by decide +kernel
theorem dX6_best_69 : decode cX6_best 69 = .ok (.invokevirtual 326, 3) := by decide +kernel
theorem dX6_best_72 : decode cX6_best 72 = .ok (.bipush 47, 2) := by decide +kernel
theorem dX6_best_74 : decode cX6_best 74 = .ok (.if_icmp .ne 107, 3) := by decide +kernel
theorem dX6_best_77 : decode cX6_best 77 = .ok (.iload 8, 2) := by decide +kernel
theorem dX6_best_79 : decode cX6_best 79 = .ok (.iload 4, 2) := by decide +kernel
theorem dX6_best_81 : decode cX6_best 81 = .ok (.isub, 1) := by decide +kernel
theorem dX6_best_82 : decode cX6_best 82 = .ok (.istore 9, 2) := by decide +kernel
theorem dX6_best_84 : decode cX6_best 84 = .ok (.aload_n 0, 1) := by decide +kernel
theorem dX6_best_85 : decode cX6_best 85 = .ok (.iload 4, 2) := by decide +kernel
theorem dX6_best_87 : decode cX6_best 87 = .ok (.iload 9, 2) := by decide +kernel
theorem dX6_best_89 : decode cX6_best 89 = .ok (.invokevirtual 329, 3) := by decide +kernel
theorem dX6_best_92 : decode cX6_best 92 = .ok (.ifCond .ne 6, 3) := by decide +kernel
theorem dX6_best_95 : decode cX6_best 95 = .ok (.bipush (-2), 2) := by decide +kernel
theorem dX6_best_97 : decode cX6_best 97 = .ok (.ireturn, 1) := by decide +kernel
theorem dX6_best_98 : decode cX6_best 98 = .ok (.aload_n 0, 1) := by decide +kernel
theorem dX6_best_99 : decode cX6_best 99 = .ok (.getfield 19, 3) := by decide +kernel
theorem dX6_best_102 : decode cX6_best 102 = .ok (.iload_n 1, 1) := by decide +kernel
theorem dX6_best_103 : decode cX6_best 103 = .ok (.iconst 0, 1) := by decide +kernel
theorem dX6_best_104 : decode cX6_best 104 = .ok (.aload_n 0, 1) := by decide +kernel
theorem dX6_best_105 : decode cX6_best 105 = .ok (.getfield 10, 3) := by decide +kernel
theorem dX6_best_108 : decode cX6_best 108 = .ok (.iload 4, 2) := by decide +kernel
theorem dX6_best_110 : decode cX6_best 110 = .ok (.iload 9, 2) := by decide +kernel
theorem dX6_best_112 : decode cX6_best 112 = .ok (.invokevirtual 322, 3) := by decide +kernel
theorem dX6_best_115 : decode cX6_best 115 = .ok (.istore 10, 2) := by decide +kernel
theorem dX6_best_117 : decode cX6_best 117 = .ok (.aload_n 0, 1) := by decide +kernel
theorem dX6_best_118 : decode cX6_best 118 = .ok (.getfield 19, 3) := by decide +kernel
theorem dX6_best_121 : decode cX6_best 121 = .ok (.iload_n 1, 1) := by decide +kernel
theorem dX6_best_122 : decode cX6_best 122 = .ok (.iconst 0, 1) := by decide +kernel
theorem dX6_best_123 : decode cX6_best 123 = .ok (.aload_n 0, 1) := by decide +kernel
theorem dX6_best_124 : decode cX6_best 124 = .ok (.getfield 10, 3) := by decide +kernel
theorem dX6_best_127 : decode cX6_best 127 = .ok (.iload 4, 2) := by decide +kernel
theorem dX6_best_129 : decode cX6_best 129 = .ok (.iload 9, 2) := by decide +kernel
theorem dX6_best_131 : decode cX6_best 131 = .ok (.invokevirtual 332, 3) := by decide +kernel
theorem dX6_best_134 : decode cX6_best 134 = .ok (.istore 11, 2) := by decide +kernel
theorem dX6_best_136 : decode cX6_best 136 = .ok (.iload_n 3, 1) := by decide +kernel
theorem dX6_best_137 : decode cX6_best 137 = .ok (.ifCond .eq 24, 3) := by decide +kernel
