theorem dX0_stepOn_77 : decode cX0_stepOn 77 = .ok (.iload_n 3, 1) := by decide +kernel
theorem dX0_stepOn_78 : decode cX0_stepOn 78 = .ok (.iastore, 1) := by decide +kernel
theorem dX0_stepOn_79 : decode cX0_stepOn 79 = .ok (.aload_n 0, 1) := by decide +kernel
theorem dX0_stepOn_80 : decode cX0_stepOn 80 = .ok (.getfield 36, 3) := by decide +kernel
theorem dX0_stepOn_83 : decode cX0_stepOn 83 = .ok (.iload_n 1, 1) := by decide +kernel
theorem dX0_stepOn_84 : decode cX0_stepOn 84 = .ok (.dup2, 1) := by decide +kernel
theorem dX0_stepOn_85 : decode cX0_stepOn 85 = .ok (.iaload, 1) := by decide +kernel
theorem dX0_stepOn_86 : decode cX0_stepOn 86 = .ok (.iconst 1, 1) := by decide +kernel
theorem dX0_stepOn_87 : decode cX0_stepOn 87 = .ok (.iadd, 1) := by decide +kernel
theorem dX0_stepOn_88 : decode cX0_stepOn 88 = .ok (.iastore, 1) := by decide +kernel
theorem dX0_stepOn_89 : decode cX0_stepOn 89 = .ok (.aload_n 0, 1) := by decide +kernel
theorem dX0_stepOn_90 : decode cX0_stepOn 90 = .ok (.getfield 39, 3) := by decide +kernel
theorem dX0_stepOn_93 : decode cX0_stepOn 93 = .ok (.iload_n 1, 1) := by decide +kernel
theorem dX0_stepOn_94 : decode cX0_stepOn 94 = .ok (.dup2, 1) := by decide +kernel
theorem dX0_stepOn_95 : decode cX0_stepOn 95 = .ok (.iaload, 1) := by decide +kernel
theorem dX0_stepOn_96 : decode cX0_stepOn 96 = .ok (.iload 4, 2) := by decide +kernel
theorem dX0_stepOn_98 : decode cX0_stepOn 98 = .ok (.iadd, 1) := by decide +kernel
theorem dX0_stepOn_99 : decode cX0_stepOn 99 = .ok (.iastore, 1) := by decide +kernel
theorem dX0_stepOn_100 : decode cX0_stepOn 100 = .ok (.iload 4, 2) := by decide +kernel
theorem dX0_stepOn_102 : decode cX0_stepOn 102 = .ok (.ireturn, 1) := by decide +kernel
theorem dX0_leftOfAll_0 : decode cX0_leftOfAll 0 = .ok (.iconst 0, 1) := by decide +kernel
theorem dX0_leftOfAll_1 : decode cX0_leftOfAll 1 = .ok (.istore_n 2, 1) := by decide +kernel
theorem dX0_leftOfAll_2 : decode cX0_leftOfAll 2 = .ok (.iconst 0, 1) := by decide +kernel
theorem dX0_leftOfAll_3 : decode cX0_leftOfAll 3 = .ok (.istore_n 3, 1) := by decide +kernel
theorem dX0_leftOfAll_4 : decode cX0_leftOfAll 4 = .ok (.iload_n 3, 1) := by decide +kernel
theorem dX0_leftOfAll_5 : decode cX0_leftOfAll 5 = .ok (.aload_n 0, 1) := by decide +kernel
theorem dX0_leftOfAll_6 : decode cX0_leftOfAll 6 = .ok (.invokevirtual 102, 3) := by decide +kernel
theorem dX0_leftOfAll_9 : decode cX0_leftOfAll 9 = .ok (.if_icmp .ge 31, 3) := by decide +kernel
theorem dX0_leftOfAll_12 : decode cX0_leftOfAll 12 = .ok (.iload_n 2, 1) := by decide +kernel
theorem dX0_leftOfAll_13 : decode cX0_leftOfAll 13 = .ok (.aload_n 0, 1) := by decide +kernel
theorem dX0_leftOfAll_14 : decode cX0_leftOfAll 14 = .ok (.iload_n 3, 1) := by decide +kernel
theorem dX0_leftOfAll_15 : decode cX0_leftOfAll 15 = .ok (.invokevirtual 177, 3) := by decide +kernel
theorem dX0_leftOfAll_18 : decode cX0_leftOfAll 18 = .ok (.iload_n 1, 1) := by decide +kernel
theorem dX0_leftOfAll_19 : decode cX0_leftOfAll 19 = .ok (.ifCond .eq 11, 3) := by decide +kernel
theorem dX0_leftOfAll_22 : decode cX0_leftOfAll 22 = .ok (.aload_n 0, 1) := by decide +kernel
theorem dX0_leftOfAll_23 : decode cX0_leftOfAll 23 = .ok (.iload_n 3, 1) := by decide +kernel
theorem dX0_leftOfAll_24 : decode cX0_leftOfAll 24 = .ok (.invokevirtual 180, 3) := by decide +kernel
theorem dX0_leftOfAll_27 : decode cX0_leftOfAll 27 = .ok (.goto 4, 3) := by decide +kernel
theorem dX0_leftOfAll_30 : decode cX0_leftOfAll 30 = .ok (.iconst 1, 1) := by decide +kernel
theorem dX0_leftOfAll_31 : decode cX0_leftOfAll 31 = .ok (.imul, 1) := by decide +kernel
theorem dX0_leftOfAll_32 : decode cX0_leftOfAll 32 = .ok (.iadd, 1) := by decide +kernel
theorem dX0_leftOfAll_33 : decode cX0_leftOfAll 33 = .ok (.istore_n 2, 1) := by decide +kernel
theorem dX0_leftOfAll_34 : decode cX0_leftOfAll 34 = .ok (.iinc 3 1, 3) := by decide +kernel
theorem dX0_leftOfAll_37 : decode cX0_leftOfAll 37 = .ok (.goto (-33), 3) := by decide +kernel
theorem dX0_leftOfAll_40 : decode cX0_leftOfAll 40 = .ok (.iload_n 2, 1) := by decide +kernel
theorem dX0_leftOfAll_41 : decode cX0_leftOfAll 41 = .ok (.ireturn, 1) := by decide +kernel
theorem dX0_mostLeft_0 : decode cX0_mostLeft 0 = .ok (.iconst 0, 1) := by decide +kernel
theorem dX0_mostLeft_1 : decode cX0_mostLeft 1 = .ok (.istore_n 1, 1) := by decide +kernel
theorem dX0_mostLeft_2 : decode cX0_mostLeft 2 = .ok (.iconst 0, 1) := by decide +kernel
theorem dX0_mostLeft_3 : decode cX0_mostLeft 3 = .ok (.istore_n 2, 1) := by decide +kernel
theorem dX0_mostLeft_4 : decode cX0_mostLeft 4 = .ok (.iload_n 2, 1) := by decide +kernel
theorem dX0_mostLeft_5 : decode cX0_mostLeft 5 = .ok (.aload_n 0, 1) := by decide +kernel
theorem dX0_mostLeft_6 : decode cX0_mostLeft 6 = .ok (.invokevirtual 102, 3) := by decide +kernel
theorem dX0_mostLeft_9 : decode cX0_mostLeft 9 = .ok (.if_icmp .ge 19, 3) := by decide +kernel
theorem dX0_mostLeft_12 : decode cX0_mostLeft 12 = .ok (.iload_n 1, 1) := by decide +kernel
theorem dX0_mostLeft_13 : decode cX0_mostLeft 13 = .ok (.aload_n 0, 1) := by decide +kernel
theorem dX0_mostLeft_14 : decode cX0_mostLeft 14 = .ok (.iload_n 2, 1) := by decide +kernel
theorem dX0_mostLeft_15 : decode cX0_mostLeft 15 = .ok (.invokevirtual 177, 3) := by decide +kernel
theorem dX0_mostLeft_18 : decode cX0_mostLeft 18 = .ok (.invokestatic 143, 3) := by decide +kernel
theorem dX0_mostLeft_21 : decode cX0_mostLeft 21 = .ok (.istore_n 1, 1) := by decide +kernel
theorem dX0_mostLeft_22 : decode cX0_mostLeft 22 = .ok (.iinc 2 1, 3) := by decide +kernel
theorem dX0_mostLeft_25 : decode cX0_mostLeft 25 = .ok (.goto (-21), 3) := by decide +kernel
theorem dX0_mostLeft_28 : decode cX0_mostLeft 28 = .ok (.iload_n 1, 1) := by decide +kernel
theorem dX0_mostLeft_29 : decode cX0_mostLeft 29 = .ok (.ireturn, 1) := by decide +kernel
theorem dX0_emptyLog_0 : decode cX0_emptyLog 0 = .ok (.aload_n 0, 1) := by decide +kernel
theorem dX0_emptyLog_1 : decode cX0_emptyLog 1 = .ok (.invokevirtual 86, 3) := by decide +kernel
theorem dX0_emptyLog_4 : decode cX0_emptyLog 4 = .ok (.istore_n 1, 1) := by decide +kernel
theorem dX0_emptyLog_5 : decode cX0_emptyLog 5 = .ok (.aload_n 0, 1) := by decide +kernel
theorem dX0_emptyLog_6 : decode cX0_emptyLog 6 = .ok (.getfield 46, 3) := by decide +kernel
theorem dX0_emptyLog_9 : decode cX0_emptyLog 9 = .ok (.arraylength, 1) := by decide +kernel
theorem dX0_emptyLog_10 : decode cX0_emptyLog 10 = .ok (.iload_n 1, 1) := by decide +kernel
theorem dX0_emptyLog_11 : decode cX0_emptyLog 11 = .ok (.if_icmp .ge 13, 3) := by decide +kernel
theorem dX0_emptyLog_14 : decode cX0_emptyLog 14 = .ok (.aload_n 0, 1) := by decide +kernel
theorem dX0_emptyLog_15 : decode cX0_emptyLog 15 = .ok (.iload_n 1, 1) := by decide +kernel
theorem dX0_emptyLog_16 : decode cX0_emptyLog 16 = .ok (.newarray .int, 2) := by decide +kernel
theorem dX0_emptyLog_18 : decode cX0_emptyLog 18 = .ok (.putfield 46, 3) := by decide +kernel
theorem dX0_emptyLog_21 : decode cX0_emptyLog 21 = .ok (.goto 11, 3) := by decide +kernel
theorem dX0_emptyLog_24 : decode cX0_emptyLog 24 = .ok (.aload_n 0, 1) := by decide +kernel
theorem dX0_emptyLog_25 : decode cX0_emptyLog 25 = .ok (.getfield 46, 3) := by decide +kernel
theorem dX0_emptyLog_28 : decode cX0_emptyLog 28 = .ok (.iconst 0, 1) := by decide +kernel
theorem dX0_emptyLog_29 : decode cX0_emptyLog 29 = .ok (.invokestatic 183, 3) := by decide +kernel
theorem dX0_emptyLog_32 : decode cX0_emptyLog 32 = .ok (.return_, 1) := by decide +kernel
theorem dX0_entryAt_0 : decode cX0_entryAt 0 = .ok (.iload_n 1, 1) := by decide +kernel
theorem dX0_entryAt_1 : decode cX0_entryAt 1 = .ok (.iload_n 3, 1) := by decide +kernel
theorem dX0_entryAt_2 : decode cX0_entryAt 2 = .ok (.iload_n 2, 1) := by decide +kernel
theorem dX0_entryAt_3 : decode cX0_entryAt 3 = .ok (.imul, 1) := by decide +kernel
theorem dX0_entryAt_4 : decode cX0_entryAt 4 = .ok (.iadd, 1) := by decide +kernel
theorem dX0_entryAt_5 : decode cX0_entryAt 5 = .ok (.iload 4, 2) := by decide +kernel
theorem dX0_entryAt_7 : decode cX0_entryAt 7 = .ok (.iadd, 1) := by decide +kernel
theorem dX0_entryAt_8 : decode cX0_entryAt 8 = .ok (.istore 5, 2) := by decide +kernel
theorem dX0_entryAt_10 : decode cX0_entryAt 10 = .ok (.iload 5, 2) := by decide +kernel
theorem dX0_entryAt_12 : decode cX0_entryAt 12 = .ok (.ifCond .lt 23, 3) := by decide +kernel
theorem dX0_entryAt_15 : decode cX0_entryAt 15 = .ok (.iload 5, 2) := by decide +kernel
theorem dX0_entryAt_17 : decode cX0_entryAt 17 = .ok (.aload_n 0, 1) := by decide +kernel
theorem dX0_entryAt_18 : decode cX0_entryAt 18 = .ok (.getfield 46, 3) := by decide +kernel
theorem dX0_entryAt_21 : decode cX0_entryAt 21 = .ok (.arraylength, 1) := by decide +kernel
theorem dX0_entryAt_22 : decode cX0_entryAt 22 = .ok (.if_icmp .ge 13, 3) := by decide +kernel
theorem dX0_entryAt_25 : decode cX0_entryAt 25 = .ok (.aload_n 0, 1) := by decide +kernel
theorem dX0_entryAt_26 : decode cX0_entryAt 26 = .ok (.getfield 46, 3) := by decide +kernel
theorem dX0_entryAt_29 : decode cX0_entryAt 29 = .ok (.iload 5, 2) := by decide +kernel
theorem dX0_entryAt_31 : decode cX0_entryAt 31 = .ok (.iaload, 1) := by decide +kernel
theorem dX0_entryAt_32 : decode cX0_entryAt 32 = .ok (.goto 4, 3) := by decide +kernel
theorem dX0_entryAt_35 : decode cX0_entryAt 35 = .ok (.iconst 0, 1) := by decide +kernel
theorem dX0_entryAt_36 : decode cX0_entryAt 36 = .ok (.ireturn, 1) := by decide +kernel
theorem dX0_journey_0 : decode cX0_journey 0 = .ok (.aload_n 0, 1) := by decide +kernel
theorem dX0_journey_1 : decode cX0_journey 1 = .ok (.iload_n 1, 1) := by decide +kernel
theorem dX0_journey_2 : decode cX0_journey 2 = .ok (.invokevirtual 171, 3) := by decide +kernel
theorem dX0_journey_5 : decode cX0_journey 5 = .ok (.istore_n 2, 1) := by decide +kernel
theorem dX0_journey_6 : decode cX0_journey 6 = .ok (.aload_n 0, 1) := by decide +kernel
theorem dX0_journey_7 : decode cX0_journey 7 = .ok (.iload_n 1, 1) := by decide +kernel
theorem dX0_journey_8 : decode cX0_journey 8 = .ok (.invokevirtual 108, 3) := by decide +kernel
theorem dX0_journey_11 : decode cX0_journey 11 = .ok (.istore_n 3, 1) := by decide +kernel
theorem dX0_journey_12 : decode cX0_journey 12 = .ok (.iconst 0, 1) := by decide +kernel
theorem dX0_journey_13 : decode cX0_journey 13 = .ok (.istore 4, 2) := by decide +kernel
theorem dX0_journey_15 : decode cX0_journey 15 = .ok (.iconst 0, 1) := by decide +kernel
theorem dX0_journey_16 : decode cX0_journey 16 = .ok (.istore 5, 2) := by decide +kernel
theorem dX0_journey_18 : decode cX0_journey 18 = .ok (.iload 5, 2) := by decide +kernel
theorem dX0_journey_20 : decode cX0_journey 20 = .ok (.iload_n 3, 1) := by decide +kernel
theorem dX0_journey_21 : decode cX0_journey 21 = .ok (.if_icmp .ge 48, 3) := by decide +kernel
theorem dX0_journey_24 : decode cX0_journey 24 = .ok (.iconst 0, 1) := by decide +kernel
theorem dX0_journey_25 : decode cX0_journey 25 = .ok (.istore 6, 2) := by decide +kernel
theorem dX0_journey_27 : decode cX0_journey 27 = .ok (.iload 6, 2) := by decide +kernel
theorem dX0_journey_29 : decode cX0_journey 29 = .ok (.iload_n 3, 1) := by decide +kernel
theorem dX0_journey_30 : decode cX0_journey 30 = .ok (.if_icmp .ge 33, 3) := by decide +kernel
theorem dX0_journey_33 : decode cX0_journey 33 = .ok (.iload 4, 2) := by decide +kernel
theorem dX0_journey_35 : decode cX0_journey 35 = .ok (.aload_n 0, 1) := by decide +kernel
theorem dX0_journey_36 : decode cX0_journey 36 = .ok (.iload_n 2, 1) := by decide +kernel
theorem dX0_journey_37 : decode cX0_journey 37 = .ok (.iload_n 3, 1) := by decide +kernel
theorem dX0_journey_38 : decode cX0_journey 38 = .ok (.iload 5, 2) := by decide +kernel
theorem dX0_journey_40 : decode cX0_journey 40 = .ok (.iload 6, 2) := by decide +kernel
theorem dX0_journey_42 : decode cX0_journey 42 = .ok (.invokevirtual 189, 3) := by decide +kernel
theorem dX0_journey_45 : decode cX0_journey 45 = .ok (.iload 5, 2) := by decide +kernel
theorem dX0_journey_47 : decode cX0_journey 47 = .ok (.iload 6, 2) := by decide +kernel
theorem dX0_journey_49 : decode cX0_journey 49 = .ok (.iload_n 3, 1) := by decide +kernel
theorem dX0_journey_50 : decode cX0_journey 50 = .ok (.invokestatic 154, 3) := by decide +kernel
theorem dX0_journey_53 : decode cX0_journey 53 = .ok (.imul, 1) := by decide +kernel
theorem dX0_journey_54 : decode cX0_journey 54 = .ok (.iadd, 1) := by decide +kernel
theorem dX0_journey_55 : decode cX0_journey 55 = .ok (.istore 4, 2) := by decide +kernel
theorem dX0_journey_57 : decode cX0_journey 57 = .ok (.iinc 6 1, 3) := by decide +kernel
theorem dX0_journey_60 : decode cX0_journey 60 = .ok (.goto (-33), 3) := by decide +kernel
theorem dX0_journey_63 : decode cX0_journey 63 = .ok (.iinc 5 1, 3) := by decide +kernel
theorem dX0_journey_66 : decode cX0_journey 66 = .ok (.goto (-48), 3) := by decide +kernel
theorem dX0_journey_69 : decode cX0_journey 69 = .ok (.iload 4, 2) := by decide +kernel
theorem dX0_journey_71 : decode cX0_journey 71 = .ok (.ireturn, 1) := by decide +kernel
theorem dX0_entriesOf_0 : decode cX0_entriesOf 0 = .ok (.aload_n 0, 1) := by decide +kernel
theorem dX0_entriesOf_1 : decode cX0_entriesOf 1 = .ok (.iload_n 1, 1) := by decide +kernel
theorem dX0_entriesOf_2 : decode cX0_entriesOf 2 = .ok (.invokevirtual 171, 3) := by decide +kernel
theorem dX0_entriesOf_5 : decode cX0_entriesOf 5 = .ok (.istore 4, 2) := by decide +kernel
theorem dX0_entriesOf_7 : decode cX0_entriesOf 7 = .ok (.aload_n 0, 1) := by decide +kernel
theorem dX0_entriesOf_8 : decode cX0_entriesOf 8 = .ok (.iload_n 1, 1) := by decide +kernel
theorem dX0_entriesOf_9 : decode cX0_entriesOf 9 = .ok (.invokevirtual 108, 3) := by decide +kernel
theorem dX0_entriesOf_12 : decode cX0_entriesOf 12 = .ok (.istore 5, 2) := by decide +kernel
theorem dX0_entriesOf_14 : decode cX0_entriesOf 14 = .ok (.iconst 0, 1) := by decide +kernel
theorem dX0_entriesOf_15 : decode cX0_entriesOf 15 = .ok (.istore 6, 2) := by decide +kernel
theorem dX0_entriesOf_17 : decode cX0_entriesOf 17 = .ok (.iconst 0, 1) := by decide +kernel
theorem dX0_entriesOf_18 : decode cX0_entriesOf 18 = .ok (.istore 7, 2) := by decide +kernel
theorem dX0_entriesOf_20 : decode cX0_entriesOf 20 = .ok (.iload 7, 2) := by decide +kernel
theorem dX0_entriesOf_22 : decode cX0_entriesOf 22 = .ok (.iload 5, 2) := by decide +kernel
theorem dX0_entriesOf_24 : decode cX0_entriesOf 24 = .ok (.if_icmp .ge 43, 3) := by decide +kernel
theorem dX0_entriesOf_27 : decode cX0_entriesOf 27 = .ok (.iload 6, 2) := by decide +kernel
theorem dX0_entriesOf_29 : decode cX0_entriesOf 29 = .ok (.iload_n 3, 1) := by decide +kernel
theorem dX0_entriesOf_30 : decode cX0_entriesOf 30 = .ok (.ifCond .eq 17, 3) := by decide +kernel
theorem dX0_entriesOf_33 : decode cX0_entriesOf 33 = .ok (.aload_n 0, 1) := by decide +kernel
theorem dX0_entriesOf_34 : decode cX0_entriesOf 34 = .ok (.iload 4, 2) := by decide +kernel
theorem dX0_entriesOf_36 : decode cX0_entriesOf 36 = .ok (.iload 5, 2) := by decide +kernel
theorem dX0_entriesOf_38 : decode cX0_entriesOf 38 = .ok (.iload 7, 2) := by decide +kernel
theorem dX0_entriesOf_40 : decode cX0_entriesOf 40 = .ok (.iload_n 2, 1) := by decide +kernel
theorem dX0_entriesOf_41 : decode cX0_entriesOf 41 = .ok (.invokevirtual 189, 3) := by decide +kernel
theorem dX0_entriesOf_44 : decode cX0_entriesOf 44 = .ok (.goto 14, 3) := by decide +kernel
theorem dX0_entriesOf_47 : decode cX0_entriesOf 47 = .ok (.aload_n 0, 1) := by decide +kernel
theorem dX0_entriesOf_48 : decode cX0_entriesOf 48 = .ok (.iload 4, 2) := by decide +kernel
theorem dX0_entriesOf_50 : decode cX0_entriesOf 50 = .ok (.iload 5, 2) := by decide +kernel
theorem dX0_entriesOf_52 : decode cX0_entriesOf 52 = .ok (.iload_n 2, 1) := by decide +kernel
theorem dX0_entriesOf_53 : decode cX0_entriesOf 53 = .ok (.iload 7, 2) := by decide +kernel
theorem dX0_entriesOf_55 : decode cX0_entriesOf 55 = .ok (.invokevirtual 189, 3) := by decide +kernel
theorem dX0_entriesOf_58 : decode cX0_entriesOf 58 = .ok (.iadd, 1) := by decide +kernel
theorem dX0_entriesOf_59 : decode cX0_entriesOf 59 = .ok (.istore 6, 2) := by decide +kernel
theorem dX0_entriesOf_61 : decode cX0_entriesOf 61 = .ok (.iinc 7 1, 3) := by decide +kernel
theorem dX0_entriesOf_64 : decode cX0_entriesOf 64 = .ok (.goto (-44), 3) := by decide +kernel
theorem dX0_entriesOf_67 : decode cX0_entriesOf 67 = .ok (.iload 6, 2) := by decide +kernel
theorem dX0_entriesOf_69 : decode cX0_entriesOf 69 = .ok (.ireturn, 1) := by decide +kernel
theorem dX0_logSize_0 : decode cX0_logSize 0 = .ok (.iconst 0, 1) := by decide +kernel
theorem dX0_logSize_1 : decode cX0_logSize 1 = .ok (.istore_n 2, 1) := by decide +kernel
theorem dX0_logSize_2 : decode cX0_logSize 2 = .ok (.iconst 0, 1) := by decide +kernel
theorem dX0_logSize_3 : decode cX0_logSize 3 = .ok (.istore_n 3, 1) := by decide +kernel
theorem dX0_logSize_4 : decode cX0_logSize 4 = .ok (.iload_n 3, 1) := by decide +kernel
theorem dX0_logSize_5 : decode cX0_logSize 5 = .ok (.aload_n 0, 1) := by decide +kernel
theorem dX0_logSize_6 : decode cX0_logSize 6 = .ok (.iload_n 1, 1) := by decide +kernel
theorem dX0_logSize_7 : decode cX0_logSize 7 = .ok (.invokevirtual 108, 3) := by decide +kernel
theorem dX0_logSize_10 : decode cX0_logSize 10 = .ok (.if_icmp .ge 19, 3) := by decide +kernel
theorem dX0_logSize_13 : decode cX0_logSize 13 = .ok (.iload_n 2, 1) := by decide +kernel
theorem dX0_logSize_14 : decode cX0_logSize 14 = .ok (.aload_n 0, 1) := by decide +kernel
theorem dX0_logSize_15 : decode cX0_logSize 15 = .ok (.iload_n 1, 1) := by decide +kernel
theorem dX0_logSize_16 : decode cX0_logSize 16 = .ok (.iload_n 3, 1) := by decide +kernel
theorem dX0_logSize_17 : decode cX0_logSize 17 = .ok (.iconst 1, 1) := by decide +kernel
theorem dX0_logSize_18 : decode cX0_logSize 18 = .ok (.invokevirtual 193, 3) := by decide +kernel
theorem dX0_logSize_21 : decode cX0_logSize 21 = .ok (.iadd, 1) := by decide +kernel
theorem dX0_logSize_22 : decode cX0_logSize 22 = .ok (.istore_n 2, 1) := by decide +kernel
theorem dX0_logSize_23 : decode cX0_logSize 23 = .ok (.iinc 3 1, 3) := by decide +kernel
theorem dX0_logSize_26 : decode cX0_logSize 26 = .ok (.goto (-22), 3) := by decide +kernel
theorem dX0_logSize_29 : decode cX0_logSize 29 = .ok (.iload_n 2, 1) := by decide +kernel
theorem dX0_logSize_30 : decode cX0_logSize 30 = .ok (.ireturn, 1) := by decide +kernel
theorem dX0_unlikeEntries_0 : decode cX0_unlikeEntries 0 = .ok (.aload_n 0, 1) := by decide +kernel
theorem dX0_unlikeEntries_1 : decode cX0_unlikeEntries 1 = .ok (.iload_n 1, 1) := by decide +kernel
theorem dX0_unlikeEntries_2 : decode cX0_unlikeEntries 2 = .ok (.invokevirtual 171, 3) := by decide +kernel
theorem dX0_unlikeEntries_5 : decode cX0_unlikeEntries 5 = .ok (.istore_n 2, 1) := by decide +kernel
theorem dX0_unlikeEntries_6 : decode cX0_unlikeEntries 6 = .ok (.aload_n 0, 1) := by decide +kernel
theorem dX0_unlikeEntries_7 : decode cX0_unlikeEntries 7 = .ok (.iload_n 1, 1) := by decide +kernel
theorem dX0_unlikeEntries_8 : decode cX0_unlikeEntries 8 = .ok (.invokevirtual 108, 3) := by decide +kernel
theorem dX0_unlikeEntries_11 : decode cX0_unlikeEntries 11 = .ok (.istore_n 3, 1) := by decide +kernel
theorem dX0_unlikeEntries_12 : decode cX0_unlikeEntries 12 = .ok (.iconst 0, 1) := by decide +kernel
theorem dX0_unlikeEntries_13 : decode cX0_unlikeEntries 13 = .ok (.istore 4, 2) := by decide +kernel
theorem dX0_unlikeEntries_15 : decode cX0_unlikeEntries 15 = .ok (.iconst 0, 1) := by decide +kernel
theorem dX0_unlikeEntries_16 : decode cX0_unlikeEntries 16 = .ok (.istore 5, 2) := by decide +kernel
theorem dX0_unlikeEntries_18 : decode cX0_unlikeEntries 18 = .ok (.iload 5, 2) := by decide +kernel
theorem dX0_unlikeEntries_20 : decode cX0_unlikeEntries 20 = .ok (.iload_n 3, 1) := by decide +kernel
theorem dX0_unlikeEntries_21 : decode cX0_unlikeEntries 21 = .ok (.if_icmp .ge 40, 3) := by decide +kernel
theorem dX0_unlikeEntries_24 : decode cX0_unlikeEntries 24 = .ok (.iconst 0, 1) := by decide +kernel
theorem dX0_unlikeEntries_25 : decode cX0_unlikeEntries 25 = .ok (.istore 6, 2) := by decide +kernel
theorem dX0_unlikeEntries_27 : decode cX0_unlikeEntries 27 = .ok (.iload 6, 2) := by decide +kernel
theorem dX0_unlikeEntries_29 : decode cX0_unlikeEntries 29 = .ok (.iload_n 3, 1) := by decide +kernel
theorem dX0_unlikeEntries_30 : decode cX0_unlikeEntries 30 = .ok (.if_icmp .ge 25, 3) := by decide +kernel
theorem dX0_unlikeEntries_33 : decode cX0_unlikeEntries 33 = .ok (.aload_n 0, 1) := by decide +kernel
theorem dX0_unlikeEntries_34 : decode cX0_unlikeEntries 34 = .ok (.iload_n 2, 1) := by decide +kernel
theorem dX0_unlikeEntries_35 : decode cX0_unlikeEntries 35 = .ok (.iload_n 3, 1) := by decide +kernel
theorem dX0_unlikeEntries_36 : decode cX0_unlikeEntries 36 = .ok (.iload 5, 2) := by decide +kernel
theorem dX0_unlikeEntries_38 : decode cX0_unlikeEntries 38 = .ok (.iload 6, 2) := by decide +kernel
theorem dX0_unlikeEntries_40 : decode cX0_unlikeEntries 40 = .ok (.invokevirtual 189, 3) := by decide +kernel
theorem dX0_unlikeEntries_43 : decode cX0_unlikeEntries 43 = .ok (.ifCond .le 6, 3) := by decide +kernel
theorem dX0_unlikeEntries_46 : decode cX0_unlikeEntries 46 = .ok (.iinc 4 1, 3) := by decide +kernel
theorem dX0_unlikeEntries_49 : decode cX0_unlikeEntries 49 = .ok (.iinc 6 1, 3) := by decide +kernel
theorem dX0_unlikeEntries_52 : decode cX0_unlikeEntries 52 = .ok (.goto (-25), 3) := by decide +kernel
theorem dX0_unlikeEntries_55 : decode cX0_unlikeEntries 55 = .ok (.iinc 5 1, 3) := by decide +kernel
theorem dX0_unlikeEntries_58 : decode cX0_unlikeEntries 58 = .ok (.goto (-40), 3) := by decide +kernel
theorem dX0_unlikeEntries_61 : decode cX0_unlikeEntries 61 = .ok (.iload 4, 2) := by decide +kernel
theorem dX0_unlikeEntries_63 : decode cX0_unlikeEntries 63 = .ok (.ireturn, 1) := by decide +kernel
theorem dX0_journeyChange_0 : decode cX0_journeyChange 0 = .ok (.aload_n 0, 1) := by decide +kernel
theorem dX0_journeyChange_1 : decode cX0_journeyChange 1 = .ok (.iload_n 1, 1) := by decide +kernel
theorem dX0_journeyChange_2 : decode cX0_journeyChange 2 = .ok (.invokevirtual 171, 3) := by decide +kernel
theorem dX0_journeyChange_5 : decode cX0_journeyChange 5 = .ok (.istore 4, 2) := by decide +kernel
theorem dX0_journeyChange_7 : decode cX0_journeyChange 7 = .ok (.aload_n 0, 1) := by decide +kernel
theorem dX0_journeyChange_8 : decode cX0_journeyChange 8 = .ok (.iload_n 1, 1) := by decide +kernel
theorem dX0_journeyChange_9 : decode cX0_journeyChange 9 = .ok (.invokevirtual 108, 3) := by decide +kernel
theorem dX0_journeyChange_12 : decode cX0_journeyChange 12 = .ok (.istore 5, 2) := by decide +kernel
theorem dX0_journeyChange_14 : decode cX0_journeyChange 14 = .ok (.aload_n 0, 1) := by decide +kernel
theorem dX0_journeyChange_15 : decode cX0_journeyChange 15 = .ok (.iload 4, 2) := by decide +kernel
theorem dX0_journeyChange_17 : decode cX0_journeyChange 17 = .ok (.iload 5, 2) := by decide +kernel
theorem dX0_journeyChange_19 : decode cX0_journeyChange 19 = .ok (.iload_n 2, 1) := by decide +kernel
theorem dX0_journeyChange_20 : decode cX0_journeyChange 20 = .ok (.iload_n 3, 1) := by decide +kernel
theorem dX0_journeyChange_21 : decode cX0_journeyChange 21 = .ok (.invokevirtual 189, 3) := by decide +kernel
theorem dX0_journeyChange_24 : decode cX0_journeyChange 24 = .ok (.aload_n 0, 1) := by decide +kernel
theorem dX0_journeyChange_25 : decode cX0_journeyChange 25 = .ok (.iload 4, 2) := by decide +kernel
theorem dX0_journeyChange_27 : decode cX0_journeyChange 27 = .ok (.iload 5, 2) := by decide +kernel
theorem dX0_journeyChange_29 : decode cX0_journeyChange 29 = .ok (.iload_n 3, 1) := by decide +kernel
theorem dX0_journeyChange_30 : decode cX0_journeyChange 30 = .ok (.iload_n 2, 1) := by decide +kernel
theorem dX0_journeyChange_31 : decode cX0_journeyChange 31 = .ok (.invokevirtual 189, 3) := by decide +kernel
theorem dX0_journeyChange_34 : decode cX0_journeyChange 34 = .ok (.isub, 1) := by decide +kernel
theorem dX0_journeyChange_35 : decode cX0_journeyChange 35 = .ok (.istore 6, 2) := by decide +kernel
theorem dX0_journeyChange_37 : decode cX0_journeyChange 37 = .ok (.iload 6, 2) := by decide +kernel
theorem dX0_journeyChange_39 : decode cX0_journeyChange 39 = .ok (.iload_n 3, 1) := by decide +kernel
theorem dX0_journeyChange_40 : decode cX0_journeyChange 40 = .ok (.iload_n 2, 1) := by decide +kernel
theorem dX0_journeyChange_41 : decode cX0_journeyChange 41 = .ok (.iload 5, 2) := by decide +kernel
theorem dX0_journeyChange_43 : decode cX0_journeyChange 43 = .ok (.invokestatic 154, 3) := by decide +kernel
theorem dX0_journeyChange_46 : decode cX0_journeyChange 46 = .ok (.iload_n 2, 1) := by decide +kernel
theorem dX0_journeyChange_47 : decode cX0_journeyChange 47 = .ok (.iload_n 3, 1) := by decide +kernel
theorem dX0_journeyChange_48 : decode cX0_journeyChange 48 = .ok (.iload 5, 2) := by decide +kernel
theorem dX0_journeyChange_50 : decode cX0_journeyChange 50 = .ok (.invokestatic 154, 3) := by decide +kernel
theorem dX0_journeyChange_53 : decode cX0_journeyChange 53 = .ok (.isub, 1) := by decide +kernel
theorem dX0_journeyChange_54 : decode cX0_journeyChange 54 = .ok (.imul, 1) := by decide +kernel
theorem dX0_journeyChange_55 : decode cX0_journeyChange 55 = .ok (.istore 7, 2) := by decide +kernel
theorem dX0_journeyChange_57 : decode cX0_journeyChange 57 = .ok (.iconst 0, 1) := by decide +kernel
theorem dX0_journeyChange_58 : decode cX0_journeyChange 58 = .ok (.istore 8, 2) := by decide +kernel
theorem dX0_journeyChange_60 : decode cX0_journeyChange 60 = .ok (.iload 8, 2) := by decide +kernel
theorem dX0_journeyChange_62 : decode cX0_journeyChange 62 = .ok (.iload 5, 2) := by decide +kernel
theorem dX0_journeyChange_64 : decode cX0_journeyChange 64 = .ok (.if_icmp .ge 121, 3) := by decide +kernel
theorem dX0_journeyChange_67 : decode cX0_journeyChange 67 = .ok (.iload 8, 2) := by decide +kernel
theorem dX0_journeyChange_69 : decode cX0_journeyChange 69 = .ok (.iload_n 2, 1) := by decide +kernel
theorem dX0_journeyChange_70 : decode cX0_journeyChange 70 = .ok (.if_icmp .eq 109, 3) := by decide +kernel
theorem dX0_journeyChange_73 : decode cX0_journeyChange 73 = .ok (.iload 8, 2) := by decide +kernel
theorem dX0_journeyChange_75 : decode cX0_journeyChange 75 = .ok (.iload_n 3, 1) := by decide +kernel
theorem dX0_journeyChange_76 : decode cX0_journeyChange 76 = .ok (.if_icmp .eq 103, 3) := by decide +kernel
theorem dX0_journeyChange_79 : decode cX0_journeyChange 79 = .ok (.aload_n 0, 1) := by decide +kernel
theorem dX0_journeyChange_80 : decode cX0_journeyChange 80 = .ok (.iload 4, 2) := by decide +kernel
theorem dX0_journeyChange_82 : decode cX0_journeyChange 82 = .ok (.iload 5, 2) := by decide +kernel
theorem dX0_journeyChange_84 : decode cX0_journeyChange 84 = .ok (.iload_n 2, 1) := by decide +kernel
theorem dX0_journeyChange_85 : decode cX0_journeyChange 85 = .ok (.iload 8, 2) := by decide +kernel
theorem dX0_journeyChange_87 : decode cX0_journeyChange 87 = .ok (.invokevirtual 189, 3) := by decide +kernel
theorem dX0_journeyChange_90 : decode cX0_journeyChange 90 = .ok (.aload_n 0, 1) := by decide +kernel
theorem dX0_journeyChange_91 : decode cX0_journeyChange 91 = .ok (.iload 4, 2) := by decide +kernel
theorem dX0_journeyChange_93 : decode cX0_journeyChange 93 = .ok (.iload 5, 2) := by decide +kernel
theorem dX0_journeyChange_95 : decode cX0_journeyChange 95 = .ok (.iload_n 3, 1) := by decide +kernel
theorem dX0_journeyChange_96 : decode cX0_journeyChange 96 = .ok (.iload 8, 2) := by decide +kernel
theorem dX0_journeyChange_98 : decode cX0_journeyChange 98 = .ok (.invokevirtual 189, 3) := by decide +kernel
theorem dX0_journeyChange_101 : decode cX0_journeyChange 101 = .ok (.isub, 1) := by decide +kernel
theorem dX0_journeyChange_102 : decode cX0_journeyChange 102 = .ok (.istore 9, 2) := by decide +kernel
theorem dX0_journeyChange_104 : decode cX0_journeyChange 104 = .ok (.aload_n 0, 1) := by decide +kernel
theorem dX0_journeyChange_105 : decode cX0_journeyChange 105 = .ok (.iload 4, 2) := by decide +kernel
theorem dX0_journeyChange_107 : decode cX0_journeyChange 107 = .ok (.iload 5, 2) := by decide +kernel
theorem dX0_journeyChange_109 : decode cX0_journeyChange 109 = .ok (.iload 8, 2) := by decide +kernel
theorem dX0_journeyChange_111 : decode cX0_journeyChange 111 = .ok (.iload_n 2, 1) := by decide +kernel
theorem dX0_journeyChange_112 : decode cX0_journeyChange 112 = .ok (.invokevirtual 189, 3) := by decide +kernel
theorem dX0_journeyChange_115 : decode cX0_journeyChange 115 = .ok (.aload_n 0, 1) := by decide +kernel
theorem dX0_journeyChange_116 : decode cX0_journeyChange 116 = .ok (.iload 4, 2) := by decide +kernel
theorem dX0_journeyChange_118 : decode cX0_journeyChange 118 = .ok (.iload 5, 2) := by decide +kernel
theorem dX0_journeyChange_120 : decode cX0_journeyChange 120 = .ok (.iload 8, 2) := by decide +kernel
theorem dX0_journeyChange_122 : decode cX0_journeyChange 122 = .ok (.iload_n 3, 1) := by decide +kernel
theorem dX0_journeyChange_123 : decode cX0_journeyChange 123 = .ok (.invokevirtual 189, 3) := by decide +kernel
theorem dX0_journeyChange_126 : decode cX0_journeyChange 126 = .ok (.isub, 1) := by decide +kernel
theorem dX0_journeyChange_127 : decode cX0_journeyChange 127 = .ok (.istore 10, 2) := by decide +kernel
theorem dX0_journeyChange_129 : decode cX0_journeyChange 129 = .ok (.iload 7, 2) := by decide +kernel
theorem dX0_journeyChange_131 : decode cX0_journeyChange 131 = .ok (.iload 9, 2) := by decide +kernel
theorem dX0_journeyChange_133 : decode cX0_journeyChange 133 = .ok (.iload_n 3, 1) := by decide +kernel
theorem dX0_journeyChange_134 : decode cX0_journeyChange 134 = .ok (.iload 8, 2) := by decide +kernel
theorem dX0_journeyChange_136 : decode cX0_journeyChange 136 = .ok (.iload 5, 2) := by decide +kernel
theorem dX0_journeyChange_138 : decode cX0_journeyChange 138 = .ok (.invokestatic 154, 3) := by decide +kernel
theorem dX0_journeyChange_141 : decode cX0_journeyChange 141 = .ok (.iload_n 2, 1) := by decide +kernel
theorem dX0_journeyChange_142 : decode cX0_journeyChange 142 = .ok (.iload 8, 2) := by decide +kernel
theorem dX0_journeyChange_144 : decode cX0_journeyChange 144 = .ok (.iload 5, 2) := by decide +kernel
theorem dX0_journeyChange_146 : decode cX0_journeyChange 146 = .ok (.invokestatic 154, 3) := by decide +kernel
theorem dX0_journeyChange_149 : decode cX0_journeyChange 149 = .ok (.isub, 1) := by decide +kernel
theorem dX0_journeyChange_150 : decode cX0_journeyChange 150 = .ok (.imul, 1) := by decide +kernel
theorem dX0_journeyChange_151 : decode cX0_journeyChange 151 = .ok (.iadd, 1) := by decide +kernel
theorem dX0_journeyChange_152 : decode cX0_journeyChange 152 = .ok (.istore 7, 2) := by decide +kernel
theorem dX0_journeyChange_154 : decode cX0_journeyChange 154 = .ok (.iload 7, 2) := by decide +kernel
theorem dX0_journeyChange_156 : decode cX0_journeyChange 156 = .ok (.iload 10, 2) := by decide +kernel
theorem dX0_journeyChange_158 : decode cX0_journeyChange 158 = .ok (.iload 8, 2) := by decide +kernel
theorem dX0_journeyChange_160 : decode cX0_journeyChange 160 = .ok (.iload_n 3, 1) := by decide +kernel
theorem dX0_journeyChange_161 : decode cX0_journeyChange 161 = .ok (.iload 5, 2) := by decide +kernel
theorem dX0_journeyChange_163 : decode cX0_journeyChange 163 = .ok (.invokestatic 154, 3) := by decide +kernel
theorem dX0_journeyChange_166 : decode cX0_journeyChange 166 = .ok (.iload 8, 2) := by decide +kernel
theorem dX0_journeyChange_168 : decode cX0_journeyChange 168 = .ok (.iload_n 2, 1) := by decide +kernel
theorem dX0_journeyChange_169 : decode cX0_journeyChange 169 = .ok (.iload 5, 2) := by decide +kernel
theorem dX0_journeyChange_171 : decode cX0_journeyChange 171 = .ok (.invokestatic 154, 3) := by decide +kernel
theorem dX0_journeyChange_174 : decode cX0_journeyChange 174 = .ok (.isub, 1) := by decide +kernel
theorem dX0_journeyChange_175 : decode cX0_journeyChange 175 = .ok (.imul, 1) := by decide +kernel
theorem dX0_journeyChange_176 : decode cX0_journeyChange 176 = .ok (.iadd, 1) := by decide +kernel
theorem dX0_journeyChange_177 : decode cX0_journeyChange 177 = .ok (.istore 7, 2) := by decide +kernel
theorem dX0_journeyChange_179 : decode cX0_journeyChange 179 = .ok (.iinc 8 1, 3) := by decide +kernel
theorem dX0_journeyChange_182 : decode cX0_journeyChange 182 = .ok (.goto (-122), 3) := by decide +kernel
theorem dX0_journeyChange_185 : decode cX0_journeyChange 185 = .ok (.iload 7, 2) := by decide +kernel
theorem dX0_journeyChange_187 : decode cX0_journeyChange 187 = .ok (.ireturn, 1) := by decide +kernel
theorem dX5_startReading_0 : decode cX5_startReading 0 = .ok (.aload_n 0, 1) := by decide +kernel
theorem dX5_startReading_1 : decode cX5_startReading 1 = .ok (.iconst 0, 1) := by decide +kernel
theorem dX5_startReading_2 : decode cX5_startReading 2 = .ok (.putfield 19, 3) := by decide +kernel
theorem dX5_startReading_5 : decode cX5_startReading 5 = .ok (.aload_n 0, 1) := by decide +kernel
theorem dX5_startReading_6 : decode cX5_startReading 6 = .ok (.iconst 0, 1) := by decide +kernel
theorem dX5_startReading_7 : decode cX5_startReading 7 = .ok (.putfield 22, 3) := by decide +kernel
theorem dX5_startReading_10 : decode cX5_startReading 10 = .ok (.aload_n 0, 1) := by decide +kernel
theorem dX5_startReading_11 : decode cX5_startReading 11 = .ok (.iconst 0, 1) := by decide +kernel
theorem dX5_startReading_12 : decode cX5_startReading 12 = .ok (.putfield 25, 3) := by decide +kernel
theorem dX5_startReading_15 : decode cX5_startReading 15 = .ok (.aload_n 0, 1) := by decide +kernel
theorem dX5_startReading_16 : decode cX5_startReading 16 = .ok (.iconst 0, 1) := by decide +kernel
theorem dX5_startReading_17 : decode cX5_startReading 17 = .ok (.putfield 28, 3) := by decide +kernel
theorem dX5_startReading_20 : decode cX5_startReading 20 = .ok (.aload_n 0, 1) := by decide +kernel
theorem dX5_startReading_21 : decode cX5_startReading 21 = .ok (.iconst 0, 1) := by decide +kernel
theorem dX5_startReading_22 : decode cX5_startReading 22 = .ok (.putfield 31, 3) := by decide +kernel
theorem dX5_startReading_25 : decode cX5_startReading 25 = .ok (.return_, 1) := by decide +kernel
theorem dX5_peek_0 : decode cX5_peek 0 = .ok (.aload_n 0, 1) := by decide +kernel
theorem dX5_peek_1 : decode cX5_peek 1 = .ok (.getfield 19, 3) := by decide +kernel
theorem dX5_peek_4 : decode cX5_peek 4 = .ok (.aload_n 0, 1) := by decide +kernel
theorem dX5_peek_5 : decode cX5_peek 5 = .ok (.getfield 15, 3) := by decide +kernel
theorem dX5_peek_8 : decode cX5_peek 8 = .ok (.if_icmp .ge 30, 3) := by decide +kernel
theorem dX5_peek_11 : decode cX5_peek 11 = .ok (.aload_n 0, 1) := by decide +kernel
theorem dX5_peek_12 : decode cX5_peek 12 = .ok (.getfield 9, 3) := by decide +kernel
theorem dX5_peek_15 : decode cX5_peek 15 = .ok (.aload_n 0, 1) := by decide +kernel
theorem dX5_peek_16 : decode cX5_peek 16 = .ok (.getfield 19, 3) := by decide +kernel
theorem dX5_peek_19 : decode cX5_peek 19 = .ok (.iaload, 1) := by decide +kernel
theorem dX5_peek_20 : decode cX5_peek 20 = .ok (.bipush 32, 2) := by decide +kernel
theorem dX5_peek_22 : decode cX5_peek 22 = .ok (.if_icmp .ne 16, 3) := by decide +kernel
theorem dX5_peek_25 : decode cX5_peek 25 = .ok (.aload_n 0, 1) := by decide +kernel
theorem dX5_peek_26 : decode cX5_peek 26 = .ok (.dup, 1) := by decide +kernel
theorem dX5_peek_27 : decode cX5_peek 27 = .ok (.getfield 19, 3) := by decide +kernel
theorem dX5_peek_30 : decode cX5_peek 30 = .ok (.iconst 1, 1) := by decide +kernel
theorem dX5_peek_31 : decode cX5_peek 31 = .ok (.iadd, 1) := by decide +kernel
theorem dX5_peek_32 : decode cX5_peek 32 = .ok (.putfield 19, 3) := by decide +kernel
theorem dX5_peek_35 : decode cX5_peek 35 = .ok (.goto (-35), 3) := by decide +kernel
theorem dX5_peek_38 : decode cX5_peek 38 = .ok (.aload_n 0, 1) := by decide +kernel
theorem dX5_peek_39 : decode cX5_peek 39 = .ok (.getfield 19, 3) := by decide +kernel
theorem dX5_peek_42 : decode cX5_peek 42 = .ok (.aload_n 0, 1) := by decide +kernel
theorem dX5_peek_43 : decode cX5_peek 43 = .ok (.getfield 15, 3) := by decide +kernel
theorem dX5_peek_46 : decode cX5_peek 46 = .ok (.if_icmp .ge 15, 3) := by decide +kernel
theorem dX5_peek_49 : decode cX5_peek 49 = .ok (.aload_n 0, 1) := by decide +kernel
theorem dX5_peek_50 : decode cX5_peek 50 = .ok (.getfield 9, 3) := by decide +kernel
theorem dX5_peek_53 : decode cX5_peek 53 = .ok (.aload_n 0, 1) := by decide +kernel
theorem dX5_peek_54 : decode cX5_peek 54 = .ok (.getfield 19, 3) := by decide +kernel
theorem dX5_peek_57 : decode cX5_peek 57 = .ok (.iaload, 1) := by decide +kernel
theorem dX5_peek_58 : decode cX5_peek 58 = .ok (.goto 4, 3) := by decide +kernel
theorem dX5_peek_61 : decode cX5_peek 61 = .ok (.iconst (-1), 1) := by decide +kernel
theorem dX5_peek_62 : decode cX5_peek 62 = .ok (.ireturn, 1) := by decide +kernel
theorem dX5_isRead_0 : decode cX5_isRead 0 = .ok (.aload_n 1, 1) := by decide +kernel
theorem dX5_isRead_1 : decode cX5_isRead 1 = .ok (.invokevirtual 80, 3) := by decide +kernel
theorem dX5_isRead_4 : decode cX5_isRead 4 = .ok (.aload_n 0, 1) := by decide +kernel
theorem dX5_isRead_5 : decode cX5_isRead 5 = .ok (.getfield 19, 3) := by decide +kernel
theorem dX5_isRead_8 : decode cX5_isRead 8 = .ok (.aload_n 0, 1) := by decide +kernel
theorem dX5_isRead_9 : decode cX5_isRead 9 = .ok (.getfield 22, 3) := by decide +kernel
theorem dX5_isRead_12 : decode cX5_isRead 12 = .ok (.isub, 1) := by decide +kernel
theorem dX5_isRead_13 : decode cX5_isRead 13 = .ok (.if_icmp .eq 5, 3) := by decide +kernel
theorem dX5_isRead_16 : decode cX5_isRead 16 = .ok (.iconst 0, 1) := by decide +kernel
theorem dX5_isRead_17 : decode cX5_isRead 17 = .ok (.ireturn, 1) := by decide +kernel
theorem dX5_isRead_18 : decode cX5_isRead 18 = .ok (.iconst 0, 1) := by decide +kernel
theorem dX5_isRead_19 : decode cX5_isRead 19 = .ok (.istore_n 2, 1) := by decide +kernel
theorem dX5_isRead_20 : decode cX5_isRead 20 = .ok (.iload_n 2, 1) := by decide +kernel
theorem dX5_isRead_21 : decode cX5_isRead 21 = .ok (.aload_n 1, 1) := by decide +kernel
theorem dX5_isRead_22 : decode cX5_isRead 22 = .ok (.invokevirtual 80, 3) := by decide +kernel
theorem dX5_isRead_25 : decode cX5_isRead 25 = .ok (.if_icmp .ge 30, 3) := by decide +kernel
theorem dX5_isRead_28 : decode cX5_isRead 28 = .ok (.aload_n 1, 1) := by decide +kernel
theorem dX5_isRead_29 : decode cX5_isRead 29 = .ok (.iload_n 2, 1) := by decide +kernel
theorem dX5_isRead_30 : decode cX5_isRead 30 = .ok (.invokevirtual 85, 3) := by decide +kernel
theorem dX5_isRead_33 : decode cX5_isRead 33 = .ok (.aload_n 0, 1) := by decide +kernel
theorem dX5_isRead_34 : decode cX5_isRead 34 = .ok (.getfield 9, 3) := by decide +kernel
theorem dX5_isRead_37 : decode cX5_isRead 37 = .ok (.aload_n 0, 1) := by decide +kernel
theorem dX5_isRead_38 : decode cX5_isRead 38 = .ok (.getfield 22, 3) := by decide +kernel
theorem dX5_isRead_41 : decode cX5_isRead 41 = .ok (.iload_n 2, 1) := by decide +kernel
theorem dX5_isRead_42 : decode cX5_isRead 42 = .ok (.iadd, 1) := by decide +kernel
theorem dX5_isRead_43 : decode cX5_isRead 43 = .ok (.iaload, 1) := by decide +kernel
theorem dX5_isRead_44 : decode cX5_isRead 44 = .ok (.if_icmp .eq 5, 3) := by decide +kernel
theorem dX5_isRead_47 : decode cX5_isRead 47 = .ok (.iconst 0, 1) := by decide +kernel
theorem dX5_isRead_48 : decode cX5_isRead 48 = .ok (.ireturn, 1) := by decide +kernel
theorem dX5_isRead_49 : decode cX5_isRead 49 = .ok (.iinc 2 1, 3) := by decide +kernel
theorem dX5_isRead_52 : decode cX5_isRead 52 = .ok (.goto (-32), 3) := by decide +kernel
theorem dX5_isRead_55 : decode cX5_isRead 55 = .ok (.iconst 1, 1) := by decide +kernel
theorem dX5_isRead_56 : decode cX5_isRead 56 = .ok (.ireturn, 1) := by decide +kernel
theorem dX5_wordRead_0 : decode cX5_wordRead 0 = .ok (.aload_n 0, 1) := by decide +kernel
theorem dX5_wordRead_1 : decode cX5_wordRead 1 = .ok (.ldc 52, 2) := by decide +kernel
theorem dX5_wordRead_3 : decode cX5_wordRead 3 = .ok (.invokevirtual 54, 3) := by decide +kernel
theorem dX5_wordRead_6 : decode cX5_wordRead 6 = .ok (.ifCond .eq 5, 3) := by decide +kernel
theorem dX5_wordRead_9 : decode cX5_wordRead 9 = .ok (.iconst 1, 1) := by decide +kernel
theorem dX5_wordRead_10 : decode cX5_wordRead 10 = .ok (.ireturn, 1) := by decide +kernel
theorem dX5_wordRead_11 : decode cX5_wordRead 11 = .ok (.aload_n 0, 1) := by decide +kernel
theorem dX5_wordRead_12 : decode cX5_wordRead 12 = .ok (.ldc 58, 2) := by decide +kernel
theorem dX5_wordRead_14 : decode cX5_wordRead 14 = .ok (.invokevirtual 54, 3) := by decide +kernel
theorem dX5_wordRead_17 : decode cX5_wordRead 17 = .ok (.ifCond .eq 5, 3) := by decide +kernel
theorem dX5_wordRead_20 : decode cX5_wordRead 20 = .ok (.iconst 2, 1) := by decide +kernel
theorem dX5_wordRead_21 : decode cX5_wordRead 21 = .ok (.ireturn, 1) := by decide +kernel
theorem dX5_wordRead_22 : decode cX5_wordRead 22 = .ok (.aload_n 0, 1) := by decide +kernel
theorem dX5_wordRead_23 : decode cX5_wordRead 23 = .ok (.ldc 60, 2) := by decide +kernel
theorem dX5_wordRead_25 : decode cX5_wordRead 25 = .ok (.invokevirtual 54, 3) := by decide +kernel
theorem dX5_wordRead_28 : decode cX5_wordRead 28 = .ok (.ifCond .eq 5, 3) := by decide +kernel
theorem dX5_wordRead_31 : decode cX5_wordRead 31 = .ok (.iconst 3, 1) := by decide +kernel
theorem dX5_wordRead_32 : decode cX5_wordRead 32 = .ok (.ireturn, 1) := by decide +kernel
theorem dX5_wordRead_33 : decode cX5_wordRead 33 = .ok (.aload_n 0, 1) := by decide +kernel
theorem dX5_wordRead_34 : decode cX5_wordRead 34 = .ok (.ldc 62, 2) := by decide +kernel
theorem dX5_wordRead_36 : decode cX5_wordRead 36 = .ok (.invokevirtual 54, 3) := by decide +kernel
theorem dX5_wordRead_39 : decode cX5_wordRead 39 = .ok (.ifCond .eq 5, 3) := by decide +kernel
theorem dX5_wordRead_42 : decode cX5_wordRead 42 = .ok (.iconst 4, 1) := by decide +kernel
theorem dX5_wordRead_43 : decode cX5_wordRead 43 = .ok (.ireturn, 1) := by decide +kernel
theorem dX5_wordRead_44 : decode cX5_wordRead 44 = .ok (.aload_n 0, 1) := by decide +kernel
theorem dX5_wordRead_45 : decode cX5_wordRead 45 = .ok (.ldc 64, 2) := by decide +kernel
theorem dX5_wordRead_47 : decode cX5_wordRead 47 = .ok (.invokevirtual 54, 3) := by decide +kernel
theorem dX5_wordRead_50 : decode cX5_wordRead 50 = .ok (.ifCond .eq 5, 3) := by decide +kernel
theorem dX5_wordRead_53 : decode cX5_wordRead 53 = .ok (.iconst 5, 1) := by decide +kernel
theorem dX5_wordRead_54 : decode cX5_wordRead 54 = .ok (.ireturn, 1) := by decide +kernel
theorem dX5_wordRead_55 : decode cX5_wordRead 55 = .ok (.aload_n 0, 1) := by decide +kernel
theorem dX5_wordRead_56 : decode cX5_wordRead 56 = .ok (.ldc 66, 2) := by decide +kernel
theorem dX5_wordRead_58 : decode cX5_wordRead 58 = .ok (.invokevirtual 54, 3) := by decide +kernel
theorem dX5_wordRead_61 : decode cX5_wordRead 61 = .ok (.ifCond .eq 6, 3) := by decide +kernel
theorem dX5_wordRead_64 : decode cX5_wordRead 64 = .ok (.bipush 6, 2) := by decide +kernel
theorem dX5_wordRead_66 : decode cX5_wordRead 66 = .ok (.ireturn, 1) := by decide +kernel
theorem dX5_wordRead_67 : decode cX5_wordRead 67 = .ok (.aload_n 0, 1) := by decide +kernel
theorem dX5_wordRead_68 : decode cX5_wordRead 68 = .ok (.ldc 68, 2) := by decide +kernel
theorem dX5_wordRead_70 : decode cX5_wordRead 70 = .ok (.invokevirtual 54, 3) := by decide +kernel
theorem dX5_wordRead_73 : decode cX5_wordRead 73 = .ok (.ifCond .eq 6, 3) := by decide +kernel
theorem dX5_wordRead_76 : decode cX5_wordRead 76 = .ok (.bipush 7, 2) := by decide +kernel
theorem dX5_wordRead_78 : decode cX5_wordRead 78 = .ok (.ireturn, 1) := by decide +kernel
theorem dX5_wordRead_79 : decode cX5_wordRead 79 = .ok (.aload_n 0, 1) := by decide +kernel
theorem dX5_wordRead_80 : decode cX5_wordRead 80 = .ok (.ldc 70, 2) := by decide +kernel
theorem dX5_wordRead_82 : decode cX5_wordRead 82 = .ok (.invokevirtual 54, 3) := by decide +kernel
theorem dX5_wordRead_85 : decode cX5_wordRead 85 = .ok (.ifCond .eq 6, 3) := by decide +kernel
theorem dX5_wordRead_88 : decode cX5_wordRead 88 = .ok (.bipush 8, 2) := by decide +kernel
theorem dX5_wordRead_90 : decode cX5_wordRead 90 = .ok (.ireturn, 1) := by decide +kernel
theorem dX5_wordRead_91 : decode cX5_wordRead 91 = .ok (.aload_n 0, 1) := by decide +kernel
theorem dX5_wordRead_92 : decode cX5_wordRead 92 = .ok (.ldc 72, 2) := by decide +kernel
theorem dX5_wordRead_94 : decode cX5_wordRead 94 = .ok (.invokevirtual 54, 3) := by decide +kernel
theorem dX5_wordRead_97 : decode cX5_wordRead 97 = .ok (.ifCond .eq 6, 3) := by decide +kernel
theorem dX5_wordRead_100 : decode cX5_wordRead 100 = .ok (.bipush 9, 2) := by decide +kernel
theorem dX5_wordRead_102 : decode cX5_wordRead 102 = .ok (.ireturn, 1) := by decide +kernel
theorem dX5_wordRead_103 : decode cX5_wordRead 103 = .ok (.aload_n 0, 1) := by decide +kernel
theorem dX5_wordRead_104 : decode cX5_wordRead 104 = .ok (.ldc 74, 2) := by decide +kernel
theorem dX5_wordRead_106 : decode cX5_wordRead 106 = .ok (.invokevirtual 54, 3) := by decide +kernel
theorem dX5_wordRead_109 : decode cX5_wordRead 109 = .ok (.ifCond .eq 6, 3) := by decide +kernel
theorem dX5_wordRead_112 : decode cX5_wordRead 112 = .ok (.bipush 10, 2) := by decide +kernel
theorem dX5_wordRead_114 : decode cX5_wordRead 114 = .ok (.ireturn, 1) := by decide +kernel
theorem dX5_wordRead_115 : decode cX5_wordRead 115 = .ok (.aload_n 0, 1) := by decide +kernel
theorem dX5_wordRead_116 : decode cX5_wordRead 116 = .ok (.ldc 76, 2) := by decide +kernel
theorem dX5_wordRead_118 : decode cX5_wordRead 118 = .ok (.invokevirtual 54, 3) := by decide +kernel
theorem dX5_wordRead_121 : decode cX5_wordRead 121 = .ok (.ifCond .eq 6, 3) := by decide +kernel
theorem dX5_wordRead_124 : decode cX5_wordRead 124 = .ok (.bipush 11, 2) := by decide +kernel
theorem dX5_wordRead_126 : decode cX5_wordRead 126 = .ok (.ireturn, 1) := by decide +kernel
theorem dX5_wordRead_127 : decode cX5_wordRead 127 = .ok (.aload_n 0, 1) := by decide +kernel
theorem dX5_wordRead_128 : decode cX5_wordRead 128 = .ok (.ldc 78, 2) := by decide +kernel
theorem dX5_wordRead_130 : decode cX5_wordRead 130 = .ok (.invokevirtual 54, 3) := by decide +kernel
theorem dX5_wordRead_133 : decode cX5_wordRead 133 = .ok (.ifCond .eq 6, 3) := by decide +kernel
theorem dX5_wordRead_136 : decode cX5_wordRead 136 = .ok (.bipush 12, 2) := by decide +kernel
theorem dX5_wordRead_138 : decode cX5_wordRead 138 = .ok (.ireturn, 1) := by decide +kernel
theorem dX5_wordRead_139 : decode cX5_wordRead 139 = .ok (.iconst 0, 1) := by decide +kernel
theorem dX5_wordRead_140 : decode cX5_wordRead 140 = .ok (.ireturn, 1) := by decide +kernel
theorem dX5_takeWord_0 : decode cX5_takeWord 0 = .ok (.aload_n 0, 1) := by decide +kernel
theorem dX5_takeWord_1 : decode cX5_takeWord 1 = .ok (.invokevirtual 34, 3) := by decide +kernel
theorem dX5_takeWord_4 : decode cX5_takeWord 4 = .ok (.pop, 1) := by decide +kernel
theorem dX5_takeWord_5 : decode cX5_takeWord 5 = .ok (.aload_n 0, 1) := by decide +kernel
theorem dX5_takeWord_6 : decode cX5_takeWord 6 = .ok (.aload_n 0, 1) := by decide +kernel
theorem dX5_takeWord_7 : decode cX5_takeWord 7 = .ok (.getfield 19, 3) := by decide +kernel
theorem dX5_takeWord_10 : decode cX5_takeWord 10 = .ok (.putfield 22, 3) := by decide +kernel
theorem dX5_takeWord_13 : decode cX5_takeWord 13 = .ok (.aload_n 0, 1) := by decide +kernel
theorem dX5_takeWord_14 : decode cX5_takeWord 14 = .ok (.getfield 19, 3) := by decide +kernel
theorem dX5_takeWord_17 : decode cX5_takeWord 17 = .ok (.aload_n 0, 1) := by decide +kernel
theorem dX5_takeWord_18 : decode cX5_takeWord 18 = .ok (.getfield 15, 3) := by decide +kernel
theorem dX5_takeWord_21 : decode cX5_takeWord 21 = .ok (.if_icmp .ge 42, 3) := by decide +kernel
theorem dX5_takeWord_24 : decode cX5_takeWord 24 = .ok (.aload_n 0, 1) := by decide +kernel
theorem dX5_takeWord_25 : decode cX5_takeWord 25 = .ok (.aload_n 0, 1) := by decide +kernel
theorem dX5_takeWord_26 : decode cX5_takeWord 26 = .ok (.getfield 19, 3) := by decide +kernel
theorem dX5_takeWord_29 : decode cX5_takeWord 29 = .ok (.invokevirtual 42, 3) := by decide +kernel
theorem dX5_takeWord_32 : decode cX5_takeWord 32 = .ok (.bipush 97, 2) := by decide +kernel
theorem dX5_takeWord_34 : decode cX5_takeWord 34 = .ok (.if_icmp .lt 29, 3) := by decide +kernel
theorem dX5_takeWord_37 : decode cX5_takeWord 37 = .ok (.aload_n 0, 1) := by decide +kernel
theorem dX5_takeWord_38 : decode cX5_takeWord 38 = .ok (.aload_n 0, 1) := by decide +kernel
theorem dX5_takeWord_39 : decode cX5_takeWord 39 = .ok (.getfield 19, 3) := by decide +kernel
theorem dX5_takeWord_42 : decode cX5_takeWord 42 = .ok (.invokevirtual 42, 3) := by decide +kernel
theorem dX5_takeWord_45 : decode cX5_takeWord 45 = .ok (.bipush 122, 2) := by decide +kernel
theorem dX5_takeWord_47 : decode cX5_takeWord 47 = .ok (.if_icmp .gt 16, 3) := by decide +kernel
theorem dX5_takeWord_50 : decode cX5_takeWord 50 = .ok (.aload_n 0, 1) := by decide +kernel
theorem dX5_takeWord_51 : decode cX5_takeWord 51 = .ok (.dup, 1) := by decide +kernel
theorem dX5_takeWord_52 : decode cX5_takeWord 52 = .ok (.getfield 19, 3) := by decide +kernel
theorem dX5_takeWord_55 : decode cX5_takeWord 55 = .ok (.iconst 1, 1) := by decide +kernel
theorem dX5_takeWord_56 : decode cX5_takeWord 56 = .ok (.iadd, 1) := by decide +kernel
theorem dX5_takeWord_57 : decode cX5_takeWord 57 = .ok (.putfield 19, 3) := by decide +kernel
theorem dX5_takeWord_60 : decode cX5_takeWord 60 = .ok (.goto (-47), 3) := by decide +kernel
theorem dX5_takeWord_63 : decode cX5_takeWord 63 = .ok (.aload_n 0, 1) := by decide +kernel
theorem dX5_takeWord_64 : decode cX5_takeWord 64 = .ok (.invokevirtual 46, 3) := by decide +kernel
theorem dX5_takeWord_67 : decode cX5_takeWord 67 = .ok (.ireturn, 1) := by decide +kernel
theorem dX5_blame_0 : decode cX5_blame 0 = .ok (.aload_n 0, 1) := by decide +kernel
theorem dX5_blame_1 : decode cX5_blame 1 = .ok (.getfield 31, 3) := by decide +kernel
theorem dX5_blame_4 : decode cX5_blame 4 = .ok (.ifCond .ne 13, 3) := by decide +kernel
theorem dX5_blame_7 : decode cX5_blame 7 = .ok (.aload_n 0, 1) := by decide +kernel
theorem dX5_blame_8 : decode cX5_blame 8 = .ok (.bipush 8, 2) := by decide +kernel
theorem dX5_blame_10 : decode cX5_blame 10 = .ok (.iload_n 1, 1) := by decide +kernel
theorem dX5_blame_11 : decode cX5_blame 11 = .ok (.imul, 1) := by decide +kernel
theorem dX5_blame_12 : decode cX5_blame 12 = .ok (.iload_n 2, 1) := by decide +kernel
theorem dX5_blame_13 : decode cX5_blame 13 = .ok (.iadd, 1) := by decide +kernel
theorem dX5_blame_14 : decode cX5_blame 14 = .ok (.putfield 31, 3) := by decide +kernel
theorem dX5_blame_17 : decode cX5_blame 17 = .ok (.return_, 1) := by decide +kernel
theorem dX5_takeThisWord_0 : decode cX5_takeThisWord 0 = .ok (.aload_n 0, 1) := by decide +kernel
theorem dX5_takeThisWord_1 : decode cX5_takeThisWord 1 = .ok (.invokevirtual 49, 3) := by decide +kernel
theorem dX5_takeThisWord_4 : decode cX5_takeThisWord 4 = .ok (.iload_n 1, 1) := by decide +kernel
theorem dX5_takeThisWord_5 : decode cX5_takeThisWord 5 = .ok (.if_icmp .eq 12, 3) := by decide +kernel
theorem dX5_takeThisWord_8 : decode cX5_takeThisWord 8 = .ok (.aload_n 0, 1) := by decide +kernel
theorem dX5_takeThisWord_9 : decode cX5_takeThisWord 9 = .ok (.aload_n 0, 1) := by decide +kernel
theorem dX5_takeThisWord_10 : decode cX5_takeThisWord 10 = .ok (.getfield 22, 3) := by decide +kernel
theorem dX5_takeThisWord_13 : decode cX5_takeThisWord 13 = .ok (.iconst 1, 1) := by decide +kernel
theorem dX5_takeThisWord_14 : decode cX5_takeThisWord 14 = .ok (.invokevirtual 38, 3) := by decide +kernel
theorem dX5_takeThisWord_17 : decode cX5_takeThisWord 17 = .ok (.return_, 1) := by decide +kernel
theorem dX5_takeNumber_0 : decode cX5_takeNumber 0 = .ok (.aload_n 0, 1) := by decide +kernel
theorem dX5_takeNumber_1 : decode cX5_takeNumber 1 = .ok (.invokevirtual 34, 3) := by decide +kernel
theorem dX5_takeNumber_4 : decode cX5_takeNumber 4 = .ok (.pop, 1) := by decide +kernel
theorem dX5_takeNumber_5 : decode cX5_takeNumber 5 = .ok (.aload_n 0, 1) := by decide +kernel
theorem dX5_takeNumber_6 : decode cX5_takeNumber 6 = .ok (.aload_n 0, 1) := by decide +kernel
theorem dX5_takeNumber_7 : decode cX5_takeNumber 7 = .ok (.getfield 19, 3) := by decide +kernel
theorem dX5_takeNumber_10 : decode cX5_takeNumber 10 = .ok (.putfield 22, 3) := by decide +kernel
theorem dX5_takeNumber_13 : decode cX5_takeNumber 13 = .ok (.iconst 0, 1) := by decide +kernel
theorem dX5_takeNumber_14 : decode cX5_takeNumber 14 = .ok (.istore_n 3, 1) := by decide +kernel
theorem dX5_takeNumber_15 : decode cX5_takeNumber 15 = .ok (.aload_n 0, 1) := by decide +kernel
theorem dX5_takeNumber_16 : decode cX5_takeNumber 16 = .ok (.getfield 19, 3) := by decide +kernel
theorem dX5_takeNumber_19 : decode cX5_takeNumber 19 = .ok (.aload_n 0, 1) := by decide +kernel
theorem dX5_takeNumber_20 : decode cX5_takeNumber 20 = .ok (.getfield 15, 3) := by decide +kernel
theorem dX5_takeNumber_23 : decode cX5_takeNumber 23 = .ok (.if_icmp .ge 65, 3) := by decide +kernel
theorem dX5_takeNumber_26 : decode cX5_takeNumber 26 = .ok (.aload_n 0, 1) := by decide +kernel
theorem dX5_takeNumber_27 : decode cX5_takeNumber 27 = .ok (.aload_n 0, 1) := by decide +kernel
theorem dX5_takeNumber_28 : decode cX5_takeNumber 28 = .ok (.getfield 19, 3) := by decide +kernel
theorem dX5_takeNumber_31 : decode cX5_takeNumber 31 = .ok (.invokevirtual 42, 3) := by decide +kernel
theorem dX5_takeNumber_34 : decode cX5_takeNumber 34 = .ok (.bipush 48, 2) := by decide +kernel
theorem dX5_takeNumber_36 : decode cX5_takeNumber 36 = .ok (.if_icmp .lt 52, 3) := by decide +kernel
theorem dX5_takeNumber_39 : decode cX5_takeNumber 39 = .ok (.aload_n 0, 1) := by decide +kernel
theorem dX5_takeNumber_40 : decode cX5_takeNumber 40 = .ok (.aload_n 0, 1) := by decide +kernel
theorem dX5_takeNumber_41 : decode cX5_takeNumber 41 = .ok (.getfield 19, 3) := by decide +kernel
theorem dX5_takeNumber_44 : decode cX5_takeNumber 44 = .ok (.invokevirtual 42, 3) := by decide +kernel
theorem dX5_takeNumber_47 : decode cX5_takeNumber 47 = .ok (.bipush 57, 2) := by decide +kernel
theorem dX5_takeNumber_49 : decode cX5_takeNumber 49 = .ok (.if_icmp .gt 39, 3) := by decide +kernel
theorem dX5_takeNumber_52 : decode cX5_takeNumber 52 = .ok (.sipush 1000, 3) := by decide +kernel
theorem dX5_takeNumber_55 : decode cX5_takeNumber 55 = .ok (.iload_n 3, 1) := by decide +kernel
theorem dX5_takeNumber_56 : decode cX5_takeNumber 56 = .ok (.bipush 10, 2) := by decide +kernel
theorem dX5_takeNumber_58 : decode cX5_takeNumber 58 = .ok (.imul, 1) := by decide +kernel
theorem dX5_takeNumber_59 : decode cX5_takeNumber 59 = .ok (.aload_n 0, 1) := by decide +kernel
theorem dX5_takeNumber_60 : decode cX5_takeNumber 60 = .ok (.aload_n 0, 1) := by decide +kernel
theorem dX5_takeNumber_61 : decode cX5_takeNumber 61 = .ok (.getfield 19, 3) := by decide +kernel
theorem dX5_takeNumber_64 : decode cX5_takeNumber 64 = .ok (.invokevirtual 42, 3) := by decide +kernel
theorem dX5_takeNumber_67 : decode cX5_takeNumber 67 = .ok (.iadd, 1) := by decide +kernel
theorem dX5_takeNumber_68 : decode cX5_takeNumber 68 = .ok (.bipush 48, 2) := by decide +kernel
theorem dX5_takeNumber_70 : decode cX5_takeNumber 70 = .ok (.isub, 1) := by decide +kernel
theorem dX5_takeNumber_71 : decode cX5_takeNumber 71 = .ok (.invokestatic 89, 3) := by decide +kernel
theorem dX5_takeNumber_74 : decode cX5_takeNumber 74 = .ok (.istore_n 3, 1) := by decide +kernel
theorem dX5_takeNumber_75 : decode cX5_takeNumber 75 = .ok (.aload_n 0, 1) := by decide +kernel
theorem dX5_takeNumber_76 : decode cX5_takeNumber 76 = .ok (.dup, 1) := by decide +kernel
theorem dX5_takeNumber_77 : decode cX5_takeNumber 77 = .ok (.getfield 19, 3) := by decide +kernel
theorem dX5_takeNumber_80 : decode cX5_takeNumber 80 = .ok (.iconst 1, 1) := by decide +kernel
theorem dX5_takeNumber_81 : decode cX5_takeNumber 81 = .ok (.iadd, 1) := by decide +kernel
theorem dX5_takeNumber_82 : decode cX5_takeNumber 82 = .ok (.putfield 19, 3) := by decide +kernel
theorem dX5_takeNumber_85 : decode cX5_takeNumber 85 = .ok (.goto (-70), 3) := by decide +kernel
theorem dX5_takeNumber_88 : decode cX5_takeNumber 88 = .ok (.aload_n 0, 1) := by decide +kernel
theorem dX5_takeNumber_89 : decode cX5_takeNumber 89 = .ok (.getfield 19, 3) := by decide +kernel
theorem dX5_takeNumber_92 : decode cX5_takeNumber 92 = .ok (.aload_n 0, 1) := by decide +kernel
theorem dX5_takeNumber_93 : decode cX5_takeNumber 93 = .ok (.getfield 22, 3) := by decide +kernel
theorem dX5_takeNumber_96 : decode cX5_takeNumber 96 = .ok (.if_icmp .ne 14, 3) := by decide +kernel
theorem dX5_takeNumber_99 : decode cX5_takeNumber 99 = .ok (.aload_n 0, 1) := by decide +kernel
theorem dX5_takeNumber_100 : decode cX5_takeNumber 100 = .ok (.aload_n 0, 1) := by decide +kernel
theorem dX5_takeNumber_101 : decode cX5_takeNumber 101 = .ok (.getfield 19, 3) := by decide +kernel
theorem dX5_takeNumber_104 : decode cX5_takeNumber 104 = .ok (.iconst 1, 1) := by decide +kernel
theorem dX5_takeNumber_105 : decode cX5_takeNumber 105 = .ok (.invokevirtual 38, 3) := by decide +kernel
theorem dX5_takeNumber_108 : decode cX5_takeNumber 108 = .ok (.iload_n 1, 1) := by decide +kernel
theorem dX5_takeNumber_109 : decode cX5_takeNumber 109 = .ok (.ireturn, 1) := by decide +kernel
theorem dX5_takeNumber_110 : decode cX5_takeNumber 110 = .ok (.iload_n 3, 1) := by decide +kernel
theorem dX5_takeNumber_111 : decode cX5_takeNumber 111 = .ok (.iload_n 1, 1) := by decide +kernel
theorem dX5_takeNumber_112 : decode cX5_takeNumber 112 = .ok (.if_icmp .lt 8, 3) := by decide +kernel
theorem dX5_takeNumber_115 : decode cX5_takeNumber 115 = .ok (.iload_n 3, 1) := by decide +kernel
theorem dX5_takeNumber_116 : decode cX5_takeNumber 116 = .ok (.iload_n 2, 1) := by decide +kernel
theorem dX5_takeNumber_117 : decode cX5_takeNumber 117 = .ok (.if_icmp .le 14, 3) := by decide +kernel
theorem dX5_takeNumber_120 : decode cX5_takeNumber 120 = .ok (.aload_n 0, 1) := by decide +kernel
theorem dX5_takeNumber_121 : decode cX5_takeNumber 121 = .ok (.aload_n 0, 1) := by decide +kernel
theorem dX5_takeNumber_122 : decode cX5_takeNumber 122 = .ok (.getfield 22, 3) := by decide +kernel
theorem dX5_takeNumber_125 : decode cX5_takeNumber 125 = .ok (.iconst 2, 1) := by decide +kernel
theorem dX5_takeNumber_126 : decode cX5_takeNumber 126 = .ok (.invokevirtual 38, 3) := by decide +kernel
theorem dX5_takeNumber_129 : decode cX5_takeNumber 129 = .ok (.iload_n 1, 1) := by decide +kernel
theorem dX5_takeNumber_130 : decode cX5_takeNumber 130 = .ok (.ireturn, 1) := by decide +kernel
theorem dX5_takeNumber_131 : decode cX5_takeNumber 131 = .ok (.iload_n 3, 1) := by decide +kernel
theorem dX5_takeNumber_132 : decode cX5_takeNumber 132 = .ok (.ireturn, 1) := by decide +kernel
theorem dX5_isSound_0 : decode cX5_isSound 0 = .ok (.aload_n 0, 1) := by decide +kernel
theorem dX5_isSound_1 : decode cX5_isSound 1 = .ok (.getfield 31, 3) := by decide +kernel
theorem dX5_isSound_4 : decode cX5_isSound 4 = .ok (.ifCond .ne 7, 3) := by decide +kernel
theorem dX5_isSound_7 : decode cX5_isSound 7 = .ok (.iconst 1, 1) := by decide +kernel
theorem dX5_isSound_8 : decode cX5_isSound 8 = .ok (.goto 4, 3) := by decide +kernel
theorem dX5_isSound_11 : decode cX5_isSound 11 = .ok (.iconst 0, 1) := by decide +kernel
theorem dX5_isSound_12 : decode cX5_isSound 12 = .ok (.ireturn, 1) := by decide +kernel
theorem dX1_readHead_0 : decode cX1_readHead 0 = .ok (.aload_n 1, 1) := by decide +kernel
theorem dX1_readHead_1 : decode cX1_readHead 1 = .ok (.iconst 1, 1) := by decide +kernel
theorem dX1_readHead_2 : decode cX1_readHead 2 = .ok (.invokevirtual 51, 3) := by decide +kernel
theorem dX1_readHead_5 : decode cX1_readHead 5 = .ok (.aload_n 1, 1) := by decide +kernel
theorem dX1_readHead_6 : decode cX1_readHead 6 = .ok (.iconst 1, 1) := by decide +kernel
theorem dX1_readHead_7 : decode cX1_readHead 7 = .ok (.bipush 6, 2) := by decide +kernel
theorem dX1_readHead_9 : decode cX1_readHead 9 = .ok (.invokevirtual 54, 3) := by decide +kernel
theorem dX1_readHead_12 : decode cX1_readHead 12 = .ok (.istore_n 2, 1) := by decide +kernel
theorem dX1_readHead_13 : decode cX1_readHead 13 = .ok (.iload_n 2, 1) := by decide +kernel
theorem dX1_readHead_14 : decode cX1_readHead 14 = .ok (.ifCond .le 10, 3) := by decide +kernel
theorem dX1_readHead_17 : decode cX1_readHead 17 = .ok (.bipush 40, 2) := by decide +kernel
theorem dX1_readHead_19 : decode cX1_readHead 19 = .ok (.iload_n 2, 1) := by decide +kernel
theorem dX1_readHead_20 : decode cX1_readHead 20 = .ok (.idiv, 1) := by decide +kernel
theorem dX1_readHead_21 : decode cX1_readHead 21 = .ok (.goto 4, 3) := by decide +kernel
theorem dX1_readHead_24 : decode cX1_readHead 24 = .ok (.iconst 0, 1) := by decide +kernel
theorem dX1_readHead_25 : decode cX1_readHead 25 = .ok (.istore_n 3, 1) := by decide +kernel
theorem dX1_readHead_26 : decode cX1_readHead 26 = .ok (.aload_n 1, 1) := by decide +kernel
theorem dX1_readHead_27 : decode cX1_readHead 27 = .ok (.iconst 1, 1) := by decide +kernel
theorem dX1_readHead_28 : decode cX1_readHead 28 = .ok (.bipush 10, 2) := by decide +kernel
theorem dX1_readHead_30 : decode cX1_readHead 30 = .ok (.iload_n 3, 1) := by decide +kernel
theorem dX1_readHead_31 : decode cX1_readHead 31 = .ok (.invokestatic 58, 3) := by decide +kernel
theorem dX1_readHead_34 : decode cX1_readHead 34 = .ok (.invokevirtual 54, 3) := by decide +kernel
theorem dX1_readHead_37 : decode cX1_readHead 37 = .ok (.istore 4, 2) := by decide +kernel
theorem dX1_readHead_39 : decode cX1_readHead 39 = .ok (.aload_n 1, 1) := by decide +kernel
theorem dX1_readHead_40 : decode cX1_readHead 40 = .ok (.iconst 2, 1) := by decide +kernel
theorem dX1_readHead_41 : decode cX1_readHead 41 = .ok (.invokevirtual 51, 3) := by decide +kernel
theorem dX1_readHead_44 : decode cX1_readHead 44 = .ok (.aload_n 1, 1) := by decide +kernel
theorem dX1_readHead_45 : decode cX1_readHead 45 = .ok (.iconst 1, 1) := by decide +kernel
theorem dX1_readHead_46 : decode cX1_readHead 46 = .ok (.bipush 99, 2) := by decide +kernel
theorem dX1_readHead_48 : decode cX1_readHead 48 = .ok (.invokevirtual 54, 3) := by decide +kernel
theorem dX1_readHead_51 : decode cX1_readHead 51 = .ok (.istore 5, 2) := by decide +kernel
theorem dX1_readHead_53 : decode cX1_readHead 53 = .ok (.aload_n 1, 1) := by decide +kernel
theorem dX1_readHead_54 : decode cX1_readHead 54 = .ok (.invokevirtual 25, 3) := by decide +kernel
theorem dX1_readHead_57 : decode cX1_readHead 57 = .ok (.ifCond .eq 20, 3) := by decide +kernel
theorem dX1_readHead_60 : decode cX1_readHead 60 = .ok (.aload_n 0, 1) := by decide +kernel
theorem dX1_readHead_61 : decode cX1_readHead 61 = .ok (.iload_n 2, 1) := by decide +kernel
theorem dX1_readHead_62 : decode cX1_readHead 62 = .ok (.putfield 63, 3) := by decide +kernel
theorem dX1_readHead_65 : decode cX1_readHead 65 = .ok (.aload_n 0, 1) := by decide +kernel
theorem dX1_readHead_66 : decode cX1_readHead 66 = .ok (.iload 4, 2) := by decide +kernel
theorem dX1_readHead_68 : decode cX1_readHead 68 = .ok (.putfield 66, 3) := by decide +kernel
theorem dX1_readHead_71 : decode cX1_readHead 71 = .ok (.aload_n 0, 1) := by decide +kernel
theorem dX1_readHead_72 : decode cX1_readHead 72 = .ok (.iload 5, 2) := by decide +kernel
theorem dX1_readHead_74 : decode cX1_readHead 74 = .ok (.putfield 69, 3) := by decide +kernel
theorem dX1_readHead_77 : decode cX1_readHead 77 = .ok (.return_, 1) := by decide +kernel
theorem dX5_takeByte_0 : decode cX5_takeByte 0 = .ok (.aload_n 0, 1) := by decide +kernel
theorem dX5_takeByte_1 : decode cX5_takeByte 1 = .ok (.invokevirtual 34, 3) := by decide +kernel
theorem dX5_takeByte_4 : decode cX5_takeByte 4 = .ok (.iload_n 1, 1) := by decide +kernel
theorem dX5_takeByte_5 : decode cX5_takeByte 5 = .ok (.if_icmp .ne 16, 3) := by decide +kernel
theorem dX5_takeByte_8 : decode cX5_takeByte 8 = .ok (.aload_n 0, 1) := by decide +kernel
theorem dX5_takeByte_9 : decode cX5_takeByte 9 = .ok (.dup, 1) := by decide +kernel
theorem dX5_takeByte_10 : decode cX5_takeByte 10 = .ok (.getfield 19, 3) := by decide +kernel
theorem dX5_takeByte_13 : decode cX5_takeByte 13 = .ok (.iconst 1, 1) := by decide +kernel
theorem dX5_takeByte_14 : decode cX5_takeByte 14 = .ok (.iadd, 1) := by decide +kernel
theorem dX5_takeByte_15 : decode cX5_takeByte 15 = .ok (.putfield 19, 3) := by decide +kernel
theorem dX5_takeByte_18 : decode cX5_takeByte 18 = .ok (.goto 12, 3) := by decide +kernel
theorem dX5_takeByte_21 : decode cX5_takeByte 21 = .ok (.aload_n 0, 1) := by decide +kernel
theorem dX5_takeByte_22 : decode cX5_takeByte 22 = .ok (.aload_n 0, 1) := by decide +kernel
theorem dX5_takeByte_23 : decode cX5_takeByte 23 = .ok (.getfield 19, 3) := by decide +kernel
theorem dX5_takeByte_26 : decode cX5_takeByte 26 = .ok (.iconst 1, 1) := by decide +kernel
theorem dX5_takeByte_27 : decode cX5_takeByte 27 = .ok (.invokevirtual 38, 3) := by decide +kernel
theorem dX5_takeByte_30 : decode cX5_takeByte 30 = .ok (.return_, 1) := by decide +kernel
theorem dX6_isSign_0 : decode cX6_isSign 0 = .ok (.iload_n 0, 1) := by decide +kernel
theorem dX6_isSign_1 : decode cX6_isSign 1 = .ok (.bipush 32, 2) := by decide +kernel
theorem dX6_isSign_3 : decode cX6_isSign 3 = .ok (.if_icmp .lt 19, 3) := by decide +kernel
theorem dX6_isSign_6 : decode cX6_isSign 6 = .ok (.iload_n 0, 1) := by decide +kernel
theorem dX6_isSign_7 : decode cX6_isSign 7 = .ok (.bipush 126, 2) := by decide +kernel
theorem dX6_isSign_9 : decode cX6_isSign 9 = .ok (.if_icmp .gt 13, 3) := by decide +kernel
theorem dX6_isSign_12 : decode cX6_isSign 12 = .ok (.iload_n 0, 1) := by decide +kernel
theorem dX6_isSign_13 : decode cX6_isSign 13 = .ok (.bipush 39, 2) := by decide +kernel
