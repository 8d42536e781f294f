theorem dX7_tell_41 : decode cX7_tell 41 = .ok (.invokevirtual 216, 3) := by decide +kernel
theorem dX7_tell_44 : decode cX7_tell 44 = .ok (.bipush (-2), 2) := by decide +kernel
theorem dX7_tell_46 : decode cX7_tell 46 = .ok (.aload_n 0, 1) := by decide +kernel
theorem dX7_tell_47 : decode cX7_tell 47 = .ok (.getfield 260, 3) := by decide +kernel
theorem dX7_tell_50 : decode cX7_tell 50 = .ok (.isub, 1) := by decide +kernel
theorem dX7_tell_51 : decode cX7_tell 51 = .ok (.ireturn, 1) := by decide +kernel
theorem dX7_tell_52 : decode cX7_tell 52 = .ok (.aload_n 0, 1) := by decide +kernel
theorem dX7_tell_53 : decode cX7_tell 53 = .ok (.iconst 0, 1) := by decide +kernel
theorem dX7_tell_54 : decode cX7_tell 54 = .ok (.putfield 124, 3) := by decide +kernel
theorem dX7_tell_57 : decode cX7_tell 57 = .ok (.aload_n 0, 1) := by decide +kernel
theorem dX7_tell_58 : decode cX7_tell 58 = .ok (.invokevirtual 50, 3) := by decide +kernel
theorem dX7_tell_61 : decode cX7_tell 61 = .ok (.ireturn, 1) := by decide +kernel
theorem dX7_isDone_0 : decode cX7_isDone 0 = .ok (.iload_n 1, 1) := by decide +kernel
theorem dX7_isDone_1 : decode cX7_isDone 1 = .ok (.ifCond .eq 13, 3) := by decide +kernel
theorem dX7_isDone_4 : decode cX7_isDone 4 = .ok (.aload_n 0, 1) := by decide +kernel
theorem dX7_isDone_5 : decode cX7_isDone 5 = .ok (.getfield 357, 3) := by decide +kernel
theorem dX7_isDone_8 : decode cX7_isDone 8 = .ok (.sipush 200, 3) := by decide +kernel
theorem dX7_isDone_11 : decode cX7_isDone 11 = .ok (.if_icmp .ne 5, 3) := by decide +kernel
theorem dX7_isDone_14 : decode cX7_isDone 14 = .ok (.iconst 0, 1) := by decide +kernel
theorem dX7_isDone_15 : decode cX7_isDone 15 = .ok (.ireturn, 1) := by decide +kernel
theorem dX7_isDone_16 : decode cX7_isDone 16 = .ok (.aload_n 0, 1) := by decide +kernel
theorem dX7_isDone_17 : decode cX7_isDone 17 = .ok (.dup, 1) := by decide +kernel
theorem dX7_isDone_18 : decode cX7_isDone 18 = .ok (.getfield 357, 3) := by decide +kernel
theorem dX7_isDone_21 : decode cX7_isDone 21 = .ok (.iconst 1, 1) := by decide +kernel
theorem dX7_isDone_22 : decode cX7_isDone 22 = .ok (.iadd, 1) := by decide +kernel
theorem dX7_isDone_23 : decode cX7_isDone 23 = .ok (.putfield 357, 3) := by decide +kernel
theorem dX7_isDone_26 : decode cX7_isDone 26 = .ok (.iconst 1, 1) := by decide +kernel
theorem dX7_isDone_27 : decode cX7_isDone 27 = .ok (.ireturn, 1) := by decide +kernel
theorem dX7_goesRow_0 : decode cX7_goesRow 0 = .ok (.aload_n 0, 1) := by decide +kernel
theorem dX7_goesRow_1 : decode cX7_goesRow 1 = .ok (.dup, 1) := by decide +kernel
theorem dX7_goesRow_2 : decode cX7_goesRow 2 = .ok (.getfield 254, 3) := by decide +kernel
theorem dX7_goesRow_5 : decode cX7_goesRow 5 = .ok (.iconst 3, 1) := by decide +kernel
theorem dX7_goesRow_6 : decode cX7_goesRow 6 = .ok (.iadd, 1) := by decide +kernel
theorem dX7_goesRow_7 : decode cX7_goesRow 7 = .ok (.putfield 254, 3) := by decide +kernel
theorem dX7_goesRow_10 : decode cX7_goesRow 10 = .ok (.aload_n 0, 1) := by decide +kernel
theorem dX7_goesRow_11 : decode cX7_goesRow 11 = .ok (.iconst 0, 1) := by decide +kernel
theorem dX7_goesRow_12 : decode cX7_goesRow 12 = .ok (.aload_n 0, 1) := by decide +kernel
theorem dX7_goesRow_13 : decode cX7_goesRow 13 = .ok (.invokevirtual 43, 3) := by decide +kernel
theorem dX7_goesRow_16 : decode cX7_goesRow 16 = .ok (.iconst 1, 1) := by decide +kernel
theorem dX7_goesRow_17 : decode cX7_goesRow 17 = .ok (.isub, 1) := by decide +kernel
theorem dX7_goesRow_18 : decode cX7_goesRow 18 = .ok (.invokevirtual 311, 3) := by decide +kernel
theorem dX7_goesRow_21 : decode cX7_goesRow 21 = .ok (.ifCond .ne 5, 3) := by decide +kernel
theorem dX7_goesRow_24 : decode cX7_goesRow 24 = .ok (.iconst 0, 1) := by decide +kernel
theorem dX7_goesRow_25 : decode cX7_goesRow 25 = .ok (.ireturn, 1) := by decide +kernel
theorem dX7_goesRow_26 : decode cX7_goesRow 26 = .ok (.aload_n 0, 1) := by decide +kernel
theorem dX7_goesRow_27 : decode cX7_goesRow 27 = .ok (.getfield 299, 3) := by decide +kernel
theorem dX7_goesRow_30 : decode cX7_goesRow 30 = .ok (.istore_n 2, 1) := by decide +kernel
theorem dX7_goesRow_31 : decode cX7_goesRow 31 = .ok (.aload_n 0, 1) := by decide +kernel
theorem dX7_goesRow_32 : decode cX7_goesRow 32 = .ok (.iconst 0, 1) := by decide +kernel
theorem dX7_goesRow_33 : decode cX7_goesRow 33 = .ok (.aload_n 0, 1) := by decide +kernel
theorem dX7_goesRow_34 : decode cX7_goesRow 34 = .ok (.invokevirtual 47, 3) := by decide +kernel
theorem dX7_goesRow_37 : decode cX7_goesRow 37 = .ok (.invokevirtual 314, 3) := by decide +kernel
theorem dX7_goesRow_40 : decode cX7_goesRow 40 = .ok (.ifCond .ne 5, 3) := by decide +kernel
theorem dX7_goesRow_43 : decode cX7_goesRow 43 = .ok (.iconst 0, 1) := by decide +kernel
theorem dX7_goesRow_44 : decode cX7_goesRow 44 = .ok (.ireturn, 1) := by decide +kernel
theorem dX7_goesRow_45 : decode cX7_goesRow 45 = .ok (.aload_n 0, 1) := by decide +kernel
theorem dX7_goesRow_46 : decode cX7_goesRow 46 = .ok (.iload_n 1, 1) := by decide +kernel
theorem dX7_goesRow_47 : decode cX7_goesRow 47 = .ok (.invokevirtual 360, 3) := by decide +kernel
theorem dX7_goesRow_50 : decode cX7_goesRow 50 = .ok (.ifCond .eq 18, 3) := by decide +kernel
theorem dX7_goesRow_53 : decode cX7_goesRow 53 = .ok (.aload_n 0, 1) := by decide +kernel
theorem dX7_goesRow_54 : decode cX7_goesRow 54 = .ok (.iload_n 2, 1) := by decide +kernel
theorem dX7_goesRow_55 : decode cX7_goesRow 55 = .ok (.aload_n 0, 1) := by decide +kernel
theorem dX7_goesRow_56 : decode cX7_goesRow 56 = .ok (.getfield 305, 3) := by decide +kernel
theorem dX7_goesRow_59 : decode cX7_goesRow 59 = .ok (.aload_n 0, 1) := by decide +kernel
theorem dX7_goesRow_60 : decode cX7_goesRow 60 = .ok (.getfield 308, 3) := by decide +kernel
theorem dX7_goesRow_63 : decode cX7_goesRow 63 = .ok (.iconst 1, 1) := by decide +kernel
theorem dX7_goesRow_64 : decode cX7_goesRow 64 = .ok (.invokevirtual 120, 3) := by decide +kernel
theorem dX7_goesRow_67 : decode cX7_goesRow 67 = .ok (.istore_n 3, 1) := by decide +kernel
theorem dX7_goesRow_68 : decode cX7_goesRow 68 = .ok (.iconst 1, 1) := by decide +kernel
theorem dX7_goesRow_69 : decode cX7_goesRow 69 = .ok (.ireturn, 1) := by decide +kernel
theorem dX7_goesScroll_0 : decode cX7_goesScroll 0 = .ok (.aload_n 0, 1) := by decide +kernel
theorem dX7_goesScroll_1 : decode cX7_goesScroll 1 = .ok (.dup, 1) := by decide +kernel
theorem dX7_goesScroll_2 : decode cX7_goesScroll 2 = .ok (.getfield 254, 3) := by decide +kernel
theorem dX7_goesScroll_5 : decode cX7_goesScroll 5 = .ok (.bipush 6, 2) := by decide +kernel
theorem dX7_goesScroll_7 : decode cX7_goesScroll 7 = .ok (.iadd, 1) := by decide +kernel
theorem dX7_goesScroll_8 : decode cX7_goesScroll 8 = .ok (.putfield 254, 3) := by decide +kernel
theorem dX7_goesScroll_11 : decode cX7_goesScroll 11 = .ok (.aload_n 0, 1) := by decide +kernel
theorem dX7_goesScroll_12 : decode cX7_goesScroll 12 = .ok (.iconst 0, 1) := by decide +kernel
theorem dX7_goesScroll_13 : decode cX7_goesScroll 13 = .ok (.aload_n 0, 1) := by decide +kernel
theorem dX7_goesScroll_14 : decode cX7_goesScroll 14 = .ok (.invokevirtual 47, 3) := by decide +kernel
theorem dX7_goesScroll_17 : decode cX7_goesScroll 17 = .ok (.invokevirtual 314, 3) := by decide +kernel
theorem dX7_goesScroll_20 : decode cX7_goesScroll 20 = .ok (.ifCond .ne 5, 3) := by decide +kernel
theorem dX7_goesScroll_23 : decode cX7_goesScroll 23 = .ok (.iconst 0, 1) := by decide +kernel
theorem dX7_goesScroll_24 : decode cX7_goesScroll 24 = .ok (.ireturn, 1) := by decide +kernel
theorem dX7_goesScroll_25 : decode cX7_goesScroll 25 = .ok (.aload_n 0, 1) := by decide +kernel
theorem dX7_goesScroll_26 : decode cX7_goesScroll 26 = .ok (.iload_n 1, 1) := by decide +kernel
theorem dX7_goesScroll_27 : decode cX7_goesScroll 27 = .ok (.invokevirtual 360, 3) := by decide +kernel
theorem dX7_goesScroll_30 : decode cX7_goesScroll 30 = .ok (.ifCond .eq 16, 3) := by decide +kernel
theorem dX7_goesScroll_33 : decode cX7_goesScroll 33 = .ok (.aload_n 0, 1) := by decide +kernel
theorem dX7_goesScroll_34 : decode cX7_goesScroll 34 = .ok (.aload_n 0, 1) := by decide +kernel
theorem dX7_goesScroll_35 : decode cX7_goesScroll 35 = .ok (.getfield 305, 3) := by decide +kernel
theorem dX7_goesScroll_38 : decode cX7_goesScroll 38 = .ok (.aload_n 0, 1) := by decide +kernel
theorem dX7_goesScroll_39 : decode cX7_goesScroll 39 = .ok (.getfield 308, 3) := by decide +kernel
theorem dX7_goesScroll_42 : decode cX7_goesScroll 42 = .ok (.invokevirtual 151, 3) := by decide +kernel
theorem dX7_goesScroll_45 : decode cX7_goesScroll 45 = .ok (.istore_n 2, 1) := by decide +kernel
theorem dX7_goesScroll_46 : decode cX7_goesScroll 46 = .ok (.iconst 1, 1) := by decide +kernel
theorem dX7_goesScroll_47 : decode cX7_goesScroll 47 = .ok (.ireturn, 1) := by decide +kernel
theorem dX7_goesHome_0 : decode cX7_goesHome 0 = .ok (.aload_n 0, 1) := by decide +kernel
theorem dX7_goesHome_1 : decode cX7_goesHome 1 = .ok (.dup, 1) := by decide +kernel
theorem dX7_goesHome_2 : decode cX7_goesHome 2 = .ok (.getfield 254, 3) := by decide +kernel
theorem dX7_goesHome_5 : decode cX7_goesHome 5 = .ok (.iconst 4, 1) := by decide +kernel
theorem dX7_goesHome_6 : decode cX7_goesHome 6 = .ok (.iadd, 1) := by decide +kernel
theorem dX7_goesHome_7 : decode cX7_goesHome 7 = .ok (.putfield 254, 3) := by decide +kernel
theorem dX7_goesHome_10 : decode cX7_goesHome 10 = .ok (.aload_n 0, 1) := by decide +kernel
theorem dX7_goesHome_11 : decode cX7_goesHome 11 = .ok (.iconst 0, 1) := by decide +kernel
theorem dX7_goesHome_12 : decode cX7_goesHome 12 = .ok (.aload_n 0, 1) := by decide +kernel
theorem dX7_goesHome_13 : decode cX7_goesHome 13 = .ok (.invokevirtual 43, 3) := by decide +kernel
theorem dX7_goesHome_16 : decode cX7_goesHome 16 = .ok (.iconst 1, 1) := by decide +kernel
theorem dX7_goesHome_17 : decode cX7_goesHome 17 = .ok (.isub, 1) := by decide +kernel
theorem dX7_goesHome_18 : decode cX7_goesHome 18 = .ok (.invokevirtual 311, 3) := by decide +kernel
theorem dX7_goesHome_21 : decode cX7_goesHome 21 = .ok (.ifCond .ne 5, 3) := by decide +kernel
theorem dX7_goesHome_24 : decode cX7_goesHome 24 = .ok (.iconst 0, 1) := by decide +kernel
theorem dX7_goesHome_25 : decode cX7_goesHome 25 = .ok (.ireturn, 1) := by decide +kernel
theorem dX7_goesHome_26 : decode cX7_goesHome 26 = .ok (.aload_n 0, 1) := by decide +kernel
theorem dX7_goesHome_27 : decode cX7_goesHome 27 = .ok (.iload_n 1, 1) := by decide +kernel
theorem dX7_goesHome_28 : decode cX7_goesHome 28 = .ok (.invokevirtual 360, 3) := by decide +kernel
theorem dX7_goesHome_31 : decode cX7_goesHome 31 = .ok (.ifCond .ne 5, 3) := by decide +kernel
theorem dX7_goesHome_34 : decode cX7_goesHome 34 = .ok (.iconst 1, 1) := by decide +kernel
theorem dX7_goesHome_35 : decode cX7_goesHome 35 = .ok (.ireturn, 1) := by decide +kernel
theorem dX7_goesHome_36 : decode cX7_goesHome 36 = .ok (.iconst 0, 1) := by decide +kernel
theorem dX7_goesHome_37 : decode cX7_goesHome 37 = .ok (.istore_n 2, 1) := by decide +kernel
theorem dX7_goesHome_38 : decode cX7_goesHome 38 = .ok (.iload_n 2, 1) := by decide +kernel
theorem dX7_goesHome_39 : decode cX7_goesHome 39 = .ok (.aload_n 0, 1) := by decide +kernel
theorem dX7_goesHome_40 : decode cX7_goesHome 40 = .ok (.invokevirtual 47, 3) := by decide +kernel
theorem dX7_goesHome_43 : decode cX7_goesHome 43 = .ok (.if_icmp .ge 26, 3) := by decide +kernel
theorem dX7_goesHome_46 : decode cX7_goesHome 46 = .ok (.aload_n 0, 1) := by decide +kernel
theorem dX7_goesHome_47 : decode cX7_goesHome 47 = .ok (.aload_n 0, 1) := by decide +kernel
theorem dX7_goesHome_48 : decode cX7_goesHome 48 = .ok (.invokevirtual 47, 3) := by decide +kernel
theorem dX7_goesHome_51 : decode cX7_goesHome 51 = .ok (.aload_n 0, 1) := by decide +kernel
theorem dX7_goesHome_52 : decode cX7_goesHome 52 = .ok (.getfield 299, 3) := by decide +kernel
theorem dX7_goesHome_55 : decode cX7_goesHome 55 = .ok (.imul, 1) := by decide +kernel
theorem dX7_goesHome_56 : decode cX7_goesHome 56 = .ok (.iload_n 2, 1) := by decide +kernel
theorem dX7_goesHome_57 : decode cX7_goesHome 57 = .ok (.iadd, 1) := by decide +kernel
theorem dX7_goesHome_58 : decode cX7_goesHome 58 = .ok (.iconst 0, 1) := by decide +kernel
theorem dX7_goesHome_59 : decode cX7_goesHome 59 = .ok (.iconst 0, 1) := by decide +kernel
theorem dX7_goesHome_60 : decode cX7_goesHome 60 = .ok (.invokevirtual 116, 3) := by decide +kernel
theorem dX7_goesHome_63 : decode cX7_goesHome 63 = .ok (.iinc 2 1, 3) := by decide +kernel
theorem dX7_goesHome_66 : decode cX7_goesHome 66 = .ok (.goto (-28), 3) := by decide +kernel
theorem dX7_goesHome_69 : decode cX7_goesHome 69 = .ok (.iconst 1, 1) := by decide +kernel
theorem dX7_goesHome_70 : decode cX7_goesHome 70 = .ok (.ireturn, 1) := by decide +kernel
theorem dX7_goesWait_0 : decode cX7_goesWait 0 = .ok (.aload_n 0, 1) := by decide +kernel
theorem dX7_goesWait_1 : decode cX7_goesWait 1 = .ok (.dup, 1) := by decide +kernel
theorem dX7_goesWait_2 : decode cX7_goesWait 2 = .ok (.getfield 254, 3) := by decide +kernel
theorem dX7_goesWait_5 : decode cX7_goesWait 5 = .ok (.iconst 4, 1) := by decide +kernel
theorem dX7_goesWait_6 : decode cX7_goesWait 6 = .ok (.iadd, 1) := by decide +kernel
theorem dX7_goesWait_7 : decode cX7_goesWait 7 = .ok (.putfield 254, 3) := by decide +kernel
theorem dX7_goesWait_10 : decode cX7_goesWait 10 = .ok (.aload_n 0, 1) := by decide +kernel
theorem dX7_goesWait_11 : decode cX7_goesWait 11 = .ok (.iconst 1, 1) := by decide +kernel
theorem dX7_goesWait_12 : decode cX7_goesWait 12 = .ok (.bipush 99, 2) := by decide +kernel
theorem dX7_goesWait_14 : decode cX7_goesWait 14 = .ok (.invokevirtual 311, 3) := by decide +kernel
theorem dX7_goesWait_17 : decode cX7_goesWait 17 = .ok (.ifCond .ne 5, 3) := by decide +kernel
theorem dX7_goesWait_20 : decode cX7_goesWait 20 = .ok (.iconst 0, 1) := by decide +kernel
theorem dX7_goesWait_21 : decode cX7_goesWait 21 = .ok (.ireturn, 1) := by decide +kernel
theorem dX7_goesWait_22 : decode cX7_goesWait 22 = .ok (.aload_n 0, 1) := by decide +kernel
theorem dX7_goesWait_23 : decode cX7_goesWait 23 = .ok (.iload_n 1, 1) := by decide +kernel
theorem dX7_goesWait_24 : decode cX7_goesWait 24 = .ok (.invokevirtual 360, 3) := by decide +kernel
theorem dX7_goesWait_27 : decode cX7_goesWait 27 = .ok (.ifCond .ne 5, 3) := by decide +kernel
theorem dX7_goesWait_30 : decode cX7_goesWait 30 = .ok (.iconst 1, 1) := by decide +kernel
theorem dX7_goesWait_31 : decode cX7_goesWait 31 = .ok (.ireturn, 1) := by decide +kernel
theorem dX7_goesWait_32 : decode cX7_goesWait 32 = .ok (.iconst 0, 1) := by decide +kernel
theorem dX7_goesWait_33 : decode cX7_goesWait 33 = .ok (.istore_n 2, 1) := by decide +kernel
theorem dX7_goesWait_34 : decode cX7_goesWait 34 = .ok (.iload_n 2, 1) := by decide +kernel
theorem dX7_goesWait_35 : decode cX7_goesWait 35 = .ok (.aload_n 0, 1) := by decide +kernel
theorem dX7_goesWait_36 : decode cX7_goesWait 36 = .ok (.getfield 299, 3) := by decide +kernel
theorem dX7_goesWait_39 : decode cX7_goesWait 39 = .ok (.if_icmp .ge 14, 3) := by decide +kernel
theorem dX7_goesWait_42 : decode cX7_goesWait 42 = .ok (.aload_n 0, 1) := by decide +kernel
theorem dX7_goesWait_43 : decode cX7_goesWait 43 = .ok (.invokevirtual 156, 3) := by decide +kernel
theorem dX7_goesWait_46 : decode cX7_goesWait 46 = .ok (.istore_n 3, 1) := by decide +kernel
theorem dX7_goesWait_47 : decode cX7_goesWait 47 = .ok (.iinc 2 1, 3) := by decide +kernel
theorem dX7_goesWait_50 : decode cX7_goesWait 50 = .ok (.goto (-16), 3) := by decide +kernel
theorem dX7_goesWait_53 : decode cX7_goesWait 53 = .ok (.iconst 1, 1) := by decide +kernel
theorem dX7_goesWait_54 : decode cX7_goesWait 54 = .ok (.ireturn, 1) := by decide +kernel
theorem dX7_goesSettle_0 : decode cX7_goesSettle 0 = .ok (.aload_n 0, 1) := by decide +kernel
theorem dX7_goesSettle_1 : decode cX7_goesSettle 1 = .ok (.dup, 1) := by decide +kernel
theorem dX7_goesSettle_2 : decode cX7_goesSettle 2 = .ok (.getfield 254, 3) := by decide +kernel
theorem dX7_goesSettle_5 : decode cX7_goesSettle 5 = .ok (.bipush 6, 2) := by decide +kernel
theorem dX7_goesSettle_7 : decode cX7_goesSettle 7 = .ok (.iadd, 1) := by decide +kernel
theorem dX7_goesSettle_8 : decode cX7_goesSettle 8 = .ok (.putfield 254, 3) := by decide +kernel
theorem dX7_goesSettle_11 : decode cX7_goesSettle 11 = .ok (.aload_n 0, 1) := by decide +kernel
theorem dX7_goesSettle_12 : decode cX7_goesSettle 12 = .ok (.iload_n 1, 1) := by decide +kernel
theorem dX7_goesSettle_13 : decode cX7_goesSettle 13 = .ok (.invokevirtual 360, 3) := by decide +kernel
theorem dX7_goesSettle_16 : decode cX7_goesSettle 16 = .ok (.ifCond .eq 8, 3) := by decide +kernel
theorem dX7_goesSettle_19 : decode cX7_goesSettle 19 = .ok (.aload_n 0, 1) := by decide +kernel
theorem dX7_goesSettle_20 : decode cX7_goesSettle 20 = .ok (.invokevirtual 159, 3) := by decide +kernel
theorem dX7_goesSettle_23 : decode cX7_goesSettle 23 = .ok (.istore_n 2, 1) := by decide +kernel
theorem dX7_goesSettle_24 : decode cX7_goesSettle 24 = .ok (.iconst 1, 1) := by decide +kernel
theorem dX7_goesSettle_25 : decode cX7_goesSettle 25 = .ok (.ireturn, 1) := by decide +kernel
theorem dX7_goesLose_0 : decode cX7_goesLose 0 = .ok (.aload_n 0, 1) := by decide +kernel
theorem dX7_goesLose_1 : decode cX7_goesLose 1 = .ok (.invokevirtual 341, 3) := by decide +kernel
theorem dX7_goesLose_4 : decode cX7_goesLose 4 = .ok (.ifCond .ne 5, 3) := by decide +kernel
theorem dX7_goesLose_7 : decode cX7_goesLose 7 = .ok (.iconst 0, 1) := by decide +kernel
theorem dX7_goesLose_8 : decode cX7_goesLose 8 = .ok (.ireturn, 1) := by decide +kernel
theorem dX7_goesLose_9 : decode cX7_goesLose 9 = .ok (.aload_n 0, 1) := by decide +kernel
theorem dX7_goesLose_10 : decode cX7_goesLose 10 = .ok (.iload_n 1, 1) := by decide +kernel
theorem dX7_goesLose_11 : decode cX7_goesLose 11 = .ok (.invokevirtual 360, 3) := by decide +kernel
theorem dX7_goesLose_14 : decode cX7_goesLose 14 = .ok (.ifCond .eq 17, 3) := by decide +kernel
theorem dX7_goesLose_17 : decode cX7_goesLose 17 = .ok (.aload_n 0, 1) := by decide +kernel
theorem dX7_goesLose_18 : decode cX7_goesLose 18 = .ok (.aload_n 0, 1) := by decide +kernel
theorem dX7_goesLose_19 : decode cX7_goesLose 19 = .ok (.getfield 317, 3) := by decide +kernel
theorem dX7_goesLose_22 : decode cX7_goesLose 22 = .ok (.iconst 4, 1) := by decide +kernel
theorem dX7_goesLose_23 : decode cX7_goesLose 23 = .ok (.aload_n 0, 1) := by decide +kernel
theorem dX7_goesLose_24 : decode cX7_goesLose 24 = .ok (.getfield 299, 3) := by decide +kernel
theorem dX7_goesLose_27 : decode cX7_goesLose 27 = .ok (.i2l, 1) := by decide +kernel
theorem dX7_goesLose_28 : decode cX7_goesLose 28 = .ok (.invokevirtual 78, 3) := by decide +kernel
theorem dX7_goesLose_31 : decode cX7_goesLose 31 = .ok (.iconst 1, 1) := by decide +kernel
theorem dX7_goesLose_32 : decode cX7_goesLose 32 = .ok (.ireturn, 1) := by decide +kernel
theorem dX7_goesOne_0 : decode cX7_goesOne 0 = .ok (.aload_n 0, 1) := by decide +kernel
theorem dX7_goesOne_1 : decode cX7_goesOne 1 = .ok (.ldc_w 328, 3) := by decide +kernel
theorem dX7_goesOne_4 : decode cX7_goesOne 4 = .ok (.invokevirtual 279, 3) := by decide +kernel
theorem dX7_goesOne_7 : decode cX7_goesOne 7 = .ok (.ifCond .eq 9, 3) := by decide +kernel
theorem dX7_goesOne_10 : decode cX7_goesOne 10 = .ok (.aload_n 0, 1) := by decide +kernel
theorem dX7_goesOne_11 : decode cX7_goesOne 11 = .ok (.iload_n 1, 1) := by decide +kernel
theorem dX7_goesOne_12 : decode cX7_goesOne 12 = .ok (.invokevirtual 370, 3) := by decide +kernel
theorem dX7_goesOne_15 : decode cX7_goesOne 15 = .ok (.ireturn, 1) := by decide +kernel
theorem dX7_goesOne_16 : decode cX7_goesOne 16 = .ok (.aload_n 0, 1) := by decide +kernel
theorem dX7_goesOne_17 : decode cX7_goesOne 17 = .ok (.ldc_w 373, 3) := by decide +kernel
theorem dX7_goesOne_20 : decode cX7_goesOne 20 = .ok (.invokevirtual 279, 3) := by decide +kernel
theorem dX7_goesOne_23 : decode cX7_goesOne 23 = .ok (.ifCond .eq 9, 3) := by decide +kernel
theorem dX7_goesOne_26 : decode cX7_goesOne 26 = .ok (.aload_n 0, 1) := by decide +kernel
theorem dX7_goesOne_27 : decode cX7_goesOne 27 = .ok (.iload_n 1, 1) := by decide +kernel
theorem dX7_goesOne_28 : decode cX7_goesOne 28 = .ok (.invokevirtual 375, 3) := by decide +kernel
theorem dX7_goesOne_31 : decode cX7_goesOne 31 = .ok (.ireturn, 1) := by decide +kernel
theorem dX7_goesOne_32 : decode cX7_goesOne 32 = .ok (.aload_n 0, 1) := by decide +kernel
theorem dX7_goesOne_33 : decode cX7_goesOne 33 = .ok (.ldc_w 378, 3) := by decide +kernel
theorem dX7_goesOne_36 : decode cX7_goesOne 36 = .ok (.invokevirtual 279, 3) := by decide +kernel
theorem dX7_goesOne_39 : decode cX7_goesOne 39 = .ok (.ifCond .eq 9, 3) := by decide +kernel
theorem dX7_goesOne_42 : decode cX7_goesOne 42 = .ok (.aload_n 0, 1) := by decide +kernel
theorem dX7_goesOne_43 : decode cX7_goesOne 43 = .ok (.iload_n 1, 1) := by decide +kernel
theorem dX7_goesOne_44 : decode cX7_goesOne 44 = .ok (.invokevirtual 380, 3) := by decide +kernel
theorem dX7_goesOne_47 : decode cX7_goesOne 47 = .ok (.ireturn, 1) := by decide +kernel
theorem dX7_goesOne_48 : decode cX7_goesOne 48 = .ok (.aload_n 0, 1) := by decide +kernel
theorem dX7_goesOne_49 : decode cX7_goesOne 49 = .ok (.ldc_w 383, 3) := by decide +kernel
theorem dX7_goesOne_52 : decode cX7_goesOne 52 = .ok (.invokevirtual 279, 3) := by decide +kernel
theorem dX7_goesOne_55 : decode cX7_goesOne 55 = .ok (.ifCond .eq 9, 3) := by decide +kernel
theorem dX7_goesOne_58 : decode cX7_goesOne 58 = .ok (.aload_n 0, 1) := by decide +kernel
theorem dX7_goesOne_59 : decode cX7_goesOne 59 = .ok (.iload_n 1, 1) := by decide +kernel
theorem dX7_goesOne_60 : decode cX7_goesOne 60 = .ok (.invokevirtual 385, 3) := by decide +kernel
theorem dX7_goesOne_63 : decode cX7_goesOne 63 = .ok (.ireturn, 1) := by decide +kernel
theorem dX7_goesOne_64 : decode cX7_goesOne 64 = .ok (.aload_n 0, 1) := by decide +kernel
theorem dX7_goesOne_65 : decode cX7_goesOne 65 = .ok (.ldc_w 388, 3) := by decide +kernel
theorem dX7_goesOne_68 : decode cX7_goesOne 68 = .ok (.invokevirtual 279, 3) := by decide +kernel
theorem dX7_goesOne_71 : decode cX7_goesOne 71 = .ok (.ifCond .eq 9, 3) := by decide +kernel
theorem dX7_goesOne_74 : decode cX7_goesOne 74 = .ok (.aload_n 0, 1) := by decide +kernel
theorem dX7_goesOne_75 : decode cX7_goesOne 75 = .ok (.iload_n 1, 1) := by decide +kernel
theorem dX7_goesOne_76 : decode cX7_goesOne 76 = .ok (.invokevirtual 390, 3) := by decide +kernel
theorem dX7_goesOne_79 : decode cX7_goesOne 79 = .ok (.ireturn, 1) := by decide +kernel
theorem dX7_goesOne_80 : decode cX7_goesOne 80 = .ok (.aload_n 0, 1) := by decide +kernel
theorem dX7_goesOne_81 : decode cX7_goesOne 81 = .ok (.ldc_w 330, 3) := by decide +kernel
theorem dX7_goesOne_84 : decode cX7_goesOne 84 = .ok (.invokevirtual 279, 3) := by decide +kernel
theorem dX7_goesOne_87 : decode cX7_goesOne 87 = .ok (.ifCond .eq 9, 3) := by decide +kernel
theorem dX7_goesOne_90 : decode cX7_goesOne 90 = .ok (.aload_n 0, 1) := by decide +kernel
theorem dX7_goesOne_91 : decode cX7_goesOne 91 = .ok (.iload_n 1, 1) := by decide +kernel
theorem dX7_goesOne_92 : decode cX7_goesOne 92 = .ok (.invokevirtual 393, 3) := by decide +kernel
theorem dX7_goesOne_95 : decode cX7_goesOne 95 = .ok (.ireturn, 1) := by decide +kernel
theorem dX7_goesOne_96 : decode cX7_goesOne 96 = .ok (.aload_n 0, 1) := by decide +kernel
theorem dX7_goesOne_97 : decode cX7_goesOne 97 = .ok (.ldc_w 396, 3) := by decide +kernel
theorem dX7_goesOne_100 : decode cX7_goesOne 100 = .ok (.invokevirtual 279, 3) := by decide +kernel
theorem dX7_goesOne_103 : decode cX7_goesOne 103 = .ok (.ifCond .eq 11, 3) := by decide +kernel
theorem dX7_goesOne_106 : decode cX7_goesOne 106 = .ok (.aload_n 0, 1) := by decide +kernel
theorem dX7_goesOne_107 : decode cX7_goesOne 107 = .ok (.iload_n 1, 1) := by decide +kernel
theorem dX7_goesOne_108 : decode cX7_goesOne 108 = .ok (.invokevirtual 398, 3) := by decide +kernel
theorem dX7_goesOne_111 : decode cX7_goesOne 111 = .ok (.goto 12, 3) := by decide +kernel
theorem dX7_goesOne_114 : decode cX7_goesOne 114 = .ok (.aload_n 0, 1) := by decide +kernel
theorem dX7_goesOne_115 : decode cX7_goesOne 115 = .ok (.iconst 1, 1) := by decide +kernel
theorem dX7_goesOne_116 : decode cX7_goesOne 116 = .ok (.aload_n 0, 1) := by decide +kernel
theorem dX7_goesOne_117 : decode cX7_goesOne 117 = .ok (.getfield 254, 3) := by decide +kernel
theorem dX7_goesOne_120 : decode cX7_goesOne 120 = .ok (.invokevirtual 286, 3) := by decide +kernel
theorem dX7_goesOne_123 : decode cX7_goesOne 123 = .ok (.ireturn, 1) := by decide +kernel
theorem dX7_goesAll_0 : decode cX7_goesAll 0 = .ok (.aload_n 0, 1) := by decide +kernel
theorem dX7_goesAll_1 : decode cX7_goesAll 1 = .ok (.iload_n 1, 1) := by decide +kernel
theorem dX7_goesAll_2 : decode cX7_goesAll 2 = .ok (.invokevirtual 401, 3) := by decide +kernel
theorem dX7_goesAll_5 : decode cX7_goesAll 5 = .ok (.ifCond .ne 5, 3) := by decide +kernel
theorem dX7_goesAll_8 : decode cX7_goesAll 8 = .ok (.iconst 0, 1) := by decide +kernel
theorem dX7_goesAll_9 : decode cX7_goesAll 9 = .ok (.ireturn, 1) := by decide +kernel
theorem dX7_goesAll_10 : decode cX7_goesAll 10 = .ok (.aload_n 0, 1) := by decide +kernel
theorem dX7_goesAll_11 : decode cX7_goesAll 11 = .ok (.bipush 59, 2) := by decide +kernel
theorem dX7_goesAll_13 : decode cX7_goesAll 13 = .ok (.invokevirtual 289, 3) := by decide +kernel
theorem dX7_goesAll_16 : decode cX7_goesAll 16 = .ok (.ifCond .eq 13, 3) := by decide +kernel
theorem dX7_goesAll_19 : decode cX7_goesAll 19 = .ok (.aload_n 0, 1) := by decide +kernel
theorem dX7_goesAll_20 : decode cX7_goesAll 20 = .ok (.iload_n 1, 1) := by decide +kernel
theorem dX7_goesAll_21 : decode cX7_goesAll 21 = .ok (.invokevirtual 401, 3) := by decide +kernel
theorem dX7_goesAll_24 : decode cX7_goesAll 24 = .ok (.ifCond .ne (-14), 3) := by decide +kernel
theorem dX7_goesAll_27 : decode cX7_goesAll 27 = .ok (.iconst 0, 1) := by decide +kernel
theorem dX7_goesAll_28 : decode cX7_goesAll 28 = .ok (.ireturn, 1) := by decide +kernel
theorem dX7_goesAll_29 : decode cX7_goesAll 29 = .ok (.iconst 1, 1) := by decide +kernel
theorem dX7_goesAll_30 : decode cX7_goesAll 30 = .ok (.ireturn, 1) := by decide +kernel
theorem dX7_goesTimes_0 : decode cX7_goesTimes 0 = .ok (.aload_n 0, 1) := by decide +kernel
theorem dX7_goesTimes_1 : decode cX7_goesTimes 1 = .ok (.dup, 1) := by decide +kernel
theorem dX7_goesTimes_2 : decode cX7_goesTimes 2 = .ok (.getfield 254, 3) := by decide +kernel
theorem dX7_goesTimes_5 : decode cX7_goesTimes 5 = .ok (.iconst 5, 1) := by decide +kernel
theorem dX7_goesTimes_6 : decode cX7_goesTimes 6 = .ok (.iadd, 1) := by decide +kernel
theorem dX7_goesTimes_7 : decode cX7_goesTimes 7 = .ok (.putfield 254, 3) := by decide +kernel
theorem dX7_goesTimes_10 : decode cX7_goesTimes 10 = .ok (.aload_n 0, 1) := by decide +kernel
theorem dX7_goesTimes_11 : decode cX7_goesTimes 11 = .ok (.iconst 0, 1) := by decide +kernel
theorem dX7_goesTimes_12 : decode cX7_goesTimes 12 = .ok (.bipush 20, 2) := by decide +kernel
theorem dX7_goesTimes_14 : decode cX7_goesTimes 14 = .ok (.invokevirtual 311, 3) := by decide +kernel
theorem dX7_goesTimes_17 : decode cX7_goesTimes 17 = .ok (.ifCond .ne 5, 3) := by decide +kernel
theorem dX7_goesTimes_20 : decode cX7_goesTimes 20 = .ok (.iconst 0, 1) := by decide +kernel
theorem dX7_goesTimes_21 : decode cX7_goesTimes 21 = .ok (.ireturn, 1) := by decide +kernel
theorem dX7_goesTimes_22 : decode cX7_goesTimes 22 = .ok (.aload_n 0, 1) := by decide +kernel
theorem dX7_goesTimes_23 : decode cX7_goesTimes 23 = .ok (.getfield 299, 3) := by decide +kernel
theorem dX7_goesTimes_26 : decode cX7_goesTimes 26 = .ok (.istore_n 2, 1) := by decide +kernel
theorem dX7_goesTimes_27 : decode cX7_goesTimes 27 = .ok (.aload_n 0, 1) := by decide +kernel
theorem dX7_goesTimes_28 : decode cX7_goesTimes 28 = .ok (.invokevirtual 263, 3) := by decide +kernel
theorem dX7_goesTimes_31 : decode cX7_goesTimes 31 = .ok (.bipush 40, 2) := by decide +kernel
theorem dX7_goesTimes_33 : decode cX7_goesTimes 33 = .ok (.if_icmp .ne 21, 3) := by decide +kernel
theorem dX7_goesTimes_36 : decode cX7_goesTimes 36 = .ok (.aload_n 0, 1) := by decide +kernel
theorem dX7_goesTimes_37 : decode cX7_goesTimes 37 = .ok (.getfield 364, 3) := by decide +kernel
theorem dX7_goesTimes_40 : decode cX7_goesTimes 40 = .ok (.iconst 3, 1) := by decide +kernel
theorem dX7_goesTimes_41 : decode cX7_goesTimes 41 = .ok (.if_icmp .ne 13, 3) := by decide +kernel
theorem dX7_goesTimes_44 : decode cX7_goesTimes 44 = .ok (.aload_n 0, 1) := by decide +kernel
theorem dX7_goesTimes_45 : decode cX7_goesTimes 45 = .ok (.iconst 3, 1) := by decide +kernel
theorem dX7_goesTimes_46 : decode cX7_goesTimes 46 = .ok (.aload_n 0, 1) := by decide +kernel
theorem dX7_goesTimes_47 : decode cX7_goesTimes 47 = .ok (.getfield 254, 3) := by decide +kernel
theorem dX7_goesTimes_50 : decode cX7_goesTimes 50 = .ok (.invokevirtual 286, 3) := by decide +kernel
theorem dX7_goesTimes_53 : decode cX7_goesTimes 53 = .ok (.ireturn, 1) := by decide +kernel
theorem dX7_goesTimes_54 : decode cX7_goesTimes 54 = .ok (.aload_n 0, 1) := by decide +kernel
theorem dX7_goesTimes_55 : decode cX7_goesTimes 55 = .ok (.bipush 40, 2) := by decide +kernel
theorem dX7_goesTimes_57 : decode cX7_goesTimes 57 = .ok (.invokevirtual 302, 3) := by decide +kernel
theorem dX7_goesTimes_60 : decode cX7_goesTimes 60 = .ok (.ifCond .ne 5, 3) := by decide +kernel
theorem dX7_goesTimes_63 : decode cX7_goesTimes 63 = .ok (.iconst 0, 1) := by decide +kernel
theorem dX7_goesTimes_64 : decode cX7_goesTimes 64 = .ok (.ireturn, 1) := by decide +kernel
theorem dX7_goesTimes_65 : decode cX7_goesTimes 65 = .ok (.aload_n 0, 1) := by decide +kernel
theorem dX7_goesTimes_66 : decode cX7_goesTimes 66 = .ok (.iload_n 1, 1) := by decide +kernel
theorem dX7_goesTimes_67 : decode cX7_goesTimes 67 = .ok (.invokevirtual 360, 3) := by decide +kernel
theorem dX7_goesTimes_70 : decode cX7_goesTimes 70 = .ok (.istore_n 3, 1) := by decide +kernel
theorem dX7_goesTimes_71 : decode cX7_goesTimes 71 = .ok (.aload_n 0, 1) := by decide +kernel
theorem dX7_goesTimes_72 : decode cX7_goesTimes 72 = .ok (.getfield 254, 3) := by decide +kernel
theorem dX7_goesTimes_75 : decode cX7_goesTimes 75 = .ok (.istore 4, 2) := by decide +kernel
theorem dX7_goesTimes_77 : decode cX7_goesTimes 77 = .ok (.aload_n 0, 1) := by decide +kernel
theorem dX7_goesTimes_78 : decode cX7_goesTimes 78 = .ok (.dup, 1) := by decide +kernel
theorem dX7_goesTimes_79 : decode cX7_goesTimes 79 = .ok (.getfield 364, 3) := by decide +kernel
theorem dX7_goesTimes_82 : decode cX7_goesTimes 82 = .ok (.iconst 1, 1) := by decide +kernel
theorem dX7_goesTimes_83 : decode cX7_goesTimes 83 = .ok (.iadd, 1) := by decide +kernel
theorem dX7_goesTimes_84 : decode cX7_goesTimes 84 = .ok (.putfield 364, 3) := by decide +kernel
theorem dX7_goesTimes_87 : decode cX7_goesTimes 87 = .ok (.iconst 0, 1) := by decide +kernel
theorem dX7_goesTimes_88 : decode cX7_goesTimes 88 = .ok (.istore 5, 2) := by decide +kernel
theorem dX7_goesTimes_90 : decode cX7_goesTimes 90 = .ok (.iload 5, 2) := by decide +kernel
theorem dX7_goesTimes_92 : decode cX7_goesTimes 92 = .ok (.ifCond .eq 13, 3) := by decide +kernel
theorem dX7_goesTimes_95 : decode cX7_goesTimes 95 = .ok (.iload 5, 2) := by decide +kernel
theorem dX7_goesTimes_97 : decode cX7_goesTimes 97 = .ok (.iload_n 2, 1) := by decide +kernel
theorem dX7_goesTimes_98 : decode cX7_goesTimes 98 = .ok (.if_icmp .ge 43, 3) := by decide +kernel
theorem dX7_goesTimes_101 : decode cX7_goesTimes 101 = .ok (.iload_n 3, 1) := by decide +kernel
theorem dX7_goesTimes_102 : decode cX7_goesTimes 102 = .ok (.ifCond .eq 39, 3) := by decide +kernel
theorem dX7_goesTimes_105 : decode cX7_goesTimes 105 = .ok (.aload_n 0, 1) := by decide +kernel
theorem dX7_goesTimes_106 : decode cX7_goesTimes 106 = .ok (.iload 4, 2) := by decide +kernel
theorem dX7_goesTimes_108 : decode cX7_goesTimes 108 = .ok (.putfield 254, 3) := by decide +kernel
theorem dX7_goesTimes_111 : decode cX7_goesTimes 111 = .ok (.aload_n 0, 1) := by decide +kernel
theorem dX7_goesTimes_112 : decode cX7_goesTimes 112 = .ok (.iload_n 3, 1) := by decide +kernel
theorem dX7_goesTimes_113 : decode cX7_goesTimes 113 = .ok (.ifCond .eq 13, 3) := by decide +kernel
theorem dX7_goesTimes_116 : decode cX7_goesTimes 116 = .ok (.iload 5, 2) := by decide +kernel
theorem dX7_goesTimes_118 : decode cX7_goesTimes 118 = .ok (.iload_n 2, 1) := by decide +kernel
theorem dX7_goesTimes_119 : decode cX7_goesTimes 119 = .ok (.if_icmp .ge 7, 3) := by decide +kernel
theorem dX7_goesTimes_122 : decode cX7_goesTimes 122 = .ok (.iconst 1, 1) := by decide +kernel
theorem dX7_goesTimes_123 : decode cX7_goesTimes 123 = .ok (.goto 4, 3) := by decide +kernel
theorem dX7_goesTimes_126 : decode cX7_goesTimes 126 = .ok (.iconst 0, 1) := by decide +kernel
theorem dX7_goesTimes_127 : decode cX7_goesTimes 127 = .ok (.invokevirtual 367, 3) := by decide +kernel
theorem dX7_goesTimes_130 : decode cX7_goesTimes 130 = .ok (.ifCond .ne 5, 3) := by decide +kernel
theorem dX7_goesTimes_133 : decode cX7_goesTimes 133 = .ok (.iconst 0, 1) := by decide +kernel
theorem dX7_goesTimes_134 : decode cX7_goesTimes 134 = .ok (.ireturn, 1) := by decide +kernel
theorem dX7_goesTimes_135 : decode cX7_goesTimes 135 = .ok (.iinc 5 1, 3) := by decide +kernel
theorem dX7_goesTimes_138 : decode cX7_goesTimes 138 = .ok (.goto (-48), 3) := by decide +kernel
theorem dX7_goesTimes_141 : decode cX7_goesTimes 141 = .ok (.aload_n 0, 1) := by decide +kernel
theorem dX7_goesTimes_142 : decode cX7_goesTimes 142 = .ok (.bipush 41, 2) := by decide +kernel
theorem dX7_goesTimes_144 : decode cX7_goesTimes 144 = .ok (.invokevirtual 302, 3) := by decide +kernel
theorem dX7_goesTimes_147 : decode cX7_goesTimes 147 = .ok (.ifCond .ne 5, 3) := by decide +kernel
theorem dX7_goesTimes_150 : decode cX7_goesTimes 150 = .ok (.iconst 0, 1) := by decide +kernel
theorem dX7_goesTimes_151 : decode cX7_goesTimes 151 = .ok (.ireturn, 1) := by decide +kernel
theorem dX7_goesTimes_152 : decode cX7_goesTimes 152 = .ok (.aload_n 0, 1) := by decide +kernel
theorem dX7_goesTimes_153 : decode cX7_goesTimes 153 = .ok (.dup, 1) := by decide +kernel
theorem dX7_goesTimes_154 : decode cX7_goesTimes 154 = .ok (.getfield 364, 3) := by decide +kernel
theorem dX7_goesTimes_157 : decode cX7_goesTimes 157 = .ok (.iconst 1, 1) := by decide +kernel
theorem dX7_goesTimes_158 : decode cX7_goesTimes 158 = .ok (.isub, 1) := by decide +kernel
theorem dX7_goesTimes_159 : decode cX7_goesTimes 159 = .ok (.putfield 364, 3) := by decide +kernel
theorem dX7_goesTimes_162 : decode cX7_goesTimes 162 = .ok (.iconst 1, 1) := by decide +kernel
theorem dX7_goesTimes_163 : decode cX7_goesTimes 163 = .ok (.ireturn, 1) := by decide +kernel
theorem dX7_goesProgram_0 : decode cX7_goesProgram 0 = .ok (.aload_n 0, 1) := by decide +kernel
theorem dX7_goesProgram_1 : decode cX7_goesProgram 1 = .ok (.iconst 0, 1) := by decide +kernel
theorem dX7_goesProgram_2 : decode cX7_goesProgram 2 = .ok (.putfield 254, 3) := by decide +kernel
theorem dX7_goesProgram_5 : decode cX7_goesProgram 5 = .ok (.aload_n 0, 1) := by decide +kernel
theorem dX7_goesProgram_6 : decode cX7_goesProgram 6 = .ok (.iconst 0, 1) := by decide +kernel
theorem dX7_goesProgram_7 : decode cX7_goesProgram 7 = .ok (.putfield 364, 3) := by decide +kernel
theorem dX7_goesProgram_10 : decode cX7_goesProgram 10 = .ok (.aload_n 0, 1) := by decide +kernel
theorem dX7_goesProgram_11 : decode cX7_goesProgram 11 = .ok (.iconst 0, 1) := by decide +kernel
theorem dX7_goesProgram_12 : decode cX7_goesProgram 12 = .ok (.putfield 357, 3) := by decide +kernel
theorem dX7_goesProgram_15 : decode cX7_goesProgram 15 = .ok (.aload_n 0, 1) := by decide +kernel
theorem dX7_goesProgram_16 : decode cX7_goesProgram 16 = .ok (.iload_n 1, 1) := by decide +kernel
theorem dX7_goesProgram_17 : decode cX7_goesProgram 17 = .ok (.invokevirtual 367, 3) := by decide +kernel
theorem dX7_goesProgram_20 : decode cX7_goesProgram 20 = .ok (.ifCond .ne 5, 3) := by decide +kernel
theorem dX7_goesProgram_23 : decode cX7_goesProgram 23 = .ok (.iconst 0, 1) := by decide +kernel
theorem dX7_goesProgram_24 : decode cX7_goesProgram 24 = .ok (.ireturn, 1) := by decide +kernel
theorem dX7_goesProgram_25 : decode cX7_goesProgram 25 = .ok (.aload_n 0, 1) := by decide +kernel
theorem dX7_goesProgram_26 : decode cX7_goesProgram 26 = .ok (.invokevirtual 263, 3) := by decide +kernel
theorem dX7_goesProgram_29 : decode cX7_goesProgram 29 = .ok (.iconst (-1), 1) := by decide +kernel
theorem dX7_goesProgram_30 : decode cX7_goesProgram 30 = .ok (.if_icmp .eq 15, 3) := by decide +kernel
theorem dX7_goesProgram_33 : decode cX7_goesProgram 33 = .ok (.aload_n 0, 1) := by decide +kernel
theorem dX7_goesProgram_34 : decode cX7_goesProgram 34 = .ok (.iconst 1, 1) := by decide +kernel
theorem dX7_goesProgram_35 : decode cX7_goesProgram 35 = .ok (.aload_n 0, 1) := by decide +kernel
theorem dX7_goesProgram_36 : decode cX7_goesProgram 36 = .ok (.getfield 254, 3) := by decide +kernel
theorem dX7_goesProgram_39 : decode cX7_goesProgram 39 = .ok (.invokevirtual 286, 3) := by decide +kernel
theorem dX7_goesProgram_42 : decode cX7_goesProgram 42 = .ok (.ifCond .eq 7, 3) := by decide +kernel
theorem dX7_goesProgram_45 : decode cX7_goesProgram 45 = .ok (.iconst 1, 1) := by decide +kernel
theorem dX7_goesProgram_46 : decode cX7_goesProgram 46 = .ok (.goto 4, 3) := by decide +kernel
theorem dX7_goesProgram_49 : decode cX7_goesProgram 49 = .ok (.iconst 0, 1) := by decide +kernel
theorem dX7_goesProgram_50 : decode cX7_goesProgram 50 = .ok (.ireturn, 1) := by decide +kernel
theorem dX7_run_0 : decode cX7_run 0 = .ok (.aload_n 0, 1) := by decide +kernel
theorem dX7_run_1 : decode cX7_run 1 = .ok (.invokevirtual 147, 3) := by decide +kernel
theorem dX7_run_4 : decode cX7_run 4 = .ok (.ifCond .eq 15, 3) := by decide +kernel
theorem dX7_run_7 : decode cX7_run 7 = .ok (.aload_n 0, 1) := by decide +kernel
theorem dX7_run_8 : decode cX7_run 8 = .ok (.iconst 0, 1) := by decide +kernel
theorem dX7_run_9 : decode cX7_run 9 = .ok (.invokevirtual 404, 3) := by decide +kernel
theorem dX7_run_12 : decode cX7_run 12 = .ok (.ifCond .eq 7, 3) := by decide +kernel
theorem dX7_run_15 : decode cX7_run 15 = .ok (.iconst 1, 1) := by decide +kernel
theorem dX7_run_16 : decode cX7_run 16 = .ok (.goto 4, 3) := by decide +kernel
theorem dX7_run_19 : decode cX7_run 19 = .ok (.iconst 0, 1) := by decide +kernel
theorem dX7_run_20 : decode cX7_run 20 = .ok (.istore_n 1, 1) := by decide +kernel
theorem dX7_run_21 : decode cX7_run 21 = .ok (.iload_n 1, 1) := by decide +kernel
theorem dX7_run_22 : decode cX7_run 22 = .ok (.ifCond .eq 13, 3) := by decide +kernel
theorem dX7_run_25 : decode cX7_run 25 = .ok (.aload_n 0, 1) := by decide +kernel
theorem dX7_run_26 : decode cX7_run 26 = .ok (.invokevirtual 144, 3) := by decide +kernel
theorem dX7_run_29 : decode cX7_run 29 = .ok (.aload_n 0, 1) := by decide +kernel
theorem dX7_run_30 : decode cX7_run 30 = .ok (.iconst 1, 1) := by decide +kernel
theorem dX7_run_31 : decode cX7_run 31 = .ok (.invokevirtual 404, 3) := by decide +kernel
theorem dX7_run_34 : decode cX7_run 34 = .ok (.istore_n 1, 1) := by decide +kernel
theorem dX7_run_35 : decode cX7_run 35 = .ok (.aload_n 0, 1) := by decide +kernel
theorem dX7_run_36 : decode cX7_run 36 = .ok (.iconst 0, 1) := by decide +kernel
theorem dX7_run_37 : decode cX7_run 37 = .ok (.putfield 135, 3) := by decide +kernel
theorem dX7_run_40 : decode cX7_run 40 = .ok (.aload_n 0, 1) := by decide +kernel
theorem dX7_run_41 : decode cX7_run 41 = .ok (.invokevirtual 147, 3) := by decide +kernel
theorem dX7_run_44 : decode cX7_run 44 = .ok (.ifCond .ne 7, 3) := by decide +kernel
theorem dX7_run_47 : decode cX7_run 47 = .ok (.iconst (-1), 1) := by decide +kernel
theorem dX7_run_48 : decode cX7_run 48 = .ok (.goto 21, 3) := by decide +kernel
theorem dX7_run_51 : decode cX7_run 51 = .ok (.iload_n 1, 1) := by decide +kernel
theorem dX7_run_52 : decode cX7_run 52 = .ok (.ifCond .eq 10, 3) := by decide +kernel
theorem dX7_run_55 : decode cX7_run 55 = .ok (.aload_n 0, 1) := by decide +kernel
theorem dX7_run_56 : decode cX7_run 56 = .ok (.getfield 357, 3) := by decide +kernel
theorem dX7_run_59 : decode cX7_run 59 = .ok (.goto 10, 3) := by decide +kernel
theorem dX7_run_62 : decode cX7_run 62 = .ok (.bipush (-2), 2) := by decide +kernel
theorem dX7_run_64 : decode cX7_run 64 = .ok (.aload_n 0, 1) := by decide +kernel
theorem dX7_run_65 : decode cX7_run 65 = .ok (.getfield 260, 3) := by decide +kernel
theorem dX7_run_68 : decode cX7_run 68 = .ok (.isub, 1) := by decide +kernel
theorem dX7_run_69 : decode cX7_run 69 = .ok (.ireturn, 1) := by decide +kernel
theorem dX7_loudest_0 : decode cX7_loudest 0 = .ok (.aload_n 0, 1) := by decide +kernel
theorem dX7_loudest_1 : decode cX7_loudest 1 = .ok (.invokevirtual 147, 3) := by decide +kernel
theorem dX7_loudest_4 : decode cX7_loudest 4 = .ok (.ifCond .eq 13, 3) := by decide +kernel
theorem dX7_loudest_7 : decode cX7_loudest 7 = .ok (.iload_n 1, 1) := by decide +kernel
theorem dX7_loudest_8 : decode cX7_loudest 8 = .ok (.i2l, 1) := by decide +kernel
theorem dX7_loudest_9 : decode cX7_loudest 9 = .ok (.lconst 0, 1) := by decide +kernel
theorem dX7_loudest_10 : decode cX7_loudest 10 = .ok (.lconst 1, 1) := by decide +kernel
theorem dX7_loudest_11 : decode cX7_loudest 11 = .ok (.invokestatic 39, 3) := by decide +kernel
theorem dX7_loudest_14 : decode cX7_loudest 14 = .ok (.ifCond .ne 5, 3) := by decide +kernel
theorem dX7_loudest_17 : decode cX7_loudest 17 = .ok (.iconst (-1), 1) := by decide +kernel
theorem dX7_loudest_18 : decode cX7_loudest 18 = .ok (.ireturn, 1) := by decide +kernel
theorem dX7_loudest_19 : decode cX7_loudest 19 = .ok (.aload_n 0, 1) := by decide +kernel
theorem dX7_loudest_20 : decode cX7_loudest 20 = .ok (.invokevirtual 210, 3) := by decide +kernel
theorem dX7_loudest_23 : decode cX7_loudest 23 = .ok (.bipush (-2), 2) := by decide +kernel
theorem dX7_loudest_25 : decode cX7_loudest 25 = .ok (.istore_n 2, 1) := by decide +kernel
theorem dX7_loudest_26 : decode cX7_loudest 26 = .ok (.iconst 0, 1) := by decide +kernel
theorem dX7_loudest_27 : decode cX7_loudest 27 = .ok (.istore_n 3, 1) := by decide +kernel
theorem dX7_loudest_28 : decode cX7_loudest 28 = .ok (.iconst 0, 1) := by decide +kernel
theorem dX7_loudest_29 : decode cX7_loudest 29 = .ok (.istore 4, 2) := by decide +kernel
theorem dX7_loudest_31 : decode cX7_loudest 31 = .ok (.aload_n 0, 1) := by decide +kernel
theorem dX7_loudest_32 : decode cX7_loudest 32 = .ok (.invokevirtual 156, 3) := by decide +kernel
theorem dX7_loudest_35 : decode cX7_loudest 35 = .ok (.ifCond .le 28, 3) := by decide +kernel
theorem dX7_loudest_38 : decode cX7_loudest 38 = .ok (.aload_n 0, 1) := by decide +kernel
theorem dX7_loudest_39 : decode cX7_loudest 39 = .ok (.getfield 86, 3) := by decide +kernel
theorem dX7_loudest_42 : decode cX7_loudest 42 = .ok (.iload_n 3, 1) := by decide +kernel
theorem dX7_loudest_43 : decode cX7_loudest 43 = .ok (.if_icmp .gt 6, 3) := by decide +kernel
theorem dX7_loudest_46 : decode cX7_loudest 46 = .ok (.goto 11, 3) := by decide +kernel
theorem dX7_loudest_49 : decode cX7_loudest 49 = .ok (.iload 4, 2) := by decide +kernel
theorem dX7_loudest_51 : decode cX7_loudest 51 = .ok (.istore_n 2, 1) := by decide +kernel
theorem dX7_loudest_52 : decode cX7_loudest 52 = .ok (.aload_n 0, 1) := by decide +kernel
theorem dX7_loudest_53 : decode cX7_loudest 53 = .ok (.getfield 86, 3) := by decide +kernel
theorem dX7_loudest_56 : decode cX7_loudest 56 = .ok (.istore_n 3, 1) := by decide +kernel
theorem dX7_loudest_57 : decode cX7_loudest 57 = .ok (.iinc 4 1, 3) := by decide +kernel
theorem dX7_loudest_60 : decode cX7_loudest 60 = .ok (.goto (-29), 3) := by decide +kernel
theorem dX7_loudest_63 : decode cX7_loudest 63 = .ok (.aload_n 0, 1) := by decide +kernel
theorem dX7_loudest_64 : decode cX7_loudest 64 = .ok (.invokevirtual 216, 3) := by decide +kernel
theorem dX7_loudest_67 : decode cX7_loudest 67 = .ok (.iload_n 2, 1) := by decide +kernel
theorem dX7_loudest_68 : decode cX7_loudest 68 = .ok (.bipush (-2), 2) := by decide +kernel
theorem dX7_loudest_70 : decode cX7_loudest 70 = .ok (.if_icmp .eq 7, 3) := by decide +kernel
theorem dX7_loudest_73 : decode cX7_loudest 73 = .ok (.iload_n 1, 1) := by decide +kernel
theorem dX7_loudest_74 : decode cX7_loudest 74 = .ok (.ifCond .ne 7, 3) := by decide +kernel
theorem dX7_loudest_77 : decode cX7_loudest 77 = .ok (.iload_n 2, 1) := by decide +kernel
theorem dX7_loudest_78 : decode cX7_loudest 78 = .ok (.goto 6, 3) := by decide +kernel
theorem dX7_loudest_81 : decode cX7_loudest 81 = .ok (.iload_n 3, 1) := by decide +kernel
theorem dX7_loudest_82 : decode cX7_loudest 82 = .ok (.iload_n 3, 1) := by decide +kernel
theorem dX7_loudest_83 : decode cX7_loudest 83 = .ok (.imul, 1) := by decide +kernel
theorem dX7_loudest_84 : decode cX7_loudest 84 = .ok (.ireturn, 1) := by decide +kernel
theorem dX7_usual_0 : decode cX7_usual 0 = .ok (.aload_n 0, 1) := by decide +kernel
theorem dX7_usual_1 : decode cX7_usual 1 = .ok (.iload_n 1, 1) := by decide +kernel
theorem dX7_usual_2 : decode cX7_usual 2 = .ok (.invokevirtual 180, 3) := by decide +kernel
theorem dX7_usual_5 : decode cX7_usual 5 = .ok (.ifCond .eq 13, 3) := by decide +kernel
theorem dX7_usual_8 : decode cX7_usual 8 = .ok (.iload_n 2, 1) := by decide +kernel
theorem dX7_usual_9 : decode cX7_usual 9 = .ok (.i2l, 1) := by decide +kernel
theorem dX7_usual_10 : decode cX7_usual 10 = .ok (.lconst 0, 1) := by decide +kernel
theorem dX7_usual_11 : decode cX7_usual 11 = .ok (.lconst 1, 1) := by decide +kernel
theorem dX7_usual_12 : decode cX7_usual 12 = .ok (.invokestatic 39, 3) := by decide +kernel
theorem dX7_usual_15 : decode cX7_usual 15 = .ok (.ifCond .ne 5, 3) := by decide +kernel
theorem dX7_usual_18 : decode cX7_usual 18 = .ok (.iconst (-1), 1) := by decide +kernel
theorem dX7_usual_19 : decode cX7_usual 19 = .ok (.ireturn, 1) := by decide +kernel
theorem dX7_usual_20 : decode cX7_usual 20 = .ok (.bipush (-2), 2) := by decide +kernel
theorem dX7_usual_22 : decode cX7_usual 22 = .ok (.istore_n 3, 1) := by decide +kernel
theorem dX7_usual_23 : decode cX7_usual 23 = .ok (.iconst 0, 1) := by decide +kernel
theorem dX7_usual_24 : decode cX7_usual 24 = .ok (.istore 4, 2) := by decide +kernel
theorem dX7_usual_26 : decode cX7_usual 26 = .ok (.iconst 0, 1) := by decide +kernel
theorem dX7_usual_27 : decode cX7_usual 27 = .ok (.istore 5, 2) := by decide +kernel
theorem dX7_usual_29 : decode cX7_usual 29 = .ok (.iload 5, 2) := by decide +kernel
theorem dX7_usual_31 : decode cX7_usual 31 = .ok (.aload_n 0, 1) := by decide +kernel
theorem dX7_usual_32 : decode cX7_usual 32 = .ok (.iload_n 1, 1) := by decide +kernel
theorem dX7_usual_33 : decode cX7_usual 33 = .ok (.invokevirtual 60, 3) := by decide +kernel
theorem dX7_usual_36 : decode cX7_usual 36 = .ok (.if_icmp .ge 38, 3) := by decide +kernel
theorem dX7_usual_39 : decode cX7_usual 39 = .ok (.aload_n 0, 1) := by decide +kernel
theorem dX7_usual_40 : decode cX7_usual 40 = .ok (.iload_n 1, 1) := by decide +kernel
theorem dX7_usual_41 : decode cX7_usual 41 = .ok (.iload 5, 2) := by decide +kernel
theorem dX7_usual_43 : decode cX7_usual 43 = .ok (.iconst 1, 1) := by decide +kernel
theorem dX7_usual_44 : decode cX7_usual 44 = .ok (.invokevirtual 407, 3) := by decide +kernel
theorem dX7_usual_47 : decode cX7_usual 47 = .ok (.iload 4, 2) := by decide +kernel
theorem dX7_usual_49 : decode cX7_usual 49 = .ok (.if_icmp .gt 6, 3) := by decide +kernel
theorem dX7_usual_52 : decode cX7_usual 52 = .ok (.goto 16, 3) := by decide +kernel
theorem dX7_usual_55 : decode cX7_usual 55 = .ok (.iload 5, 2) := by decide +kernel
theorem dX7_usual_57 : decode cX7_usual 57 = .ok (.istore_n 3, 1) := by decide +kernel
theorem dX7_usual_58 : decode cX7_usual 58 = .ok (.aload_n 0, 1) := by decide +kernel
theorem dX7_usual_59 : decode cX7_usual 59 = .ok (.iload_n 1, 1) := by decide +kernel
theorem dX7_usual_60 : decode cX7_usual 60 = .ok (.iload 5, 2) := by decide +kernel
theorem dX7_usual_62 : decode cX7_usual 62 = .ok (.iconst 1, 1) := by decide +kernel
theorem dX7_usual_63 : decode cX7_usual 63 = .ok (.invokevirtual 407, 3) := by decide +kernel
theorem dX7_usual_66 : decode cX7_usual 66 = .ok (.istore 4, 2) := by decide +kernel
theorem dX7_usual_68 : decode cX7_usual 68 = .ok (.iinc 5 1, 3) := by decide +kernel
theorem dX7_usual_71 : decode cX7_usual 71 = .ok (.goto (-42), 3) := by decide +kernel
theorem dX7_usual_74 : decode cX7_usual 74 = .ok (.iload_n 3, 1) := by decide +kernel
theorem dX7_usual_75 : decode cX7_usual 75 = .ok (.bipush (-2), 2) := by decide +kernel
theorem dX7_usual_77 : decode cX7_usual 77 = .ok (.if_icmp .eq 7, 3) := by decide +kernel
theorem dX7_usual_80 : decode cX7_usual 80 = .ok (.iload_n 2, 1) := by decide +kernel
theorem dX7_usual_81 : decode cX7_usual 81 = .ok (.ifCond .ne 7, 3) := by decide +kernel
theorem dX7_usual_84 : decode cX7_usual 84 = .ok (.iload_n 3, 1) := by decide +kernel
theorem dX7_usual_85 : decode cX7_usual 85 = .ok (.goto 5, 3) := by decide +kernel
theorem dX7_usual_88 : decode cX7_usual 88 = .ok (.iload 4, 2) := by decide +kernel
theorem dX7_usual_90 : decode cX7_usual 90 = .ok (.ireturn, 1) := by decide +kernel

