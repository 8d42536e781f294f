theorem dX7_isRow_3 : decode cX7_isRow 3 = .ok (.aload_n 0, 1) := by decide +kernel
theorem dX7_isRow_4 : decode cX7_isRow 4 = .ok (.invokevirtual 43, 3) := by decide +kernel
theorem dX7_isRow_7 : decode cX7_isRow 7 = .ok (.iconst 1, 1) := by decide +kernel
theorem dX7_isRow_8 : decode cX7_isRow 8 = .ok (.isub, 1) := by decide +kernel
theorem dX7_isRow_9 : decode cX7_isRow 9 = .ok (.i2l, 1) := by decide +kernel
theorem dX7_isRow_10 : decode cX7_isRow 10 = .ok (.invokestatic 39, 3) := by decide +kernel
theorem dX7_isRow_13 : decode cX7_isRow 13 = .ok (.ireturn, 1) := by decide +kernel
theorem dX7_isDrum_0 : decode cX7_isDrum 0 = .ok (.iload_n 1, 1) := by decide +kernel
theorem dX7_isDrum_1 : decode cX7_isDrum 1 = .ok (.i2l, 1) := by decide +kernel
theorem dX7_isDrum_2 : decode cX7_isDrum 2 = .ok (.lconst 0, 1) := by decide +kernel
theorem dX7_isDrum_3 : decode cX7_isDrum 3 = .ok (.aload_n 0, 1) := by decide +kernel
theorem dX7_isDrum_4 : decode cX7_isDrum 4 = .ok (.invokevirtual 50, 3) := by decide +kernel
theorem dX7_isDrum_7 : decode cX7_isDrum 7 = .ok (.iconst 1, 1) := by decide +kernel
theorem dX7_isDrum_8 : decode cX7_isDrum 8 = .ok (.isub, 1) := by decide +kernel
theorem dX7_isDrum_9 : decode cX7_isDrum 9 = .ok (.i2l, 1) := by decide +kernel
theorem dX7_isDrum_10 : decode cX7_isDrum 10 = .ok (.invokestatic 39, 3) := by decide +kernel
theorem dX7_isDrum_13 : decode cX7_isDrum 13 = .ok (.ireturn, 1) := by decide +kernel
theorem dX7_of_0 : decode cX7_of 0 = .ok (.aload_n 0, 1) := by decide +kernel
theorem dX7_of_1 : decode cX7_of 1 = .ok (.getfield 7, 3) := by decide +kernel
theorem dX7_of_4 : decode cX7_of 4 = .ok (.sipush 176, 3) := by decide +kernel
theorem dX7_of_7 : decode cX7_of 7 = .ok (.bipush 8, 2) := by decide +kernel
theorem dX7_of_9 : decode cX7_of 9 = .ok (.iload_n 1, 1) := by decide +kernel
theorem dX7_of_10 : decode cX7_of 10 = .ok (.imul, 1) := by decide +kernel
theorem dX7_of_11 : decode cX7_of 11 = .ok (.iadd, 1) := by decide +kernel
theorem dX7_of_12 : decode cX7_of 12 = .ok (.iload_n 2, 1) := by decide +kernel
theorem dX7_of_13 : decode cX7_of 13 = .ok (.iadd, 1) := by decide +kernel
theorem dX7_of_14 : decode cX7_of 14 = .ok (.laload, 1) := by decide +kernel
theorem dX7_of_15 : decode cX7_of 15 = .ok (.l2i, 1) := by decide +kernel
theorem dX7_of_16 : decode cX7_of 16 = .ok (.ireturn, 1) := by decide +kernel
theorem dX7_sets_0 : decode cX7_sets 0 = .ok (.aload_n 0, 1) := by decide +kernel
theorem dX7_sets_1 : decode cX7_sets 1 = .ok (.getfield 7, 3) := by decide +kernel
theorem dX7_sets_4 : decode cX7_sets 4 = .ok (.sipush 176, 3) := by decide +kernel
theorem dX7_sets_7 : decode cX7_sets 7 = .ok (.bipush 8, 2) := by decide +kernel
theorem dX7_sets_9 : decode cX7_sets 9 = .ok (.iload_n 1, 1) := by decide +kernel
theorem dX7_sets_10 : decode cX7_sets 10 = .ok (.imul, 1) := by decide +kernel
theorem dX7_sets_11 : decode cX7_sets 11 = .ok (.iadd, 1) := by decide +kernel
theorem dX7_sets_12 : decode cX7_sets 12 = .ok (.iload_n 2, 1) := by decide +kernel
theorem dX7_sets_13 : decode cX7_sets 13 = .ok (.iadd, 1) := by decide +kernel
theorem dX7_sets_14 : decode cX7_sets 14 = .ok (.lload_n 3, 1) := by decide +kernel
theorem dX7_sets_15 : decode cX7_sets 15 = .ok (.lastore, 1) := by decide +kernel
theorem dX7_sets_16 : decode cX7_sets 16 = .ok (.return_, 1) := by decide +kernel
theorem dX7_wornOf_0 : decode cX7_wornOf 0 = .ok (.aload_n 0, 1) := by decide +kernel
theorem dX7_wornOf_1 : decode cX7_wornOf 1 = .ok (.getfield 7, 3) := by decide +kernel
theorem dX7_wornOf_4 : decode cX7_wornOf 4 = .ok (.sipush 176, 3) := by decide +kernel
theorem dX7_wornOf_7 : decode cX7_wornOf 7 = .ok (.bipush 8, 2) := by decide +kernel
theorem dX7_wornOf_9 : decode cX7_wornOf 9 = .ok (.iload_n 1, 1) := by decide +kernel
theorem dX7_wornOf_10 : decode cX7_wornOf 10 = .ok (.imul, 1) := by decide +kernel
theorem dX7_wornOf_11 : decode cX7_wornOf 11 = .ok (.iadd, 1) := by decide +kernel
theorem dX7_wornOf_12 : decode cX7_wornOf 12 = .ok (.bipush 7, 2) := by decide +kernel
theorem dX7_wornOf_14 : decode cX7_wornOf 14 = .ok (.iadd, 1) := by decide +kernel
theorem dX7_wornOf_15 : decode cX7_wornOf 15 = .ok (.laload, 1) := by decide +kernel
theorem dX7_wornOf_16 : decode cX7_wornOf 16 = .ok (.lreturn, 1) := by decide +kernel
theorem dX7_currentOf_0 : decode cX7_currentOf 0 = .ok (.aload_n 0, 1) := by decide +kernel
theorem dX7_currentOf_1 : decode cX7_currentOf 1 = .ok (.getfield 7, 3) := by decide +kernel
theorem dX7_currentOf_4 : decode cX7_currentOf 4 = .ok (.bipush 8, 2) := by decide +kernel
theorem dX7_currentOf_6 : decode cX7_currentOf 6 = .ok (.bipush 42, 2) := by decide +kernel
theorem dX7_currentOf_8 : decode cX7_currentOf 8 = .ok (.iload_n 1, 1) := by decide +kernel
theorem dX7_currentOf_9 : decode cX7_currentOf 9 = .ok (.imul, 1) := by decide +kernel
theorem dX7_currentOf_10 : decode cX7_currentOf 10 = .ok (.iadd, 1) := by decide +kernel
theorem dX7_currentOf_11 : decode cX7_currentOf 11 = .ok (.laload, 1) := by decide +kernel
theorem dX7_currentOf_12 : decode cX7_currentOf 12 = .ok (.l2i, 1) := by decide +kernel
theorem dX7_currentOf_13 : decode cX7_currentOf 13 = .ok (.ireturn, 1) := by decide +kernel
theorem dX7_flapsOf_0 : decode cX7_flapsOf 0 = .ok (.aload_n 0, 1) := by decide +kernel
theorem dX7_flapsOf_1 : decode cX7_flapsOf 1 = .ok (.getfield 7, 3) := by decide +kernel
theorem dX7_flapsOf_4 : decode cX7_flapsOf 4 = .ok (.bipush 8, 2) := by decide +kernel
theorem dX7_flapsOf_6 : decode cX7_flapsOf 6 = .ok (.bipush 42, 2) := by decide +kernel
theorem dX7_flapsOf_8 : decode cX7_flapsOf 8 = .ok (.iload_n 1, 1) := by decide +kernel
theorem dX7_flapsOf_9 : decode cX7_flapsOf 9 = .ok (.imul, 1) := by decide +kernel
theorem dX7_flapsOf_10 : decode cX7_flapsOf 10 = .ok (.iadd, 1) := by decide +kernel
theorem dX7_flapsOf_11 : decode cX7_flapsOf 11 = .ok (.iconst 1, 1) := by decide +kernel
theorem dX7_flapsOf_12 : decode cX7_flapsOf 12 = .ok (.iadd, 1) := by decide +kernel
theorem dX7_flapsOf_13 : decode cX7_flapsOf 13 = .ok (.laload, 1) := by decide +kernel
theorem dX7_flapsOf_14 : decode cX7_flapsOf 14 = .ok (.l2i, 1) := by decide +kernel
theorem dX7_flapsOf_15 : decode cX7_flapsOf 15 = .ok (.ireturn, 1) := by decide +kernel
theorem dX7_signOf_0 : decode cX7_signOf 0 = .ok (.aload_n 0, 1) := by decide +kernel
theorem dX7_signOf_1 : decode cX7_signOf 1 = .ok (.getfield 7, 3) := by decide +kernel
theorem dX7_signOf_4 : decode cX7_signOf 4 = .ok (.bipush 8, 2) := by decide +kernel
theorem dX7_signOf_6 : decode cX7_signOf 6 = .ok (.bipush 42, 2) := by decide +kernel
theorem dX7_signOf_8 : decode cX7_signOf 8 = .ok (.iload_n 1, 1) := by decide +kernel
theorem dX7_signOf_9 : decode cX7_signOf 9 = .ok (.imul, 1) := by decide +kernel
theorem dX7_signOf_10 : decode cX7_signOf 10 = .ok (.iadd, 1) := by decide +kernel
theorem dX7_signOf_11 : decode cX7_signOf 11 = .ok (.iconst 2, 1) := by decide +kernel
theorem dX7_signOf_12 : decode cX7_signOf 12 = .ok (.iadd, 1) := by decide +kernel
theorem dX7_signOf_13 : decode cX7_signOf 13 = .ok (.iload_n 2, 1) := by decide +kernel
theorem dX7_signOf_14 : decode cX7_signOf 14 = .ok (.iadd, 1) := by decide +kernel
theorem dX7_signOf_15 : decode cX7_signOf 15 = .ok (.laload, 1) := by decide +kernel
theorem dX7_signOf_16 : decode cX7_signOf 16 = .ok (.l2i, 1) := by decide +kernel
theorem dX7_signOf_17 : decode cX7_signOf 17 = .ok (.ireturn, 1) := by decide +kernel
theorem dX7_flaps_0 : decode cX7_flaps 0 = .ok (.aload_n 0, 1) := by decide +kernel
theorem dX7_flaps_1 : decode cX7_flaps 1 = .ok (.aload_n 0, 1) := by decide +kernel
theorem dX7_flaps_2 : decode cX7_flaps 2 = .ok (.iload_n 1, 1) := by decide +kernel
theorem dX7_flaps_3 : decode cX7_flaps 3 = .ok (.iconst 0, 1) := by decide +kernel
theorem dX7_flaps_4 : decode cX7_flaps 4 = .ok (.invokevirtual 56, 3) := by decide +kernel
theorem dX7_flaps_7 : decode cX7_flaps 7 = .ok (.invokevirtual 60, 3) := by decide +kernel
theorem dX7_flaps_10 : decode cX7_flaps 10 = .ok (.ireturn, 1) := by decide +kernel
theorem dX7_current_0 : decode cX7_current 0 = .ok (.aload_n 0, 1) := by decide +kernel
theorem dX7_current_1 : decode cX7_current 1 = .ok (.aload_n 0, 1) := by decide +kernel
theorem dX7_current_2 : decode cX7_current 2 = .ok (.iload_n 1, 1) := by decide +kernel
theorem dX7_current_3 : decode cX7_current 3 = .ok (.iconst 0, 1) := by decide +kernel
theorem dX7_current_4 : decode cX7_current 4 = .ok (.invokevirtual 56, 3) := by decide +kernel
theorem dX7_current_7 : decode cX7_current 7 = .ok (.invokevirtual 64, 3) := by decide +kernel
theorem dX7_current_10 : decode cX7_current 10 = .ok (.ireturn, 1) := by decide +kernel
theorem dX7_on_0 : decode cX7_on 0 = .ok (.iload_n 1, 1) := by decide +kernel
theorem dX7_on_1 : decode cX7_on 1 = .ok (.iload_n 0, 1) := by decide +kernel
theorem dX7_on_2 : decode cX7_on 2 = .ok (.isub, 1) := by decide +kernel
theorem dX7_on_3 : decode cX7_on 3 = .ok (.iload_n 2, 1) := by decide +kernel
theorem dX7_on_4 : decode cX7_on 4 = .ok (.iadd, 1) := by decide +kernel
theorem dX7_on_5 : decode cX7_on 5 = .ok (.iload_n 2, 1) := by decide +kernel
theorem dX7_on_6 : decode cX7_on 6 = .ok (.irem, 1) := by decide +kernel
theorem dX7_on_7 : decode cX7_on 7 = .ok (.ireturn, 1) := by decide +kernel
theorem dX7_leftOf_0 : decode cX7_leftOf 0 = .ok (.aload_n 0, 1) := by decide +kernel
theorem dX7_leftOf_1 : decode cX7_leftOf 1 = .ok (.iload_n 1, 1) := by decide +kernel
theorem dX7_leftOf_2 : decode cX7_leftOf 2 = .ok (.iconst 2, 1) := by decide +kernel
theorem dX7_leftOf_3 : decode cX7_leftOf 3 = .ok (.invokevirtual 56, 3) := by decide +kernel
theorem dX7_leftOf_6 : decode cX7_leftOf 6 = .ok (.aload_n 0, 1) := by decide +kernel
theorem dX7_leftOf_7 : decode cX7_leftOf 7 = .ok (.iload_n 1, 1) := by decide +kernel
theorem dX7_leftOf_8 : decode cX7_leftOf 8 = .ok (.iconst 3, 1) := by decide +kernel
theorem dX7_leftOf_9 : decode cX7_leftOf 9 = .ok (.invokevirtual 56, 3) := by decide +kernel
theorem dX7_leftOf_12 : decode cX7_leftOf 12 = .ok (.aload_n 0, 1) := by decide +kernel
theorem dX7_leftOf_13 : decode cX7_leftOf 13 = .ok (.iload_n 1, 1) := by decide +kernel
theorem dX7_leftOf_14 : decode cX7_leftOf 14 = .ok (.invokevirtual 67, 3) := by decide +kernel
theorem dX7_leftOf_17 : decode cX7_leftOf 17 = .ok (.invokestatic 70, 3) := by decide +kernel
theorem dX7_leftOf_20 : decode cX7_leftOf 20 = .ok (.ireturn, 1) := by decide +kernel
theorem dX7_bits_0 : decode cX7_bits 0 = .ok (.iconst 0, 1) := by decide +kernel
theorem dX7_bits_1 : decode cX7_bits 1 = .ok (.istore_n 2, 1) := by decide +kernel
theorem dX7_bits_2 : decode cX7_bits 2 = .ok (.iconst 0, 1) := by decide +kernel
theorem dX7_bits_3 : decode cX7_bits 3 = .ok (.istore_n 3, 1) := by decide +kernel
theorem dX7_bits_4 : decode cX7_bits 4 = .ok (.iload_n 3, 1) := by decide +kernel
theorem dX7_bits_5 : decode cX7_bits 5 = .ok (.bipush 64, 2) := by decide +kernel
theorem dX7_bits_7 : decode cX7_bits 7 = .ok (.if_icmp .ge 25, 3) := by decide +kernel
theorem dX7_bits_10 : decode cX7_bits 10 = .ok (.iload_n 2, 1) := by decide +kernel
theorem dX7_bits_11 : decode cX7_bits 11 = .ok (.lload_n 0, 1) := by decide +kernel
theorem dX7_bits_12 : decode cX7_bits 12 = .ok (.iload_n 3, 1) := by decide +kernel
theorem dX7_bits_13 : decode cX7_bits 13 = .ok (.invokestatic 74, 3) := by decide +kernel
theorem dX7_bits_16 : decode cX7_bits 16 = .ok (.ifCond .eq 7, 3) := by decide +kernel
theorem dX7_bits_19 : decode cX7_bits 19 = .ok (.iconst 1, 1) := by decide +kernel
theorem dX7_bits_20 : decode cX7_bits 20 = .ok (.goto 4, 3) := by decide +kernel
theorem dX7_bits_23 : decode cX7_bits 23 = .ok (.iconst 0, 1) := by decide +kernel
theorem dX7_bits_24 : decode cX7_bits 24 = .ok (.iadd, 1) := by decide +kernel
theorem dX7_bits_25 : decode cX7_bits 25 = .ok (.istore_n 2, 1) := by decide +kernel
theorem dX7_bits_26 : decode cX7_bits 26 = .ok (.iinc 3 1, 3) := by decide +kernel
theorem dX7_bits_29 : decode cX7_bits 29 = .ok (.goto (-25), 3) := by decide +kernel
theorem dX7_bits_32 : decode cX7_bits 32 = .ok (.iload_n 2, 1) := by decide +kernel
theorem dX7_bits_33 : decode cX7_bits 33 = .ok (.ireturn, 1) := by decide +kernel
theorem dX7_steps_0 : decode cX7_steps 0 = .ok (.aload_n 0, 1) := by decide +kernel
theorem dX7_steps_1 : decode cX7_steps 1 = .ok (.iload_n 1, 1) := by decide +kernel
theorem dX7_steps_2 : decode cX7_steps 2 = .ok (.iconst 2, 1) := by decide +kernel
theorem dX7_steps_3 : decode cX7_steps 3 = .ok (.invokevirtual 56, 3) := by decide +kernel
theorem dX7_steps_6 : decode cX7_steps 6 = .ok (.iconst 1, 1) := by decide +kernel
theorem dX7_steps_7 : decode cX7_steps 7 = .ok (.iadd, 1) := by decide +kernel
theorem dX7_steps_8 : decode cX7_steps 8 = .ok (.aload_n 0, 1) := by decide +kernel
theorem dX7_steps_9 : decode cX7_steps 9 = .ok (.iload_n 1, 1) := by decide +kernel
theorem dX7_steps_10 : decode cX7_steps 10 = .ok (.invokevirtual 67, 3) := by decide +kernel
theorem dX7_steps_13 : decode cX7_steps 13 = .ok (.irem, 1) := by decide +kernel
theorem dX7_steps_14 : decode cX7_steps 14 = .ok (.istore_n 2, 1) := by decide +kernel
theorem dX7_steps_15 : decode cX7_steps 15 = .ok (.aload_n 0, 1) := by decide +kernel
theorem dX7_steps_16 : decode cX7_steps 16 = .ok (.iload_n 1, 1) := by decide +kernel
theorem dX7_steps_17 : decode cX7_steps 17 = .ok (.iconst 2, 1) := by decide +kernel
theorem dX7_steps_18 : decode cX7_steps 18 = .ok (.iload_n 2, 1) := by decide +kernel
theorem dX7_steps_19 : decode cX7_steps 19 = .ok (.i2l, 1) := by decide +kernel
theorem dX7_steps_20 : decode cX7_steps 20 = .ok (.invokevirtual 78, 3) := by decide +kernel
theorem dX7_steps_23 : decode cX7_steps 23 = .ok (.aload_n 0, 1) := by decide +kernel
theorem dX7_steps_24 : decode cX7_steps 24 = .ok (.iload_n 1, 1) := by decide +kernel
theorem dX7_steps_25 : decode cX7_steps 25 = .ok (.iconst 5, 1) := by decide +kernel
theorem dX7_steps_26 : decode cX7_steps 26 = .ok (.aload_n 0, 1) := by decide +kernel
theorem dX7_steps_27 : decode cX7_steps 27 = .ok (.iload_n 1, 1) := by decide +kernel
theorem dX7_steps_28 : decode cX7_steps 28 = .ok (.iconst 5, 1) := by decide +kernel
theorem dX7_steps_29 : decode cX7_steps 29 = .ok (.invokevirtual 56, 3) := by decide +kernel
theorem dX7_steps_32 : decode cX7_steps 32 = .ok (.iconst 1, 1) := by decide +kernel
theorem dX7_steps_33 : decode cX7_steps 33 = .ok (.iadd, 1) := by decide +kernel
theorem dX7_steps_34 : decode cX7_steps 34 = .ok (.i2l, 1) := by decide +kernel
theorem dX7_steps_35 : decode cX7_steps 35 = .ok (.invokevirtual 78, 3) := by decide +kernel
theorem dX7_steps_38 : decode cX7_steps 38 = .ok (.aload_n 0, 1) := by decide +kernel
theorem dX7_steps_39 : decode cX7_steps 39 = .ok (.getfield 7, 3) := by decide +kernel
theorem dX7_steps_42 : decode cX7_steps 42 = .ok (.bipush 6, 2) := by decide +kernel
theorem dX7_steps_44 : decode cX7_steps 44 = .ok (.dup2, 1) := by decide +kernel
theorem dX7_steps_45 : decode cX7_steps 45 = .ok (.laload, 1) := by decide +kernel
theorem dX7_steps_46 : decode cX7_steps 46 = .ok (.lconst 1, 1) := by decide +kernel
theorem dX7_steps_47 : decode cX7_steps 47 = .ok (.ladd, 1) := by decide +kernel
theorem dX7_steps_48 : decode cX7_steps 48 = .ok (.lastore, 1) := by decide +kernel
theorem dX7_steps_49 : decode cX7_steps 49 = .ok (.aload_n 0, 1) := by decide +kernel
theorem dX7_steps_50 : decode cX7_steps 50 = .ok (.iload_n 1, 1) := by decide +kernel
theorem dX7_steps_51 : decode cX7_steps 51 = .ok (.iconst 4, 1) := by decide +kernel
theorem dX7_steps_52 : decode cX7_steps 52 = .ok (.invokevirtual 56, 3) := by decide +kernel
theorem dX7_steps_55 : decode cX7_steps 55 = .ok (.ifCond .le 19, 3) := by decide +kernel
theorem dX7_steps_58 : decode cX7_steps 58 = .ok (.aload_n 0, 1) := by decide +kernel
theorem dX7_steps_59 : decode cX7_steps 59 = .ok (.iload_n 1, 1) := by decide +kernel
theorem dX7_steps_60 : decode cX7_steps 60 = .ok (.iconst 4, 1) := by decide +kernel
theorem dX7_steps_61 : decode cX7_steps 61 = .ok (.aload_n 0, 1) := by decide +kernel
theorem dX7_steps_62 : decode cX7_steps 62 = .ok (.iload_n 1, 1) := by decide +kernel
theorem dX7_steps_63 : decode cX7_steps 63 = .ok (.iconst 4, 1) := by decide +kernel
theorem dX7_steps_64 : decode cX7_steps 64 = .ok (.invokevirtual 56, 3) := by decide +kernel
theorem dX7_steps_67 : decode cX7_steps 67 = .ok (.iconst 1, 1) := by decide +kernel
theorem dX7_steps_68 : decode cX7_steps 68 = .ok (.isub, 1) := by decide +kernel
theorem dX7_steps_69 : decode cX7_steps 69 = .ok (.i2l, 1) := by decide +kernel
theorem dX7_steps_70 : decode cX7_steps 70 = .ok (.invokevirtual 78, 3) := by decide +kernel
theorem dX7_steps_73 : decode cX7_steps 73 = .ok (.return_, 1) := by decide +kernel
theorem dX7_steps_74 : decode cX7_steps 74 = .ok (.aload_n 0, 1) := by decide +kernel
theorem dX7_steps_75 : decode cX7_steps 75 = .ok (.iload_n 1, 1) := by decide +kernel
theorem dX7_steps_76 : decode cX7_steps 76 = .ok (.iconst 1, 1) := by decide +kernel
theorem dX7_steps_77 : decode cX7_steps 77 = .ok (.aload_n 0, 1) := by decide +kernel
theorem dX7_steps_78 : decode cX7_steps 78 = .ok (.iload_n 1, 1) := by decide +kernel
theorem dX7_steps_79 : decode cX7_steps 79 = .ok (.iconst 1, 1) := by decide +kernel
theorem dX7_steps_80 : decode cX7_steps 80 = .ok (.invokevirtual 56, 3) := by decide +kernel
theorem dX7_steps_83 : decode cX7_steps 83 = .ok (.iconst 1, 1) := by decide +kernel
theorem dX7_steps_84 : decode cX7_steps 84 = .ok (.iadd, 1) := by decide +kernel
theorem dX7_steps_85 : decode cX7_steps 85 = .ok (.aload_n 0, 1) := by decide +kernel
theorem dX7_steps_86 : decode cX7_steps 86 = .ok (.iload_n 1, 1) := by decide +kernel
theorem dX7_steps_87 : decode cX7_steps 87 = .ok (.invokevirtual 67, 3) := by decide +kernel
theorem dX7_steps_90 : decode cX7_steps 90 = .ok (.irem, 1) := by decide +kernel
theorem dX7_steps_91 : decode cX7_steps 91 = .ok (.i2l, 1) := by decide +kernel
theorem dX7_steps_92 : decode cX7_steps 92 = .ok (.invokevirtual 78, 3) := by decide +kernel
theorem dX7_steps_95 : decode cX7_steps 95 = .ok (.aload_n 0, 1) := by decide +kernel
theorem dX7_steps_96 : decode cX7_steps 96 = .ok (.iload_n 1, 1) := by decide +kernel
theorem dX7_steps_97 : decode cX7_steps 97 = .ok (.iconst 1, 1) := by decide +kernel
theorem dX7_steps_98 : decode cX7_steps 98 = .ok (.invokevirtual 56, 3) := by decide +kernel
theorem dX7_steps_101 : decode cX7_steps 101 = .ok (.ifCond .eq 4, 3) := by decide +kernel
theorem dX7_steps_104 : decode cX7_steps 104 = .ok (.return_, 1) := by decide +kernel
theorem dX7_steps_105 : decode cX7_steps 105 = .ok (.aload_n 0, 1) := by decide +kernel
theorem dX7_steps_106 : decode cX7_steps 106 = .ok (.iload_n 1, 1) := by decide +kernel
theorem dX7_steps_107 : decode cX7_steps 107 = .ok (.bipush 6, 2) := by decide +kernel
theorem dX7_steps_109 : decode cX7_steps 109 = .ok (.aload_n 0, 1) := by decide +kernel
theorem dX7_steps_110 : decode cX7_steps 110 = .ok (.iload_n 1, 1) := by decide +kernel
theorem dX7_steps_111 : decode cX7_steps 111 = .ok (.bipush 6, 2) := by decide +kernel
theorem dX7_steps_113 : decode cX7_steps 113 = .ok (.invokevirtual 56, 3) := by decide +kernel
theorem dX7_steps_116 : decode cX7_steps 116 = .ok (.iload_n 2, 1) := by decide +kernel
theorem dX7_steps_117 : decode cX7_steps 117 = .ok (.iadd, 1) := by decide +kernel
theorem dX7_steps_118 : decode cX7_steps 118 = .ok (.i2l, 1) := by decide +kernel
theorem dX7_steps_119 : decode cX7_steps 119 = .ok (.invokevirtual 78, 3) := by decide +kernel
theorem dX7_steps_122 : decode cX7_steps 122 = .ok (.aload_n 0, 1) := by decide +kernel
theorem dX7_steps_123 : decode cX7_steps 123 = .ok (.getfield 7, 3) := by decide +kernel
theorem dX7_steps_126 : decode cX7_steps 126 = .ok (.bipush 7, 2) := by decide +kernel
theorem dX7_steps_128 : decode cX7_steps 128 = .ok (.dup2, 1) := by decide +kernel
theorem dX7_steps_129 : decode cX7_steps 129 = .ok (.laload, 1) := by decide +kernel
theorem dX7_steps_130 : decode cX7_steps 130 = .ok (.iload_n 2, 1) := by decide +kernel
theorem dX7_steps_131 : decode cX7_steps 131 = .ok (.i2l, 1) := by decide +kernel
theorem dX7_steps_132 : decode cX7_steps 132 = .ok (.ladd, 1) := by decide +kernel
theorem dX7_steps_133 : decode cX7_steps 133 = .ok (.lastore, 1) := by decide +kernel
theorem dX7_steps_134 : decode cX7_steps 134 = .ok (.aload_n 0, 1) := by decide +kernel
theorem dX7_steps_135 : decode cX7_steps 135 = .ok (.iload_n 1, 1) := by decide +kernel
theorem dX7_steps_136 : decode cX7_steps 136 = .ok (.iconst 2, 1) := by decide +kernel
theorem dX7_steps_137 : decode cX7_steps 137 = .ok (.lconst 0, 1) := by decide +kernel
theorem dX7_steps_138 : decode cX7_steps 138 = .ok (.invokevirtual 78, 3) := by decide +kernel
theorem dX7_steps_141 : decode cX7_steps 141 = .ok (.return_, 1) := by decide +kernel
theorem dX7_findsTurning_0 : decode cX7_findsTurning 0 = .ok (.aload_n 0, 1) := by decide +kernel
theorem dX7_findsTurning_1 : decode cX7_findsTurning 1 = .ok (.lconst 0, 1) := by decide +kernel
theorem dX7_findsTurning_2 : decode cX7_findsTurning 2 = .ok (.putfield 82, 3) := by decide +kernel
theorem dX7_findsTurning_5 : decode cX7_findsTurning 5 = .ok (.aload_n 0, 1) := by decide +kernel
theorem dX7_findsTurning_6 : decode cX7_findsTurning 6 = .ok (.iconst 0, 1) := by decide +kernel
theorem dX7_findsTurning_7 : decode cX7_findsTurning 7 = .ok (.putfield 86, 3) := by decide +kernel
theorem dX7_findsTurning_10 : decode cX7_findsTurning 10 = .ok (.aload_n 0, 1) := by decide +kernel
theorem dX7_findsTurning_11 : decode cX7_findsTurning 11 = .ok (.iconst 0, 1) := by decide +kernel
theorem dX7_findsTurning_12 : decode cX7_findsTurning 12 = .ok (.putfield 90, 3) := by decide +kernel
theorem dX7_findsTurning_15 : decode cX7_findsTurning 15 = .ok (.lconst 0, 1) := by decide +kernel
theorem dX7_findsTurning_16 : decode cX7_findsTurning 16 = .ok (.lstore_n 1, 1) := by decide +kernel
theorem dX7_findsTurning_17 : decode cX7_findsTurning 17 = .ok (.iconst 0, 1) := by decide +kernel
theorem dX7_findsTurning_18 : decode cX7_findsTurning 18 = .ok (.istore_n 3, 1) := by decide +kernel
theorem dX7_findsTurning_19 : decode cX7_findsTurning 19 = .ok (.iload_n 3, 1) := by decide +kernel
theorem dX7_findsTurning_20 : decode cX7_findsTurning 20 = .ok (.aload_n 0, 1) := by decide +kernel
theorem dX7_findsTurning_21 : decode cX7_findsTurning 21 = .ok (.invokevirtual 53, 3) := by decide +kernel
theorem dX7_findsTurning_24 : decode cX7_findsTurning 24 = .ok (.if_icmp .ge 150, 3) := by decide +kernel
theorem dX7_findsTurning_27 : decode cX7_findsTurning 27 = .ok (.iconst (-1), 1) := by decide +kernel
theorem dX7_findsTurning_28 : decode cX7_findsTurning 28 = .ok (.istore 4, 2) := by decide +kernel
theorem dX7_findsTurning_30 : decode cX7_findsTurning 30 = .ok (.iconst 0, 1) := by decide +kernel
theorem dX7_findsTurning_31 : decode cX7_findsTurning 31 = .ok (.istore 5, 2) := by decide +kernel
theorem dX7_findsTurning_33 : decode cX7_findsTurning 33 = .ok (.iload 5, 2) := by decide +kernel
theorem dX7_findsTurning_35 : decode cX7_findsTurning 35 = .ok (.aload_n 0, 1) := by decide +kernel
theorem dX7_findsTurning_36 : decode cX7_findsTurning 36 = .ok (.invokevirtual 53, 3) := by decide +kernel
theorem dX7_findsTurning_39 : decode cX7_findsTurning 39 = .ok (.if_icmp .ge 52, 3) := by decide +kernel
theorem dX7_findsTurning_42 : decode cX7_findsTurning 42 = .ok (.lload_n 1, 1) := by decide +kernel
theorem dX7_findsTurning_43 : decode cX7_findsTurning 43 = .ok (.iload 5, 2) := by decide +kernel
theorem dX7_findsTurning_45 : decode cX7_findsTurning 45 = .ok (.invokestatic 74, 3) := by decide +kernel
theorem dX7_findsTurning_48 : decode cX7_findsTurning 48 = .ok (.ifCond .ne 37, 3) := by decide +kernel
theorem dX7_findsTurning_51 : decode cX7_findsTurning 51 = .ok (.aload_n 0, 1) := by decide +kernel
theorem dX7_findsTurning_52 : decode cX7_findsTurning 52 = .ok (.iload 5, 2) := by decide +kernel
theorem dX7_findsTurning_54 : decode cX7_findsTurning 54 = .ok (.invokevirtual 93, 3) := by decide +kernel
theorem dX7_findsTurning_57 : decode cX7_findsTurning 57 = .ok (.ifCond .le 28, 3) := by decide +kernel
theorem dX7_findsTurning_60 : decode cX7_findsTurning 60 = .ok (.iload 4, 2) := by decide +kernel
theorem dX7_findsTurning_62 : decode cX7_findsTurning 62 = .ok (.iconst (-1), 1) := by decide +kernel
theorem dX7_findsTurning_63 : decode cX7_findsTurning 63 = .ok (.if_icmp .eq 18, 3) := by decide +kernel
theorem dX7_findsTurning_66 : decode cX7_findsTurning 66 = .ok (.aload_n 0, 1) := by decide +kernel
theorem dX7_findsTurning_67 : decode cX7_findsTurning 67 = .ok (.iload 5, 2) := by decide +kernel
theorem dX7_findsTurning_69 : decode cX7_findsTurning 69 = .ok (.invokevirtual 93, 3) := by decide +kernel
theorem dX7_findsTurning_72 : decode cX7_findsTurning 72 = .ok (.aload_n 0, 1) := by decide +kernel
theorem dX7_findsTurning_73 : decode cX7_findsTurning 73 = .ok (.iload 4, 2) := by decide +kernel
theorem dX7_findsTurning_75 : decode cX7_findsTurning 75 = .ok (.invokevirtual 93, 3) := by decide +kernel
theorem dX7_findsTurning_78 : decode cX7_findsTurning 78 = .ok (.if_icmp .le 7, 3) := by decide +kernel
theorem dX7_findsTurning_81 : decode cX7_findsTurning 81 = .ok (.iload 5, 2) := by decide +kernel
theorem dX7_findsTurning_83 : decode cX7_findsTurning 83 = .ok (.istore 4, 2) := by decide +kernel
theorem dX7_findsTurning_85 : decode cX7_findsTurning 85 = .ok (.iinc 5 1, 3) := by decide +kernel
theorem dX7_findsTurning_88 : decode cX7_findsTurning 88 = .ok (.goto (-55), 3) := by decide +kernel
theorem dX7_findsTurning_91 : decode cX7_findsTurning 91 = .ok (.iload 4, 2) := by decide +kernel
theorem dX7_findsTurning_93 : decode cX7_findsTurning 93 = .ok (.iconst (-1), 1) := by decide +kernel
theorem dX7_findsTurning_94 : decode cX7_findsTurning 94 = .ok (.if_icmp .ne 4, 3) := by decide +kernel
theorem dX7_findsTurning_97 : decode cX7_findsTurning 97 = .ok (.return_, 1) := by decide +kernel
theorem dX7_findsTurning_98 : decode cX7_findsTurning 98 = .ok (.lload_n 1, 1) := by decide +kernel
theorem dX7_findsTurning_99 : decode cX7_findsTurning 99 = .ok (.lconst 1, 1) := by decide +kernel
theorem dX7_findsTurning_100 : decode cX7_findsTurning 100 = .ok (.iload 4, 2) := by decide +kernel
theorem dX7_findsTurning_102 : decode cX7_findsTurning 102 = .ok (.lshl, 1) := by decide +kernel
theorem dX7_findsTurning_103 : decode cX7_findsTurning 103 = .ok (.lor, 1) := by decide +kernel
theorem dX7_findsTurning_104 : decode cX7_findsTurning 104 = .ok (.lstore_n 1, 1) := by decide +kernel
theorem dX7_findsTurning_105 : decode cX7_findsTurning 105 = .ok (.aload_n 0, 1) := by decide +kernel
theorem dX7_findsTurning_106 : decode cX7_findsTurning 106 = .ok (.getfield 90, 3) := by decide +kernel
theorem dX7_findsTurning_109 : decode cX7_findsTurning 109 = .ok (.aload_n 0, 1) := by decide +kernel
theorem dX7_findsTurning_110 : decode cX7_findsTurning 110 = .ok (.iload 4, 2) := by decide +kernel
theorem dX7_findsTurning_112 : decode cX7_findsTurning 112 = .ok (.invokevirtual 96, 3) := by decide +kernel
theorem dX7_findsTurning_115 : decode cX7_findsTurning 115 = .ok (.iadd, 1) := by decide +kernel
theorem dX7_findsTurning_116 : decode cX7_findsTurning 116 = .ok (.i2l, 1) := by decide +kernel
theorem dX7_findsTurning_117 : decode cX7_findsTurning 117 = .ok (.aload_n 0, 1) := by decide +kernel
theorem dX7_findsTurning_118 : decode cX7_findsTurning 118 = .ok (.getfield 7, 3) := by decide +kernel
theorem dX7_findsTurning_121 : decode cX7_findsTurning 121 = .ok (.iconst 2, 1) := by decide +kernel
theorem dX7_findsTurning_122 : decode cX7_findsTurning 122 = .ok (.laload, 1) := by decide +kernel
theorem dX7_findsTurning_123 : decode cX7_findsTurning 123 = .ok (.lcmp, 1) := by decide +kernel
theorem dX7_findsTurning_124 : decode cX7_findsTurning 124 = .ok (.ifCond .le 6, 3) := by decide +kernel
theorem dX7_findsTurning_127 : decode cX7_findsTurning 127 = .ok (.goto 41, 3) := by decide +kernel
theorem dX7_findsTurning_130 : decode cX7_findsTurning 130 = .ok (.aload_n 0, 1) := by decide +kernel
theorem dX7_findsTurning_131 : decode cX7_findsTurning 131 = .ok (.dup, 1) := by decide +kernel
theorem dX7_findsTurning_132 : decode cX7_findsTurning 132 = .ok (.getfield 82, 3) := by decide +kernel
theorem dX7_findsTurning_135 : decode cX7_findsTurning 135 = .ok (.lconst 1, 1) := by decide +kernel
theorem dX7_findsTurning_136 : decode cX7_findsTurning 136 = .ok (.iload 4, 2) := by decide +kernel
theorem dX7_findsTurning_138 : decode cX7_findsTurning 138 = .ok (.lshl, 1) := by decide +kernel
theorem dX7_findsTurning_139 : decode cX7_findsTurning 139 = .ok (.lor, 1) := by decide +kernel
theorem dX7_findsTurning_140 : decode cX7_findsTurning 140 = .ok (.putfield 82, 3) := by decide +kernel
theorem dX7_findsTurning_143 : decode cX7_findsTurning 143 = .ok (.aload_n 0, 1) := by decide +kernel
theorem dX7_findsTurning_144 : decode cX7_findsTurning 144 = .ok (.dup, 1) := by decide +kernel
theorem dX7_findsTurning_145 : decode cX7_findsTurning 145 = .ok (.getfield 86, 3) := by decide +kernel
theorem dX7_findsTurning_148 : decode cX7_findsTurning 148 = .ok (.iconst 1, 1) := by decide +kernel
theorem dX7_findsTurning_149 : decode cX7_findsTurning 149 = .ok (.iadd, 1) := by decide +kernel
theorem dX7_findsTurning_150 : decode cX7_findsTurning 150 = .ok (.putfield 86, 3) := by decide +kernel
theorem dX7_findsTurning_153 : decode cX7_findsTurning 153 = .ok (.aload_n 0, 1) := by decide +kernel
theorem dX7_findsTurning_154 : decode cX7_findsTurning 154 = .ok (.dup, 1) := by decide +kernel
theorem dX7_findsTurning_155 : decode cX7_findsTurning 155 = .ok (.getfield 90, 3) := by decide +kernel
theorem dX7_findsTurning_158 : decode cX7_findsTurning 158 = .ok (.aload_n 0, 1) := by decide +kernel
theorem dX7_findsTurning_159 : decode cX7_findsTurning 159 = .ok (.iload 4, 2) := by decide +kernel
theorem dX7_findsTurning_161 : decode cX7_findsTurning 161 = .ok (.invokevirtual 96, 3) := by decide +kernel
theorem dX7_findsTurning_164 : decode cX7_findsTurning 164 = .ok (.iadd, 1) := by decide +kernel
theorem dX7_findsTurning_165 : decode cX7_findsTurning 165 = .ok (.putfield 90, 3) := by decide +kernel
theorem dX7_findsTurning_168 : decode cX7_findsTurning 168 = .ok (.iinc 3 1, 3) := by decide +kernel
theorem dX7_findsTurning_171 : decode cX7_findsTurning 171 = .ok (.goto (-152), 3) := by decide +kernel
theorem dX7_findsTurning_174 : decode cX7_findsTurning 174 = .ok (.return_, 1) := by decide +kernel
theorem dX7_ticks_0 : decode cX7_ticks 0 = .ok (.aload_n 0, 1) := by decide +kernel
theorem dX7_ticks_1 : decode cX7_ticks 1 = .ok (.invokevirtual 99, 3) := by decide +kernel
theorem dX7_ticks_4 : decode cX7_ticks 4 = .ok (.iconst 0, 1) := by decide +kernel
theorem dX7_ticks_5 : decode cX7_ticks 5 = .ok (.istore_n 1, 1) := by decide +kernel
theorem dX7_ticks_6 : decode cX7_ticks 6 = .ok (.iload_n 1, 1) := by decide +kernel
theorem dX7_ticks_7 : decode cX7_ticks 7 = .ok (.aload_n 0, 1) := by decide +kernel
theorem dX7_ticks_8 : decode cX7_ticks 8 = .ok (.invokevirtual 53, 3) := by decide +kernel
theorem dX7_ticks_11 : decode cX7_ticks 11 = .ok (.if_icmp .ge 25, 3) := by decide +kernel
theorem dX7_ticks_14 : decode cX7_ticks 14 = .ok (.aload_n 0, 1) := by decide +kernel
theorem dX7_ticks_15 : decode cX7_ticks 15 = .ok (.getfield 82, 3) := by decide +kernel
theorem dX7_ticks_18 : decode cX7_ticks 18 = .ok (.iload_n 1, 1) := by decide +kernel
theorem dX7_ticks_19 : decode cX7_ticks 19 = .ok (.invokestatic 74, 3) := by decide +kernel
theorem dX7_ticks_22 : decode cX7_ticks 22 = .ok (.ifCond .eq 8, 3) := by decide +kernel
theorem dX7_ticks_25 : decode cX7_ticks 25 = .ok (.aload_n 0, 1) := by decide +kernel
theorem dX7_ticks_26 : decode cX7_ticks 26 = .ok (.iload_n 1, 1) := by decide +kernel
theorem dX7_ticks_27 : decode cX7_ticks 27 = .ok (.invokevirtual 102, 3) := by decide +kernel
theorem dX7_ticks_30 : decode cX7_ticks 30 = .ok (.iinc 1 1, 3) := by decide +kernel
theorem dX7_ticks_33 : decode cX7_ticks 33 = .ok (.goto (-27), 3) := by decide +kernel
theorem dX7_ticks_36 : decode cX7_ticks 36 = .ok (.aload_n 0, 1) := by decide +kernel
theorem dX7_ticks_37 : decode cX7_ticks 37 = .ok (.getfield 86, 3) := by decide +kernel
theorem dX7_ticks_40 : decode cX7_ticks 40 = .ok (.ifCond .ne 5, 3) := by decide +kernel
theorem dX7_ticks_43 : decode cX7_ticks 43 = .ok (.iconst 0, 1) := by decide +kernel
theorem dX7_ticks_44 : decode cX7_ticks 44 = .ok (.ireturn, 1) := by decide +kernel
theorem dX7_ticks_45 : decode cX7_ticks 45 = .ok (.aload_n 0, 1) := by decide +kernel
theorem dX7_ticks_46 : decode cX7_ticks 46 = .ok (.getfield 7, 3) := by decide +kernel
theorem dX7_ticks_49 : decode cX7_ticks 49 = .ok (.iconst 4, 1) := by decide +kernel
theorem dX7_ticks_50 : decode cX7_ticks 50 = .ok (.aload_n 0, 1) := by decide +kernel
theorem dX7_ticks_51 : decode cX7_ticks 51 = .ok (.getfield 7, 3) := by decide +kernel
theorem dX7_ticks_54 : decode cX7_ticks 54 = .ok (.iconst 4, 1) := by decide +kernel
theorem dX7_ticks_55 : decode cX7_ticks 55 = .ok (.laload, 1) := by decide +kernel
theorem dX7_ticks_56 : decode cX7_ticks 56 = .ok (.aload_n 0, 1) := by decide +kernel
theorem dX7_ticks_57 : decode cX7_ticks 57 = .ok (.getfield 86, 3) := by decide +kernel
theorem dX7_ticks_60 : decode cX7_ticks 60 = .ok (.aload_n 0, 1) := by decide +kernel
theorem dX7_ticks_61 : decode cX7_ticks 61 = .ok (.getfield 86, 3) := by decide +kernel
theorem dX7_ticks_64 : decode cX7_ticks 64 = .ok (.imul, 1) := by decide +kernel
theorem dX7_ticks_65 : decode cX7_ticks 65 = .ok (.i2l, 1) := by decide +kernel
theorem dX7_ticks_66 : decode cX7_ticks 66 = .ok (.ladd, 1) := by decide +kernel
theorem dX7_ticks_67 : decode cX7_ticks 67 = .ok (.l2i, 1) := by decide +kernel
theorem dX7_ticks_68 : decode cX7_ticks 68 = .ok (.i2l, 1) := by decide +kernel
theorem dX7_ticks_69 : decode cX7_ticks 69 = .ok (.lastore, 1) := by decide +kernel
theorem dX7_ticks_70 : decode cX7_ticks 70 = .ok (.aload_n 0, 1) := by decide +kernel
theorem dX7_ticks_71 : decode cX7_ticks 71 = .ok (.getfield 7, 3) := by decide +kernel
theorem dX7_ticks_74 : decode cX7_ticks 74 = .ok (.iconst 5, 1) := by decide +kernel
theorem dX7_ticks_75 : decode cX7_ticks 75 = .ok (.dup2, 1) := by decide +kernel
theorem dX7_ticks_76 : decode cX7_ticks 76 = .ok (.laload, 1) := by decide +kernel
theorem dX7_ticks_77 : decode cX7_ticks 77 = .ok (.lconst 1, 1) := by decide +kernel
theorem dX7_ticks_78 : decode cX7_ticks 78 = .ok (.ladd, 1) := by decide +kernel
theorem dX7_ticks_79 : decode cX7_ticks 79 = .ok (.lastore, 1) := by decide +kernel
theorem dX7_ticks_80 : decode cX7_ticks 80 = .ok (.aload_n 0, 1) := by decide +kernel
theorem dX7_ticks_81 : decode cX7_ticks 81 = .ok (.getfield 86, 3) := by decide +kernel
theorem dX7_ticks_84 : decode cX7_ticks 84 = .ok (.ireturn, 1) := by decide +kernel
theorem dX7_flapFor_0 : decode cX7_flapFor 0 = .ok (.iconst (-1), 1) := by decide +kernel
theorem dX7_flapFor_1 : decode cX7_flapFor 1 = .ok (.istore_n 3, 1) := by decide +kernel
theorem dX7_flapFor_2 : decode cX7_flapFor 2 = .ok (.iconst 0, 1) := by decide +kernel
theorem dX7_flapFor_3 : decode cX7_flapFor 3 = .ok (.istore 4, 2) := by decide +kernel
theorem dX7_flapFor_5 : decode cX7_flapFor 5 = .ok (.iload 4, 2) := by decide +kernel
theorem dX7_flapFor_7 : decode cX7_flapFor 7 = .ok (.aload_n 0, 1) := by decide +kernel
theorem dX7_flapFor_8 : decode cX7_flapFor 8 = .ok (.iload_n 1, 1) := by decide +kernel
theorem dX7_flapFor_9 : decode cX7_flapFor 9 = .ok (.invokevirtual 67, 3) := by decide +kernel
theorem dX7_flapFor_12 : decode cX7_flapFor 12 = .ok (.if_icmp .ge 83, 3) := by decide +kernel
theorem dX7_flapFor_15 : decode cX7_flapFor 15 = .ok (.aload_n 0, 1) := by decide +kernel
theorem dX7_flapFor_16 : decode cX7_flapFor 16 = .ok (.aload_n 0, 1) := by decide +kernel
theorem dX7_flapFor_17 : decode cX7_flapFor 17 = .ok (.iload_n 1, 1) := by decide +kernel
theorem dX7_flapFor_18 : decode cX7_flapFor 18 = .ok (.iconst 0, 1) := by decide +kernel
theorem dX7_flapFor_19 : decode cX7_flapFor 19 = .ok (.invokevirtual 56, 3) := by decide +kernel
theorem dX7_flapFor_22 : decode cX7_flapFor 22 = .ok (.iload 4, 2) := by decide +kernel
theorem dX7_flapFor_24 : decode cX7_flapFor 24 = .ok (.invokevirtual 106, 3) := by decide +kernel
theorem dX7_flapFor_27 : decode cX7_flapFor 27 = .ok (.iload_n 2, 1) := by decide +kernel
theorem dX7_flapFor_28 : decode cX7_flapFor 28 = .ok (.if_icmp .ne 61, 3) := by decide +kernel
theorem dX7_flapFor_31 : decode cX7_flapFor 31 = .ok (.aload_n 0, 1) := by decide +kernel
theorem dX7_flapFor_32 : decode cX7_flapFor 32 = .ok (.iload_n 1, 1) := by decide +kernel
theorem dX7_flapFor_33 : decode cX7_flapFor 33 = .ok (.invokevirtual 109, 3) := by decide +kernel
theorem dX7_flapFor_36 : decode cX7_flapFor 36 = .ok (.iload 4, 2) := by decide +kernel
theorem dX7_flapFor_38 : decode cX7_flapFor 38 = .ok (.invokestatic 74, 3) := by decide +kernel
theorem dX7_flapFor_41 : decode cX7_flapFor 41 = .ok (.ifCond .eq 6, 3) := by decide +kernel
theorem dX7_flapFor_44 : decode cX7_flapFor 44 = .ok (.goto 45, 3) := by decide +kernel
theorem dX7_flapFor_47 : decode cX7_flapFor 47 = .ok (.iload_n 3, 1) := by decide +kernel
theorem dX7_flapFor_48 : decode cX7_flapFor 48 = .ok (.iconst (-1), 1) := by decide +kernel
theorem dX7_flapFor_49 : decode cX7_flapFor 49 = .ok (.if_icmp .eq 37, 3) := by decide +kernel
theorem dX7_flapFor_52 : decode cX7_flapFor 52 = .ok (.aload_n 0, 1) := by decide +kernel
theorem dX7_flapFor_53 : decode cX7_flapFor 53 = .ok (.iload_n 1, 1) := by decide +kernel
theorem dX7_flapFor_54 : decode cX7_flapFor 54 = .ok (.iconst 2, 1) := by decide +kernel
theorem dX7_flapFor_55 : decode cX7_flapFor 55 = .ok (.invokevirtual 56, 3) := by decide +kernel
theorem dX7_flapFor_58 : decode cX7_flapFor 58 = .ok (.iload 4, 2) := by decide +kernel
theorem dX7_flapFor_60 : decode cX7_flapFor 60 = .ok (.aload_n 0, 1) := by decide +kernel
theorem dX7_flapFor_61 : decode cX7_flapFor 61 = .ok (.iload_n 1, 1) := by decide +kernel
theorem dX7_flapFor_62 : decode cX7_flapFor 62 = .ok (.invokevirtual 67, 3) := by decide +kernel
theorem dX7_flapFor_65 : decode cX7_flapFor 65 = .ok (.invokestatic 70, 3) := by decide +kernel
theorem dX7_flapFor_68 : decode cX7_flapFor 68 = .ok (.aload_n 0, 1) := by decide +kernel
theorem dX7_flapFor_69 : decode cX7_flapFor 69 = .ok (.iload_n 1, 1) := by decide +kernel
theorem dX7_flapFor_70 : decode cX7_flapFor 70 = .ok (.iconst 2, 1) := by decide +kernel
theorem dX7_flapFor_71 : decode cX7_flapFor 71 = .ok (.invokevirtual 56, 3) := by decide +kernel
theorem dX7_flapFor_74 : decode cX7_flapFor 74 = .ok (.iload_n 3, 1) := by decide +kernel
theorem dX7_flapFor_75 : decode cX7_flapFor 75 = .ok (.aload_n 0, 1) := by decide +kernel
theorem dX7_flapFor_76 : decode cX7_flapFor 76 = .ok (.iload_n 1, 1) := by decide +kernel
theorem dX7_flapFor_77 : decode cX7_flapFor 77 = .ok (.invokevirtual 67, 3) := by decide +kernel
theorem dX7_flapFor_80 : decode cX7_flapFor 80 = .ok (.invokestatic 70, 3) := by decide +kernel
theorem dX7_flapFor_83 : decode cX7_flapFor 83 = .ok (.if_icmp .ge 6, 3) := by decide +kernel
theorem dX7_flapFor_86 : decode cX7_flapFor 86 = .ok (.iload 4, 2) := by decide +kernel
theorem dX7_flapFor_88 : decode cX7_flapFor 88 = .ok (.istore_n 3, 1) := by decide +kernel
theorem dX7_flapFor_89 : decode cX7_flapFor 89 = .ok (.iinc 4 1, 3) := by decide +kernel
theorem dX7_flapFor_92 : decode cX7_flapFor 92 = .ok (.goto (-87), 3) := by decide +kernel
theorem dX7_flapFor_95 : decode cX7_flapFor 95 = .ok (.iload_n 3, 1) := by decide +kernel
theorem dX7_flapFor_96 : decode cX7_flapFor 96 = .ok (.ireturn, 1) := by decide +kernel
theorem dX7_wantsFlap_0 : decode cX7_wantsFlap 0 = .ok (.aload_n 0, 1) := by decide +kernel
theorem dX7_wantsFlap_1 : decode cX7_wantsFlap 1 = .ok (.iload_n 1, 1) := by decide +kernel
theorem dX7_wantsFlap_2 : decode cX7_wantsFlap 2 = .ok (.iconst 3, 1) := by decide +kernel
theorem dX7_wantsFlap_3 : decode cX7_wantsFlap 3 = .ok (.iload_n 2, 1) := by decide +kernel
theorem dX7_wantsFlap_4 : decode cX7_wantsFlap 4 = .ok (.i2l, 1) := by decide +kernel
theorem dX7_wantsFlap_5 : decode cX7_wantsFlap 5 = .ok (.invokevirtual 78, 3) := by decide +kernel
theorem dX7_wantsFlap_8 : decode cX7_wantsFlap 8 = .ok (.iload_n 3, 1) := by decide +kernel
theorem dX7_wantsFlap_9 : decode cX7_wantsFlap 9 = .ok (.ifCond .eq 47, 3) := by decide +kernel
theorem dX7_wantsFlap_12 : decode cX7_wantsFlap 12 = .ok (.iload_n 2, 1) := by decide +kernel
theorem dX7_wantsFlap_13 : decode cX7_wantsFlap 13 = .ok (.aload_n 0, 1) := by decide +kernel
theorem dX7_wantsFlap_14 : decode cX7_wantsFlap 14 = .ok (.iload_n 1, 1) := by decide +kernel
theorem dX7_wantsFlap_15 : decode cX7_wantsFlap 15 = .ok (.iconst 2, 1) := by decide +kernel
theorem dX7_wantsFlap_16 : decode cX7_wantsFlap 16 = .ok (.invokevirtual 56, 3) := by decide +kernel
theorem dX7_wantsFlap_19 : decode cX7_wantsFlap 19 = .ok (.if_icmp .eq 37, 3) := by decide +kernel
theorem dX7_wantsFlap_22 : decode cX7_wantsFlap 22 = .ok (.aload_n 0, 1) := by decide +kernel
theorem dX7_wantsFlap_23 : decode cX7_wantsFlap 23 = .ok (.getfield 7, 3) := by decide +kernel
theorem dX7_wantsFlap_26 : decode cX7_wantsFlap 26 = .ok (.sipush 496, 3) := by decide +kernel
theorem dX7_wantsFlap_29 : decode cX7_wantsFlap 29 = .ok (.bipush 40, 2) := by decide +kernel
theorem dX7_wantsFlap_31 : decode cX7_wantsFlap 31 = .ok (.bipush 40, 2) := by decide +kernel
theorem dX7_wantsFlap_33 : decode cX7_wantsFlap 33 = .ok (.aload_n 0, 1) := by decide +kernel
theorem dX7_wantsFlap_34 : decode cX7_wantsFlap 34 = .ok (.iload_n 1, 1) := by decide +kernel
theorem dX7_wantsFlap_35 : decode cX7_wantsFlap 35 = .ok (.iconst 0, 1) := by decide +kernel
theorem dX7_wantsFlap_36 : decode cX7_wantsFlap 36 = .ok (.invokevirtual 56, 3) := by decide +kernel
theorem dX7_wantsFlap_39 : decode cX7_wantsFlap 39 = .ok (.imul, 1) := by decide +kernel
theorem dX7_wantsFlap_40 : decode cX7_wantsFlap 40 = .ok (.aload_n 0, 1) := by decide +kernel
theorem dX7_wantsFlap_41 : decode cX7_wantsFlap 41 = .ok (.iload_n 1, 1) := by decide +kernel
theorem dX7_wantsFlap_42 : decode cX7_wantsFlap 42 = .ok (.iconst 2, 1) := by decide +kernel
theorem dX7_wantsFlap_43 : decode cX7_wantsFlap 43 = .ok (.invokevirtual 56, 3) := by decide +kernel
theorem dX7_wantsFlap_46 : decode cX7_wantsFlap 46 = .ok (.iadd, 1) := by decide +kernel
theorem dX7_wantsFlap_47 : decode cX7_wantsFlap 47 = .ok (.imul, 1) := by decide +kernel
theorem dX7_wantsFlap_48 : decode cX7_wantsFlap 48 = .ok (.iadd, 1) := by decide +kernel
theorem dX7_wantsFlap_49 : decode cX7_wantsFlap 49 = .ok (.iload_n 2, 1) := by decide +kernel
theorem dX7_wantsFlap_50 : decode cX7_wantsFlap 50 = .ok (.iadd, 1) := by decide +kernel
theorem dX7_wantsFlap_51 : decode cX7_wantsFlap 51 = .ok (.dup2, 1) := by decide +kernel
theorem dX7_wantsFlap_52 : decode cX7_wantsFlap 52 = .ok (.laload, 1) := by decide +kernel
theorem dX7_wantsFlap_53 : decode cX7_wantsFlap 53 = .ok (.lconst 1, 1) := by decide +kernel
theorem dX7_wantsFlap_54 : decode cX7_wantsFlap 54 = .ok (.ladd, 1) := by decide +kernel
theorem dX7_wantsFlap_55 : decode cX7_wantsFlap 55 = .ok (.lastore, 1) := by decide +kernel
theorem dX7_wantsFlap_56 : decode cX7_wantsFlap 56 = .ok (.return_, 1) := by decide +kernel
theorem dX7_wantsSigns_0 : decode cX7_wantsSigns 0 = .ok (.iconst 0, 1) := by decide +kernel
theorem dX7_wantsSigns_1 : decode cX7_wantsSigns 1 = .ok (.istore 5, 2) := by decide +kernel
theorem dX7_wantsSigns_3 : decode cX7_wantsSigns 3 = .ok (.iconst 0, 1) := by decide +kernel
theorem dX7_wantsSigns_4 : decode cX7_wantsSigns 4 = .ok (.istore 6, 2) := by decide +kernel
theorem dX7_wantsSigns_6 : decode cX7_wantsSigns 6 = .ok (.iload 6, 2) := by decide +kernel
theorem dX7_wantsSigns_8 : decode cX7_wantsSigns 8 = .ok (.aload_n 0, 1) := by decide +kernel
theorem dX7_wantsSigns_9 : decode cX7_wantsSigns 9 = .ok (.invokevirtual 47, 3) := by decide +kernel
theorem dX7_wantsSigns_12 : decode cX7_wantsSigns 12 = .ok (.if_icmp .ge 69, 3) := by decide +kernel
theorem dX7_wantsSigns_15 : decode cX7_wantsSigns 15 = .ok (.aload_n 0, 1) := by decide +kernel
theorem dX7_wantsSigns_16 : decode cX7_wantsSigns 16 = .ok (.invokevirtual 47, 3) := by decide +kernel
theorem dX7_wantsSigns_19 : decode cX7_wantsSigns 19 = .ok (.iload_n 1, 1) := by decide +kernel
theorem dX7_wantsSigns_20 : decode cX7_wantsSigns 20 = .ok (.imul, 1) := by decide +kernel
theorem dX7_wantsSigns_21 : decode cX7_wantsSigns 21 = .ok (.iload 6, 2) := by decide +kernel
theorem dX7_wantsSigns_23 : decode cX7_wantsSigns 23 = .ok (.iadd, 1) := by decide +kernel
theorem dX7_wantsSigns_24 : decode cX7_wantsSigns 24 = .ok (.istore 7, 2) := by decide +kernel
theorem dX7_wantsSigns_26 : decode cX7_wantsSigns 26 = .ok (.iload 6, 2) := by decide +kernel
theorem dX7_wantsSigns_28 : decode cX7_wantsSigns 28 = .ok (.iload_n 3, 1) := by decide +kernel
theorem dX7_wantsSigns_29 : decode cX7_wantsSigns 29 = .ok (.if_icmp .ge 21, 3) := by decide +kernel
theorem dX7_wantsSigns_32 : decode cX7_wantsSigns 32 = .ok (.aload_n 0, 1) := by decide +kernel
theorem dX7_wantsSigns_33 : decode cX7_wantsSigns 33 = .ok (.iload 7, 2) := by decide +kernel
theorem dX7_wantsSigns_35 : decode cX7_wantsSigns 35 = .ok (.aload_n 0, 1) := by decide +kernel
theorem dX7_wantsSigns_36 : decode cX7_wantsSigns 36 = .ok (.getfield 31, 3) := by decide +kernel
theorem dX7_wantsSigns_39 : decode cX7_wantsSigns 39 = .ok (.iload_n 2, 1) := by decide +kernel
theorem dX7_wantsSigns_40 : decode cX7_wantsSigns 40 = .ok (.iload 6, 2) := by decide +kernel
theorem dX7_wantsSigns_42 : decode cX7_wantsSigns 42 = .ok (.iadd, 1) := by decide +kernel
theorem dX7_wantsSigns_43 : decode cX7_wantsSigns 43 = .ok (.baload, 1) := by decide +kernel
theorem dX7_wantsSigns_44 : decode cX7_wantsSigns 44 = .ok (.invokevirtual 113, 3) := by decide +kernel
theorem dX7_wantsSigns_47 : decode cX7_wantsSigns 47 = .ok (.goto 4, 3) := by decide +kernel
theorem dX7_wantsSigns_50 : decode cX7_wantsSigns 50 = .ok (.iconst 0, 1) := by decide +kernel
theorem dX7_wantsSigns_51 : decode cX7_wantsSigns 51 = .ok (.istore 8, 2) := by decide +kernel
theorem dX7_wantsSigns_53 : decode cX7_wantsSigns 53 = .ok (.iload 8, 2) := by decide +kernel
theorem dX7_wantsSigns_55 : decode cX7_wantsSigns 55 = .ok (.iconst (-1), 1) := by decide +kernel
theorem dX7_wantsSigns_56 : decode cX7_wantsSigns 56 = .ok (.if_icmp .ne 9, 3) := by decide +kernel
theorem dX7_wantsSigns_59 : decode cX7_wantsSigns 59 = .ok (.iinc 5 1, 3) := by decide +kernel
theorem dX7_wantsSigns_62 : decode cX7_wantsSigns 62 = .ok (.goto 13, 3) := by decide +kernel
theorem dX7_wantsSigns_65 : decode cX7_wantsSigns 65 = .ok (.aload_n 0, 1) := by decide +kernel
theorem dX7_wantsSigns_66 : decode cX7_wantsSigns 66 = .ok (.iload 7, 2) := by decide +kernel
theorem dX7_wantsSigns_68 : decode cX7_wantsSigns 68 = .ok (.iload 8, 2) := by decide +kernel
theorem dX7_wantsSigns_70 : decode cX7_wantsSigns 70 = .ok (.iload 4, 2) := by decide +kernel
theorem dX7_wantsSigns_72 : decode cX7_wantsSigns 72 = .ok (.invokevirtual 116, 3) := by decide +kernel
theorem dX7_wantsSigns_75 : decode cX7_wantsSigns 75 = .ok (.iinc 6 1, 3) := by decide +kernel
theorem dX7_wantsSigns_78 : decode cX7_wantsSigns 78 = .ok (.goto (-72), 3) := by decide +kernel
theorem dX7_wantsSigns_81 : decode cX7_wantsSigns 81 = .ok (.iload 5, 2) := by decide +kernel
theorem dX7_wantsSigns_83 : decode cX7_wantsSigns 83 = .ok (.ireturn, 1) := by decide +kernel
theorem dX7_scrolls_0 : decode cX7_scrolls 0 = .ok (.iconst 0, 1) := by decide +kernel
theorem dX7_scrolls_1 : decode cX7_scrolls 1 = .ok (.istore_n 3, 1) := by decide +kernel
theorem dX7_scrolls_2 : decode cX7_scrolls 2 = .ok (.iconst 0, 1) := by decide +kernel
theorem dX7_scrolls_3 : decode cX7_scrolls 3 = .ok (.istore 4, 2) := by decide +kernel
theorem dX7_scrolls_5 : decode cX7_scrolls 5 = .ok (.iload 4, 2) := by decide +kernel
theorem dX7_scrolls_7 : decode cX7_scrolls 7 = .ok (.aload_n 0, 1) := by decide +kernel
theorem dX7_scrolls_8 : decode cX7_scrolls 8 = .ok (.invokevirtual 53, 3) := by decide +kernel
theorem dX7_scrolls_11 : decode cX7_scrolls 11 = .ok (.if_icmp .ge 34, 3) := by decide +kernel
theorem dX7_scrolls_14 : decode cX7_scrolls 14 = .ok (.aload_n 0, 1) := by decide +kernel
theorem dX7_scrolls_15 : decode cX7_scrolls 15 = .ok (.getfield 27, 3) := by decide +kernel
theorem dX7_scrolls_18 : decode cX7_scrolls 18 = .ok (.iload 4, 2) := by decide +kernel
theorem dX7_scrolls_20 : decode cX7_scrolls 20 = .ok (.aload_n 0, 1) := by decide +kernel
theorem dX7_scrolls_21 : decode cX7_scrolls 21 = .ok (.aload_n 0, 1) := by decide +kernel
theorem dX7_scrolls_22 : decode cX7_scrolls 22 = .ok (.iload 4, 2) := by decide +kernel
theorem dX7_scrolls_24 : decode cX7_scrolls 24 = .ok (.iconst 0, 1) := by decide +kernel
theorem dX7_scrolls_25 : decode cX7_scrolls 25 = .ok (.invokevirtual 56, 3) := by decide +kernel
theorem dX7_scrolls_28 : decode cX7_scrolls 28 = .ok (.aload_n 0, 1) := by decide +kernel
theorem dX7_scrolls_29 : decode cX7_scrolls 29 = .ok (.iload 4, 2) := by decide +kernel
theorem dX7_scrolls_31 : decode cX7_scrolls 31 = .ok (.iconst 3, 1) := by decide +kernel
theorem dX7_scrolls_32 : decode cX7_scrolls 32 = .ok (.invokevirtual 56, 3) := by decide +kernel
theorem dX7_scrolls_35 : decode cX7_scrolls 35 = .ok (.invokevirtual 106, 3) := by decide +kernel
theorem dX7_scrolls_38 : decode cX7_scrolls 38 = .ok (.iastore, 1) := by decide +kernel
theorem dX7_scrolls_39 : decode cX7_scrolls 39 = .ok (.iinc 4 1, 3) := by decide +kernel
theorem dX7_scrolls_42 : decode cX7_scrolls 42 = .ok (.goto (-37), 3) := by decide +kernel
theorem dX7_scrolls_45 : decode cX7_scrolls 45 = .ok (.iconst 0, 1) := by decide +kernel
theorem dX7_scrolls_46 : decode cX7_scrolls 46 = .ok (.istore 4, 2) := by decide +kernel
theorem dX7_scrolls_48 : decode cX7_scrolls 48 = .ok (.iload 4, 2) := by decide +kernel
theorem dX7_scrolls_50 : decode cX7_scrolls 50 = .ok (.aload_n 0, 1) := by decide +kernel
theorem dX7_scrolls_51 : decode cX7_scrolls 51 = .ok (.invokevirtual 47, 3) := by decide +kernel
theorem dX7_scrolls_54 : decode cX7_scrolls 54 = .ok (.iadd, 1) := by decide +kernel
theorem dX7_scrolls_55 : decode cX7_scrolls 55 = .ok (.aload_n 0, 1) := by decide +kernel
theorem dX7_scrolls_56 : decode cX7_scrolls 56 = .ok (.invokevirtual 53, 3) := by decide +kernel
theorem dX7_scrolls_59 : decode cX7_scrolls 59 = .ok (.if_icmp .ge 50, 3) := by decide +kernel
theorem dX7_scrolls_62 : decode cX7_scrolls 62 = .ok (.aload_n 0, 1) := by decide +kernel
theorem dX7_scrolls_63 : decode cX7_scrolls 63 = .ok (.iload 4, 2) := by decide +kernel
theorem dX7_scrolls_65 : decode cX7_scrolls 65 = .ok (.aload_n 0, 1) := by decide +kernel
theorem dX7_scrolls_66 : decode cX7_scrolls 66 = .ok (.getfield 27, 3) := by decide +kernel
theorem dX7_scrolls_69 : decode cX7_scrolls 69 = .ok (.iload 4, 2) := by decide +kernel
theorem dX7_scrolls_71 : decode cX7_scrolls 71 = .ok (.aload_n 0, 1) := by decide +kernel
theorem dX7_scrolls_72 : decode cX7_scrolls 72 = .ok (.invokevirtual 47, 3) := by decide +kernel
theorem dX7_scrolls_75 : decode cX7_scrolls 75 = .ok (.iadd, 1) := by decide +kernel
theorem dX7_scrolls_76 : decode cX7_scrolls 76 = .ok (.iaload, 1) := by decide +kernel
theorem dX7_scrolls_77 : decode cX7_scrolls 77 = .ok (.invokevirtual 113, 3) := by decide +kernel
theorem dX7_scrolls_80 : decode cX7_scrolls 80 = .ok (.istore 5, 2) := by decide +kernel
theorem dX7_scrolls_82 : decode cX7_scrolls 82 = .ok (.iload 5, 2) := by decide +kernel
theorem dX7_scrolls_84 : decode cX7_scrolls 84 = .ok (.iconst (-1), 1) := by decide +kernel
theorem dX7_scrolls_85 : decode cX7_scrolls 85 = .ok (.if_icmp .ne 9, 3) := by decide +kernel
theorem dX7_scrolls_88 : decode cX7_scrolls 88 = .ok (.iinc 3 1, 3) := by decide +kernel
theorem dX7_scrolls_91 : decode cX7_scrolls 91 = .ok (.goto 12, 3) := by decide +kernel
theorem dX7_scrolls_94 : decode cX7_scrolls 94 = .ok (.aload_n 0, 1) := by decide +kernel
theorem dX7_scrolls_95 : decode cX7_scrolls 95 = .ok (.iload 4, 2) := by decide +kernel
theorem dX7_scrolls_97 : decode cX7_scrolls 97 = .ok (.iload 5, 2) := by decide +kernel
theorem dX7_scrolls_99 : decode cX7_scrolls 99 = .ok (.iconst 1, 1) := by decide +kernel
theorem dX7_scrolls_100 : decode cX7_scrolls 100 = .ok (.invokevirtual 116, 3) := by decide +kernel
theorem dX7_scrolls_103 : decode cX7_scrolls 103 = .ok (.iinc 4 1, 3) := by decide +kernel
theorem dX7_scrolls_106 : decode cX7_scrolls 106 = .ok (.goto (-58), 3) := by decide +kernel
theorem dX7_scrolls_109 : decode cX7_scrolls 109 = .ok (.iload_n 3, 1) := by decide +kernel
theorem dX7_scrolls_110 : decode cX7_scrolls 110 = .ok (.aload_n 0, 1) := by decide +kernel
theorem dX7_scrolls_111 : decode cX7_scrolls 111 = .ok (.aload_n 0, 1) := by decide +kernel
theorem dX7_scrolls_112 : decode cX7_scrolls 112 = .ok (.invokevirtual 43, 3) := by decide +kernel
theorem dX7_scrolls_115 : decode cX7_scrolls 115 = .ok (.iconst 1, 1) := by decide +kernel
theorem dX7_scrolls_116 : decode cX7_scrolls 116 = .ok (.isub, 1) := by decide +kernel
theorem dX7_scrolls_117 : decode cX7_scrolls 117 = .ok (.iload_n 1, 1) := by decide +kernel
theorem dX7_scrolls_118 : decode cX7_scrolls 118 = .ok (.iload_n 2, 1) := by decide +kernel
theorem dX7_scrolls_119 : decode cX7_scrolls 119 = .ok (.iconst 1, 1) := by decide +kernel
theorem dX7_scrolls_120 : decode cX7_scrolls 120 = .ok (.invokevirtual 120, 3) := by decide +kernel
theorem dX7_scrolls_123 : decode cX7_scrolls 123 = .ok (.iadd, 1) := by decide +kernel
theorem dX7_scrolls_124 : decode cX7_scrolls 124 = .ok (.ireturn, 1) := by decide +kernel
theorem dX7_keepsAct_0 : decode cX7_keepsAct 0 = .ok (.aload_n 0, 1) := by decide +kernel
theorem dX7_keepsAct_1 : decode cX7_keepsAct 1 = .ok (.getfield 124, 3) := by decide +kernel
theorem dX7_keepsAct_4 : decode cX7_keepsAct 4 = .ok (.bipush 10, 2) := by decide +kernel
theorem dX7_keepsAct_6 : decode cX7_keepsAct 6 = .ok (.if_icmp .ne 45, 3) := by decide +kernel
theorem dX7_keepsAct_9 : decode cX7_keepsAct 9 = .ok (.sipush 6896, 3) := by decide +kernel
theorem dX7_keepsAct_12 : decode cX7_keepsAct 12 = .ok (.istore_n 1, 1) := by decide +kernel
theorem dX7_keepsAct_13 : decode cX7_keepsAct 13 = .ok (.iload_n 1, 1) := by decide +kernel
theorem dX7_keepsAct_14 : decode cX7_keepsAct 14 = .ok (.ldc 13, 2) := by decide +kernel
theorem dX7_keepsAct_16 : decode cX7_keepsAct 16 = .ok (.if_icmp .ge 25, 3) := by decide +kernel
theorem dX7_keepsAct_19 : decode cX7_keepsAct 19 = .ok (.aload_n 0, 1) := by decide +kernel
theorem dX7_keepsAct_20 : decode cX7_keepsAct 20 = .ok (.getfield 14, 3) := by decide +kernel
theorem dX7_keepsAct_23 : decode cX7_keepsAct 23 = .ok (.iload_n 1, 1) := by decide +kernel
theorem dX7_keepsAct_24 : decode cX7_keepsAct 24 = .ok (.sipush 6896, 3) := by decide +kernel
theorem dX7_keepsAct_27 : decode cX7_keepsAct 27 = .ok (.isub, 1) := by decide +kernel
theorem dX7_keepsAct_28 : decode cX7_keepsAct 28 = .ok (.aload_n 0, 1) := by decide +kernel
theorem dX7_keepsAct_29 : decode cX7_keepsAct 29 = .ok (.getfield 14, 3) := by decide +kernel
theorem dX7_keepsAct_32 : decode cX7_keepsAct 32 = .ok (.iload_n 1, 1) := by decide +kernel
theorem dX7_keepsAct_33 : decode cX7_keepsAct 33 = .ok (.laload, 1) := by decide +kernel
theorem dX7_keepsAct_34 : decode cX7_keepsAct 34 = .ok (.lastore, 1) := by decide +kernel
theorem dX7_keepsAct_35 : decode cX7_keepsAct 35 = .ok (.iinc 1 1, 3) := by decide +kernel
theorem dX7_keepsAct_38 : decode cX7_keepsAct 38 = .ok (.goto (-25), 3) := by decide +kernel
theorem dX7_keepsAct_41 : decode cX7_keepsAct 41 = .ok (.aload_n 0, 1) := by decide +kernel
theorem dX7_keepsAct_42 : decode cX7_keepsAct 42 = .ok (.dup, 1) := by decide +kernel
theorem dX7_keepsAct_43 : decode cX7_keepsAct 43 = .ok (.getfield 124, 3) := by decide +kernel
theorem dX7_keepsAct_46 : decode cX7_keepsAct 46 = .ok (.iconst 1, 1) := by decide +kernel
theorem dX7_keepsAct_47 : decode cX7_keepsAct 47 = .ok (.isub, 1) := by decide +kernel
theorem dX7_keepsAct_48 : decode cX7_keepsAct 48 = .ok (.putfield 124, 3) := by decide +kernel
theorem dX7_keepsAct_51 : decode cX7_keepsAct 51 = .ok (.iconst 0, 1) := by decide +kernel
theorem dX7_keepsAct_52 : decode cX7_keepsAct 52 = .ok (.istore_n 1, 1) := by decide +kernel
theorem dX7_keepsAct_53 : decode cX7_keepsAct 53 = .ok (.iload_n 1, 1) := by decide +kernel
theorem dX7_keepsAct_54 : decode cX7_keepsAct 54 = .ok (.sipush 6896, 3) := by decide +kernel
theorem dX7_keepsAct_57 : decode cX7_keepsAct 57 = .ok (.if_icmp .ge 30, 3) := by decide +kernel
theorem dX7_keepsAct_60 : decode cX7_keepsAct 60 = .ok (.aload_n 0, 1) := by decide +kernel
theorem dX7_keepsAct_61 : decode cX7_keepsAct 61 = .ok (.getfield 14, 3) := by decide +kernel
theorem dX7_keepsAct_64 : decode cX7_keepsAct 64 = .ok (.sipush 6896, 3) := by decide +kernel
theorem dX7_keepsAct_67 : decode cX7_keepsAct 67 = .ok (.aload_n 0, 1) := by decide +kernel
theorem dX7_keepsAct_68 : decode cX7_keepsAct 68 = .ok (.getfield 124, 3) := by decide +kernel
theorem dX7_keepsAct_71 : decode cX7_keepsAct 71 = .ok (.imul, 1) := by decide +kernel
theorem dX7_keepsAct_72 : decode cX7_keepsAct 72 = .ok (.iload_n 1, 1) := by decide +kernel
theorem dX7_keepsAct_73 : decode cX7_keepsAct 73 = .ok (.iadd, 1) := by decide +kernel
theorem dX7_keepsAct_74 : decode cX7_keepsAct 74 = .ok (.aload_n 0, 1) := by decide +kernel
theorem dX7_keepsAct_75 : decode cX7_keepsAct 75 = .ok (.getfield 7, 3) := by decide +kernel
theorem dX7_keepsAct_78 : decode cX7_keepsAct 78 = .ok (.iload_n 1, 1) := by decide +kernel
theorem dX7_keepsAct_79 : decode cX7_keepsAct 79 = .ok (.laload, 1) := by decide +kernel
theorem dX7_keepsAct_80 : decode cX7_keepsAct 80 = .ok (.lastore, 1) := by decide +kernel
theorem dX7_keepsAct_81 : decode cX7_keepsAct 81 = .ok (.iinc 1 1, 3) := by decide +kernel
theorem dX7_keepsAct_84 : decode cX7_keepsAct 84 = .ok (.goto (-31), 3) := by decide +kernel
theorem dX7_keepsAct_87 : decode cX7_keepsAct 87 = .ok (.aload_n 0, 1) := by decide +kernel
theorem dX7_keepsAct_88 : decode cX7_keepsAct 88 = .ok (.dup, 1) := by decide +kernel
theorem dX7_keepsAct_89 : decode cX7_keepsAct 89 = .ok (.getfield 124, 3) := by decide +kernel
theorem dX7_keepsAct_92 : decode cX7_keepsAct 92 = .ok (.iconst 1, 1) := by decide +kernel
theorem dX7_keepsAct_93 : decode cX7_keepsAct 93 = .ok (.iadd, 1) := by decide +kernel
theorem dX7_keepsAct_94 : decode cX7_keepsAct 94 = .ok (.putfield 124, 3) := by decide +kernel
theorem dX7_keepsAct_97 : decode cX7_keepsAct 97 = .ok (.return_, 1) := by decide +kernel
theorem dX7_areSigns_0 : decode cX7_areSigns 0 = .ok (.iconst 0, 1) := by decide +kernel
theorem dX7_areSigns_1 : decode cX7_areSigns 1 = .ok (.istore_n 3, 1) := by decide +kernel
theorem dX7_areSigns_2 : decode cX7_areSigns 2 = .ok (.iload_n 3, 1) := by decide +kernel
theorem dX7_areSigns_3 : decode cX7_areSigns 3 = .ok (.iload_n 2, 1) := by decide +kernel
theorem dX7_areSigns_4 : decode cX7_areSigns 4 = .ok (.if_icmp .ge 25, 3) := by decide +kernel
theorem dX7_areSigns_7 : decode cX7_areSigns 7 = .ok (.aload_n 0, 1) := by decide +kernel
theorem dX7_areSigns_8 : decode cX7_areSigns 8 = .ok (.getfield 31, 3) := by decide +kernel
theorem dX7_areSigns_11 : decode cX7_areSigns 11 = .ok (.iload_n 1, 1) := by decide +kernel
theorem dX7_areSigns_12 : decode cX7_areSigns 12 = .ok (.iload_n 3, 1) := by decide +kernel
theorem dX7_areSigns_13 : decode cX7_areSigns 13 = .ok (.iadd, 1) := by decide +kernel
theorem dX7_areSigns_14 : decode cX7_areSigns 14 = .ok (.baload, 1) := by decide +kernel
theorem dX7_areSigns_15 : decode cX7_areSigns 15 = .ok (.invokestatic 127, 3) := by decide +kernel
theorem dX7_areSigns_18 : decode cX7_areSigns 18 = .ok (.ifCond .ne 5, 3) := by decide +kernel
theorem dX7_areSigns_21 : decode cX7_areSigns 21 = .ok (.iconst 0, 1) := by decide +kernel
theorem dX7_areSigns_22 : decode cX7_areSigns 22 = .ok (.ireturn, 1) := by decide +kernel
theorem dX7_areSigns_23 : decode cX7_areSigns 23 = .ok (.iinc 3 1, 3) := by decide +kernel
theorem dX7_areSigns_26 : decode cX7_areSigns 26 = .ok (.goto (-24), 3) := by decide +kernel
theorem dX7_areSigns_29 : decode cX7_areSigns 29 = .ok (.iconst 1, 1) := by decide +kernel
theorem dX7_areSigns_30 : decode cX7_areSigns 30 = .ok (.ireturn, 1) := by decide +kernel
theorem dX7_isRowText_0 : decode cX7_isRowText 0 = .ok (.iload_n 1, 1) := by decide +kernel
theorem dX7_isRowText_1 : decode cX7_isRowText 1 = .ok (.aload_n 0, 1) := by decide +kernel
theorem dX7_isRowText_2 : decode cX7_isRowText 2 = .ok (.invokevirtual 47, 3) := by decide +kernel
theorem dX7_isRowText_5 : decode cX7_isRowText 5 = .ok (.if_icmp .gt 16, 3) := by decide +kernel
theorem dX7_isRowText_8 : decode cX7_isRowText 8 = .ok (.aload_n 0, 1) := by decide +kernel
theorem dX7_isRowText_9 : decode cX7_isRowText 9 = .ok (.iconst 0, 1) := by decide +kernel
theorem dX7_isRowText_10 : decode cX7_isRowText 10 = .ok (.iload_n 1, 1) := by decide +kernel
theorem dX7_isRowText_11 : decode cX7_isRowText 11 = .ok (.invokevirtual 131, 3) := by decide +kernel
theorem dX7_isRowText_14 : decode cX7_isRowText 14 = .ok (.ifCond .eq 7, 3) := by decide +kernel
theorem dX7_isRowText_17 : decode cX7_isRowText 17 = .ok (.iconst 1, 1) := by decide +kernel
theorem dX7_isRowText_18 : decode cX7_isRowText 18 = .ok (.goto 4, 3) := by decide +kernel
theorem dX7_isRowText_21 : decode cX7_isRowText 21 = .ok (.iconst 0, 1) := by decide +kernel
theorem dX7_isRowText_22 : decode cX7_isRowText 22 = .ok (.ireturn, 1) := by decide +kernel
theorem dX7_row_0 : decode cX7_row 0 = .ok (.aload_n 0, 1) := by decide +kernel
theorem dX7_row_1 : decode cX7_row 1 = .ok (.getfield 135, 3) := by decide +kernel
theorem dX7_row_4 : decode cX7_row 4 = .ok (.istore_n 2, 1) := by decide +kernel
theorem dX7_row_5 : decode cX7_row 5 = .ok (.aload_n 0, 1) := by decide +kernel
theorem dX7_row_6 : decode cX7_row 6 = .ok (.iconst 0, 1) := by decide +kernel
theorem dX7_row_7 : decode cX7_row 7 = .ok (.putfield 135, 3) := by decide +kernel
theorem dX7_row_10 : decode cX7_row 10 = .ok (.aload_n 0, 1) := by decide +kernel
theorem dX7_row_11 : decode cX7_row 11 = .ok (.iload_n 1, 1) := by decide +kernel
theorem dX7_row_12 : decode cX7_row 12 = .ok (.invokevirtual 138, 3) := by decide +kernel
theorem dX7_row_15 : decode cX7_row 15 = .ok (.ifCond .ne 5, 3) := by decide +kernel
theorem dX7_row_18 : decode cX7_row 18 = .ok (.iconst (-1), 1) := by decide +kernel
theorem dX7_row_19 : decode cX7_row 19 = .ok (.ireturn, 1) := by decide +kernel
theorem dX7_row_20 : decode cX7_row 20 = .ok (.aload_n 0, 1) := by decide +kernel
theorem dX7_row_21 : decode cX7_row 21 = .ok (.iload_n 2, 1) := by decide +kernel
theorem dX7_row_22 : decode cX7_row 22 = .ok (.invokevirtual 141, 3) := by decide +kernel
theorem dX7_row_25 : decode cX7_row 25 = .ok (.ifCond .ne 6, 3) := by decide +kernel
theorem dX7_row_28 : decode cX7_row 28 = .ok (.bipush (-2), 2) := by decide +kernel
theorem dX7_row_30 : decode cX7_row 30 = .ok (.ireturn, 1) := by decide +kernel
theorem dX7_row_31 : decode cX7_row 31 = .ok (.aload_n 0, 1) := by decide +kernel
