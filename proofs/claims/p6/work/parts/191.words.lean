theorem mw_16 : Cond.selects RX6 yX6_doProgram yX6_doProgram ∈ w_all := w_in 16 (by decide +kernel) (by decide +kernel)
theorem mw_22 : Cond.selects RX6 yX6_shelvesUsed yX6_shelvesUsed ∈ w_all := w_in 22 (by decide +kernel) (by decide +kernel)
theorem mw_103 : Cond.initialized RX3 ∈ w_all := w_inT w_s1 6 rfl rfl
theorem mw_161 : Cond.classLink RX6 16 RX0 ∈ w_all := w_inT w_s1 64 rfl rfl
theorem mw_163 : Cond.methodLink RX6 18 yX0_init ∈ w_all := w_inT w_s1 66 rfl rfl
theorem mw_346 : Cond.fieldLink RX6 79 "FlapBoard$Past" "size" "I" ∈ w_all := w_inT w_s2 9 rfl rfl
theorem mw_631 : Cond.methodLink RX6 87 yX3_push ∈ w_all := w_inT w_s3 54 rfl rfl
theorem mw_632 : Cond.instanceMethod yX3_push ∈ w_all := w_inT w_s3 55 rfl rfl
theorem mw_633 : Cond.selects RX3 yX3_push yX3_push ∈ w_all := w_inT w_s3 56 rfl rfl
theorem mw_634 : Cond.code yX3_push cX3_push 3 none ∈ w_all := w_inT w_s3 57 rfl rfl
theorem mw_741 : Cond.methodLink RX6 137 yX0_wearFlap ∈ w_all := w_inT w_s3 164 rfl rfl
theorem mw_756 : Cond.methodLink RX6 143 yX0_mendFlap ∈ w_all := w_inT w_s3 179 rfl rfl
theorem mw_757 : Cond.instanceMethod yX0_mendFlap ∈ w_all := w_inT w_s3 180 rfl rfl
theorem mw_758 : Cond.selects RX0 yX0_mendFlap yX0_mendFlap ∈ w_all := w_inT w_s3 181 rfl rfl
theorem mw_759 : Cond.code yX0_mendFlap cX0_mendFlap 3 none ∈ w_all := w_inT w_s3 182 rfl rfl
theorem mw_776 : Cond.methodLink RX6 152 yX0_swapSigns ∈ w_all := w_inT w_s3 199 rfl rfl
theorem mw_777 : Cond.instanceMethod yX0_swapSigns ∈ w_all := w_inT w_s3 200 rfl rfl
theorem mw_778 : Cond.selects RX0 yX0_swapSigns yX0_swapSigns ∈ w_all := w_inT w_s3 201 rfl rfl
theorem mw_779 : Cond.code yX0_swapSigns cX0_swapSigns 6 none ∈ w_all := w_inT w_s3 202 rfl rfl
theorem mw_826 : Cond.methodLink RX6 160 yX6_doProgram ∈ w_all := w_inT w_s4 9 rfl rfl
theorem mw_828 : Cond.instanceMethod yX6_doProgram ∈ w_all := w_inT w_s4 11 rfl rfl
theorem mw_829 : Cond.code yX6_doProgram cX6_doProgram 2 (some .int) ∈ w_all := w_inT w_s4 12 rfl rfl
theorem mw_873 : Cond.methodLink RX6 197 yX3_pop ∈ w_all := w_inT w_s4 56 rfl rfl
theorem mw_874 : Cond.instanceMethod yX3_pop ∈ w_all := w_inT w_s4 57 rfl rfl
theorem mw_875 : Cond.selects RX3 yX3_pop yX3_pop ∈ w_all := w_inT w_s4 58 rfl rfl
theorem mw_876 : Cond.code yX3_pop cX3_pop 3 (some .boolean) ∈ w_all := w_inT w_s4 59 rfl rfl
theorem mw_884 : Cond.methodLink RX6 204 yX0_copyAll ∈ w_all := w_inT w_s4 67 rfl rfl
theorem mw_1119 : Cond.methodLink RX6 377 yX6_shelvesUsed ∈ w_all := w_inT w_s5 62 rfl rfl
theorem mw_1121 : Cond.instanceMethod yX6_shelvesUsed ∈ w_all := w_inT w_s5 64 rfl rfl
theorem mw_1122 : Cond.code yX6_shelvesUsed cX6_shelvesUsed 3 (some .int) ∈ w_all := w_inT w_s5 65 rfl rfl
theorem wd_X0_mendFlap : wd_V yX0_mendFlap cX0_mendFlap 3 none 2 := ⟨mw_757, mw_758, mw_100, mw_759, by decide +kernel, by decide +kernel, by decide +kernel⟩
theorem wd_X0_swapSigns : wd_V yX0_swapSigns cX0_swapSigns 6 none 3 := ⟨mw_777, mw_778, mw_100, mw_779, by decide +kernel, by decide +kernel, by decide +kernel⟩
theorem wd_X3_pop : wd_V yX3_pop cX3_pop 3 (some .boolean) 1 := ⟨mw_874, mw_875, mw_103, mw_876, by decide +kernel, by decide +kernel, by decide +kernel⟩
theorem wd_X3_push : wd_V yX3_push cX3_push 3 none 1 := ⟨mw_632, mw_633, mw_103, mw_634, by decide +kernel, by decide +kernel, by decide +kernel⟩
theorem wd_X6_doProgram : wd_V yX6_doProgram cX6_doProgram 2 (some .int) 0 := ⟨mw_828, mw_16, mw_98, mw_829, by decide +kernel, by decide +kernel, by decide +kernel⟩
theorem wd_X6_shelvesUsed : wd_V yX6_shelvesUsed cX6_shelvesUsed 3 (some .int) 0 := ⟨mw_1121, mw_22, mw_98, mw_1122, by decide +kernel, by decide +kernel, by decide +kernel⟩
theorem dX6_back_7 : decode cX6_back 7 = .ok (.iconst (-1), 1) := by decide +kernel
theorem dX6_back_8 : decode cX6_back 8 = .ok (.ireturn, 1) := by decide +kernel
theorem dX6_back_14 : decode cX6_back 14 = .ok (.aaload, 1) := by decide +kernel
theorem dX6_back_15 : decode cX6_back 15 = .ok (.astore_n 2, 1) := by decide +kernel
theorem dX6_back_16 : decode cX6_back 16 = .ok (.aload_n 2, 1) := by decide +kernel
theorem dX6_back_17 : decode cX6_back 17 = .ok (.ifnonnull 6, 3) := by decide +kernel
theorem dX6_back_20 : decode cX6_back 20 = .ok (.bipush (-2), 2) := by decide +kernel
theorem dX6_back_22 : decode cX6_back 22 = .ok (.ireturn, 1) := by decide +kernel
theorem dX6_back_23 : decode cX6_back 23 = .ok (.aload_n 0, 1) := by decide +kernel
theorem dX6_back_24 : decode cX6_back 24 = .ok (.getfield 19, 3) := by decide +kernel
theorem dX6_back_27 : decode cX6_back 27 = .ok (.aload_n 2, 1) := by decide +kernel
theorem dX6_back_28 : decode cX6_back 28 = .ok (.invokevirtual 204, 3) := by decide +kernel
theorem dX6_back_31 : decode cX6_back 31 = .ok (.aload_n 0, 1) := by decide +kernel
theorem dX6_back_32 : decode cX6_back 32 = .ok (.getfield 43, 3) := by decide +kernel
theorem dX6_back_35 : decode cX6_back 35 = .ok (.iconst 0, 1) := by decide +kernel
theorem dX6_back_36 : decode cX6_back 36 = .ok (.putfield 79, 3) := by decide +kernel
theorem dX6_back_39 : decode cX6_back 39 = .ok (.aload_n 0, 1) := by decide +kernel
theorem dX6_back_40 : decode cX6_back 40 = .ok (.getfield 19, 3) := by decide +kernel
theorem dX6_back_43 : decode cX6_back 43 = .ok (.invokevirtual 207, 3) := by decide +kernel
theorem dX6_back_46 : decode cX6_back 46 = .ok (.ireturn, 1) := by decide +kernel
theorem dX6_count_96 : decode cX6_count 96 = .ok (.getfield 79, 3) := by decide +kernel
theorem dX6_count_99 : decode cX6_count 99 = .ok (.ireturn, 1) := by decide +kernel
theorem dX6_count_100 : decode cX6_count 100 = .ok (.aload_n 0, 1) := by decide +kernel
theorem dX6_count_101 : decode cX6_count 101 = .ok (.getfield 10, 3) := by decide +kernel
theorem dX6_count_104 : decode cX6_count 104 = .ok (.getfield 51, 3) := by decide +kernel
theorem dX6_count_107 : decode cX6_count 107 = .ok (.ireturn, 1) := by decide +kernel
theorem dX6_count_108 : decode cX6_count 108 = .ok (.aload_n 0, 1) := by decide +kernel
theorem dX6_count_109 : decode cX6_count 109 = .ok (.invokevirtual 377, 3) := by decide +kernel
theorem dX6_count_112 : decode cX6_count 112 = .ok (.ireturn, 1) := by decide +kernel
theorem dX6_count_113 : decode cX6_count 113 = .ok (.aload_n 0, 1) := by decide +kernel
theorem dX6_count_114 : decode cX6_count 114 = .ok (.getfield 29, 3) := by decide +kernel
theorem dX6_count_117 : decode cX6_count 117 = .ok (.aload_n 0, 1) := by decide +kernel
theorem dX6_count_118 : decode cX6_count 118 = .ok (.getfield 19, 3) := by decide +kernel
theorem dX6_count_121 : decode cX6_count 121 = .ok (.invokevirtual 111, 3) := by decide +kernel
theorem dX6_count_124 : decode cX6_count 124 = .ok (.aload_n 0, 1) := by decide +kernel
theorem dX6_count_125 : decode cX6_count 125 = .ok (.getfield 29, 3) := by decide +kernel
theorem dX6_count_128 : decode cX6_count 128 = .ok (.getfield 114, 3) := by decide +kernel
theorem dX6_count_131 : decode cX6_count 131 = .ok (.ireturn, 1) := by decide +kernel
theorem dX6_count_132 : decode cX6_count 132 = .ok (.iconst (-1), 1) := by decide +kernel
theorem dX6_count_133 : decode cX6_count 133 = .ok (.ireturn, 1) := by decide +kernel
theorem dX6_exchange_39 : decode cX6_exchange 39 = .ok (.invokevirtual 87, 3) := by decide +kernel
theorem dX6_exchange_42 : decode cX6_exchange 42 = .ok (.aload_n 0, 1) := by decide +kernel
theorem dX6_exchange_43 : decode cX6_exchange 43 = .ok (.getfield 19, 3) := by decide +kernel
theorem dX6_exchange_46 : decode cX6_exchange 46 = .ok (.iload_n 1, 1) := by decide +kernel
theorem dX6_exchange_47 : decode cX6_exchange 47 = .ok (.iload_n 2, 1) := by decide +kernel
theorem dX6_exchange_48 : decode cX6_exchange 48 = .ok (.iload_n 3, 1) := by decide +kernel
theorem dX6_exchange_49 : decode cX6_exchange 49 = .ok (.invokevirtual 152, 3) := by decide +kernel
theorem dX6_exchange_52 : decode cX6_exchange 52 = .ok (.aload_n 0, 1) := by decide +kernel
theorem dX6_exchange_53 : decode cX6_exchange 53 = .ok (.getfield 19, 3) := by decide +kernel
theorem dX6_exchange_56 : decode cX6_exchange 56 = .ok (.invokevirtual 76, 3) := by decide +kernel
theorem dX6_exchange_59 : decode cX6_exchange 59 = .ok (.iconst 1, 1) := by decide +kernel
theorem dX6_exchange_60 : decode cX6_exchange 60 = .ok (.ireturn, 1) := by decide +kernel
theorem dX6_keep_7 : decode cX6_keep 7 = .ok (.iconst (-1), 1) := by decide +kernel
theorem dX6_keep_8 : decode cX6_keep 8 = .ok (.ireturn, 1) := by decide +kernel
theorem dX6_keep_14 : decode cX6_keep 14 = .ok (.aaload, 1) := by decide +kernel
theorem dX6_keep_15 : decode cX6_keep 15 = .ok (.astore_n 2, 1) := by decide +kernel
theorem dX6_keep_16 : decode cX6_keep 16 = .ok (.aload_n 2, 1) := by decide +kernel
theorem dX6_keep_17 : decode cX6_keep 17 = .ok (.ifnonnull 18, 3) := by decide +kernel
theorem dX6_keep_20 : decode cX6_keep 20 = .ok (.new 16, 3) := by decide +kernel
theorem dX6_keep_23 : decode cX6_keep 23 = .ok (.dup, 1) := by decide +kernel
theorem dX6_keep_24 : decode cX6_keep 24 = .ok (.invokespecial 18, 3) := by decide +kernel
theorem dX6_keep_27 : decode cX6_keep 27 = .ok (.astore_n 2, 1) := by decide +kernel
theorem dX6_keep_28 : decode cX6_keep 28 = .ok (.aload_n 0, 1) := by decide +kernel
theorem dX6_keep_29 : decode cX6_keep 29 = .ok (.getfield 47, 3) := by decide +kernel
theorem dX6_keep_32 : decode cX6_keep 32 = .ok (.iload_n 1, 1) := by decide +kernel
theorem dX6_keep_33 : decode cX6_keep 33 = .ok (.aload_n 2, 1) := by decide +kernel
theorem dX6_keep_34 : decode cX6_keep 34 = .ok (.aastore, 1) := by decide +kernel
theorem dX6_keep_35 : decode cX6_keep 35 = .ok (.aload_n 2, 1) := by decide +kernel
theorem dX6_keep_36 : decode cX6_keep 36 = .ok (.aload_n 0, 1) := by decide +kernel
theorem dX6_keep_37 : decode cX6_keep 37 = .ok (.getfield 19, 3) := by decide +kernel
theorem dX6_keep_40 : decode cX6_keep 40 = .ok (.invokevirtual 204, 3) := by decide +kernel
theorem dX6_keep_43 : decode cX6_keep 43 = .ok (.aload_n 0, 1) := by decide +kernel
theorem dX6_keep_44 : decode cX6_keep 44 = .ok (.getfield 19, 3) := by decide +kernel
theorem dX6_keep_47 : decode cX6_keep 47 = .ok (.invokevirtual 207, 3) := by decide +kernel
theorem dX6_keep_50 : decode cX6_keep 50 = .ok (.ireturn, 1) := by decide +kernel
theorem dX6_limit_36 : decode cX6_limit 36 = .ok (.bipush (-2), 2) := by decide +kernel
theorem dX6_limit_38 : decode cX6_limit 38 = .ok (.ireturn, 1) := by decide +kernel
theorem dX6_limit_47 : decode cX6_limit 47 = .ok (.invokevirtual 87, 3) := by decide +kernel
theorem dX6_limit_50 : decode cX6_limit 50 = .ok (.aload_n 0, 1) := by decide +kernel
theorem dX6_limit_51 : decode cX6_limit 51 = .ok (.getfield 19, 3) := by decide +kernel
theorem dX6_limit_54 : decode cX6_limit 54 = .ok (.iload_n 1, 1) := by decide +kernel
theorem dX6_limit_55 : decode cX6_limit 55 = .ok (.putfield 146, 3) := by decide +kernel
theorem dX6_limit_58 : decode cX6_limit 58 = .ok (.iload_n 2, 1) := by decide +kernel
theorem dX6_limit_59 : decode cX6_limit 59 = .ok (.ireturn, 1) := by decide +kernel
theorem dX6_lose_38 : decode cX6_lose 38 = .ok (.bipush (-2), 2) := by decide +kernel
theorem dX6_lose_40 : decode cX6_lose 40 = .ok (.ireturn, 1) := by decide +kernel
theorem dX6_lose_49 : decode cX6_lose 49 = .ok (.invokevirtual 87, 3) := by decide +kernel
theorem dX6_lose_52 : decode cX6_lose 52 = .ok (.aload_n 0, 1) := by decide +kernel
theorem dX6_lose_53 : decode cX6_lose 53 = .ok (.getfield 19, 3) := by decide +kernel
theorem dX6_lose_56 : decode cX6_lose 56 = .ok (.iload_n 1, 1) := by decide +kernel
theorem dX6_lose_57 : decode cX6_lose 57 = .ok (.iload_n 2, 1) := by decide +kernel
theorem dX6_lose_58 : decode cX6_lose 58 = .ok (.invokevirtual 126, 3) := by decide +kernel
theorem dX6_lose_61 : decode cX6_lose 61 = .ok (.iload_n 3, 1) := by decide +kernel
theorem dX6_lose_62 : decode cX6_lose 62 = .ok (.ireturn, 1) := by decide +kernel
theorem dX6_mend_12 : decode cX6_mend 12 = .ok (.iconst (-1), 1) := by decide +kernel
theorem dX6_mend_13 : decode cX6_mend 13 = .ok (.ireturn, 1) := by decide +kernel
theorem dX6_mend_26 : decode cX6_mend 26 = .ok (.bipush (-2), 2) := by decide +kernel
theorem dX6_mend_28 : decode cX6_mend 28 = .ok (.ireturn, 1) := by decide +kernel
theorem dX6_mend_37 : decode cX6_mend 37 = .ok (.invokevirtual 87, 3) := by decide +kernel
theorem dX6_mend_40 : decode cX6_mend 40 = .ok (.aload_n 0, 1) := by decide +kernel
theorem dX6_mend_41 : decode cX6_mend 41 = .ok (.getfield 19, 3) := by decide +kernel
theorem dX6_mend_44 : decode cX6_mend 44 = .ok (.iload_n 1, 1) := by decide +kernel
theorem dX6_mend_45 : decode cX6_mend 45 = .ok (.iload_n 2, 1) := by decide +kernel
theorem dX6_mend_46 : decode cX6_mend 46 = .ok (.invokevirtual 143, 3) := by decide +kernel
theorem dX6_mend_49 : decode cX6_mend 49 = .ok (.aload_n 0, 1) := by decide +kernel
theorem dX6_mend_50 : decode cX6_mend 50 = .ok (.getfield 19, 3) := by decide +kernel
theorem dX6_mend_53 : decode cX6_mend 53 = .ok (.iload_n 1, 1) := by decide +kernel
theorem dX6_mend_54 : decode cX6_mend 54 = .ok (.invokevirtual 140, 3) := by decide +kernel
theorem dX6_mend_57 : decode cX6_mend 57 = .ok (.ireturn, 1) := by decide +kernel
theorem dX6_row_18 : decode cX6_row 18 = .ok (.invokevirtual 87, 3) := by decide +kernel
theorem dX6_row_21 : decode cX6_row 21 = .ok (.aload_n 0, 1) := by decide +kernel
theorem dX6_row_22 : decode cX6_row 22 = .ok (.getfield 19, 3) := by decide +kernel
theorem dX6_row_25 : decode cX6_row 25 = .ok (.iload_n 1, 1) := by decide +kernel
theorem dX6_row_26 : decode cX6_row 26 = .ok (.aload_n 0, 1) := by decide +kernel
theorem dX6_row_27 : decode cX6_row 27 = .ok (.getfield 10, 3) := by decide +kernel
theorem dX6_row_30 : decode cX6_row 30 = .ok (.iconst 0, 1) := by decide +kernel
theorem dX6_row_31 : decode cX6_row 31 = .ok (.aload_n 0, 1) := by decide +kernel
theorem dX6_row_32 : decode cX6_row 32 = .ok (.getfield 10, 3) := by decide +kernel
theorem dX6_row_35 : decode cX6_row 35 = .ok (.getfield 51, 3) := by decide +kernel
theorem dX6_row_38 : decode cX6_row 38 = .ok (.invokevirtual 90, 3) := by decide +kernel
theorem dX6_row_41 : decode cX6_row 41 = .ok (.istore_n 2, 1) := by decide +kernel
theorem dX6_run_17 : decode cX6_run 17 = .ok (.invokevirtual 87, 3) := by decide +kernel
theorem dX6_run_20 : decode cX6_run 20 = .ok (.aload_n 0, 1) := by decide +kernel
theorem dX6_run_21 : decode cX6_run 21 = .ok (.invokevirtual 160, 3) := by decide +kernel
theorem dX6_run_24 : decode cX6_run 24 = .ok (.istore_n 1, 1) := by decide +kernel
theorem dX6_scroll_26 : decode cX6_scroll 26 = .ok (.invokevirtual 87, 3) := by decide +kernel
theorem dX6_scroll_29 : decode cX6_scroll 29 = .ok (.aload_n 0, 1) := by decide +kernel
theorem dX6_scroll_30 : decode cX6_scroll 30 = .ok (.getfield 19, 3) := by decide +kernel
theorem dX6_scroll_33 : decode cX6_scroll 33 = .ok (.aload_n 0, 1) := by decide +kernel
theorem dX6_scroll_34 : decode cX6_scroll 34 = .ok (.getfield 10, 3) := by decide +kernel
theorem dX6_scroll_37 : decode cX6_scroll 37 = .ok (.iconst 0, 1) := by decide +kernel
theorem dX6_scroll_38 : decode cX6_scroll 38 = .ok (.aload_n 0, 1) := by decide +kernel
theorem dX6_scroll_39 : decode cX6_scroll 39 = .ok (.getfield 10, 3) := by decide +kernel
theorem dX6_scroll_42 : decode cX6_scroll 42 = .ok (.getfield 51, 3) := by decide +kernel
theorem dX6_scroll_45 : decode cX6_scroll 45 = .ok (.invokevirtual 97, 3) := by decide +kernel
theorem dX6_scroll_48 : decode cX6_scroll 48 = .ok (.istore_n 1, 1) := by decide +kernel
theorem dX6_settle_10 : decode cX6_settle 10 = .ok (.iconst (-1), 1) := by decide +kernel
theorem dX6_settle_11 : decode cX6_settle 11 = .ok (.ireturn, 1) := by decide +kernel
theorem dX6_settle_33 : decode cX6_settle 33 = .ok (.bipush (-2), 2) := by decide +kernel
theorem dX6_settle_35 : decode cX6_settle 35 = .ok (.ireturn, 1) := by decide +kernel
theorem dX6_settle_44 : decode cX6_settle 44 = .ok (.invokevirtual 87, 3) := by decide +kernel
theorem dX6_settle_47 : decode cX6_settle 47 = .ok (.aload_n 0, 1) := by decide +kernel
theorem dX6_settle_48 : decode cX6_settle 48 = .ok (.getfield 29, 3) := by decide +kernel
theorem dX6_settle_51 : decode cX6_settle 51 = .ok (.aload_n 0, 1) := by decide +kernel
theorem dX6_settle_52 : decode cX6_settle 52 = .ok (.getfield 19, 3) := by decide +kernel
theorem dX6_settle_55 : decode cX6_settle 55 = .ok (.sipush 9999, 3) := by decide +kernel
theorem dX6_settle_58 : decode cX6_settle 58 = .ok (.invokevirtual 104, 3) := by decide +kernel
theorem dX6_settle_61 : decode cX6_settle 61 = .ok (.aload_n 0, 1) := by decide +kernel
theorem dX6_settle_62 : decode cX6_settle 62 = .ok (.getfield 29, 3) := by decide +kernel
theorem dX6_settle_65 : decode cX6_settle 65 = .ok (.getfield 115, 3) := by decide +kernel
theorem dX6_settle_68 : decode cX6_settle 68 = .ok (.ireturn, 1) := by decide +kernel
theorem dX6_shelvesUsed_14 : decode cX6_shelvesUsed 14 = .ok (.aaload, 1) := by decide +kernel
theorem dX6_shelvesUsed_15 : decode cX6_shelvesUsed 15 = .ok (.ifnull 9, 3) := by decide +kernel
theorem dX6_shelvesUsed_18 : decode cX6_shelvesUsed 18 = .ok (.iload_n 1, 1) := by decide +kernel
theorem dX6_shelvesUsed_19 : decode cX6_shelvesUsed 19 = .ok (.iconst 1, 1) := by decide +kernel
theorem dX6_shelvesUsed_20 : decode cX6_shelvesUsed 20 = .ok (.iload_n 2, 1) := by decide +kernel
theorem dX6_shelvesUsed_21 : decode cX6_shelvesUsed 21 = .ok (.ishl, 1) := by decide +kernel
theorem dX6_shelvesUsed_22 : decode cX6_shelvesUsed 22 = .ok (.ior, 1) := by decide +kernel
theorem dX6_shelvesUsed_23 : decode cX6_shelvesUsed 23 = .ok (.istore_n 1, 1) := by decide +kernel
theorem dX6_shelvesUsed_24 : decode cX6_shelvesUsed 24 = .ok (.iinc 2 1, 3) := by decide +kernel
theorem dX6_shelvesUsed_27 : decode cX6_shelvesUsed 27 = .ok (.goto (-23), 3) := by decide +kernel
theorem dX6_shelvesUsed_30 : decode cX6_shelvesUsed 30 = .ok (.iload_n 1, 1) := by decide +kernel
theorem dX6_shelvesUsed_31 : decode cX6_shelvesUsed 31 = .ok (.ireturn, 1) := by decide +kernel
theorem dX6_tell_29 : decode cX6_tell 29 = .ok (.bipush (-2), 2) := by decide +kernel
theorem dX6_tell_31 : decode cX6_tell 31 = .ok (.aload_n 0, 1) := by decide +kernel
theorem dX6_tell_32 : decode cX6_tell 32 = .ok (.getfield 10, 3) := by decide +kernel
theorem dX6_tell_35 : decode cX6_tell 35 = .ok (.getfield 69, 3) := by decide +kernel
theorem dX6_tell_38 : decode cX6_tell 38 = .ok (.isub, 1) := by decide +kernel
theorem dX6_tell_39 : decode cX6_tell 39 = .ok (.ireturn, 1) := by decide +kernel
theorem dX6_tell_63 : decode cX6_tell 63 = .ok (.putfield 79, 3) := by decide +kernel
theorem dX6_tell_66 : decode cX6_tell 66 = .ok (.aload_n 0, 1) := by decide +kernel
theorem dX6_tell_67 : decode cX6_tell 67 = .ok (.getfield 19, 3) := by decide +kernel
theorem dX6_tell_70 : decode cX6_tell 70 = .ok (.getfield 80, 3) := by decide +kernel
theorem dX6_tell_73 : decode cX6_tell 73 = .ok (.ireturn, 1) := by decide +kernel
theorem dX6_tick_31 : decode cX6_tick 31 = .ok (.invokevirtual 87, 3) := by decide +kernel
theorem dX6_tick_34 : decode cX6_tick 34 = .ok (.aload_n 0, 1) := by decide +kernel
theorem dX6_tick_35 : decode cX6_tick 35 = .ok (.getfield 29, 3) := by decide +kernel
theorem dX6_tick_38 : decode cX6_tick 38 = .ok (.aload_n 0, 1) := by decide +kernel
theorem dX6_tick_39 : decode cX6_tick 39 = .ok (.getfield 19, 3) := by decide +kernel
theorem dX6_tick_42 : decode cX6_tick 42 = .ok (.iload_n 1, 1) := by decide +kernel
theorem dX6_tick_43 : decode cX6_tick 43 = .ok (.invokevirtual 104, 3) := by decide +kernel
theorem dX6_tick_46 : decode cX6_tick 46 = .ok (.aload_n 0, 1) := by decide +kernel
theorem dX6_tick_47 : decode cX6_tick 47 = .ok (.getfield 29, 3) := by decide +kernel
theorem dX6_tick_50 : decode cX6_tick 50 = .ok (.getfield 108, 3) := by decide +kernel
theorem dX6_tick_53 : decode cX6_tick 53 = .ok (.ireturn, 1) := by decide +kernel
theorem dX6_undo_8 : decode cX6_undo 8 = .ok (.invokevirtual 197, 3) := by decide +kernel
theorem dX6_undo_11 : decode cX6_undo 11 = .ok (.ifCond .eq 13, 3) := by decide +kernel
theorem dX6_undo_14 : decode cX6_undo 14 = .ok (.aload_n 0, 1) := by decide +kernel
theorem dX6_undo_15 : decode cX6_undo 15 = .ok (.getfield 43, 3) := by decide +kernel
theorem dX6_undo_18 : decode cX6_undo 18 = .ok (.getfield 79, 3) := by decide +kernel
theorem dX6_undo_21 : decode cX6_undo 21 = .ok (.goto 4, 3) := by decide +kernel
theorem dX6_undo_24 : decode cX6_undo 24 = .ok (.iconst (-1), 1) := by decide +kernel
theorem dX6_undo_25 : decode cX6_undo 25 = .ok (.ireturn, 1) := by decide +kernel
theorem dX6_wear_30 : decode cX6_wear 30 = .ok (.bipush (-2), 2) := by decide +kernel
theorem dX6_wear_32 : decode cX6_wear 32 = .ok (.ireturn, 1) := by decide +kernel
theorem dX6_wear_41 : decode cX6_wear 41 = .ok (.invokevirtual 87, 3) := by decide +kernel
theorem dX6_wear_44 : decode cX6_wear 44 = .ok (.aload_n 0, 1) := by decide +kernel
theorem dX6_wear_45 : decode cX6_wear 45 = .ok (.getfield 19, 3) := by decide +kernel
theorem dX6_wear_48 : decode cX6_wear 48 = .ok (.iload_n 1, 1) := by decide +kernel
theorem dX6_wear_49 : decode cX6_wear 49 = .ok (.iload_n 2, 1) := by decide +kernel
theorem dX6_wear_50 : decode cX6_wear 50 = .ok (.invokevirtual 137, 3) := by decide +kernel
theorem dX6_wear_53 : decode cX6_wear 53 = .ok (.aload_n 0, 1) := by decide +kernel
theorem dX6_wear_54 : decode cX6_wear 54 = .ok (.getfield 19, 3) := by decide +kernel
theorem dX6_wear_57 : decode cX6_wear 57 = .ok (.iload_n 1, 1) := by decide +kernel
theorem dX6_wear_58 : decode cX6_wear 58 = .ok (.invokevirtual 140, 3) := by decide +kernel
theorem dX6_wear_61 : decode cX6_wear 61 = .ok (.ireturn, 1) := by decide +kernel
