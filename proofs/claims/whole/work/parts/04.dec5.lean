theorem d_Grid_keepLine_69 : decode b_Grid_keepLine 69 = .ok (.ifCond .eq 7, 3) := by decide +kernel
theorem d_Grid_keepLine_72 : decode b_Grid_keepLine 72 = .ok (.iconst 1, 1) := by decide +kernel
theorem d_Grid_keepLine_73 : decode b_Grid_keepLine 73 = .ok (.goto 4, 3) := by decide +kernel
theorem d_Grid_keepLine_76 : decode b_Grid_keepLine 76 = .ok (.iconst 0, 1) := by decide +kernel
theorem d_Grid_keepLine_77 : decode b_Grid_keepLine 77 = .ok (.iastore, 1) := by decide +kernel
theorem d_Grid_keepLine_78 : decode b_Grid_keepLine 78 = .ok (.return_, 1) := by decide +kernel
theorem d_Text_init_0 : decode b_Text_init 0 = .ok (.aload_n 0, 1) := by decide +kernel
theorem d_Text_init_1 : decode b_Text_init 1 = .ok (.invokespecial 5, 3) := by decide +kernel
theorem d_Text_init_4 : decode b_Text_init 4 = .ok (.aload_n 0, 1) := by decide +kernel
theorem d_Text_init_5 : decode b_Text_init 5 = .ok (.iconst 0, 1) := by decide +kernel
theorem d_Text_init_6 : decode b_Text_init 6 = .ok (.putfield 11, 3) := by decide +kernel
theorem d_Text_init_9 : decode b_Text_init 9 = .ok (.aload_n 0, 1) := by decide +kernel
theorem d_Text_init_10 : decode b_Text_init 10 = .ok (.iconst 0, 1) := by decide +kernel
theorem d_Text_init_11 : decode b_Text_init 11 = .ok (.putfield 15, 3) := by decide +kernel
theorem d_Text_init_14 : decode b_Text_init 14 = .ok (.aload_n 0, 1) := by decide +kernel
theorem d_Text_init_15 : decode b_Text_init 15 = .ok (.iconst 0, 1) := by decide +kernel
theorem d_Text_init_16 : decode b_Text_init 16 = .ok (.putfield 18, 3) := by decide +kernel
theorem d_Text_init_19 : decode b_Text_init 19 = .ok (.aload_n 0, 1) := by decide +kernel
theorem d_Text_init_20 : decode b_Text_init 20 = .ok (.bipush 100, 2) := by decide +kernel
theorem d_Text_init_22 : decode b_Text_init 22 = .ok (.newarray .int, 2) := by decide +kernel
theorem d_Text_init_24 : decode b_Text_init 24 = .ok (.putfield 22, 3) := by decide +kernel
theorem d_Text_init_27 : decode b_Text_init 27 = .ok (.aload_n 0, 1) := by decide +kernel
theorem d_Text_init_28 : decode b_Text_init 28 = .ok (.iconst 0, 1) := by decide +kernel
theorem d_Text_init_29 : decode b_Text_init 29 = .ok (.putfield 26, 3) := by decide +kernel
theorem d_Text_init_32 : decode b_Text_init 32 = .ok (.aload_n 0, 1) := by decide +kernel
theorem d_Text_init_33 : decode b_Text_init 33 = .ok (.iconst 0, 1) := by decide +kernel
theorem d_Text_init_34 : decode b_Text_init 34 = .ok (.putfield 29, 3) := by decide +kernel
theorem d_Text_init_37 : decode b_Text_init 37 = .ok (.aload_n 0, 1) := by decide +kernel
theorem d_Text_init_38 : decode b_Text_init 38 = .ok (.bipush 100, 2) := by decide +kernel
theorem d_Text_init_40 : decode b_Text_init 40 = .ok (.newarray .int, 2) := by decide +kernel
theorem d_Text_init_42 : decode b_Text_init 42 = .ok (.putfield 32, 3) := by decide +kernel
theorem d_Text_init_45 : decode b_Text_init 45 = .ok (.aload_n 0, 1) := by decide +kernel
theorem d_Text_init_46 : decode b_Text_init 46 = .ok (.bipush 101, 2) := by decide +kernel
theorem d_Text_init_48 : decode b_Text_init 48 = .ok (.newarray .int, 2) := by decide +kernel
theorem d_Text_init_50 : decode b_Text_init 50 = .ok (.putfield 35, 3) := by decide +kernel
theorem d_Text_init_53 : decode b_Text_init 53 = .ok (.aload_n 0, 1) := by decide +kernel
theorem d_Text_init_54 : decode b_Text_init 54 = .ok (.bipush 101, 2) := by decide +kernel
theorem d_Text_init_56 : decode b_Text_init 56 = .ok (.newarray .int, 2) := by decide +kernel
theorem d_Text_init_58 : decode b_Text_init 58 = .ok (.putfield 38, 3) := by decide +kernel
theorem d_Text_init_61 : decode b_Text_init 61 = .ok (.return_, 1) := by decide +kernel
theorem d_Text_append_0 : decode b_Text_append 0 = .ok (.iload_n 1, 1) := by decide +kernel
theorem d_Text_append_1 : decode b_Text_append 1 = .ok (.bipush 32, 2) := by decide +kernel
theorem d_Text_append_3 : decode b_Text_append 3 = .ok (.if_icmp .lt 19, 3) := by decide +kernel
theorem d_Text_append_6 : decode b_Text_append 6 = .ok (.iload_n 1, 1) := by decide +kernel
theorem d_Text_append_7 : decode b_Text_append 7 = .ok (.bipush 126, 2) := by decide +kernel
theorem d_Text_append_9 : decode b_Text_append 9 = .ok (.if_icmp .gt 13, 3) := by decide +kernel
theorem d_Text_append_12 : decode b_Text_append 12 = .ok (.aload_n 0, 1) := by decide +kernel
theorem d_Text_append_13 : decode b_Text_append 13 = .ok (.getfield 11, 3) := by decide +kernel
theorem d_Text_append_16 : decode b_Text_append 16 = .ok (.sipush 200, 3) := by decide +kernel
theorem d_Text_append_19 : decode b_Text_append 19 = .ok (.if_icmp .lt 5, 3) := by decide +kernel
theorem d_Text_append_22 : decode b_Text_append 22 = .ok (.iconst 0, 1) := by decide +kernel
theorem d_Text_append_23 : decode b_Text_append 23 = .ok (.ireturn, 1) := by decide +kernel
theorem d_Text_append_24 : decode b_Text_append 24 = .ok (.aload_n 0, 1) := by decide +kernel
theorem d_Text_append_25 : decode b_Text_append 25 = .ok (.dup, 1) := by decide +kernel
theorem d_Text_append_26 : decode b_Text_append 26 = .ok (.getfield 11, 3) := by decide +kernel
theorem d_Text_append_29 : decode b_Text_append 29 = .ok (.iconst 1, 1) := by decide +kernel
theorem d_Text_append_30 : decode b_Text_append 30 = .ok (.iadd, 1) := by decide +kernel
theorem d_Text_append_31 : decode b_Text_append 31 = .ok (.putfield 11, 3) := by decide +kernel
theorem d_Text_append_34 : decode b_Text_append 34 = .ok (.iload_n 1, 1) := by decide +kernel
theorem d_Text_append_35 : decode b_Text_append 35 = .ok (.bipush 32, 2) := by decide +kernel
theorem d_Text_append_37 : decode b_Text_append 37 = .ok (.if_icmp .ne 11, 3) := by decide +kernel
theorem d_Text_append_40 : decode b_Text_append 40 = .ok (.aload_n 0, 1) := by decide +kernel
theorem d_Text_append_41 : decode b_Text_append 41 = .ok (.iconst 0, 1) := by decide +kernel
theorem d_Text_append_42 : decode b_Text_append 42 = .ok (.putfield 18, 3) := by decide +kernel
theorem d_Text_append_45 : decode b_Text_append 45 = .ok (.goto 7, 3) := by decide +kernel
theorem d_Text_append_48 : decode b_Text_append 48 = .ok (.aload_n 0, 1) := by decide +kernel
theorem d_Text_append_49 : decode b_Text_append 49 = .ok (.invokevirtual 41, 3) := by decide +kernel
theorem d_Text_append_52 : decode b_Text_append 52 = .ok (.iconst 1, 1) := by decide +kernel
theorem d_Text_append_53 : decode b_Text_append 53 = .ok (.ireturn, 1) := by decide +kernel
theorem d_Text_appendLetter_0 : decode b_Text_appendLetter 0 = .ok (.aload_n 0, 1) := by decide +kernel
theorem d_Text_appendLetter_1 : decode b_Text_appendLetter 1 = .ok (.getfield 18, 3) := by decide +kernel
theorem d_Text_appendLetter_4 : decode b_Text_appendLetter 4 = .ok (.ifCond .eq 28, 3) := by decide +kernel
theorem d_Text_appendLetter_7 : decode b_Text_appendLetter 7 = .ok (.aload_n 0, 1) := by decide +kernel
theorem d_Text_appendLetter_8 : decode b_Text_appendLetter 8 = .ok (.getfield 15, 3) := by decide +kernel
theorem d_Text_appendLetter_11 : decode b_Text_appendLetter 11 = .ok (.ifCond .le 21, 3) := by decide +kernel
theorem d_Text_appendLetter_14 : decode b_Text_appendLetter 14 = .ok (.aload_n 0, 1) := by decide +kernel
theorem d_Text_appendLetter_15 : decode b_Text_appendLetter 15 = .ok (.getfield 22, 3) := by decide +kernel
theorem d_Text_appendLetter_18 : decode b_Text_appendLetter 18 = .ok (.aload_n 0, 1) := by decide +kernel
theorem d_Text_appendLetter_19 : decode b_Text_appendLetter 19 = .ok (.getfield 15, 3) := by decide +kernel
theorem d_Text_appendLetter_22 : decode b_Text_appendLetter 22 = .ok (.iconst 1, 1) := by decide +kernel
theorem d_Text_appendLetter_23 : decode b_Text_appendLetter 23 = .ok (.isub, 1) := by decide +kernel
theorem d_Text_appendLetter_24 : decode b_Text_appendLetter 24 = .ok (.dup2, 1) := by decide +kernel
theorem d_Text_appendLetter_25 : decode b_Text_appendLetter 25 = .ok (.iaload, 1) := by decide +kernel
theorem d_Text_appendLetter_26 : decode b_Text_appendLetter 26 = .ok (.iconst 1, 1) := by decide +kernel
theorem d_Text_appendLetter_27 : decode b_Text_appendLetter 27 = .ok (.iadd, 1) := by decide +kernel
theorem d_Text_appendLetter_28 : decode b_Text_appendLetter 28 = .ok (.iastore, 1) := by decide +kernel
theorem d_Text_appendLetter_29 : decode b_Text_appendLetter 29 = .ok (.goto 37, 3) := by decide +kernel
theorem d_Text_appendLetter_32 : decode b_Text_appendLetter 32 = .ok (.aload_n 0, 1) := by decide +kernel
theorem d_Text_appendLetter_33 : decode b_Text_appendLetter 33 = .ok (.getfield 15, 3) := by decide +kernel
theorem d_Text_appendLetter_36 : decode b_Text_appendLetter 36 = .ok (.bipush 100, 2) := by decide +kernel
theorem d_Text_appendLetter_38 : decode b_Text_appendLetter 38 = .ok (.if_icmp .ge 28, 3) := by decide +kernel
theorem d_Text_appendLetter_41 : decode b_Text_appendLetter 41 = .ok (.aload_n 0, 1) := by decide +kernel
theorem d_Text_appendLetter_42 : decode b_Text_appendLetter 42 = .ok (.getfield 22, 3) := by decide +kernel
theorem d_Text_appendLetter_45 : decode b_Text_appendLetter 45 = .ok (.aload_n 0, 1) := by decide +kernel
theorem d_Text_appendLetter_46 : decode b_Text_appendLetter 46 = .ok (.getfield 15, 3) := by decide +kernel
theorem d_Text_appendLetter_49 : decode b_Text_appendLetter 49 = .ok (.iconst 1, 1) := by decide +kernel
theorem d_Text_appendLetter_50 : decode b_Text_appendLetter 50 = .ok (.iastore, 1) := by decide +kernel
theorem d_Text_appendLetter_51 : decode b_Text_appendLetter 51 = .ok (.aload_n 0, 1) := by decide +kernel
theorem d_Text_appendLetter_52 : decode b_Text_appendLetter 52 = .ok (.dup, 1) := by decide +kernel
theorem d_Text_appendLetter_53 : decode b_Text_appendLetter 53 = .ok (.getfield 15, 3) := by decide +kernel
theorem d_Text_appendLetter_56 : decode b_Text_appendLetter 56 = .ok (.iconst 1, 1) := by decide +kernel
theorem d_Text_appendLetter_57 : decode b_Text_appendLetter 57 = .ok (.iadd, 1) := by decide +kernel
theorem d_Text_appendLetter_58 : decode b_Text_appendLetter 58 = .ok (.putfield 15, 3) := by decide +kernel
theorem d_Text_appendLetter_61 : decode b_Text_appendLetter 61 = .ok (.aload_n 0, 1) := by decide +kernel
theorem d_Text_appendLetter_62 : decode b_Text_appendLetter 62 = .ok (.iconst 1, 1) := by decide +kernel
theorem d_Text_appendLetter_63 : decode b_Text_appendLetter 63 = .ok (.putfield 18, 3) := by decide +kernel
theorem d_Text_appendLetter_66 : decode b_Text_appendLetter 66 = .ok (.return_, 1) := by decide +kernel
theorem d_Text_empty_0 : decode b_Text_empty 0 = .ok (.aload_n 0, 1) := by decide +kernel
theorem d_Text_empty_1 : decode b_Text_empty 1 = .ok (.iconst 0, 1) := by decide +kernel
theorem d_Text_empty_2 : decode b_Text_empty 2 = .ok (.putfield 11, 3) := by decide +kernel
theorem d_Text_empty_5 : decode b_Text_empty 5 = .ok (.aload_n 0, 1) := by decide +kernel
theorem d_Text_empty_6 : decode b_Text_empty 6 = .ok (.iconst 0, 1) := by decide +kernel
theorem d_Text_empty_7 : decode b_Text_empty 7 = .ok (.putfield 15, 3) := by decide +kernel
theorem d_Text_empty_10 : decode b_Text_empty 10 = .ok (.aload_n 0, 1) := by decide +kernel
theorem d_Text_empty_11 : decode b_Text_empty 11 = .ok (.iconst 0, 1) := by decide +kernel
theorem d_Text_empty_12 : decode b_Text_empty 12 = .ok (.putfield 18, 3) := by decide +kernel
theorem d_Text_empty_15 : decode b_Text_empty 15 = .ok (.aload_n 0, 1) := by decide +kernel
theorem d_Text_empty_16 : decode b_Text_empty 16 = .ok (.invokevirtual 44, 3) := by decide +kernel
theorem d_Text_empty_19 : decode b_Text_empty 19 = .ok (.return_, 1) := by decide +kernel
theorem d_Text_forgetBreak_0 : decode b_Text_forgetBreak 0 = .ok (.aload_n 0, 1) := by decide +kernel
theorem d_Text_forgetBreak_1 : decode b_Text_forgetBreak 1 = .ok (.iconst 0, 1) := by decide +kernel
theorem d_Text_forgetBreak_2 : decode b_Text_forgetBreak 2 = .ok (.putfield 26, 3) := by decide +kernel
theorem d_Text_forgetBreak_5 : decode b_Text_forgetBreak 5 = .ok (.aload_n 0, 1) := by decide +kernel
theorem d_Text_forgetBreak_6 : decode b_Text_forgetBreak 6 = .ok (.iconst 0, 1) := by decide +kernel
theorem d_Text_forgetBreak_7 : decode b_Text_forgetBreak 7 = .ok (.putfield 29, 3) := by decide +kernel
theorem d_Text_forgetBreak_10 : decode b_Text_forgetBreak 10 = .ok (.return_, 1) := by decide +kernel
theorem d_Text_breakInto_0 : decode b_Text_breakInto 0 = .ok (.iload_n 1, 1) := by decide +kernel
theorem d_Text_breakInto_1 : decode b_Text_breakInto 1 = .ok (.iconst 1, 1) := by decide +kernel
theorem d_Text_breakInto_2 : decode b_Text_breakInto 2 = .ok (.if_icmp .lt 9, 3) := by decide +kernel
theorem d_Text_breakInto_5 : decode b_Text_breakInto 5 = .ok (.iload_n 1, 1) := by decide +kernel
theorem d_Text_breakInto_6 : decode b_Text_breakInto 6 = .ok (.bipush 100, 2) := by decide +kernel
theorem d_Text_breakInto_8 : decode b_Text_breakInto 8 = .ok (.if_icmp .le 5, 3) := by decide +kernel
theorem d_Text_breakInto_11 : decode b_Text_breakInto 11 = .ok (.iconst (-1), 1) := by decide +kernel
theorem d_Text_breakInto_12 : decode b_Text_breakInto 12 = .ok (.ireturn, 1) := by decide +kernel
theorem d_Text_breakInto_13 : decode b_Text_breakInto 13 = .ok (.aload_n 0, 1) := by decide +kernel
theorem d_Text_breakInto_14 : decode b_Text_breakInto 14 = .ok (.invokevirtual 44, 3) := by decide +kernel
theorem d_Text_breakInto_17 : decode b_Text_breakInto 17 = .ok (.aload_n 0, 1) := by decide +kernel
theorem d_Text_breakInto_18 : decode b_Text_breakInto 18 = .ok (.iload_n 1, 1) := by decide +kernel
theorem d_Text_breakInto_19 : decode b_Text_breakInto 19 = .ok (.invokevirtual 47, 3) := by decide +kernel
theorem d_Text_breakInto_22 : decode b_Text_breakInto 22 = .ok (.ifCond .eq 6, 3) := by decide +kernel
theorem d_Text_breakInto_25 : decode b_Text_breakInto 25 = .ok (.bipush (-2), 2) := by decide +kernel
theorem d_Text_breakInto_27 : decode b_Text_breakInto 27 = .ok (.ireturn, 1) := by decide +kernel
theorem d_Text_breakInto_28 : decode b_Text_breakInto 28 = .ok (.aload_n 0, 1) := by decide +kernel
theorem d_Text_breakInto_29 : decode b_Text_breakInto 29 = .ok (.iload_n 1, 1) := by decide +kernel
theorem d_Text_breakInto_30 : decode b_Text_breakInto 30 = .ok (.invokevirtual 51, 3) := by decide +kernel
theorem d_Text_breakInto_33 : decode b_Text_breakInto 33 = .ok (.aload_n 0, 1) := by decide +kernel
theorem d_Text_breakInto_34 : decode b_Text_breakInto 34 = .ok (.invokevirtual 55, 3) := by decide +kernel
theorem d_Text_breakInto_37 : decode b_Text_breakInto 37 = .ok (.aload_n 0, 1) := by decide +kernel
theorem d_Text_breakInto_38 : decode b_Text_breakInto 38 = .ok (.getfield 26, 3) := by decide +kernel
theorem d_Text_breakInto_41 : decode b_Text_breakInto 41 = .ok (.ireturn, 1) := by decide +kernel
theorem d_Text_hasWordLongerThan_0 : decode b_Text_hasWordLongerThan 0 = .ok (.iconst 0, 1) := by decide +kernel
theorem d_Text_hasWordLongerThan_1 : decode b_Text_hasWordLongerThan 1 = .ok (.istore_n 2, 1) := by decide +kernel
theorem d_Text_hasWordLongerThan_2 : decode b_Text_hasWordLongerThan 2 = .ok (.iload_n 2, 1) := by decide +kernel
theorem d_Text_hasWordLongerThan_3 : decode b_Text_hasWordLongerThan 3 = .ok (.aload_n 0, 1) := by decide +kernel
theorem d_Text_hasWordLongerThan_4 : decode b_Text_hasWordLongerThan 4 = .ok (.getfield 15, 3) := by decide +kernel
theorem d_Text_hasWordLongerThan_7 : decode b_Text_hasWordLongerThan 7 = .ok (.if_icmp .ge 21, 3) := by decide +kernel
theorem d_Text_hasWordLongerThan_10 : decode b_Text_hasWordLongerThan 10 = .ok (.aload_n 0, 1) := by decide +kernel
theorem d_Text_hasWordLongerThan_11 : decode b_Text_hasWordLongerThan 11 = .ok (.getfield 22, 3) := by decide +kernel
theorem d_Text_hasWordLongerThan_14 : decode b_Text_hasWordLongerThan 14 = .ok (.iload_n 2, 1) := by decide +kernel
theorem d_Text_hasWordLongerThan_15 : decode b_Text_hasWordLongerThan 15 = .ok (.iaload, 1) := by decide +kernel
theorem d_Text_hasWordLongerThan_16 : decode b_Text_hasWordLongerThan 16 = .ok (.iload_n 1, 1) := by decide +kernel
theorem d_Text_hasWordLongerThan_17 : decode b_Text_hasWordLongerThan 17 = .ok (.if_icmp .le 5, 3) := by decide +kernel
theorem d_Text_hasWordLongerThan_20 : decode b_Text_hasWordLongerThan 20 = .ok (.iconst 1, 1) := by decide +kernel
theorem d_Text_hasWordLongerThan_21 : decode b_Text_hasWordLongerThan 21 = .ok (.ireturn, 1) := by decide +kernel
theorem d_Text_hasWordLongerThan_22 : decode b_Text_hasWordLongerThan 22 = .ok (.iinc 2 1, 3) := by decide +kernel
theorem d_Text_hasWordLongerThan_25 : decode b_Text_hasWordLongerThan 25 = .ok (.goto (-23), 3) := by decide +kernel
theorem d_Text_hasWordLongerThan_28 : decode b_Text_hasWordLongerThan 28 = .ok (.iconst 0, 1) := by decide +kernel
theorem d_Text_hasWordLongerThan_29 : decode b_Text_hasWordLongerThan 29 = .ok (.ireturn, 1) := by decide +kernel
theorem d_Text_findLeastSums_0 : decode b_Text_findLeastSums 0 = .ok (.aload_n 0, 1) := by decide +kernel
theorem d_Text_findLeastSums_1 : decode b_Text_findLeastSums 1 = .ok (.getfield 35, 3) := by decide +kernel
theorem d_Text_findLeastSums_4 : decode b_Text_findLeastSums 4 = .ok (.aload_n 0, 1) := by decide +kernel
theorem d_Text_findLeastSums_5 : decode b_Text_findLeastSums 5 = .ok (.getfield 15, 3) := by decide +kernel
theorem d_Text_findLeastSums_8 : decode b_Text_findLeastSums 8 = .ok (.iconst 0, 1) := by decide +kernel
theorem d_Text_findLeastSums_9 : decode b_Text_findLeastSums 9 = .ok (.iastore, 1) := by decide +kernel
theorem d_Text_findLeastSums_10 : decode b_Text_findLeastSums 10 = .ok (.aload_n 0, 1) := by decide +kernel
theorem d_Text_findLeastSums_11 : decode b_Text_findLeastSums 11 = .ok (.getfield 15, 3) := by decide +kernel
theorem d_Text_findLeastSums_14 : decode b_Text_findLeastSums 14 = .ok (.iconst 1, 1) := by decide +kernel
theorem d_Text_findLeastSums_15 : decode b_Text_findLeastSums 15 = .ok (.isub, 1) := by decide +kernel
theorem d_Text_findLeastSums_16 : decode b_Text_findLeastSums 16 = .ok (.istore_n 2, 1) := by decide +kernel
theorem d_Text_findLeastSums_17 : decode b_Text_findLeastSums 17 = .ok (.iload_n 2, 1) := by decide +kernel
theorem d_Text_findLeastSums_18 : decode b_Text_findLeastSums 18 = .ok (.ifCond .lt 15, 3) := by decide +kernel
theorem d_Text_findLeastSums_21 : decode b_Text_findLeastSums 21 = .ok (.aload_n 0, 1) := by decide +kernel
theorem d_Text_findLeastSums_22 : decode b_Text_findLeastSums 22 = .ok (.iload_n 2, 1) := by decide +kernel
theorem d_Text_findLeastSums_23 : decode b_Text_findLeastSums 23 = .ok (.iload_n 1, 1) := by decide +kernel
theorem d_Text_findLeastSums_24 : decode b_Text_findLeastSums 24 = .ok (.invokevirtual 58, 3) := by decide +kernel
theorem d_Text_findLeastSums_27 : decode b_Text_findLeastSums 27 = .ok (.iinc 2 (-1), 3) := by decide +kernel
theorem d_Text_findLeastSums_30 : decode b_Text_findLeastSums 30 = .ok (.goto (-13), 3) := by decide +kernel
theorem d_Text_findLeastSums_33 : decode b_Text_findLeastSums 33 = .ok (.return_, 1) := by decide +kernel
theorem d_Text_findBestLine_0 : decode b_Text_findBestLine 0 = .ok (.iload_n 2, 1) := by decide +kernel
theorem d_Text_findBestLine_1 : decode b_Text_findBestLine 1 = .ok (.aload_n 0, 1) := by decide +kernel
theorem d_Text_findBestLine_2 : decode b_Text_findBestLine 2 = .ok (.getfield 22, 3) := by decide +kernel
theorem d_Text_findBestLine_5 : decode b_Text_findBestLine 5 = .ok (.iload_n 1, 1) := by decide +kernel
theorem d_Text_findBestLine_6 : decode b_Text_findBestLine 6 = .ok (.iaload, 1) := by decide +kernel
theorem d_Text_findBestLine_7 : decode b_Text_findBestLine 7 = .ok (.isub, 1) := by decide +kernel
theorem d_Text_findBestLine_8 : decode b_Text_findBestLine 8 = .ok (.istore_n 3, 1) := by decide +kernel
theorem d_Text_findBestLine_9 : decode b_Text_findBestLine 9 = .ok (.aload_n 0, 1) := by decide +kernel
theorem d_Text_findBestLine_10 : decode b_Text_findBestLine 10 = .ok (.getfield 35, 3) := by decide +kernel
theorem d_Text_findBestLine_13 : decode b_Text_findBestLine 13 = .ok (.iload_n 1, 1) := by decide +kernel
theorem d_Text_findBestLine_14 : decode b_Text_findBestLine 14 = .ok (.iload_n 3, 1) := by decide +kernel
theorem d_Text_findBestLine_15 : decode b_Text_findBestLine 15 = .ok (.iload_n 3, 1) := by decide +kernel
theorem d_Text_findBestLine_16 : decode b_Text_findBestLine 16 = .ok (.imul, 1) := by decide +kernel
theorem d_Text_findBestLine_17 : decode b_Text_findBestLine 17 = .ok (.aload_n 0, 1) := by decide +kernel
theorem d_Text_findBestLine_18 : decode b_Text_findBestLine 18 = .ok (.getfield 35, 3) := by decide +kernel
theorem d_Text_findBestLine_21 : decode b_Text_findBestLine 21 = .ok (.iload_n 1, 1) := by decide +kernel
theorem d_Text_findBestLine_22 : decode b_Text_findBestLine 22 = .ok (.iconst 1, 1) := by decide +kernel
theorem d_Text_findBestLine_23 : decode b_Text_findBestLine 23 = .ok (.iadd, 1) := by decide +kernel
theorem d_Text_findBestLine_24 : decode b_Text_findBestLine 24 = .ok (.iaload, 1) := by decide +kernel
theorem d_Text_findBestLine_25 : decode b_Text_findBestLine 25 = .ok (.iadd, 1) := by decide +kernel
theorem d_Text_findBestLine_26 : decode b_Text_findBestLine 26 = .ok (.iastore, 1) := by decide +kernel
theorem d_Text_findBestLine_27 : decode b_Text_findBestLine 27 = .ok (.aload_n 0, 1) := by decide +kernel
theorem d_Text_findBestLine_28 : decode b_Text_findBestLine 28 = .ok (.getfield 38, 3) := by decide +kernel
theorem d_Text_findBestLine_31 : decode b_Text_findBestLine 31 = .ok (.iload_n 1, 1) := by decide +kernel
theorem d_Text_findBestLine_32 : decode b_Text_findBestLine 32 = .ok (.iload_n 1, 1) := by decide +kernel
theorem d_Text_findBestLine_33 : decode b_Text_findBestLine 33 = .ok (.iconst 1, 1) := by decide +kernel
theorem d_Text_findBestLine_34 : decode b_Text_findBestLine 34 = .ok (.iadd, 1) := by decide +kernel
theorem d_Text_findBestLine_35 : decode b_Text_findBestLine 35 = .ok (.iastore, 1) := by decide +kernel
theorem d_Text_findBestLine_36 : decode b_Text_findBestLine 36 = .ok (.iload_n 1, 1) := by decide +kernel
theorem d_Text_findBestLine_37 : decode b_Text_findBestLine 37 = .ok (.iconst 1, 1) := by decide +kernel
theorem d_Text_findBestLine_38 : decode b_Text_findBestLine 38 = .ok (.iadd, 1) := by decide +kernel
theorem d_Text_findBestLine_39 : decode b_Text_findBestLine 39 = .ok (.istore 4, 2) := by decide +kernel
theorem d_Text_findBestLine_41 : decode b_Text_findBestLine 41 = .ok (.iload 4, 2) := by decide +kernel
theorem d_Text_findBestLine_43 : decode b_Text_findBestLine 43 = .ok (.aload_n 0, 1) := by decide +kernel
theorem d_Text_findBestLine_44 : decode b_Text_findBestLine 44 = .ok (.getfield 15, 3) := by decide +kernel
theorem d_Text_findBestLine_47 : decode b_Text_findBestLine 47 = .ok (.if_icmp .ge 70, 3) := by decide +kernel
theorem d_Text_findBestLine_50 : decode b_Text_findBestLine 50 = .ok (.iload_n 3, 1) := by decide +kernel
theorem d_Text_findBestLine_51 : decode b_Text_findBestLine 51 = .ok (.iconst 1, 1) := by decide +kernel
theorem d_Text_findBestLine_52 : decode b_Text_findBestLine 52 = .ok (.aload_n 0, 1) := by decide +kernel
theorem d_Text_findBestLine_53 : decode b_Text_findBestLine 53 = .ok (.getfield 22, 3) := by decide +kernel
theorem d_Text_findBestLine_56 : decode b_Text_findBestLine 56 = .ok (.iload 4, 2) := by decide +kernel
theorem d_Text_findBestLine_58 : decode b_Text_findBestLine 58 = .ok (.iaload, 1) := by decide +kernel
theorem d_Text_findBestLine_59 : decode b_Text_findBestLine 59 = .ok (.iadd, 1) := by decide +kernel
theorem d_Text_findBestLine_60 : decode b_Text_findBestLine 60 = .ok (.isub, 1) := by decide +kernel
theorem d_Text_findBestLine_61 : decode b_Text_findBestLine 61 = .ok (.istore_n 3, 1) := by decide +kernel
theorem d_Text_findBestLine_62 : decode b_Text_findBestLine 62 = .ok (.iload_n 3, 1) := by decide +kernel
theorem d_Text_findBestLine_63 : decode b_Text_findBestLine 63 = .ok (.ifCond .ge 4, 3) := by decide +kernel
theorem d_Text_findBestLine_66 : decode b_Text_findBestLine 66 = .ok (.return_, 1) := by decide +kernel
theorem d_Text_findBestLine_67 : decode b_Text_findBestLine 67 = .ok (.iload_n 3, 1) := by decide +kernel
theorem d_Text_findBestLine_68 : decode b_Text_findBestLine 68 = .ok (.iload_n 3, 1) := by decide +kernel
theorem d_Text_findBestLine_69 : decode b_Text_findBestLine 69 = .ok (.imul, 1) := by decide +kernel
theorem d_Text_findBestLine_70 : decode b_Text_findBestLine 70 = .ok (.aload_n 0, 1) := by decide +kernel
theorem d_Text_findBestLine_71 : decode b_Text_findBestLine 71 = .ok (.getfield 35, 3) := by decide +kernel
theorem d_Text_findBestLine_74 : decode b_Text_findBestLine 74 = .ok (.iload 4, 2) := by decide +kernel
theorem d_Text_findBestLine_76 : decode b_Text_findBestLine 76 = .ok (.iconst 1, 1) := by decide +kernel
theorem d_Text_findBestLine_77 : decode b_Text_findBestLine 77 = .ok (.iadd, 1) := by decide +kernel
theorem d_Text_findBestLine_78 : decode b_Text_findBestLine 78 = .ok (.iaload, 1) := by decide +kernel
theorem d_Text_findBestLine_79 : decode b_Text_findBestLine 79 = .ok (.iadd, 1) := by decide +kernel
theorem d_Text_findBestLine_80 : decode b_Text_findBestLine 80 = .ok (.istore 5, 2) := by decide +kernel
theorem d_Text_findBestLine_82 : decode b_Text_findBestLine 82 = .ok (.iload 5, 2) := by decide +kernel
theorem d_Text_findBestLine_84 : decode b_Text_findBestLine 84 = .ok (.aload_n 0, 1) := by decide +kernel
theorem d_Text_findBestLine_85 : decode b_Text_findBestLine 85 = .ok (.getfield 35, 3) := by decide +kernel
theorem d_Text_findBestLine_88 : decode b_Text_findBestLine 88 = .ok (.iload_n 1, 1) := by decide +kernel
theorem d_Text_findBestLine_89 : decode b_Text_findBestLine 89 = .ok (.iaload, 1) := by decide +kernel
theorem d_Text_findBestLine_90 : decode b_Text_findBestLine 90 = .ok (.if_icmp .gt 21, 3) := by decide +kernel
theorem d_Text_findBestLine_93 : decode b_Text_findBestLine 93 = .ok (.aload_n 0, 1) := by decide +kernel
theorem d_Text_findBestLine_94 : decode b_Text_findBestLine 94 = .ok (.getfield 35, 3) := by decide +kernel
theorem d_Text_findBestLine_97 : decode b_Text_findBestLine 97 = .ok (.iload_n 1, 1) := by decide +kernel
theorem d_Text_findBestLine_98 : decode b_Text_findBestLine 98 = .ok (.iload 5, 2) := by decide +kernel
theorem d_Text_findBestLine_100 : decode b_Text_findBestLine 100 = .ok (.iastore, 1) := by decide +kernel
theorem d_Text_findBestLine_101 : decode b_Text_findBestLine 101 = .ok (.aload_n 0, 1) := by decide +kernel
theorem d_Text_findBestLine_102 : decode b_Text_findBestLine 102 = .ok (.getfield 38, 3) := by decide +kernel
theorem d_Text_findBestLine_105 : decode b_Text_findBestLine 105 = .ok (.iload_n 1, 1) := by decide +kernel
theorem d_Text_findBestLine_106 : decode b_Text_findBestLine 106 = .ok (.iload 4, 2) := by decide +kernel
theorem d_Text_findBestLine_108 : decode b_Text_findBestLine 108 = .ok (.iconst 1, 1) := by decide +kernel
theorem d_Text_findBestLine_109 : decode b_Text_findBestLine 109 = .ok (.iadd, 1) := by decide +kernel
theorem d_Text_findBestLine_110 : decode b_Text_findBestLine 110 = .ok (.iastore, 1) := by decide +kernel
theorem d_Text_findBestLine_111 : decode b_Text_findBestLine 111 = .ok (.iinc 4 1, 3) := by decide +kernel
theorem d_Text_findBestLine_114 : decode b_Text_findBestLine 114 = .ok (.goto (-73), 3) := by decide +kernel
theorem d_Text_findBestLine_117 : decode b_Text_findBestLine 117 = .ok (.return_, 1) := by decide +kernel
theorem d_Text_keepBreak_0 : decode b_Text_keepBreak 0 = .ok (.iconst 0, 1) := by decide +kernel
theorem d_Text_keepBreak_1 : decode b_Text_keepBreak 1 = .ok (.istore_n 1, 1) := by decide +kernel
theorem d_Text_keepBreak_2 : decode b_Text_keepBreak 2 = .ok (.iload_n 1, 1) := by decide +kernel
theorem d_Text_keepBreak_3 : decode b_Text_keepBreak 3 = .ok (.aload_n 0, 1) := by decide +kernel
theorem d_Text_keepBreak_4 : decode b_Text_keepBreak 4 = .ok (.getfield 15, 3) := by decide +kernel
theorem d_Text_keepBreak_7 : decode b_Text_keepBreak 7 = .ok (.if_icmp .ge 42, 3) := by decide +kernel
theorem d_Text_keepBreak_10 : decode b_Text_keepBreak 10 = .ok (.aload_n 0, 1) := by decide +kernel
theorem d_Text_keepBreak_11 : decode b_Text_keepBreak 11 = .ok (.getfield 26, 3) := by decide +kernel
theorem d_Text_keepBreak_14 : decode b_Text_keepBreak 14 = .ok (.bipush 100, 2) := by decide +kernel
theorem d_Text_keepBreak_16 : decode b_Text_keepBreak 16 = .ok (.if_icmp .ge 33, 3) := by decide +kernel
theorem d_Text_keepBreak_19 : decode b_Text_keepBreak 19 = .ok (.aload_n 0, 1) := by decide +kernel
theorem d_Text_keepBreak_20 : decode b_Text_keepBreak 20 = .ok (.getfield 32, 3) := by decide +kernel
theorem d_Text_keepBreak_23 : decode b_Text_keepBreak 23 = .ok (.aload_n 0, 1) := by decide +kernel
theorem d_Text_keepBreak_24 : decode b_Text_keepBreak 24 = .ok (.getfield 26, 3) := by decide +kernel
theorem d_Text_keepBreak_27 : decode b_Text_keepBreak 27 = .ok (.iload_n 1, 1) := by decide +kernel
theorem d_Text_keepBreak_28 : decode b_Text_keepBreak 28 = .ok (.iastore, 1) := by decide +kernel
theorem d_Text_keepBreak_29 : decode b_Text_keepBreak 29 = .ok (.aload_n 0, 1) := by decide +kernel
theorem d_Text_keepBreak_30 : decode b_Text_keepBreak 30 = .ok (.dup, 1) := by decide +kernel
theorem d_Text_keepBreak_31 : decode b_Text_keepBreak 31 = .ok (.getfield 26, 3) := by decide +kernel
theorem d_Text_keepBreak_34 : decode b_Text_keepBreak 34 = .ok (.iconst 1, 1) := by decide +kernel
theorem d_Text_keepBreak_35 : decode b_Text_keepBreak 35 = .ok (.iadd, 1) := by decide +kernel
theorem d_Text_keepBreak_36 : decode b_Text_keepBreak 36 = .ok (.putfield 26, 3) := by decide +kernel
theorem d_Text_keepBreak_39 : decode b_Text_keepBreak 39 = .ok (.aload_n 0, 1) := by decide +kernel
theorem d_Text_keepBreak_40 : decode b_Text_keepBreak 40 = .ok (.getfield 38, 3) := by decide +kernel
theorem d_Text_keepBreak_43 : decode b_Text_keepBreak 43 = .ok (.iload_n 1, 1) := by decide +kernel
theorem d_Text_keepBreak_44 : decode b_Text_keepBreak 44 = .ok (.iaload, 1) := by decide +kernel
theorem d_Text_keepBreak_45 : decode b_Text_keepBreak 45 = .ok (.istore_n 1, 1) := by decide +kernel
theorem d_Text_keepBreak_46 : decode b_Text_keepBreak 46 = .ok (.goto (-44), 3) := by decide +kernel
theorem d_Text_keepBreak_49 : decode b_Text_keepBreak 49 = .ok (.aload_n 0, 1) := by decide +kernel
theorem d_Text_keepBreak_50 : decode b_Text_keepBreak 50 = .ok (.aload_n 0, 1) := by decide +kernel
theorem d_Text_keepBreak_51 : decode b_Text_keepBreak 51 = .ok (.getfield 35, 3) := by decide +kernel
theorem d_Text_keepBreak_54 : decode b_Text_keepBreak 54 = .ok (.iconst 0, 1) := by decide +kernel
theorem d_Text_keepBreak_55 : decode b_Text_keepBreak 55 = .ok (.iaload, 1) := by decide +kernel
theorem d_Text_keepBreak_56 : decode b_Text_keepBreak 56 = .ok (.putfield 29, 3) := by decide +kernel
theorem d_Text_keepBreak_59 : decode b_Text_keepBreak 59 = .ok (.return_, 1) := by decide +kernel
theorem d_Text_firstWordOf_0 : decode b_Text_firstWordOf 0 = .ok (.iload_n 1, 1) := by decide +kernel
theorem d_Text_firstWordOf_1 : decode b_Text_firstWordOf 1 = .ok (.ifCond .lt 11, 3) := by decide +kernel
theorem d_Text_firstWordOf_4 : decode b_Text_firstWordOf 4 = .ok (.iload_n 1, 1) := by decide +kernel
theorem d_Text_firstWordOf_5 : decode b_Text_firstWordOf 5 = .ok (.aload_n 0, 1) := by decide +kernel
theorem d_Text_firstWordOf_6 : decode b_Text_firstWordOf 6 = .ok (.getfield 26, 3) := by decide +kernel
theorem d_Text_firstWordOf_9 : decode b_Text_firstWordOf 9 = .ok (.if_icmp .lt 7, 3) := by decide +kernel
theorem d_Text_firstWordOf_12 : decode b_Text_firstWordOf 12 = .ok (.iconst (-1), 1) := by decide +kernel
theorem d_Text_firstWordOf_13 : decode b_Text_firstWordOf 13 = .ok (.goto 9, 3) := by decide +kernel
theorem d_Text_firstWordOf_16 : decode b_Text_firstWordOf 16 = .ok (.aload_n 0, 1) := by decide +kernel
theorem d_Text_firstWordOf_17 : decode b_Text_firstWordOf 17 = .ok (.getfield 32, 3) := by decide +kernel
theorem d_Text_firstWordOf_20 : decode b_Text_firstWordOf 20 = .ok (.iload_n 1, 1) := by decide +kernel
theorem d_Text_firstWordOf_21 : decode b_Text_firstWordOf 21 = .ok (.iaload, 1) := by decide +kernel
theorem d_Text_firstWordOf_22 : decode b_Text_firstWordOf 22 = .ok (.ireturn, 1) := by decide +kernel
theorem d_Text_sumOfSquares_0 : decode b_Text_sumOfSquares 0 = .ok (.aload_n 0, 1) := by decide +kernel
theorem d_Text_sumOfSquares_1 : decode b_Text_sumOfSquares 1 = .ok (.getfield 29, 3) := by decide +kernel
theorem d_Text_sumOfSquares_4 : decode b_Text_sumOfSquares 4 = .ok (.ireturn, 1) := by decide +kernel
theorem d_bitCount_0 : decode b_bitCount 0 = .ok (.iload_n 0, 1) := by decide +kernel
theorem d_bitCount_1 : decode b_bitCount 1 = .ok (.iload_n 0, 1) := by decide +kernel
theorem d_bitCount_2 : decode b_bitCount 2 = .ok (.iconst 1, 1) := by decide +kernel
theorem d_bitCount_3 : decode b_bitCount 3 = .ok (.iushr, 1) := by decide +kernel
theorem d_bitCount_4 : decode b_bitCount 4 = .ok (.ldc_w 265, 3) := by decide +kernel
theorem d_bitCount_7 : decode b_bitCount 7 = .ok (.iand, 1) := by decide +kernel
theorem d_bitCount_8 : decode b_bitCount 8 = .ok (.isub, 1) := by decide +kernel
theorem d_bitCount_9 : decode b_bitCount 9 = .ok (.istore_n 0, 1) := by decide +kernel
theorem d_bitCount_10 : decode b_bitCount 10 = .ok (.iload_n 0, 1) := by decide +kernel
theorem d_bitCount_11 : decode b_bitCount 11 = .ok (.ldc_w 266, 3) := by decide +kernel
theorem d_bitCount_14 : decode b_bitCount 14 = .ok (.iand, 1) := by decide +kernel
theorem d_bitCount_15 : decode b_bitCount 15 = .ok (.iload_n 0, 1) := by decide +kernel
theorem d_bitCount_16 : decode b_bitCount 16 = .ok (.iconst 2, 1) := by decide +kernel
theorem d_bitCount_17 : decode b_bitCount 17 = .ok (.iushr, 1) := by decide +kernel
theorem d_bitCount_18 : decode b_bitCount 18 = .ok (.ldc_w 266, 3) := by decide +kernel
theorem d_bitCount_21 : decode b_bitCount 21 = .ok (.iand, 1) := by decide +kernel
theorem d_bitCount_22 : decode b_bitCount 22 = .ok (.iadd, 1) := by decide +kernel
theorem d_bitCount_23 : decode b_bitCount 23 = .ok (.istore_n 0, 1) := by decide +kernel
theorem d_bitCount_24 : decode b_bitCount 24 = .ok (.iload_n 0, 1) := by decide +kernel
theorem d_bitCount_25 : decode b_bitCount 25 = .ok (.iload_n 0, 1) := by decide +kernel
theorem d_bitCount_26 : decode b_bitCount 26 = .ok (.iconst 4, 1) := by decide +kernel
theorem d_bitCount_27 : decode b_bitCount 27 = .ok (.iushr, 1) := by decide +kernel
theorem d_bitCount_28 : decode b_bitCount 28 = .ok (.iadd, 1) := by decide +kernel
theorem d_bitCount_29 : decode b_bitCount 29 = .ok (.ldc_w 267, 3) := by decide +kernel
theorem d_bitCount_32 : decode b_bitCount 32 = .ok (.iand, 1) := by decide +kernel
theorem d_bitCount_33 : decode b_bitCount 33 = .ok (.istore_n 0, 1) := by decide +kernel
theorem d_bitCount_34 : decode b_bitCount 34 = .ok (.iload_n 0, 1) := by decide +kernel
theorem d_bitCount_35 : decode b_bitCount 35 = .ok (.iload_n 0, 1) := by decide +kernel
theorem d_bitCount_36 : decode b_bitCount 36 = .ok (.bipush 8, 2) := by decide +kernel
theorem d_bitCount_38 : decode b_bitCount 38 = .ok (.iushr, 1) := by decide +kernel
theorem d_bitCount_39 : decode b_bitCount 39 = .ok (.iadd, 1) := by decide +kernel
theorem d_bitCount_40 : decode b_bitCount 40 = .ok (.istore_n 0, 1) := by decide +kernel
theorem d_bitCount_41 : decode b_bitCount 41 = .ok (.iload_n 0, 1) := by decide +kernel
theorem d_bitCount_42 : decode b_bitCount 42 = .ok (.iload_n 0, 1) := by decide +kernel
theorem d_bitCount_43 : decode b_bitCount 43 = .ok (.bipush 16, 2) := by decide +kernel
theorem d_bitCount_45 : decode b_bitCount 45 = .ok (.iushr, 1) := by decide +kernel
theorem d_bitCount_46 : decode b_bitCount 46 = .ok (.iadd, 1) := by decide +kernel
theorem d_bitCount_47 : decode b_bitCount 47 = .ok (.istore_n 0, 1) := by decide +kernel
theorem d_bitCount_48 : decode b_bitCount 48 = .ok (.iload_n 0, 1) := by decide +kernel
theorem d_bitCount_49 : decode b_bitCount 49 = .ok (.bipush 63, 2) := by decide +kernel
theorem d_bitCount_51 : decode b_bitCount 51 = .ok (.iand, 1) := by decide +kernel
theorem d_bitCount_52 : decode b_bitCount 52 = .ok (.ireturn, 1) := by decide +kernel
