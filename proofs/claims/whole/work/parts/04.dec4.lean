theorem d_Code_append_20 : decode b_Code_append 20 = .ok (.iconst 0, 1) := by decide +kernel
theorem d_Code_append_21 : decode b_Code_append 21 = .ok (.ireturn, 1) := by decide +kernel
theorem d_Code_append_22 : decode b_Code_append 22 = .ok (.aload_n 0, 1) := by decide +kernel
theorem d_Code_append_23 : decode b_Code_append 23 = .ok (.getfield 15, 3) := by decide +kernel
theorem d_Code_append_26 : decode b_Code_append 26 = .ok (.aload_n 0, 1) := by decide +kernel
theorem d_Code_append_27 : decode b_Code_append 27 = .ok (.getfield 9, 3) := by decide +kernel
theorem d_Code_append_30 : decode b_Code_append 30 = .ok (.iload_n 1, 1) := by decide +kernel
theorem d_Code_append_31 : decode b_Code_append 31 = .ok (.iastore, 1) := by decide +kernel
theorem d_Code_append_32 : decode b_Code_append 32 = .ok (.aload_n 0, 1) := by decide +kernel
theorem d_Code_append_33 : decode b_Code_append 33 = .ok (.dup, 1) := by decide +kernel
theorem d_Code_append_34 : decode b_Code_append 34 = .ok (.getfield 9, 3) := by decide +kernel
theorem d_Code_append_37 : decode b_Code_append 37 = .ok (.iconst 1, 1) := by decide +kernel
theorem d_Code_append_38 : decode b_Code_append 38 = .ok (.iadd, 1) := by decide +kernel
theorem d_Code_append_39 : decode b_Code_append 39 = .ok (.putfield 9, 3) := by decide +kernel
theorem d_Code_append_42 : decode b_Code_append 42 = .ok (.aload_n 0, 1) := by decide +kernel
theorem d_Code_append_43 : decode b_Code_append 43 = .ok (.invokevirtual 22, 3) := by decide +kernel
theorem d_Code_append_46 : decode b_Code_append 46 = .ok (.iconst 1, 1) := by decide +kernel
theorem d_Code_append_47 : decode b_Code_append 47 = .ok (.ireturn, 1) := by decide +kernel
theorem d_Code_drawSquares_0 : decode b_Code_drawSquares 0 = .ok (.iconst 0, 1) := by decide +kernel
theorem d_Code_drawSquares_1 : decode b_Code_drawSquares 1 = .ok (.istore_n 1, 1) := by decide +kernel
theorem d_Code_drawSquares_2 : decode b_Code_drawSquares 2 = .ok (.iconst 0, 1) := by decide +kernel
theorem d_Code_drawSquares_3 : decode b_Code_drawSquares 3 = .ok (.istore_n 2, 1) := by decide +kernel
theorem d_Code_drawSquares_4 : decode b_Code_drawSquares 4 = .ok (.iload_n 2, 1) := by decide +kernel
theorem d_Code_drawSquares_5 : decode b_Code_drawSquares 5 = .ok (.aload_n 0, 1) := by decide +kernel
theorem d_Code_drawSquares_6 : decode b_Code_drawSquares 6 = .ok (.getfield 9, 3) := by decide +kernel
theorem d_Code_drawSquares_9 : decode b_Code_drawSquares 9 = .ok (.if_icmp .ge 50, 3) := by decide +kernel
theorem d_Code_drawSquares_12 : decode b_Code_drawSquares 12 = .ok (.aload_n 0, 1) := by decide +kernel
theorem d_Code_drawSquares_13 : decode b_Code_drawSquares 13 = .ok (.getfield 19, 3) := by decide +kernel
theorem d_Code_drawSquares_16 : decode b_Code_drawSquares 16 = .ok (.iload_n 2, 1) := by decide +kernel
theorem d_Code_drawSquares_17 : decode b_Code_drawSquares 17 = .ok (.aload_n 0, 1) := by decide +kernel
theorem d_Code_drawSquares_18 : decode b_Code_drawSquares 18 = .ok (.getfield 15, 3) := by decide +kernel
theorem d_Code_drawSquares_21 : decode b_Code_drawSquares 21 = .ok (.iload_n 2, 1) := by decide +kernel
theorem d_Code_drawSquares_22 : decode b_Code_drawSquares 22 = .ok (.iaload, 1) := by decide +kernel
theorem d_Code_drawSquares_23 : decode b_Code_drawSquares 23 = .ok (.iconst 1, 1) := by decide +kernel
theorem d_Code_drawSquares_24 : decode b_Code_drawSquares 24 = .ok (.ishl, 1) := by decide +kernel
theorem d_Code_drawSquares_25 : decode b_Code_drawSquares 25 = .ok (.aload_n 0, 1) := by decide +kernel
theorem d_Code_drawSquares_26 : decode b_Code_drawSquares 26 = .ok (.getfield 15, 3) := by decide +kernel
theorem d_Code_drawSquares_29 : decode b_Code_drawSquares 29 = .ok (.iload_n 2, 1) := by decide +kernel
theorem d_Code_drawSquares_30 : decode b_Code_drawSquares 30 = .ok (.iaload, 1) := by decide +kernel
theorem d_Code_drawSquares_31 : decode b_Code_drawSquares 31 = .ok (.invokestatic 25, 3) := by decide +kernel
theorem d_Code_drawSquares_34 : decode b_Code_drawSquares 34 = .ok (.ifCond .eq 7, 3) := by decide +kernel
theorem d_Code_drawSquares_37 : decode b_Code_drawSquares 37 = .ok (.iconst 1, 1) := by decide +kernel
theorem d_Code_drawSquares_38 : decode b_Code_drawSquares 38 = .ok (.goto 4, 3) := by decide +kernel
theorem d_Code_drawSquares_41 : decode b_Code_drawSquares 41 = .ok (.iconst 0, 1) := by decide +kernel
theorem d_Code_drawSquares_42 : decode b_Code_drawSquares 42 = .ok (.ior, 1) := by decide +kernel
theorem d_Code_drawSquares_43 : decode b_Code_drawSquares 43 = .ok (.iastore, 1) := by decide +kernel
theorem d_Code_drawSquares_44 : decode b_Code_drawSquares 44 = .ok (.iload_n 1, 1) := by decide +kernel
theorem d_Code_drawSquares_45 : decode b_Code_drawSquares 45 = .ok (.aload_n 0, 1) := by decide +kernel
theorem d_Code_drawSquares_46 : decode b_Code_drawSquares 46 = .ok (.getfield 19, 3) := by decide +kernel
theorem d_Code_drawSquares_49 : decode b_Code_drawSquares 49 = .ok (.iload_n 2, 1) := by decide +kernel
theorem d_Code_drawSquares_50 : decode b_Code_drawSquares 50 = .ok (.iaload, 1) := by decide +kernel
theorem d_Code_drawSquares_51 : decode b_Code_drawSquares 51 = .ok (.ixor, 1) := by decide +kernel
theorem d_Code_drawSquares_52 : decode b_Code_drawSquares 52 = .ok (.istore_n 1, 1) := by decide +kernel
theorem d_Code_drawSquares_53 : decode b_Code_drawSquares 53 = .ok (.iinc 2 1, 3) := by decide +kernel
theorem d_Code_drawSquares_56 : decode b_Code_drawSquares 56 = .ok (.goto (-52), 3) := by decide +kernel
theorem d_Code_drawSquares_59 : decode b_Code_drawSquares 59 = .ok (.aload_n 0, 1) := by decide +kernel
theorem d_Code_drawSquares_60 : decode b_Code_drawSquares 60 = .ok (.getfield 19, 3) := by decide +kernel
theorem d_Code_drawSquares_63 : decode b_Code_drawSquares 63 = .ok (.aload_n 0, 1) := by decide +kernel
theorem d_Code_drawSquares_64 : decode b_Code_drawSquares 64 = .ok (.getfield 9, 3) := by decide +kernel
theorem d_Code_drawSquares_67 : decode b_Code_drawSquares 67 = .ok (.iload_n 1, 1) := by decide +kernel
theorem d_Code_drawSquares_68 : decode b_Code_drawSquares 68 = .ok (.iastore, 1) := by decide +kernel
theorem d_Code_drawSquares_69 : decode b_Code_drawSquares 69 = .ok (.return_, 1) := by decide +kernel
theorem d_Code_isOdd_0 : decode b_Code_isOdd 0 = .ok (.iload_n 0, 1) := by decide +kernel
theorem d_Code_isOdd_1 : decode b_Code_isOdd 1 = .ok (.invokestatic 29, 3) := by decide +kernel
theorem d_Code_isOdd_4 : decode b_Code_isOdd 4 = .ok (.iconst 1, 1) := by decide +kernel
theorem d_Code_isOdd_5 : decode b_Code_isOdd 5 = .ok (.iand, 1) := by decide +kernel
theorem d_Code_isOdd_6 : decode b_Code_isOdd 6 = .ok (.iconst 1, 1) := by decide +kernel
theorem d_Code_isOdd_7 : decode b_Code_isOdd 7 = .ok (.if_icmp .ne 7, 3) := by decide +kernel
theorem d_Code_isOdd_10 : decode b_Code_isOdd 10 = .ok (.iconst 1, 1) := by decide +kernel
theorem d_Code_isOdd_11 : decode b_Code_isOdd 11 = .ok (.goto 4, 3) := by decide +kernel
theorem d_Code_isOdd_14 : decode b_Code_isOdd 14 = .ok (.iconst 0, 1) := by decide +kernel
theorem d_Code_isOdd_15 : decode b_Code_isOdd 15 = .ok (.ireturn, 1) := by decide +kernel
theorem d_Code_empty_0 : decode b_Code_empty 0 = .ok (.aload_n 0, 1) := by decide +kernel
theorem d_Code_empty_1 : decode b_Code_empty 1 = .ok (.iconst 0, 1) := by decide +kernel
theorem d_Code_empty_2 : decode b_Code_empty 2 = .ok (.putfield 9, 3) := by decide +kernel
theorem d_Code_empty_5 : decode b_Code_empty 5 = .ok (.return_, 1) := by decide +kernel
theorem d_Code_countRows_0 : decode b_Code_countRows 0 = .ok (.aload_n 0, 1) := by decide +kernel
theorem d_Code_countRows_1 : decode b_Code_countRows 1 = .ok (.getfield 9, 3) := by decide +kernel
theorem d_Code_countRows_4 : decode b_Code_countRows 4 = .ok (.ifCond .ne 7, 3) := by decide +kernel
theorem d_Code_countRows_7 : decode b_Code_countRows 7 = .ok (.iconst 0, 1) := by decide +kernel
theorem d_Code_countRows_8 : decode b_Code_countRows 8 = .ok (.goto 9, 3) := by decide +kernel
theorem d_Code_countRows_11 : decode b_Code_countRows 11 = .ok (.aload_n 0, 1) := by decide +kernel
theorem d_Code_countRows_12 : decode b_Code_countRows 12 = .ok (.getfield 9, 3) := by decide +kernel
theorem d_Code_countRows_15 : decode b_Code_countRows 15 = .ok (.iconst 1, 1) := by decide +kernel
theorem d_Code_countRows_16 : decode b_Code_countRows 16 = .ok (.iadd, 1) := by decide +kernel
theorem d_Code_countRows_17 : decode b_Code_countRows 17 = .ok (.ireturn, 1) := by decide +kernel
theorem d_Code_isSquare_0 : decode b_Code_isSquare 0 = .ok (.iload_n 1, 1) := by decide +kernel
theorem d_Code_isSquare_1 : decode b_Code_isSquare 1 = .ok (.ifCond .lt 25, 3) := by decide +kernel
theorem d_Code_isSquare_4 : decode b_Code_isSquare 4 = .ok (.iload_n 1, 1) := by decide +kernel
theorem d_Code_isSquare_5 : decode b_Code_isSquare 5 = .ok (.bipush 8, 2) := by decide +kernel
theorem d_Code_isSquare_7 : decode b_Code_isSquare 7 = .ok (.if_icmp .gt 19, 3) := by decide +kernel
theorem d_Code_isSquare_10 : decode b_Code_isSquare 10 = .ok (.iload_n 2, 1) := by decide +kernel
theorem d_Code_isSquare_11 : decode b_Code_isSquare 11 = .ok (.ifCond .lt 15, 3) := by decide +kernel
theorem d_Code_isSquare_14 : decode b_Code_isSquare 14 = .ok (.iload_n 2, 1) := by decide +kernel
theorem d_Code_isSquare_15 : decode b_Code_isSquare 15 = .ok (.aload_n 0, 1) := by decide +kernel
theorem d_Code_isSquare_16 : decode b_Code_isSquare 16 = .ok (.invokevirtual 35, 3) := by decide +kernel
theorem d_Code_isSquare_19 : decode b_Code_isSquare 19 = .ok (.if_icmp .ge 7, 3) := by decide +kernel
theorem d_Code_isSquare_22 : decode b_Code_isSquare 22 = .ok (.iconst 1, 1) := by decide +kernel
theorem d_Code_isSquare_23 : decode b_Code_isSquare 23 = .ok (.goto 4, 3) := by decide +kernel
theorem d_Code_isSquare_26 : decode b_Code_isSquare 26 = .ok (.iconst 0, 1) := by decide +kernel
theorem d_Code_isSquare_27 : decode b_Code_isSquare 27 = .ok (.ireturn, 1) := by decide +kernel
theorem d_Code_isDark_0 : decode b_Code_isDark 0 = .ok (.aload_n 0, 1) := by decide +kernel
theorem d_Code_isDark_1 : decode b_Code_isDark 1 = .ok (.iload_n 1, 1) := by decide +kernel
theorem d_Code_isDark_2 : decode b_Code_isDark 2 = .ok (.iload_n 2, 1) := by decide +kernel
theorem d_Code_isDark_3 : decode b_Code_isDark 3 = .ok (.invokevirtual 39, 3) := by decide +kernel
theorem d_Code_isDark_6 : decode b_Code_isDark 6 = .ok (.ifCond .eq 24, 3) := by decide +kernel
theorem d_Code_isDark_9 : decode b_Code_isDark 9 = .ok (.aload_n 0, 1) := by decide +kernel
theorem d_Code_isDark_10 : decode b_Code_isDark 10 = .ok (.getfield 19, 3) := by decide +kernel
theorem d_Code_isDark_13 : decode b_Code_isDark 13 = .ok (.iload_n 2, 1) := by decide +kernel
theorem d_Code_isDark_14 : decode b_Code_isDark 14 = .ok (.iaload, 1) := by decide +kernel
theorem d_Code_isDark_15 : decode b_Code_isDark 15 = .ok (.bipush 8, 2) := by decide +kernel
theorem d_Code_isDark_17 : decode b_Code_isDark 17 = .ok (.iload_n 1, 1) := by decide +kernel
theorem d_Code_isDark_18 : decode b_Code_isDark 18 = .ok (.isub, 1) := by decide +kernel
theorem d_Code_isDark_19 : decode b_Code_isDark 19 = .ok (.ishr, 1) := by decide +kernel
theorem d_Code_isDark_20 : decode b_Code_isDark 20 = .ok (.iconst 1, 1) := by decide +kernel
theorem d_Code_isDark_21 : decode b_Code_isDark 21 = .ok (.iand, 1) := by decide +kernel
theorem d_Code_isDark_22 : decode b_Code_isDark 22 = .ok (.iconst 1, 1) := by decide +kernel
theorem d_Code_isDark_23 : decode b_Code_isDark 23 = .ok (.if_icmp .ne 7, 3) := by decide +kernel
theorem d_Code_isDark_26 : decode b_Code_isDark 26 = .ok (.iconst 1, 1) := by decide +kernel
theorem d_Code_isDark_27 : decode b_Code_isDark 27 = .ok (.goto 4, 3) := by decide +kernel
theorem d_Code_isDark_30 : decode b_Code_isDark 30 = .ok (.iconst 0, 1) := by decide +kernel
theorem d_Code_isDark_31 : decode b_Code_isDark 31 = .ok (.ireturn, 1) := by decide +kernel
theorem d_Code_turnOver_0 : decode b_Code_turnOver 0 = .ok (.aload_n 0, 1) := by decide +kernel
theorem d_Code_turnOver_1 : decode b_Code_turnOver 1 = .ok (.iload_n 1, 1) := by decide +kernel
theorem d_Code_turnOver_2 : decode b_Code_turnOver 2 = .ok (.iload_n 2, 1) := by decide +kernel
theorem d_Code_turnOver_3 : decode b_Code_turnOver 3 = .ok (.invokevirtual 39, 3) := by decide +kernel
theorem d_Code_turnOver_6 : decode b_Code_turnOver 6 = .ok (.ifCond .ne 5, 3) := by decide +kernel
theorem d_Code_turnOver_9 : decode b_Code_turnOver 9 = .ok (.iconst 0, 1) := by decide +kernel
theorem d_Code_turnOver_10 : decode b_Code_turnOver 10 = .ok (.ireturn, 1) := by decide +kernel
theorem d_Code_turnOver_11 : decode b_Code_turnOver 11 = .ok (.aload_n 0, 1) := by decide +kernel
theorem d_Code_turnOver_12 : decode b_Code_turnOver 12 = .ok (.getfield 19, 3) := by decide +kernel
theorem d_Code_turnOver_15 : decode b_Code_turnOver 15 = .ok (.iload_n 2, 1) := by decide +kernel
theorem d_Code_turnOver_16 : decode b_Code_turnOver 16 = .ok (.dup2, 1) := by decide +kernel
theorem d_Code_turnOver_17 : decode b_Code_turnOver 17 = .ok (.iaload, 1) := by decide +kernel
theorem d_Code_turnOver_18 : decode b_Code_turnOver 18 = .ok (.iconst 1, 1) := by decide +kernel
theorem d_Code_turnOver_19 : decode b_Code_turnOver 19 = .ok (.bipush 8, 2) := by decide +kernel
theorem d_Code_turnOver_21 : decode b_Code_turnOver 21 = .ok (.iload_n 1, 1) := by decide +kernel
theorem d_Code_turnOver_22 : decode b_Code_turnOver 22 = .ok (.isub, 1) := by decide +kernel
theorem d_Code_turnOver_23 : decode b_Code_turnOver 23 = .ok (.ishl, 1) := by decide +kernel
theorem d_Code_turnOver_24 : decode b_Code_turnOver 24 = .ok (.ixor, 1) := by decide +kernel
theorem d_Code_turnOver_25 : decode b_Code_turnOver 25 = .ok (.iastore, 1) := by decide +kernel
theorem d_Code_turnOver_26 : decode b_Code_turnOver 26 = .ok (.iconst 1, 1) := by decide +kernel
theorem d_Code_turnOver_27 : decode b_Code_turnOver 27 = .ok (.ireturn, 1) := by decide +kernel
theorem d_Code_mend_0 : decode b_Code_mend 0 = .ok (.aload_n 0, 1) := by decide +kernel
theorem d_Code_mend_1 : decode b_Code_mend 1 = .ok (.getfield 9, 3) := by decide +kernel
theorem d_Code_mend_4 : decode b_Code_mend 4 = .ok (.ifCond .ne 5, 3) := by decide +kernel
theorem d_Code_mend_7 : decode b_Code_mend 7 = .ok (.iconst (-1), 1) := by decide +kernel
theorem d_Code_mend_8 : decode b_Code_mend 8 = .ok (.ireturn, 1) := by decide +kernel
theorem d_Code_mend_9 : decode b_Code_mend 9 = .ok (.iconst 0, 1) := by decide +kernel
theorem d_Code_mend_10 : decode b_Code_mend 10 = .ok (.istore_n 1, 1) := by decide +kernel
theorem d_Code_mend_11 : decode b_Code_mend 11 = .ok (.iconst 0, 1) := by decide +kernel
theorem d_Code_mend_12 : decode b_Code_mend 12 = .ok (.istore_n 2, 1) := by decide +kernel
theorem d_Code_mend_13 : decode b_Code_mend 13 = .ok (.iconst 0, 1) := by decide +kernel
theorem d_Code_mend_14 : decode b_Code_mend 14 = .ok (.istore_n 3, 1) := by decide +kernel
theorem d_Code_mend_15 : decode b_Code_mend 15 = .ok (.iconst 0, 1) := by decide +kernel
theorem d_Code_mend_16 : decode b_Code_mend 16 = .ok (.istore 4, 2) := by decide +kernel
theorem d_Code_mend_18 : decode b_Code_mend 18 = .ok (.iload 4, 2) := by decide +kernel
theorem d_Code_mend_20 : decode b_Code_mend 20 = .ok (.aload_n 0, 1) := by decide +kernel
theorem d_Code_mend_21 : decode b_Code_mend 21 = .ok (.invokevirtual 35, 3) := by decide +kernel
theorem d_Code_mend_24 : decode b_Code_mend 24 = .ok (.if_icmp .ge 38, 3) := by decide +kernel
theorem d_Code_mend_27 : decode b_Code_mend 27 = .ok (.iload_n 1, 1) := by decide +kernel
theorem d_Code_mend_28 : decode b_Code_mend 28 = .ok (.aload_n 0, 1) := by decide +kernel
theorem d_Code_mend_29 : decode b_Code_mend 29 = .ok (.getfield 19, 3) := by decide +kernel
theorem d_Code_mend_32 : decode b_Code_mend 32 = .ok (.iload 4, 2) := by decide +kernel
theorem d_Code_mend_34 : decode b_Code_mend 34 = .ok (.iaload, 1) := by decide +kernel
theorem d_Code_mend_35 : decode b_Code_mend 35 = .ok (.ixor, 1) := by decide +kernel
theorem d_Code_mend_36 : decode b_Code_mend 36 = .ok (.istore_n 1, 1) := by decide +kernel
theorem d_Code_mend_37 : decode b_Code_mend 37 = .ok (.aload_n 0, 1) := by decide +kernel
theorem d_Code_mend_38 : decode b_Code_mend 38 = .ok (.getfield 19, 3) := by decide +kernel
theorem d_Code_mend_41 : decode b_Code_mend 41 = .ok (.iload 4, 2) := by decide +kernel
theorem d_Code_mend_43 : decode b_Code_mend 43 = .ok (.iaload, 1) := by decide +kernel
theorem d_Code_mend_44 : decode b_Code_mend 44 = .ok (.invokestatic 25, 3) := by decide +kernel
theorem d_Code_mend_47 : decode b_Code_mend 47 = .ok (.ifCond .eq 9, 3) := by decide +kernel
theorem d_Code_mend_50 : decode b_Code_mend 50 = .ok (.iinc 2 1, 3) := by decide +kernel
theorem d_Code_mend_53 : decode b_Code_mend 53 = .ok (.iload 4, 2) := by decide +kernel
theorem d_Code_mend_55 : decode b_Code_mend 55 = .ok (.istore_n 3, 1) := by decide +kernel
theorem d_Code_mend_56 : decode b_Code_mend 56 = .ok (.iinc 4 1, 3) := by decide +kernel
theorem d_Code_mend_59 : decode b_Code_mend 59 = .ok (.goto (-41), 3) := by decide +kernel
theorem d_Code_mend_62 : decode b_Code_mend 62 = .ok (.iload_n 2, 1) := by decide +kernel
theorem d_Code_mend_63 : decode b_Code_mend 63 = .ok (.ifCond .ne 9, 3) := by decide +kernel
theorem d_Code_mend_66 : decode b_Code_mend 66 = .ok (.iload_n 1, 1) := by decide +kernel
theorem d_Code_mend_67 : decode b_Code_mend 67 = .ok (.ifCond .ne 5, 3) := by decide +kernel
theorem d_Code_mend_70 : decode b_Code_mend 70 = .ok (.iconst 0, 1) := by decide +kernel
theorem d_Code_mend_71 : decode b_Code_mend 71 = .ok (.ireturn, 1) := by decide +kernel
theorem d_Code_mend_72 : decode b_Code_mend 72 = .ok (.iload_n 2, 1) := by decide +kernel
theorem d_Code_mend_73 : decode b_Code_mend 73 = .ok (.iconst 1, 1) := by decide +kernel
theorem d_Code_mend_74 : decode b_Code_mend 74 = .ok (.if_icmp .ne 11, 3) := by decide +kernel
theorem d_Code_mend_77 : decode b_Code_mend 77 = .ok (.iload_n 1, 1) := by decide +kernel
theorem d_Code_mend_78 : decode b_Code_mend 78 = .ok (.invokestatic 29, 3) := by decide +kernel
theorem d_Code_mend_81 : decode b_Code_mend 81 = .ok (.iconst 1, 1) := by decide +kernel
theorem d_Code_mend_82 : decode b_Code_mend 82 = .ok (.if_icmp .eq 5, 3) := by decide +kernel
theorem d_Code_mend_85 : decode b_Code_mend 85 = .ok (.iconst (-1), 1) := by decide +kernel
theorem d_Code_mend_86 : decode b_Code_mend 86 = .ok (.ireturn, 1) := by decide +kernel
theorem d_Code_mend_87 : decode b_Code_mend 87 = .ok (.aload_n 0, 1) := by decide +kernel
theorem d_Code_mend_88 : decode b_Code_mend 88 = .ok (.getfield 19, 3) := by decide +kernel
theorem d_Code_mend_91 : decode b_Code_mend 91 = .ok (.iload_n 3, 1) := by decide +kernel
theorem d_Code_mend_92 : decode b_Code_mend 92 = .ok (.dup2, 1) := by decide +kernel
theorem d_Code_mend_93 : decode b_Code_mend 93 = .ok (.iaload, 1) := by decide +kernel
theorem d_Code_mend_94 : decode b_Code_mend 94 = .ok (.iload_n 1, 1) := by decide +kernel
theorem d_Code_mend_95 : decode b_Code_mend 95 = .ok (.ixor, 1) := by decide +kernel
theorem d_Code_mend_96 : decode b_Code_mend 96 = .ok (.iastore, 1) := by decide +kernel
theorem d_Code_mend_97 : decode b_Code_mend 97 = .ok (.iconst 1, 1) := by decide +kernel
theorem d_Code_mend_98 : decode b_Code_mend 98 = .ok (.ireturn, 1) := by decide +kernel
theorem d_Code_toldByte_0 : decode b_Code_toldByte 0 = .ok (.iload_n 1, 1) := by decide +kernel
theorem d_Code_toldByte_1 : decode b_Code_toldByte 1 = .ok (.ifCond .lt 11, 3) := by decide +kernel
theorem d_Code_toldByte_4 : decode b_Code_toldByte 4 = .ok (.iload_n 1, 1) := by decide +kernel
theorem d_Code_toldByte_5 : decode b_Code_toldByte 5 = .ok (.aload_n 0, 1) := by decide +kernel
theorem d_Code_toldByte_6 : decode b_Code_toldByte 6 = .ok (.getfield 9, 3) := by decide +kernel
theorem d_Code_toldByte_9 : decode b_Code_toldByte 9 = .ok (.if_icmp .lt 7, 3) := by decide +kernel
theorem d_Code_toldByte_12 : decode b_Code_toldByte 12 = .ok (.iconst (-1), 1) := by decide +kernel
theorem d_Code_toldByte_13 : decode b_Code_toldByte 13 = .ok (.goto 11, 3) := by decide +kernel
theorem d_Code_toldByte_16 : decode b_Code_toldByte 16 = .ok (.aload_n 0, 1) := by decide +kernel
theorem d_Code_toldByte_17 : decode b_Code_toldByte 17 = .ok (.getfield 19, 3) := by decide +kernel
theorem d_Code_toldByte_20 : decode b_Code_toldByte 20 = .ok (.iload_n 1, 1) := by decide +kernel
theorem d_Code_toldByte_21 : decode b_Code_toldByte 21 = .ok (.iaload, 1) := by decide +kernel
theorem d_Code_toldByte_22 : decode b_Code_toldByte 22 = .ok (.iconst 1, 1) := by decide +kernel
theorem d_Code_toldByte_23 : decode b_Code_toldByte 23 = .ok (.ishr, 1) := by decide +kernel
theorem d_Code_toldByte_24 : decode b_Code_toldByte 24 = .ok (.ireturn, 1) := by decide +kernel
theorem d_Grid_init_0 : decode b_Grid_init 0 = .ok (.aload_n 0, 1) := by decide +kernel
theorem d_Grid_init_1 : decode b_Grid_init 1 = .ok (.invokespecial 3, 3) := by decide +kernel
theorem d_Grid_init_4 : decode b_Grid_init 4 = .ok (.aload_n 0, 1) := by decide +kernel
theorem d_Grid_init_5 : decode b_Grid_init 5 = .ok (.iconst 1, 1) := by decide +kernel
theorem d_Grid_init_6 : decode b_Grid_init 6 = .ok (.putfield 9, 3) := by decide +kernel
theorem d_Grid_init_9 : decode b_Grid_init 9 = .ok (.aload_n 0, 1) := by decide +kernel
theorem d_Grid_init_10 : decode b_Grid_init 10 = .ok (.iconst 1, 1) := by decide +kernel
theorem d_Grid_init_11 : decode b_Grid_init 11 = .ok (.putfield 15, 3) := by decide +kernel
theorem d_Grid_init_14 : decode b_Grid_init 14 = .ok (.aload_n 0, 1) := by decide +kernel
theorem d_Grid_init_15 : decode b_Grid_init 15 = .ok (.bipush 64, 2) := by decide +kernel
theorem d_Grid_init_17 : decode b_Grid_init 17 = .ok (.newarray .int, 2) := by decide +kernel
theorem d_Grid_init_19 : decode b_Grid_init 19 = .ok (.putfield 18, 3) := by decide +kernel
theorem d_Grid_init_22 : decode b_Grid_init 22 = .ok (.aload_n 0, 1) := by decide +kernel
theorem d_Grid_init_23 : decode b_Grid_init 23 = .ok (.iconst 5, 1) := by decide +kernel
theorem d_Grid_init_24 : decode b_Grid_init 24 = .ok (.newarray .int, 2) := by decide +kernel
theorem d_Grid_init_26 : decode b_Grid_init 26 = .ok (.putfield 22, 3) := by decide +kernel
theorem d_Grid_init_29 : decode b_Grid_init 29 = .ok (.return_, 1) := by decide +kernel
theorem d_Grid_resize_0 : decode b_Grid_resize 0 = .ok (.iload_n 1, 1) := by decide +kernel
theorem d_Grid_resize_1 : decode b_Grid_resize 1 = .ok (.invokestatic 25, 3) := by decide +kernel
theorem d_Grid_resize_4 : decode b_Grid_resize 4 = .ok (.ifCond .eq 10, 3) := by decide +kernel
theorem d_Grid_resize_7 : decode b_Grid_resize 7 = .ok (.iload_n 2, 1) := by decide +kernel
theorem d_Grid_resize_8 : decode b_Grid_resize 8 = .ok (.invokestatic 25, 3) := by decide +kernel
theorem d_Grid_resize_11 : decode b_Grid_resize 11 = .ok (.ifCond .ne 5, 3) := by decide +kernel
theorem d_Grid_resize_14 : decode b_Grid_resize 14 = .ok (.iconst 0, 1) := by decide +kernel
theorem d_Grid_resize_15 : decode b_Grid_resize 15 = .ok (.ireturn, 1) := by decide +kernel
theorem d_Grid_resize_16 : decode b_Grid_resize 16 = .ok (.aload_n 0, 1) := by decide +kernel
theorem d_Grid_resize_17 : decode b_Grid_resize 17 = .ok (.iload_n 1, 1) := by decide +kernel
theorem d_Grid_resize_18 : decode b_Grid_resize 18 = .ok (.putfield 9, 3) := by decide +kernel
theorem d_Grid_resize_21 : decode b_Grid_resize 21 = .ok (.aload_n 0, 1) := by decide +kernel
theorem d_Grid_resize_22 : decode b_Grid_resize 22 = .ok (.iload_n 2, 1) := by decide +kernel
theorem d_Grid_resize_23 : decode b_Grid_resize 23 = .ok (.putfield 15, 3) := by decide +kernel
theorem d_Grid_resize_26 : decode b_Grid_resize 26 = .ok (.iconst 0, 1) := by decide +kernel
theorem d_Grid_resize_27 : decode b_Grid_resize 27 = .ok (.istore_n 3, 1) := by decide +kernel
theorem d_Grid_resize_28 : decode b_Grid_resize 28 = .ok (.iload_n 3, 1) := by decide +kernel
theorem d_Grid_resize_29 : decode b_Grid_resize 29 = .ok (.aload_n 0, 1) := by decide +kernel
theorem d_Grid_resize_30 : decode b_Grid_resize 30 = .ok (.getfield 18, 3) := by decide +kernel
theorem d_Grid_resize_33 : decode b_Grid_resize 33 = .ok (.arraylength, 1) := by decide +kernel
theorem d_Grid_resize_34 : decode b_Grid_resize 34 = .ok (.if_icmp .ge 16, 3) := by decide +kernel
theorem d_Grid_resize_37 : decode b_Grid_resize 37 = .ok (.aload_n 0, 1) := by decide +kernel
theorem d_Grid_resize_38 : decode b_Grid_resize 38 = .ok (.getfield 18, 3) := by decide +kernel
theorem d_Grid_resize_41 : decode b_Grid_resize 41 = .ok (.iload_n 3, 1) := by decide +kernel
theorem d_Grid_resize_42 : decode b_Grid_resize 42 = .ok (.iconst 0, 1) := by decide +kernel
theorem d_Grid_resize_43 : decode b_Grid_resize 43 = .ok (.iastore, 1) := by decide +kernel
theorem d_Grid_resize_44 : decode b_Grid_resize 44 = .ok (.iinc 3 1, 3) := by decide +kernel
theorem d_Grid_resize_47 : decode b_Grid_resize 47 = .ok (.goto (-19), 3) := by decide +kernel
theorem d_Grid_resize_50 : decode b_Grid_resize 50 = .ok (.iconst 1, 1) := by decide +kernel
theorem d_Grid_resize_51 : decode b_Grid_resize 51 = .ok (.ireturn, 1) := by decide +kernel
theorem d_Grid_isSide_0 : decode b_Grid_isSide 0 = .ok (.iload_n 0, 1) := by decide +kernel
theorem d_Grid_isSide_1 : decode b_Grid_isSide 1 = .ok (.iconst 1, 1) := by decide +kernel
theorem d_Grid_isSide_2 : decode b_Grid_isSide 2 = .ok (.if_icmp .lt 13, 3) := by decide +kernel
theorem d_Grid_isSide_5 : decode b_Grid_isSide 5 = .ok (.iload_n 0, 1) := by decide +kernel
theorem d_Grid_isSide_6 : decode b_Grid_isSide 6 = .ok (.bipush 8, 2) := by decide +kernel
theorem d_Grid_isSide_8 : decode b_Grid_isSide 8 = .ok (.if_icmp .gt 7, 3) := by decide +kernel
theorem d_Grid_isSide_11 : decode b_Grid_isSide 11 = .ok (.iconst 1, 1) := by decide +kernel
theorem d_Grid_isSide_12 : decode b_Grid_isSide 12 = .ok (.goto 4, 3) := by decide +kernel
theorem d_Grid_isSide_15 : decode b_Grid_isSide 15 = .ok (.iconst 0, 1) := by decide +kernel
theorem d_Grid_isSide_16 : decode b_Grid_isSide 16 = .ok (.ireturn, 1) := by decide +kernel
theorem d_Grid_mark_0 : decode b_Grid_mark 0 = .ok (.iload_n 1, 1) := by decide +kernel
theorem d_Grid_mark_1 : decode b_Grid_mark 1 = .ok (.ifCond .lt 26, 3) := by decide +kernel
theorem d_Grid_mark_4 : decode b_Grid_mark 4 = .ok (.iload_n 1, 1) := by decide +kernel
theorem d_Grid_mark_5 : decode b_Grid_mark 5 = .ok (.aload_n 0, 1) := by decide +kernel
theorem d_Grid_mark_6 : decode b_Grid_mark 6 = .ok (.getfield 9, 3) := by decide +kernel
theorem d_Grid_mark_9 : decode b_Grid_mark 9 = .ok (.aload_n 0, 1) := by decide +kernel
theorem d_Grid_mark_10 : decode b_Grid_mark 10 = .ok (.getfield 15, 3) := by decide +kernel
theorem d_Grid_mark_13 : decode b_Grid_mark 13 = .ok (.imul, 1) := by decide +kernel
theorem d_Grid_mark_14 : decode b_Grid_mark 14 = .ok (.if_icmp .ge 13, 3) := by decide +kernel
theorem d_Grid_mark_17 : decode b_Grid_mark 17 = .ok (.iload_n 2, 1) := by decide +kernel
theorem d_Grid_mark_18 : decode b_Grid_mark 18 = .ok (.ifCond .lt 9, 3) := by decide +kernel
theorem d_Grid_mark_21 : decode b_Grid_mark 21 = .ok (.iload_n 2, 1) := by decide +kernel
theorem d_Grid_mark_22 : decode b_Grid_mark 22 = .ok (.bipush 9, 2) := by decide +kernel
theorem d_Grid_mark_24 : decode b_Grid_mark 24 = .ok (.if_icmp .le 5, 3) := by decide +kernel
theorem d_Grid_mark_27 : decode b_Grid_mark 27 = .ok (.iconst 0, 1) := by decide +kernel
theorem d_Grid_mark_28 : decode b_Grid_mark 28 = .ok (.ireturn, 1) := by decide +kernel
theorem d_Grid_mark_29 : decode b_Grid_mark 29 = .ok (.aload_n 0, 1) := by decide +kernel
theorem d_Grid_mark_30 : decode b_Grid_mark 30 = .ok (.getfield 18, 3) := by decide +kernel
theorem d_Grid_mark_33 : decode b_Grid_mark 33 = .ok (.iload_n 1, 1) := by decide +kernel
theorem d_Grid_mark_34 : decode b_Grid_mark 34 = .ok (.iload_n 2, 1) := by decide +kernel
theorem d_Grid_mark_35 : decode b_Grid_mark 35 = .ok (.iastore, 1) := by decide +kernel
theorem d_Grid_mark_36 : decode b_Grid_mark 36 = .ok (.iconst 1, 1) := by decide +kernel
theorem d_Grid_mark_37 : decode b_Grid_mark 37 = .ok (.ireturn, 1) := by decide +kernel
theorem d_Grid_countLines_0 : decode b_Grid_countLines 0 = .ok (.aload_n 0, 1) := by decide +kernel
theorem d_Grid_countLines_1 : decode b_Grid_countLines 1 = .ok (.iconst (-1), 1) := by decide +kernel
theorem d_Grid_countLines_2 : decode b_Grid_countLines 2 = .ok (.invokevirtual 29, 3) := by decide +kernel
theorem d_Grid_countLines_5 : decode b_Grid_countLines 5 = .ok (.ireturn, 1) := by decide +kernel
theorem d_Grid_partOfLine_0 : decode b_Grid_partOfLine 0 = .ok (.iload_n 1, 1) := by decide +kernel
theorem d_Grid_partOfLine_1 : decode b_Grid_partOfLine 1 = .ok (.ifCond .lt 21, 3) := by decide +kernel
theorem d_Grid_partOfLine_4 : decode b_Grid_partOfLine 4 = .ok (.iload_n 2, 1) := by decide +kernel
theorem d_Grid_partOfLine_5 : decode b_Grid_partOfLine 5 = .ok (.ifCond .lt 17, 3) := by decide +kernel
theorem d_Grid_partOfLine_8 : decode b_Grid_partOfLine 8 = .ok (.iload_n 2, 1) := by decide +kernel
theorem d_Grid_partOfLine_9 : decode b_Grid_partOfLine 9 = .ok (.iconst 5, 1) := by decide +kernel
theorem d_Grid_partOfLine_10 : decode b_Grid_partOfLine 10 = .ok (.if_icmp .ge 12, 3) := by decide +kernel
theorem d_Grid_partOfLine_13 : decode b_Grid_partOfLine 13 = .ok (.iload_n 1, 1) := by decide +kernel
theorem d_Grid_partOfLine_14 : decode b_Grid_partOfLine 14 = .ok (.aload_n 0, 1) := by decide +kernel
theorem d_Grid_partOfLine_15 : decode b_Grid_partOfLine 15 = .ok (.iload_n 1, 1) := by decide +kernel
theorem d_Grid_partOfLine_16 : decode b_Grid_partOfLine 16 = .ok (.invokevirtual 29, 3) := by decide +kernel
theorem d_Grid_partOfLine_19 : decode b_Grid_partOfLine 19 = .ok (.if_icmp .lt 5, 3) := by decide +kernel
theorem d_Grid_partOfLine_22 : decode b_Grid_partOfLine 22 = .ok (.iconst (-1), 1) := by decide +kernel
theorem d_Grid_partOfLine_23 : decode b_Grid_partOfLine 23 = .ok (.ireturn, 1) := by decide +kernel
theorem d_Grid_partOfLine_24 : decode b_Grid_partOfLine 24 = .ok (.aload_n 0, 1) := by decide +kernel
theorem d_Grid_partOfLine_25 : decode b_Grid_partOfLine 25 = .ok (.getfield 22, 3) := by decide +kernel
theorem d_Grid_partOfLine_28 : decode b_Grid_partOfLine 28 = .ok (.iload_n 2, 1) := by decide +kernel
theorem d_Grid_partOfLine_29 : decode b_Grid_partOfLine 29 = .ok (.iaload, 1) := by decide +kernel
theorem d_Grid_partOfLine_30 : decode b_Grid_partOfLine 30 = .ok (.ireturn, 1) := by decide +kernel
theorem d_Grid_walkLines_0 : decode b_Grid_walkLines 0 = .ok (.iconst 0, 1) := by decide +kernel
theorem d_Grid_walkLines_1 : decode b_Grid_walkLines 1 = .ok (.istore_n 2, 1) := by decide +kernel
theorem d_Grid_walkLines_2 : decode b_Grid_walkLines 2 = .ok (.iconst 0, 1) := by decide +kernel
theorem d_Grid_walkLines_3 : decode b_Grid_walkLines 3 = .ok (.istore_n 3, 1) := by decide +kernel
theorem d_Grid_walkLines_4 : decode b_Grid_walkLines 4 = .ok (.iload_n 3, 1) := by decide +kernel
theorem d_Grid_walkLines_5 : decode b_Grid_walkLines 5 = .ok (.aload_n 0, 1) := by decide +kernel
theorem d_Grid_walkLines_6 : decode b_Grid_walkLines 6 = .ok (.getfield 15, 3) := by decide +kernel
theorem d_Grid_walkLines_9 : decode b_Grid_walkLines 9 = .ok (.if_icmp .gt 18, 3) := by decide +kernel
theorem d_Grid_walkLines_12 : decode b_Grid_walkLines 12 = .ok (.aload_n 0, 1) := by decide +kernel
theorem d_Grid_walkLines_13 : decode b_Grid_walkLines 13 = .ok (.iconst 1, 1) := by decide +kernel
theorem d_Grid_walkLines_14 : decode b_Grid_walkLines 14 = .ok (.iload_n 3, 1) := by decide +kernel
theorem d_Grid_walkLines_15 : decode b_Grid_walkLines 15 = .ok (.iload_n 2, 1) := by decide +kernel
theorem d_Grid_walkLines_16 : decode b_Grid_walkLines 16 = .ok (.iload_n 1, 1) := by decide +kernel
theorem d_Grid_walkLines_17 : decode b_Grid_walkLines 17 = .ok (.invokevirtual 33, 3) := by decide +kernel
theorem d_Grid_walkLines_20 : decode b_Grid_walkLines 20 = .ok (.istore_n 2, 1) := by decide +kernel
theorem d_Grid_walkLines_21 : decode b_Grid_walkLines 21 = .ok (.iinc 3 1, 3) := by decide +kernel
theorem d_Grid_walkLines_24 : decode b_Grid_walkLines 24 = .ok (.goto (-20), 3) := by decide +kernel
theorem d_Grid_walkLines_27 : decode b_Grid_walkLines 27 = .ok (.iconst 0, 1) := by decide +kernel
theorem d_Grid_walkLines_28 : decode b_Grid_walkLines 28 = .ok (.istore_n 3, 1) := by decide +kernel
theorem d_Grid_walkLines_29 : decode b_Grid_walkLines 29 = .ok (.iload_n 3, 1) := by decide +kernel
theorem d_Grid_walkLines_30 : decode b_Grid_walkLines 30 = .ok (.aload_n 0, 1) := by decide +kernel
theorem d_Grid_walkLines_31 : decode b_Grid_walkLines 31 = .ok (.getfield 9, 3) := by decide +kernel
theorem d_Grid_walkLines_34 : decode b_Grid_walkLines 34 = .ok (.if_icmp .gt 18, 3) := by decide +kernel
theorem d_Grid_walkLines_37 : decode b_Grid_walkLines 37 = .ok (.aload_n 0, 1) := by decide +kernel
theorem d_Grid_walkLines_38 : decode b_Grid_walkLines 38 = .ok (.iconst 0, 1) := by decide +kernel
theorem d_Grid_walkLines_39 : decode b_Grid_walkLines 39 = .ok (.iload_n 3, 1) := by decide +kernel
theorem d_Grid_walkLines_40 : decode b_Grid_walkLines 40 = .ok (.iload_n 2, 1) := by decide +kernel
theorem d_Grid_walkLines_41 : decode b_Grid_walkLines 41 = .ok (.iload_n 1, 1) := by decide +kernel
theorem d_Grid_walkLines_42 : decode b_Grid_walkLines 42 = .ok (.invokevirtual 33, 3) := by decide +kernel
theorem d_Grid_walkLines_45 : decode b_Grid_walkLines 45 = .ok (.istore_n 2, 1) := by decide +kernel
theorem d_Grid_walkLines_46 : decode b_Grid_walkLines 46 = .ok (.iinc 3 1, 3) := by decide +kernel
theorem d_Grid_walkLines_49 : decode b_Grid_walkLines 49 = .ok (.goto (-20), 3) := by decide +kernel
theorem d_Grid_walkLines_52 : decode b_Grid_walkLines 52 = .ok (.iload_n 2, 1) := by decide +kernel
theorem d_Grid_walkLines_53 : decode b_Grid_walkLines 53 = .ok (.ireturn, 1) := by decide +kernel
theorem d_Grid_walkRow_0 : decode b_Grid_walkRow 0 = .ok (.iload_n 1, 1) := by decide +kernel
theorem d_Grid_walkRow_1 : decode b_Grid_walkRow 1 = .ok (.ifCond .eq 10, 3) := by decide +kernel
theorem d_Grid_walkRow_4 : decode b_Grid_walkRow 4 = .ok (.aload_n 0, 1) := by decide +kernel
theorem d_Grid_walkRow_5 : decode b_Grid_walkRow 5 = .ok (.getfield 9, 3) := by decide +kernel
theorem d_Grid_walkRow_8 : decode b_Grid_walkRow 8 = .ok (.goto 7, 3) := by decide +kernel
theorem d_Grid_walkRow_11 : decode b_Grid_walkRow 11 = .ok (.aload_n 0, 1) := by decide +kernel
theorem d_Grid_walkRow_12 : decode b_Grid_walkRow 12 = .ok (.getfield 15, 3) := by decide +kernel
theorem d_Grid_walkRow_15 : decode b_Grid_walkRow 15 = .ok (.istore 5, 2) := by decide +kernel
theorem d_Grid_walkRow_17 : decode b_Grid_walkRow 17 = .ok (.iload_n 3, 1) := by decide +kernel
theorem d_Grid_walkRow_18 : decode b_Grid_walkRow 18 = .ok (.istore 6, 2) := by decide +kernel
theorem d_Grid_walkRow_20 : decode b_Grid_walkRow 20 = .ok (.iconst 0, 1) := by decide +kernel
theorem d_Grid_walkRow_21 : decode b_Grid_walkRow 21 = .ok (.istore 7, 2) := by decide +kernel
theorem d_Grid_walkRow_23 : decode b_Grid_walkRow 23 = .ok (.iconst 1, 1) := by decide +kernel
theorem d_Grid_walkRow_24 : decode b_Grid_walkRow 24 = .ok (.istore 8, 2) := by decide +kernel
theorem d_Grid_walkRow_26 : decode b_Grid_walkRow 26 = .ok (.iload 8, 2) := by decide +kernel
theorem d_Grid_walkRow_28 : decode b_Grid_walkRow 28 = .ok (.iload 5, 2) := by decide +kernel
theorem d_Grid_walkRow_30 : decode b_Grid_walkRow 30 = .ok (.if_icmp .gt 65, 3) := by decide +kernel
theorem d_Grid_walkRow_33 : decode b_Grid_walkRow 33 = .ok (.aload_n 0, 1) := by decide +kernel
theorem d_Grid_walkRow_34 : decode b_Grid_walkRow 34 = .ok (.iload_n 1, 1) := by decide +kernel
theorem d_Grid_walkRow_35 : decode b_Grid_walkRow 35 = .ok (.iload_n 2, 1) := by decide +kernel
theorem d_Grid_walkRow_36 : decode b_Grid_walkRow 36 = .ok (.iload 7, 2) := by decide +kernel
theorem d_Grid_walkRow_38 : decode b_Grid_walkRow 38 = .ok (.invokevirtual 37, 3) := by decide +kernel
theorem d_Grid_walkRow_41 : decode b_Grid_walkRow 41 = .ok (.istore 9, 2) := by decide +kernel
theorem d_Grid_walkRow_43 : decode b_Grid_walkRow 43 = .ok (.iload 8, 2) := by decide +kernel
theorem d_Grid_walkRow_45 : decode b_Grid_walkRow 45 = .ok (.iload 5, 2) := by decide +kernel
theorem d_Grid_walkRow_47 : decode b_Grid_walkRow 47 = .ok (.if_icmp .eq 16, 3) := by decide +kernel
theorem d_Grid_walkRow_50 : decode b_Grid_walkRow 50 = .ok (.aload_n 0, 1) := by decide +kernel
theorem d_Grid_walkRow_51 : decode b_Grid_walkRow 51 = .ok (.iload_n 1, 1) := by decide +kernel
theorem d_Grid_walkRow_52 : decode b_Grid_walkRow 52 = .ok (.iload_n 2, 1) := by decide +kernel
theorem d_Grid_walkRow_53 : decode b_Grid_walkRow 53 = .ok (.iload 8, 2) := by decide +kernel
theorem d_Grid_walkRow_55 : decode b_Grid_walkRow 55 = .ok (.invokevirtual 37, 3) := by decide +kernel
theorem d_Grid_walkRow_58 : decode b_Grid_walkRow 58 = .ok (.iload 9, 2) := by decide +kernel
theorem d_Grid_walkRow_60 : decode b_Grid_walkRow 60 = .ok (.if_icmp .eq 29, 3) := by decide +kernel
theorem d_Grid_walkRow_63 : decode b_Grid_walkRow 63 = .ok (.iload 6, 2) := by decide +kernel
theorem d_Grid_walkRow_65 : decode b_Grid_walkRow 65 = .ok (.iload 4, 2) := by decide +kernel
theorem d_Grid_walkRow_67 : decode b_Grid_walkRow 67 = .ok (.if_icmp .ne 15, 3) := by decide +kernel
theorem d_Grid_walkRow_70 : decode b_Grid_walkRow 70 = .ok (.aload_n 0, 1) := by decide +kernel
theorem d_Grid_walkRow_71 : decode b_Grid_walkRow 71 = .ok (.iload_n 1, 1) := by decide +kernel
theorem d_Grid_walkRow_72 : decode b_Grid_walkRow 72 = .ok (.iload_n 2, 1) := by decide +kernel
theorem d_Grid_walkRow_73 : decode b_Grid_walkRow 73 = .ok (.iload 7, 2) := by decide +kernel
theorem d_Grid_walkRow_75 : decode b_Grid_walkRow 75 = .ok (.iload 8, 2) := by decide +kernel
theorem d_Grid_walkRow_77 : decode b_Grid_walkRow 77 = .ok (.iload 9, 2) := by decide +kernel
theorem d_Grid_walkRow_79 : decode b_Grid_walkRow 79 = .ok (.invokevirtual 41, 3) := by decide +kernel
theorem d_Grid_walkRow_82 : decode b_Grid_walkRow 82 = .ok (.iinc 6 1, 3) := by decide +kernel
theorem d_Grid_walkRow_85 : decode b_Grid_walkRow 85 = .ok (.iload 8, 2) := by decide +kernel
theorem d_Grid_walkRow_87 : decode b_Grid_walkRow 87 = .ok (.istore 7, 2) := by decide +kernel
theorem d_Grid_walkRow_89 : decode b_Grid_walkRow 89 = .ok (.iinc 8 1, 3) := by decide +kernel
theorem d_Grid_walkRow_92 : decode b_Grid_walkRow 92 = .ok (.goto (-66), 3) := by decide +kernel
theorem d_Grid_walkRow_95 : decode b_Grid_walkRow 95 = .ok (.iload 6, 2) := by decide +kernel
theorem d_Grid_walkRow_97 : decode b_Grid_walkRow 97 = .ok (.ireturn, 1) := by decide +kernel
theorem d_Grid_isThick_0 : decode b_Grid_isThick 0 = .ok (.iload_n 1, 1) := by decide +kernel
theorem d_Grid_isThick_1 : decode b_Grid_isThick 1 = .ok (.ifCond .eq 10, 3) := by decide +kernel
theorem d_Grid_isThick_4 : decode b_Grid_isThick 4 = .ok (.aload_n 0, 1) := by decide +kernel
theorem d_Grid_isThick_5 : decode b_Grid_isThick 5 = .ok (.getfield 15, 3) := by decide +kernel
theorem d_Grid_isThick_8 : decode b_Grid_isThick 8 = .ok (.goto 7, 3) := by decide +kernel
theorem d_Grid_isThick_11 : decode b_Grid_isThick 11 = .ok (.aload_n 0, 1) := by decide +kernel
theorem d_Grid_isThick_12 : decode b_Grid_isThick 12 = .ok (.getfield 9, 3) := by decide +kernel
theorem d_Grid_isThick_15 : decode b_Grid_isThick 15 = .ok (.istore 4, 2) := by decide +kernel
theorem d_Grid_isThick_17 : decode b_Grid_isThick 17 = .ok (.iload_n 2, 1) := by decide +kernel
theorem d_Grid_isThick_18 : decode b_Grid_isThick 18 = .ok (.ifCond .le 9, 3) := by decide +kernel
theorem d_Grid_isThick_21 : decode b_Grid_isThick 21 = .ok (.iload_n 2, 1) := by decide +kernel
theorem d_Grid_isThick_22 : decode b_Grid_isThick 22 = .ok (.iload 4, 2) := by decide +kernel
theorem d_Grid_isThick_24 : decode b_Grid_isThick 24 = .ok (.if_icmp .lt 5, 3) := by decide +kernel
theorem d_Grid_isThick_27 : decode b_Grid_isThick 27 = .ok (.iconst 1, 1) := by decide +kernel
theorem d_Grid_isThick_28 : decode b_Grid_isThick 28 = .ok (.ireturn, 1) := by decide +kernel
theorem d_Grid_isThick_29 : decode b_Grid_isThick 29 = .ok (.iload_n 1, 1) := by decide +kernel
theorem d_Grid_isThick_30 : decode b_Grid_isThick 30 = .ok (.ifCond .eq 14, 3) := by decide +kernel
theorem d_Grid_isThick_33 : decode b_Grid_isThick 33 = .ok (.iload_n 3, 1) := by decide +kernel
theorem d_Grid_isThick_34 : decode b_Grid_isThick 34 = .ok (.aload_n 0, 1) := by decide +kernel
theorem d_Grid_isThick_35 : decode b_Grid_isThick 35 = .ok (.getfield 9, 3) := by decide +kernel
theorem d_Grid_isThick_38 : decode b_Grid_isThick 38 = .ok (.iload_n 2, 1) := by decide +kernel
theorem d_Grid_isThick_39 : decode b_Grid_isThick 39 = .ok (.imul, 1) := by decide +kernel
theorem d_Grid_isThick_40 : decode b_Grid_isThick 40 = .ok (.iadd, 1) := by decide +kernel
theorem d_Grid_isThick_41 : decode b_Grid_isThick 41 = .ok (.goto 11, 3) := by decide +kernel
theorem d_Grid_isThick_44 : decode b_Grid_isThick 44 = .ok (.iload_n 2, 1) := by decide +kernel
theorem d_Grid_isThick_45 : decode b_Grid_isThick 45 = .ok (.aload_n 0, 1) := by decide +kernel
theorem d_Grid_isThick_46 : decode b_Grid_isThick 46 = .ok (.getfield 9, 3) := by decide +kernel
theorem d_Grid_isThick_49 : decode b_Grid_isThick 49 = .ok (.iload_n 3, 1) := by decide +kernel
theorem d_Grid_isThick_50 : decode b_Grid_isThick 50 = .ok (.imul, 1) := by decide +kernel
theorem d_Grid_isThick_51 : decode b_Grid_isThick 51 = .ok (.iadd, 1) := by decide +kernel
theorem d_Grid_isThick_52 : decode b_Grid_isThick 52 = .ok (.istore 5, 2) := by decide +kernel
theorem d_Grid_isThick_54 : decode b_Grid_isThick 54 = .ok (.iload_n 1, 1) := by decide +kernel
theorem d_Grid_isThick_55 : decode b_Grid_isThick 55 = .ok (.ifCond .eq 13, 3) := by decide +kernel
theorem d_Grid_isThick_58 : decode b_Grid_isThick 58 = .ok (.iload 5, 2) := by decide +kernel
theorem d_Grid_isThick_60 : decode b_Grid_isThick 60 = .ok (.aload_n 0, 1) := by decide +kernel
theorem d_Grid_isThick_61 : decode b_Grid_isThick 61 = .ok (.getfield 9, 3) := by decide +kernel
theorem d_Grid_isThick_64 : decode b_Grid_isThick 64 = .ok (.isub, 1) := by decide +kernel
theorem d_Grid_isThick_65 : decode b_Grid_isThick 65 = .ok (.goto 7, 3) := by decide +kernel
theorem d_Grid_isThick_68 : decode b_Grid_isThick 68 = .ok (.iload 5, 2) := by decide +kernel
theorem d_Grid_isThick_70 : decode b_Grid_isThick 70 = .ok (.iconst 1, 1) := by decide +kernel
theorem d_Grid_isThick_71 : decode b_Grid_isThick 71 = .ok (.isub, 1) := by decide +kernel
theorem d_Grid_isThick_72 : decode b_Grid_isThick 72 = .ok (.istore 6, 2) := by decide +kernel
theorem d_Grid_isThick_74 : decode b_Grid_isThick 74 = .ok (.aload_n 0, 1) := by decide +kernel
theorem d_Grid_isThick_75 : decode b_Grid_isThick 75 = .ok (.getfield 18, 3) := by decide +kernel
theorem d_Grid_isThick_78 : decode b_Grid_isThick 78 = .ok (.iload 5, 2) := by decide +kernel
theorem d_Grid_isThick_80 : decode b_Grid_isThick 80 = .ok (.iaload, 1) := by decide +kernel
theorem d_Grid_isThick_81 : decode b_Grid_isThick 81 = .ok (.aload_n 0, 1) := by decide +kernel
theorem d_Grid_isThick_82 : decode b_Grid_isThick 82 = .ok (.getfield 18, 3) := by decide +kernel
theorem d_Grid_isThick_85 : decode b_Grid_isThick 85 = .ok (.iload 6, 2) := by decide +kernel
theorem d_Grid_isThick_87 : decode b_Grid_isThick 87 = .ok (.iaload, 1) := by decide +kernel
theorem d_Grid_isThick_88 : decode b_Grid_isThick 88 = .ok (.if_icmp .eq 7, 3) := by decide +kernel
theorem d_Grid_isThick_91 : decode b_Grid_isThick 91 = .ok (.iconst 1, 1) := by decide +kernel
theorem d_Grid_isThick_92 : decode b_Grid_isThick 92 = .ok (.goto 4, 3) := by decide +kernel
theorem d_Grid_isThick_95 : decode b_Grid_isThick 95 = .ok (.iconst 0, 1) := by decide +kernel
theorem d_Grid_isThick_96 : decode b_Grid_isThick 96 = .ok (.ireturn, 1) := by decide +kernel
theorem d_Grid_keepLine_0 : decode b_Grid_keepLine 0 = .ok (.aload_n 0, 1) := by decide +kernel
theorem d_Grid_keepLine_1 : decode b_Grid_keepLine 1 = .ok (.getfield 22, 3) := by decide +kernel
theorem d_Grid_keepLine_4 : decode b_Grid_keepLine 4 = .ok (.iconst 0, 1) := by decide +kernel
theorem d_Grid_keepLine_5 : decode b_Grid_keepLine 5 = .ok (.iload_n 1, 1) := by decide +kernel
theorem d_Grid_keepLine_6 : decode b_Grid_keepLine 6 = .ok (.ifCond .eq 7, 3) := by decide +kernel
theorem d_Grid_keepLine_9 : decode b_Grid_keepLine 9 = .ok (.iload_n 3, 1) := by decide +kernel
theorem d_Grid_keepLine_10 : decode b_Grid_keepLine 10 = .ok (.goto 4, 3) := by decide +kernel
theorem d_Grid_keepLine_13 : decode b_Grid_keepLine 13 = .ok (.iload_n 2, 1) := by decide +kernel
theorem d_Grid_keepLine_14 : decode b_Grid_keepLine 14 = .ok (.iastore, 1) := by decide +kernel
theorem d_Grid_keepLine_15 : decode b_Grid_keepLine 15 = .ok (.aload_n 0, 1) := by decide +kernel
theorem d_Grid_keepLine_16 : decode b_Grid_keepLine 16 = .ok (.getfield 22, 3) := by decide +kernel
theorem d_Grid_keepLine_19 : decode b_Grid_keepLine 19 = .ok (.iconst 1, 1) := by decide +kernel
theorem d_Grid_keepLine_20 : decode b_Grid_keepLine 20 = .ok (.iload_n 1, 1) := by decide +kernel
theorem d_Grid_keepLine_21 : decode b_Grid_keepLine 21 = .ok (.ifCond .eq 7, 3) := by decide +kernel
theorem d_Grid_keepLine_24 : decode b_Grid_keepLine 24 = .ok (.iload_n 2, 1) := by decide +kernel
theorem d_Grid_keepLine_25 : decode b_Grid_keepLine 25 = .ok (.goto 4, 3) := by decide +kernel
theorem d_Grid_keepLine_28 : decode b_Grid_keepLine 28 = .ok (.iload_n 3, 1) := by decide +kernel
theorem d_Grid_keepLine_29 : decode b_Grid_keepLine 29 = .ok (.iastore, 1) := by decide +kernel
theorem d_Grid_keepLine_30 : decode b_Grid_keepLine 30 = .ok (.aload_n 0, 1) := by decide +kernel
theorem d_Grid_keepLine_31 : decode b_Grid_keepLine 31 = .ok (.getfield 22, 3) := by decide +kernel
theorem d_Grid_keepLine_34 : decode b_Grid_keepLine 34 = .ok (.iconst 2, 1) := by decide +kernel
theorem d_Grid_keepLine_35 : decode b_Grid_keepLine 35 = .ok (.iload_n 1, 1) := by decide +kernel
theorem d_Grid_keepLine_36 : decode b_Grid_keepLine 36 = .ok (.ifCond .eq 8, 3) := by decide +kernel
theorem d_Grid_keepLine_39 : decode b_Grid_keepLine 39 = .ok (.iload 4, 2) := by decide +kernel
theorem d_Grid_keepLine_41 : decode b_Grid_keepLine 41 = .ok (.goto 4, 3) := by decide +kernel
theorem d_Grid_keepLine_44 : decode b_Grid_keepLine 44 = .ok (.iload_n 2, 1) := by decide +kernel
theorem d_Grid_keepLine_45 : decode b_Grid_keepLine 45 = .ok (.iastore, 1) := by decide +kernel
theorem d_Grid_keepLine_46 : decode b_Grid_keepLine 46 = .ok (.aload_n 0, 1) := by decide +kernel
theorem d_Grid_keepLine_47 : decode b_Grid_keepLine 47 = .ok (.getfield 22, 3) := by decide +kernel
theorem d_Grid_keepLine_50 : decode b_Grid_keepLine 50 = .ok (.iconst 3, 1) := by decide +kernel
theorem d_Grid_keepLine_51 : decode b_Grid_keepLine 51 = .ok (.iload_n 1, 1) := by decide +kernel
theorem d_Grid_keepLine_52 : decode b_Grid_keepLine 52 = .ok (.ifCond .eq 7, 3) := by decide +kernel
theorem d_Grid_keepLine_55 : decode b_Grid_keepLine 55 = .ok (.iload_n 2, 1) := by decide +kernel
theorem d_Grid_keepLine_56 : decode b_Grid_keepLine 56 = .ok (.goto 5, 3) := by decide +kernel
theorem d_Grid_keepLine_59 : decode b_Grid_keepLine 59 = .ok (.iload 4, 2) := by decide +kernel
theorem d_Grid_keepLine_61 : decode b_Grid_keepLine 61 = .ok (.iastore, 1) := by decide +kernel
theorem d_Grid_keepLine_62 : decode b_Grid_keepLine 62 = .ok (.aload_n 0, 1) := by decide +kernel
theorem d_Grid_keepLine_63 : decode b_Grid_keepLine 63 = .ok (.getfield 22, 3) := by decide +kernel
theorem d_Grid_keepLine_66 : decode b_Grid_keepLine 66 = .ok (.iconst 4, 1) := by decide +kernel
theorem d_Grid_keepLine_67 : decode b_Grid_keepLine 67 = .ok (.iload 5, 2) := by decide +kernel
