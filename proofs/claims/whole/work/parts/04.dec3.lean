theorem d_Mod_isSquare_11 : decode b_Mod_isSquare 11 = .ok (.invokestatic 51, 3) := by decide +kernel
theorem d_Mod_isSquare_14 : decode b_Mod_isSquare 14 = .ok (.ifCond .eq 19, 3) := by decide +kernel
theorem d_Mod_isSquare_17 : decode b_Mod_isSquare 17 = .ok (.iload_n 2, 1) := by decide +kernel
theorem d_Mod_isSquare_18 : decode b_Mod_isSquare 18 = .ok (.iconst 0, 1) := by decide +kernel
theorem d_Mod_isSquare_19 : decode b_Mod_isSquare 19 = .ok (.aload_n 0, 1) := by decide +kernel
theorem d_Mod_isSquare_20 : decode b_Mod_isSquare 20 = .ok (.getfield 113, 3) := by decide +kernel
theorem d_Mod_isSquare_23 : decode b_Mod_isSquare 23 = .ok (.invokestatic 51, 3) := by decide +kernel
theorem d_Mod_isSquare_26 : decode b_Mod_isSquare 26 = .ok (.ifCond .eq 7, 3) := by decide +kernel
theorem d_Mod_isSquare_29 : decode b_Mod_isSquare 29 = .ok (.iconst 1, 1) := by decide +kernel
theorem d_Mod_isSquare_30 : decode b_Mod_isSquare 30 = .ok (.goto 4, 3) := by decide +kernel
theorem d_Mod_isSquare_33 : decode b_Mod_isSquare 33 = .ok (.iconst 0, 1) := by decide +kernel
theorem d_Mod_isSquare_34 : decode b_Mod_isSquare 34 = .ok (.ireturn, 1) := by decide +kernel
theorem d_Mod_asTold_0 : decode b_Mod_asTold 0 = .ok (.iconst 0, 1) := by decide +kernel
theorem d_Mod_asTold_1 : decode b_Mod_asTold 1 = .ok (.istore_n 3, 1) := by decide +kernel
theorem d_Mod_asTold_2 : decode b_Mod_asTold 2 = .ok (.iconst 0, 1) := by decide +kernel
theorem d_Mod_asTold_3 : decode b_Mod_asTold 3 = .ok (.istore 4, 2) := by decide +kernel
theorem d_Mod_asTold_5 : decode b_Mod_asTold 5 = .ok (.iload 4, 2) := by decide +kernel
theorem d_Mod_asTold_7 : decode b_Mod_asTold 7 = .ok (.aload_n 0, 1) := by decide +kernel
theorem d_Mod_asTold_8 : decode b_Mod_asTold 8 = .ok (.getfield 113, 3) := by decide +kernel
theorem d_Mod_asTold_11 : decode b_Mod_asTold 11 = .ok (.if_icmp .ge 69, 3) := by decide +kernel
theorem d_Mod_asTold_14 : decode b_Mod_asTold 14 = .ok (.iload_n 2, 1) := by decide +kernel
theorem d_Mod_asTold_15 : decode b_Mod_asTold 15 = .ok (.aload_n 0, 1) := by decide +kernel
theorem d_Mod_asTold_16 : decode b_Mod_asTold 16 = .ok (.getfield 113, 3) := by decide +kernel
theorem d_Mod_asTold_19 : decode b_Mod_asTold 19 = .ok (.if_icmp .eq 9, 3) := by decide +kernel
theorem d_Mod_asTold_22 : decode b_Mod_asTold 22 = .ok (.iload_n 2, 1) := by decide +kernel
theorem d_Mod_asTold_23 : decode b_Mod_asTold 23 = .ok (.iload 4, 2) := by decide +kernel
theorem d_Mod_asTold_25 : decode b_Mod_asTold 25 = .ok (.if_icmp .ne 49, 3) := by decide +kernel
theorem d_Mod_asTold_28 : decode b_Mod_asTold 28 = .ok (.iconst 0, 1) := by decide +kernel
theorem d_Mod_asTold_29 : decode b_Mod_asTold 29 = .ok (.istore 5, 2) := by decide +kernel
theorem d_Mod_asTold_31 : decode b_Mod_asTold 31 = .ok (.iload 5, 2) := by decide +kernel
theorem d_Mod_asTold_33 : decode b_Mod_asTold 33 = .ok (.bipush 8, 2) := by decide +kernel
theorem d_Mod_asTold_35 : decode b_Mod_asTold 35 = .ok (.if_icmp .ge 39, 3) := by decide +kernel
theorem d_Mod_asTold_38 : decode b_Mod_asTold 38 = .ok (.iload_n 1, 1) := by decide +kernel
theorem d_Mod_asTold_39 : decode b_Mod_asTold 39 = .ok (.bipush 8, 2) := by decide +kernel
theorem d_Mod_asTold_41 : decode b_Mod_asTold 41 = .ok (.if_icmp .eq 9, 3) := by decide +kernel
theorem d_Mod_asTold_44 : decode b_Mod_asTold 44 = .ok (.iload_n 1, 1) := by decide +kernel
theorem d_Mod_asTold_45 : decode b_Mod_asTold 45 = .ok (.iload 5, 2) := by decide +kernel
theorem d_Mod_asTold_47 : decode b_Mod_asTold 47 = .ok (.if_icmp .ne 21, 3) := by decide +kernel
theorem d_Mod_asTold_50 : decode b_Mod_asTold 50 = .ok (.iload_n 3, 1) := by decide +kernel
theorem d_Mod_asTold_51 : decode b_Mod_asTold 51 = .ok (.aload_n 0, 1) := by decide +kernel
theorem d_Mod_asTold_52 : decode b_Mod_asTold 52 = .ok (.getfield 41, 3) := by decide +kernel
theorem d_Mod_asTold_55 : decode b_Mod_asTold 55 = .ok (.iload 4, 2) := by decide +kernel
theorem d_Mod_asTold_57 : decode b_Mod_asTold 57 = .ok (.iaload, 1) := by decide +kernel
theorem d_Mod_asTold_58 : decode b_Mod_asTold 58 = .ok (.bipush 7, 2) := by decide +kernel
theorem d_Mod_asTold_60 : decode b_Mod_asTold 60 = .ok (.iload 5, 2) := by decide +kernel
theorem d_Mod_asTold_62 : decode b_Mod_asTold 62 = .ok (.isub, 1) := by decide +kernel
theorem d_Mod_asTold_63 : decode b_Mod_asTold 63 = .ok (.ishr, 1) := by decide +kernel
theorem d_Mod_asTold_64 : decode b_Mod_asTold 64 = .ok (.iconst 1, 1) := by decide +kernel
theorem d_Mod_asTold_65 : decode b_Mod_asTold 65 = .ok (.iand, 1) := by decide +kernel
theorem d_Mod_asTold_66 : decode b_Mod_asTold 66 = .ok (.iadd, 1) := by decide +kernel
theorem d_Mod_asTold_67 : decode b_Mod_asTold 67 = .ok (.istore_n 3, 1) := by decide +kernel
theorem d_Mod_asTold_68 : decode b_Mod_asTold 68 = .ok (.iinc 5 1, 3) := by decide +kernel
theorem d_Mod_asTold_71 : decode b_Mod_asTold 71 = .ok (.goto (-40), 3) := by decide +kernel
theorem d_Mod_asTold_74 : decode b_Mod_asTold 74 = .ok (.iinc 4 1, 3) := by decide +kernel
theorem d_Mod_asTold_77 : decode b_Mod_asTold 77 = .ok (.goto (-72), 3) := by decide +kernel
theorem d_Mod_asTold_80 : decode b_Mod_asTold 80 = .ok (.iload_n 3, 1) := by decide +kernel
theorem d_Mod_asTold_81 : decode b_Mod_asTold 81 = .ok (.iconst 2, 1) := by decide +kernel
theorem d_Mod_asTold_82 : decode b_Mod_asTold 82 = .ok (.irem, 1) := by decide +kernel
theorem d_Mod_asTold_83 : decode b_Mod_asTold 83 = .ok (.iconst 1, 1) := by decide +kernel
theorem d_Mod_asTold_84 : decode b_Mod_asTold 84 = .ok (.if_icmp .ne 7, 3) := by decide +kernel
theorem d_Mod_asTold_87 : decode b_Mod_asTold 87 = .ok (.iconst 1, 1) := by decide +kernel
theorem d_Mod_asTold_88 : decode b_Mod_asTold 88 = .ok (.goto 4, 3) := by decide +kernel
theorem d_Mod_asTold_91 : decode b_Mod_asTold 91 = .ok (.iconst 0, 1) := by decide +kernel
theorem d_Mod_asTold_92 : decode b_Mod_asTold 92 = .ok (.ireturn, 1) := by decide +kernel
theorem d_Mod_isDark_0 : decode b_Mod_isDark 0 = .ok (.aload_n 0, 1) := by decide +kernel
theorem d_Mod_isDark_1 : decode b_Mod_isDark 1 = .ok (.iload_n 1, 1) := by decide +kernel
theorem d_Mod_isDark_2 : decode b_Mod_isDark 2 = .ok (.iload_n 2, 1) := by decide +kernel
theorem d_Mod_isDark_3 : decode b_Mod_isDark 3 = .ok (.invokevirtual 116, 3) := by decide +kernel
theorem d_Mod_isDark_6 : decode b_Mod_isDark 6 = .ok (.aload_n 0, 1) := by decide +kernel
theorem d_Mod_isDark_7 : decode b_Mod_isDark 7 = .ok (.getfield 44, 3) := by decide +kernel
theorem d_Mod_isDark_10 : decode b_Mod_isDark 10 = .ok (.bipush 9, 2) := by decide +kernel
theorem d_Mod_isDark_12 : decode b_Mod_isDark 12 = .ok (.iload_n 2, 1) := by decide +kernel
theorem d_Mod_isDark_13 : decode b_Mod_isDark 13 = .ok (.imul, 1) := by decide +kernel
theorem d_Mod_isDark_14 : decode b_Mod_isDark 14 = .ok (.iload_n 1, 1) := by decide +kernel
theorem d_Mod_isDark_15 : decode b_Mod_isDark 15 = .ok (.iadd, 1) := by decide +kernel
theorem d_Mod_isDark_16 : decode b_Mod_isDark 16 = .ok (.baload, 1) := by decide +kernel
theorem d_Mod_isDark_17 : decode b_Mod_isDark 17 = .ok (.if_icmp .eq 7, 3) := by decide +kernel
theorem d_Mod_isDark_20 : decode b_Mod_isDark 20 = .ok (.iconst 1, 1) := by decide +kernel
theorem d_Mod_isDark_21 : decode b_Mod_isDark 21 = .ok (.goto 4, 3) := by decide +kernel
theorem d_Mod_isDark_24 : decode b_Mod_isDark 24 = .ok (.iconst 0, 1) := by decide +kernel
theorem d_Mod_isDark_25 : decode b_Mod_isDark 25 = .ok (.ireturn, 1) := by decide +kernel
theorem d_Mod_dark_0 : decode b_Mod_dark 0 = .ok (.aload_n 0, 1) := by decide +kernel
theorem d_Mod_dark_1 : decode b_Mod_dark 1 = .ok (.iconst 0, 1) := by decide +kernel
theorem d_Mod_dark_2 : decode b_Mod_dark 2 = .ok (.putfield 48, 3) := by decide +kernel
theorem d_Mod_dark_5 : decode b_Mod_dark 5 = .ok (.aload_n 0, 1) := by decide +kernel
theorem d_Mod_dark_6 : decode b_Mod_dark 6 = .ok (.iload_n 1, 1) := by decide +kernel
theorem d_Mod_dark_7 : decode b_Mod_dark 7 = .ok (.iload_n 2, 1) := by decide +kernel
theorem d_Mod_dark_8 : decode b_Mod_dark 8 = .ok (.invokevirtual 119, 3) := by decide +kernel
theorem d_Mod_dark_11 : decode b_Mod_dark 11 = .ok (.ifCond .eq 16, 3) := by decide +kernel
theorem d_Mod_dark_14 : decode b_Mod_dark 14 = .ok (.aload_n 0, 1) := by decide +kernel
theorem d_Mod_dark_15 : decode b_Mod_dark 15 = .ok (.iload_n 1, 1) := by decide +kernel
theorem d_Mod_dark_16 : decode b_Mod_dark 16 = .ok (.iload_n 2, 1) := by decide +kernel
theorem d_Mod_dark_17 : decode b_Mod_dark 17 = .ok (.invokevirtual 122, 3) := by decide +kernel
theorem d_Mod_dark_20 : decode b_Mod_dark 20 = .ok (.ifCond .eq 7, 3) := by decide +kernel
theorem d_Mod_dark_23 : decode b_Mod_dark 23 = .ok (.iconst 1, 1) := by decide +kernel
theorem d_Mod_dark_24 : decode b_Mod_dark 24 = .ok (.goto 4, 3) := by decide +kernel
theorem d_Mod_dark_27 : decode b_Mod_dark 27 = .ok (.iconst 0, 1) := by decide +kernel
theorem d_Mod_dark_28 : decode b_Mod_dark 28 = .ok (.ireturn, 1) := by decide +kernel
theorem d_Mod_spoil_0 : decode b_Mod_spoil 0 = .ok (.aload_n 0, 1) := by decide +kernel
theorem d_Mod_spoil_1 : decode b_Mod_spoil 1 = .ok (.iconst 0, 1) := by decide +kernel
theorem d_Mod_spoil_2 : decode b_Mod_spoil 2 = .ok (.putfield 48, 3) := by decide +kernel
theorem d_Mod_spoil_5 : decode b_Mod_spoil 5 = .ok (.aload_n 0, 1) := by decide +kernel
theorem d_Mod_spoil_6 : decode b_Mod_spoil 6 = .ok (.iload_n 1, 1) := by decide +kernel
theorem d_Mod_spoil_7 : decode b_Mod_spoil 7 = .ok (.iload_n 2, 1) := by decide +kernel
theorem d_Mod_spoil_8 : decode b_Mod_spoil 8 = .ok (.invokevirtual 119, 3) := by decide +kernel
theorem d_Mod_spoil_11 : decode b_Mod_spoil 11 = .ok (.ifCond .ne 5, 3) := by decide +kernel
theorem d_Mod_spoil_14 : decode b_Mod_spoil 14 = .ok (.iconst 0, 1) := by decide +kernel
theorem d_Mod_spoil_15 : decode b_Mod_spoil 15 = .ok (.ireturn, 1) := by decide +kernel
theorem d_Mod_spoil_16 : decode b_Mod_spoil 16 = .ok (.aload_n 0, 1) := by decide +kernel
theorem d_Mod_spoil_17 : decode b_Mod_spoil 17 = .ok (.getfield 44, 3) := by decide +kernel
theorem d_Mod_spoil_20 : decode b_Mod_spoil 20 = .ok (.bipush 9, 2) := by decide +kernel
theorem d_Mod_spoil_22 : decode b_Mod_spoil 22 = .ok (.iload_n 2, 1) := by decide +kernel
theorem d_Mod_spoil_23 : decode b_Mod_spoil 23 = .ok (.imul, 1) := by decide +kernel
theorem d_Mod_spoil_24 : decode b_Mod_spoil 24 = .ok (.iload_n 1, 1) := by decide +kernel
theorem d_Mod_spoil_25 : decode b_Mod_spoil 25 = .ok (.iadd, 1) := by decide +kernel
theorem d_Mod_spoil_26 : decode b_Mod_spoil 26 = .ok (.aload_n 0, 1) := by decide +kernel
theorem d_Mod_spoil_27 : decode b_Mod_spoil 27 = .ok (.getfield 44, 3) := by decide +kernel
theorem d_Mod_spoil_30 : decode b_Mod_spoil 30 = .ok (.bipush 9, 2) := by decide +kernel
theorem d_Mod_spoil_32 : decode b_Mod_spoil 32 = .ok (.iload_n 2, 1) := by decide +kernel
theorem d_Mod_spoil_33 : decode b_Mod_spoil 33 = .ok (.imul, 1) := by decide +kernel
theorem d_Mod_spoil_34 : decode b_Mod_spoil 34 = .ok (.iload_n 1, 1) := by decide +kernel
theorem d_Mod_spoil_35 : decode b_Mod_spoil 35 = .ok (.iadd, 1) := by decide +kernel
theorem d_Mod_spoil_36 : decode b_Mod_spoil 36 = .ok (.baload, 1) := by decide +kernel
theorem d_Mod_spoil_37 : decode b_Mod_spoil 37 = .ok (.ifCond .ne 7, 3) := by decide +kernel
theorem d_Mod_spoil_40 : decode b_Mod_spoil 40 = .ok (.iconst 1, 1) := by decide +kernel
theorem d_Mod_spoil_41 : decode b_Mod_spoil 41 = .ok (.goto 4, 3) := by decide +kernel
theorem d_Mod_spoil_44 : decode b_Mod_spoil 44 = .ok (.iconst 0, 1) := by decide +kernel
theorem d_Mod_spoil_45 : decode b_Mod_spoil 45 = .ok (.bastore, 1) := by decide +kernel
theorem d_Mod_spoil_46 : decode b_Mod_spoil 46 = .ok (.iconst 1, 1) := by decide +kernel
theorem d_Mod_spoil_47 : decode b_Mod_spoil 47 = .ok (.ireturn, 1) := by decide +kernel
theorem d_Mod_read_0 : decode b_Mod_read 0 = .ok (.aload_n 0, 1) := by decide +kernel
theorem d_Mod_read_1 : decode b_Mod_read 1 = .ok (.iconst 0, 1) := by decide +kernel
theorem d_Mod_read_2 : decode b_Mod_read 2 = .ok (.putfield 48, 3) := by decide +kernel
theorem d_Mod_read_5 : decode b_Mod_read 5 = .ok (.aload_n 0, 1) := by decide +kernel
theorem d_Mod_read_6 : decode b_Mod_read 6 = .ok (.getfield 113, 3) := by decide +kernel
theorem d_Mod_read_9 : decode b_Mod_read 9 = .ok (.ifCond .ne 5, 3) := by decide +kernel
theorem d_Mod_read_12 : decode b_Mod_read 12 = .ok (.iconst (-1), 1) := by decide +kernel
theorem d_Mod_read_13 : decode b_Mod_read 13 = .ok (.ireturn, 1) := by decide +kernel
theorem d_Mod_read_14 : decode b_Mod_read 14 = .ok (.iconst 0, 1) := by decide +kernel
theorem d_Mod_read_15 : decode b_Mod_read 15 = .ok (.istore_n 1, 1) := by decide +kernel
theorem d_Mod_read_16 : decode b_Mod_read 16 = .ok (.iconst 0, 1) := by decide +kernel
theorem d_Mod_read_17 : decode b_Mod_read 17 = .ok (.istore_n 2, 1) := by decide +kernel
theorem d_Mod_read_18 : decode b_Mod_read 18 = .ok (.iconst 0, 1) := by decide +kernel
theorem d_Mod_read_19 : decode b_Mod_read 19 = .ok (.istore_n 3, 1) := by decide +kernel
theorem d_Mod_read_20 : decode b_Mod_read 20 = .ok (.iload_n 3, 1) := by decide +kernel
theorem d_Mod_read_21 : decode b_Mod_read 21 = .ok (.aload_n 0, 1) := by decide +kernel
theorem d_Mod_read_22 : decode b_Mod_read 22 = .ok (.getfield 113, 3) := by decide +kernel
theorem d_Mod_read_25 : decode b_Mod_read 25 = .ok (.if_icmp .gt 59, 3) := by decide +kernel
theorem d_Mod_read_28 : decode b_Mod_read 28 = .ok (.iconst 0, 1) := by decide +kernel
theorem d_Mod_read_29 : decode b_Mod_read 29 = .ok (.istore 4, 2) := by decide +kernel
theorem d_Mod_read_31 : decode b_Mod_read 31 = .ok (.iconst 0, 1) := by decide +kernel
theorem d_Mod_read_32 : decode b_Mod_read 32 = .ok (.istore 5, 2) := by decide +kernel
theorem d_Mod_read_34 : decode b_Mod_read 34 = .ok (.iload 5, 2) := by decide +kernel
theorem d_Mod_read_36 : decode b_Mod_read 36 = .ok (.bipush 9, 2) := by decide +kernel
theorem d_Mod_read_38 : decode b_Mod_read 38 = .ok (.if_icmp .ge 27, 3) := by decide +kernel
theorem d_Mod_read_41 : decode b_Mod_read 41 = .ok (.aload_n 0, 1) := by decide +kernel
theorem d_Mod_read_42 : decode b_Mod_read 42 = .ok (.getfield 44, 3) := by decide +kernel
theorem d_Mod_read_45 : decode b_Mod_read 45 = .ok (.bipush 9, 2) := by decide +kernel
theorem d_Mod_read_47 : decode b_Mod_read 47 = .ok (.iload_n 3, 1) := by decide +kernel
theorem d_Mod_read_48 : decode b_Mod_read 48 = .ok (.imul, 1) := by decide +kernel
theorem d_Mod_read_49 : decode b_Mod_read 49 = .ok (.iload 5, 2) := by decide +kernel
theorem d_Mod_read_51 : decode b_Mod_read 51 = .ok (.iadd, 1) := by decide +kernel
theorem d_Mod_read_52 : decode b_Mod_read 52 = .ok (.baload, 1) := by decide +kernel
theorem d_Mod_read_53 : decode b_Mod_read 53 = .ok (.ifCond .eq 6, 3) := by decide +kernel
theorem d_Mod_read_56 : decode b_Mod_read 56 = .ok (.iinc 4 1, 3) := by decide +kernel
theorem d_Mod_read_59 : decode b_Mod_read 59 = .ok (.iinc 5 1, 3) := by decide +kernel
theorem d_Mod_read_62 : decode b_Mod_read 62 = .ok (.goto (-28), 3) := by decide +kernel
theorem d_Mod_read_65 : decode b_Mod_read 65 = .ok (.iload 4, 2) := by decide +kernel
theorem d_Mod_read_67 : decode b_Mod_read 67 = .ok (.iconst 2, 1) := by decide +kernel
theorem d_Mod_read_68 : decode b_Mod_read 68 = .ok (.irem, 1) := by decide +kernel
theorem d_Mod_read_69 : decode b_Mod_read 69 = .ok (.iconst 1, 1) := by decide +kernel
theorem d_Mod_read_70 : decode b_Mod_read 70 = .ok (.if_icmp .ne 8, 3) := by decide +kernel
theorem d_Mod_read_73 : decode b_Mod_read 73 = .ok (.iinc 1 1, 3) := by decide +kernel
theorem d_Mod_read_76 : decode b_Mod_read 76 = .ok (.iload_n 3, 1) := by decide +kernel
theorem d_Mod_read_77 : decode b_Mod_read 77 = .ok (.istore_n 2, 1) := by decide +kernel
theorem d_Mod_read_78 : decode b_Mod_read 78 = .ok (.iinc 3 1, 3) := by decide +kernel
theorem d_Mod_read_81 : decode b_Mod_read 81 = .ok (.goto (-61), 3) := by decide +kernel
theorem d_Mod_read_84 : decode b_Mod_read 84 = .ok (.iconst 0, 1) := by decide +kernel
theorem d_Mod_read_85 : decode b_Mod_read 85 = .ok (.istore_n 3, 1) := by decide +kernel
theorem d_Mod_read_86 : decode b_Mod_read 86 = .ok (.iconst 0, 1) := by decide +kernel
theorem d_Mod_read_87 : decode b_Mod_read 87 = .ok (.istore 4, 2) := by decide +kernel
theorem d_Mod_read_89 : decode b_Mod_read 89 = .ok (.iconst 0, 1) := by decide +kernel
theorem d_Mod_read_90 : decode b_Mod_read 90 = .ok (.istore 5, 2) := by decide +kernel
theorem d_Mod_read_92 : decode b_Mod_read 92 = .ok (.iload 5, 2) := by decide +kernel
theorem d_Mod_read_94 : decode b_Mod_read 94 = .ok (.bipush 9, 2) := by decide +kernel
theorem d_Mod_read_96 : decode b_Mod_read 96 = .ok (.if_icmp .ge 64, 3) := by decide +kernel
theorem d_Mod_read_99 : decode b_Mod_read 99 = .ok (.iconst 0, 1) := by decide +kernel
theorem d_Mod_read_100 : decode b_Mod_read 100 = .ok (.istore 6, 2) := by decide +kernel
theorem d_Mod_read_102 : decode b_Mod_read 102 = .ok (.iconst 0, 1) := by decide +kernel
theorem d_Mod_read_103 : decode b_Mod_read 103 = .ok (.istore 7, 2) := by decide +kernel
theorem d_Mod_read_105 : decode b_Mod_read 105 = .ok (.iload 7, 2) := by decide +kernel
theorem d_Mod_read_107 : decode b_Mod_read 107 = .ok (.aload_n 0, 1) := by decide +kernel
theorem d_Mod_read_108 : decode b_Mod_read 108 = .ok (.getfield 113, 3) := by decide +kernel
theorem d_Mod_read_111 : decode b_Mod_read 111 = .ok (.if_icmp .gt 28, 3) := by decide +kernel
theorem d_Mod_read_114 : decode b_Mod_read 114 = .ok (.aload_n 0, 1) := by decide +kernel
theorem d_Mod_read_115 : decode b_Mod_read 115 = .ok (.getfield 44, 3) := by decide +kernel
theorem d_Mod_read_118 : decode b_Mod_read 118 = .ok (.bipush 9, 2) := by decide +kernel
theorem d_Mod_read_120 : decode b_Mod_read 120 = .ok (.iload 7, 2) := by decide +kernel
theorem d_Mod_read_122 : decode b_Mod_read 122 = .ok (.imul, 1) := by decide +kernel
theorem d_Mod_read_123 : decode b_Mod_read 123 = .ok (.iload 5, 2) := by decide +kernel
theorem d_Mod_read_125 : decode b_Mod_read 125 = .ok (.iadd, 1) := by decide +kernel
theorem d_Mod_read_126 : decode b_Mod_read 126 = .ok (.baload, 1) := by decide +kernel
theorem d_Mod_read_127 : decode b_Mod_read 127 = .ok (.ifCond .eq 6, 3) := by decide +kernel
theorem d_Mod_read_130 : decode b_Mod_read 130 = .ok (.iinc 6 1, 3) := by decide +kernel
theorem d_Mod_read_133 : decode b_Mod_read 133 = .ok (.iinc 7 1, 3) := by decide +kernel
theorem d_Mod_read_136 : decode b_Mod_read 136 = .ok (.goto (-31), 3) := by decide +kernel
theorem d_Mod_read_139 : decode b_Mod_read 139 = .ok (.iload 6, 2) := by decide +kernel
theorem d_Mod_read_141 : decode b_Mod_read 141 = .ok (.iconst 2, 1) := by decide +kernel
theorem d_Mod_read_142 : decode b_Mod_read 142 = .ok (.irem, 1) := by decide +kernel
theorem d_Mod_read_143 : decode b_Mod_read 143 = .ok (.iconst 1, 1) := by decide +kernel
theorem d_Mod_read_144 : decode b_Mod_read 144 = .ok (.if_icmp .ne 10, 3) := by decide +kernel
theorem d_Mod_read_147 : decode b_Mod_read 147 = .ok (.iinc 3 1, 3) := by decide +kernel
theorem d_Mod_read_150 : decode b_Mod_read 150 = .ok (.iload 5, 2) := by decide +kernel
theorem d_Mod_read_152 : decode b_Mod_read 152 = .ok (.istore 4, 2) := by decide +kernel
theorem d_Mod_read_154 : decode b_Mod_read 154 = .ok (.iinc 5 1, 3) := by decide +kernel
theorem d_Mod_read_157 : decode b_Mod_read 157 = .ok (.goto (-65), 3) := by decide +kernel
theorem d_Mod_read_160 : decode b_Mod_read 160 = .ok (.iload_n 1, 1) := by decide +kernel
theorem d_Mod_read_161 : decode b_Mod_read 161 = .ok (.ifCond .ne 9, 3) := by decide +kernel
theorem d_Mod_read_164 : decode b_Mod_read 164 = .ok (.iload_n 3, 1) := by decide +kernel
theorem d_Mod_read_165 : decode b_Mod_read 165 = .ok (.ifCond .ne 5, 3) := by decide +kernel
theorem d_Mod_read_168 : decode b_Mod_read 168 = .ok (.iconst 0, 1) := by decide +kernel
theorem d_Mod_read_169 : decode b_Mod_read 169 = .ok (.ireturn, 1) := by decide +kernel
theorem d_Mod_read_170 : decode b_Mod_read 170 = .ok (.iload_n 1, 1) := by decide +kernel
theorem d_Mod_read_171 : decode b_Mod_read 171 = .ok (.iconst 1, 1) := by decide +kernel
theorem d_Mod_read_172 : decode b_Mod_read 172 = .ok (.if_icmp .ne 8, 3) := by decide +kernel
theorem d_Mod_read_175 : decode b_Mod_read 175 = .ok (.iload_n 3, 1) := by decide +kernel
theorem d_Mod_read_176 : decode b_Mod_read 176 = .ok (.iconst 1, 1) := by decide +kernel
theorem d_Mod_read_177 : decode b_Mod_read 177 = .ok (.if_icmp .eq 5, 3) := by decide +kernel
theorem d_Mod_read_180 : decode b_Mod_read 180 = .ok (.iconst (-1), 1) := by decide +kernel
theorem d_Mod_read_181 : decode b_Mod_read 181 = .ok (.ireturn, 1) := by decide +kernel
theorem d_Mod_read_182 : decode b_Mod_read 182 = .ok (.aload_n 0, 1) := by decide +kernel
theorem d_Mod_read_183 : decode b_Mod_read 183 = .ok (.getfield 44, 3) := by decide +kernel
theorem d_Mod_read_186 : decode b_Mod_read 186 = .ok (.bipush 9, 2) := by decide +kernel
theorem d_Mod_read_188 : decode b_Mod_read 188 = .ok (.iload_n 2, 1) := by decide +kernel
theorem d_Mod_read_189 : decode b_Mod_read 189 = .ok (.imul, 1) := by decide +kernel
theorem d_Mod_read_190 : decode b_Mod_read 190 = .ok (.iload 4, 2) := by decide +kernel
theorem d_Mod_read_192 : decode b_Mod_read 192 = .ok (.iadd, 1) := by decide +kernel
theorem d_Mod_read_193 : decode b_Mod_read 193 = .ok (.aload_n 0, 1) := by decide +kernel
theorem d_Mod_read_194 : decode b_Mod_read 194 = .ok (.getfield 44, 3) := by decide +kernel
theorem d_Mod_read_197 : decode b_Mod_read 197 = .ok (.bipush 9, 2) := by decide +kernel
theorem d_Mod_read_199 : decode b_Mod_read 199 = .ok (.iload_n 2, 1) := by decide +kernel
theorem d_Mod_read_200 : decode b_Mod_read 200 = .ok (.imul, 1) := by decide +kernel
theorem d_Mod_read_201 : decode b_Mod_read 201 = .ok (.iload 4, 2) := by decide +kernel
theorem d_Mod_read_203 : decode b_Mod_read 203 = .ok (.iadd, 1) := by decide +kernel
theorem d_Mod_read_204 : decode b_Mod_read 204 = .ok (.baload, 1) := by decide +kernel
theorem d_Mod_read_205 : decode b_Mod_read 205 = .ok (.ifCond .ne 7, 3) := by decide +kernel
theorem d_Mod_read_208 : decode b_Mod_read 208 = .ok (.iconst 1, 1) := by decide +kernel
theorem d_Mod_read_209 : decode b_Mod_read 209 = .ok (.goto 4, 3) := by decide +kernel
theorem d_Mod_read_212 : decode b_Mod_read 212 = .ok (.iconst 0, 1) := by decide +kernel
theorem d_Mod_read_213 : decode b_Mod_read 213 = .ok (.bastore, 1) := by decide +kernel
theorem d_Mod_read_214 : decode b_Mod_read 214 = .ok (.iconst 1, 1) := by decide +kernel
theorem d_Mod_read_215 : decode b_Mod_read 215 = .ok (.ireturn, 1) := by decide +kernel
theorem d_Mod_byteAt_0 : decode b_Mod_byteAt 0 = .ok (.aload_n 0, 1) := by decide +kernel
theorem d_Mod_byteAt_1 : decode b_Mod_byteAt 1 = .ok (.iconst 0, 1) := by decide +kernel
theorem d_Mod_byteAt_2 : decode b_Mod_byteAt 2 = .ok (.putfield 48, 3) := by decide +kernel
theorem d_Mod_byteAt_5 : decode b_Mod_byteAt 5 = .ok (.iload_n 1, 1) := by decide +kernel
theorem d_Mod_byteAt_6 : decode b_Mod_byteAt 6 = .ok (.iconst 0, 1) := by decide +kernel
theorem d_Mod_byteAt_7 : decode b_Mod_byteAt 7 = .ok (.aload_n 0, 1) := by decide +kernel
theorem d_Mod_byteAt_8 : decode b_Mod_byteAt 8 = .ok (.getfield 113, 3) := by decide +kernel
theorem d_Mod_byteAt_11 : decode b_Mod_byteAt 11 = .ok (.iconst 1, 1) := by decide +kernel
theorem d_Mod_byteAt_12 : decode b_Mod_byteAt 12 = .ok (.isub, 1) := by decide +kernel
theorem d_Mod_byteAt_13 : decode b_Mod_byteAt 13 = .ok (.invokestatic 51, 3) := by decide +kernel
theorem d_Mod_byteAt_16 : decode b_Mod_byteAt 16 = .ok (.ifCond .ne 5, 3) := by decide +kernel
theorem d_Mod_byteAt_19 : decode b_Mod_byteAt 19 = .ok (.iconst (-1), 1) := by decide +kernel
theorem d_Mod_byteAt_20 : decode b_Mod_byteAt 20 = .ok (.ireturn, 1) := by decide +kernel
theorem d_Mod_byteAt_21 : decode b_Mod_byteAt 21 = .ok (.iconst 0, 1) := by decide +kernel
theorem d_Mod_byteAt_22 : decode b_Mod_byteAt 22 = .ok (.istore_n 2, 1) := by decide +kernel
theorem d_Mod_byteAt_23 : decode b_Mod_byteAt 23 = .ok (.iconst 0, 1) := by decide +kernel
theorem d_Mod_byteAt_24 : decode b_Mod_byteAt 24 = .ok (.istore_n 3, 1) := by decide +kernel
theorem d_Mod_byteAt_25 : decode b_Mod_byteAt 25 = .ok (.iload_n 3, 1) := by decide +kernel
theorem d_Mod_byteAt_26 : decode b_Mod_byteAt 26 = .ok (.bipush 8, 2) := by decide +kernel
theorem d_Mod_byteAt_28 : decode b_Mod_byteAt 28 = .ok (.if_icmp .ge 28, 3) := by decide +kernel
theorem d_Mod_byteAt_31 : decode b_Mod_byteAt 31 = .ok (.iconst 2, 1) := by decide +kernel
theorem d_Mod_byteAt_32 : decode b_Mod_byteAt 32 = .ok (.iload_n 2, 1) := by decide +kernel
theorem d_Mod_byteAt_33 : decode b_Mod_byteAt 33 = .ok (.imul, 1) := by decide +kernel
theorem d_Mod_byteAt_34 : decode b_Mod_byteAt 34 = .ok (.aload_n 0, 1) := by decide +kernel
theorem d_Mod_byteAt_35 : decode b_Mod_byteAt 35 = .ok (.iload_n 3, 1) := by decide +kernel
theorem d_Mod_byteAt_36 : decode b_Mod_byteAt 36 = .ok (.iload_n 1, 1) := by decide +kernel
theorem d_Mod_byteAt_37 : decode b_Mod_byteAt 37 = .ok (.invokevirtual 122, 3) := by decide +kernel
theorem d_Mod_byteAt_40 : decode b_Mod_byteAt 40 = .ok (.ifCond .eq 7, 3) := by decide +kernel
theorem d_Mod_byteAt_43 : decode b_Mod_byteAt 43 = .ok (.iconst 1, 1) := by decide +kernel
theorem d_Mod_byteAt_44 : decode b_Mod_byteAt 44 = .ok (.goto 4, 3) := by decide +kernel
theorem d_Mod_byteAt_47 : decode b_Mod_byteAt 47 = .ok (.iconst 0, 1) := by decide +kernel
theorem d_Mod_byteAt_48 : decode b_Mod_byteAt 48 = .ok (.iadd, 1) := by decide +kernel
theorem d_Mod_byteAt_49 : decode b_Mod_byteAt 49 = .ok (.istore_n 2, 1) := by decide +kernel
theorem d_Mod_byteAt_50 : decode b_Mod_byteAt 50 = .ok (.iinc 3 1, 3) := by decide +kernel
theorem d_Mod_byteAt_53 : decode b_Mod_byteAt 53 = .ok (.goto (-28), 3) := by decide +kernel
theorem d_Mod_byteAt_56 : decode b_Mod_byteAt 56 = .ok (.iload_n 2, 1) := by decide +kernel
theorem d_Mod_byteAt_57 : decode b_Mod_byteAt 57 = .ok (.ireturn, 1) := by decide +kernel
theorem d_Mod_wipe_0 : decode b_Mod_wipe 0 = .ok (.aload_n 0, 1) := by decide +kernel
theorem d_Mod_wipe_1 : decode b_Mod_wipe 1 = .ok (.iconst 0, 1) := by decide +kernel
theorem d_Mod_wipe_2 : decode b_Mod_wipe 2 = .ok (.putfield 48, 3) := by decide +kernel
theorem d_Mod_wipe_5 : decode b_Mod_wipe 5 = .ok (.aload_n 0, 1) := by decide +kernel
theorem d_Mod_wipe_6 : decode b_Mod_wipe 6 = .ok (.iconst 0, 1) := by decide +kernel
theorem d_Mod_wipe_7 : decode b_Mod_wipe 7 = .ok (.putfield 113, 3) := by decide +kernel
theorem d_Mod_wipe_10 : decode b_Mod_wipe 10 = .ok (.iconst 0, 1) := by decide +kernel
theorem d_Mod_wipe_11 : decode b_Mod_wipe 11 = .ok (.istore_n 1, 1) := by decide +kernel
theorem d_Mod_wipe_12 : decode b_Mod_wipe 12 = .ok (.iload_n 1, 1) := by decide +kernel
theorem d_Mod_wipe_13 : decode b_Mod_wipe 13 = .ok (.bipush 117, 2) := by decide +kernel
theorem d_Mod_wipe_15 : decode b_Mod_wipe 15 = .ok (.if_icmp .ge 16, 3) := by decide +kernel
theorem d_Mod_wipe_18 : decode b_Mod_wipe 18 = .ok (.aload_n 0, 1) := by decide +kernel
theorem d_Mod_wipe_19 : decode b_Mod_wipe 19 = .ok (.getfield 44, 3) := by decide +kernel
theorem d_Mod_wipe_22 : decode b_Mod_wipe 22 = .ok (.iload_n 1, 1) := by decide +kernel
theorem d_Mod_wipe_23 : decode b_Mod_wipe 23 = .ok (.iconst 0, 1) := by decide +kernel
theorem d_Mod_wipe_24 : decode b_Mod_wipe 24 = .ok (.bastore, 1) := by decide +kernel
theorem d_Mod_wipe_25 : decode b_Mod_wipe 25 = .ok (.iinc 1 1, 3) := by decide +kernel
theorem d_Mod_wipe_28 : decode b_Mod_wipe 28 = .ok (.goto (-16), 3) := by decide +kernel
theorem d_Mod_wipe_31 : decode b_Mod_wipe 31 = .ok (.return_, 1) := by decide +kernel
theorem d_Boxes_init_0 : decode b_Boxes_init 0 = .ok (.aload_n 0, 1) := by decide +kernel
theorem d_Boxes_init_1 : decode b_Boxes_init 1 = .ok (.invokespecial 3, 3) := by decide +kernel
theorem d_Boxes_init_4 : decode b_Boxes_init 4 = .ok (.aload_n 0, 1) := by decide +kernel
theorem d_Boxes_init_5 : decode b_Boxes_init 5 = .ok (.iconst 0, 1) := by decide +kernel
theorem d_Boxes_init_6 : decode b_Boxes_init 6 = .ok (.putfield 9, 3) := by decide +kernel
theorem d_Boxes_init_9 : decode b_Boxes_init 9 = .ok (.aload_n 0, 1) := by decide +kernel
theorem d_Boxes_init_10 : decode b_Boxes_init 10 = .ok (.bipush 60, 2) := by decide +kernel
theorem d_Boxes_init_12 : decode b_Boxes_init 12 = .ok (.newarray .int, 2) := by decide +kernel
theorem d_Boxes_init_14 : decode b_Boxes_init 14 = .ok (.putfield 15, 3) := by decide +kernel
theorem d_Boxes_init_17 : decode b_Boxes_init 17 = .ok (.aload_n 0, 1) := by decide +kernel
theorem d_Boxes_init_18 : decode b_Boxes_init 18 = .ok (.iconst (-1), 1) := by decide +kernel
theorem d_Boxes_init_19 : decode b_Boxes_init 19 = .ok (.putfield 19, 3) := by decide +kernel
theorem d_Boxes_init_22 : decode b_Boxes_init 22 = .ok (.aload_n 0, 1) := by decide +kernel
theorem d_Boxes_init_23 : decode b_Boxes_init 23 = .ok (.iconst 0, 1) := by decide +kernel
theorem d_Boxes_init_24 : decode b_Boxes_init 24 = .ok (.putfield 22, 3) := by decide +kernel
theorem d_Boxes_init_27 : decode b_Boxes_init 27 = .ok (.return_, 1) := by decide +kernel
theorem d_Boxes_add_0 : decode b_Boxes_add 0 = .ok (.iload_n 1, 1) := by decide +kernel
theorem d_Boxes_add_1 : decode b_Boxes_add 1 = .ok (.invokestatic 25, 3) := by decide +kernel
theorem d_Boxes_add_4 : decode b_Boxes_add 4 = .ok (.ifCond .eq 12, 3) := by decide +kernel
theorem d_Boxes_add_7 : decode b_Boxes_add 7 = .ok (.aload_n 0, 1) := by decide +kernel
theorem d_Boxes_add_8 : decode b_Boxes_add 8 = .ok (.getfield 9, 3) := by decide +kernel
theorem d_Boxes_add_11 : decode b_Boxes_add 11 = .ok (.bipush 60, 2) := by decide +kernel
theorem d_Boxes_add_13 : decode b_Boxes_add 13 = .ok (.if_icmp .lt 5, 3) := by decide +kernel
theorem d_Boxes_add_16 : decode b_Boxes_add 16 = .ok (.iconst (-1), 1) := by decide +kernel
theorem d_Boxes_add_17 : decode b_Boxes_add 17 = .ok (.ireturn, 1) := by decide +kernel
theorem d_Boxes_add_18 : decode b_Boxes_add 18 = .ok (.aload_n 0, 1) := by decide +kernel
theorem d_Boxes_add_19 : decode b_Boxes_add 19 = .ok (.getfield 15, 3) := by decide +kernel
theorem d_Boxes_add_22 : decode b_Boxes_add 22 = .ok (.aload_n 0, 1) := by decide +kernel
theorem d_Boxes_add_23 : decode b_Boxes_add 23 = .ok (.getfield 9, 3) := by decide +kernel
theorem d_Boxes_add_26 : decode b_Boxes_add 26 = .ok (.iload_n 1, 1) := by decide +kernel
theorem d_Boxes_add_27 : decode b_Boxes_add 27 = .ok (.iastore, 1) := by decide +kernel
theorem d_Boxes_add_28 : decode b_Boxes_add 28 = .ok (.aload_n 0, 1) := by decide +kernel
theorem d_Boxes_add_29 : decode b_Boxes_add 29 = .ok (.dup, 1) := by decide +kernel
theorem d_Boxes_add_30 : decode b_Boxes_add 30 = .ok (.getfield 9, 3) := by decide +kernel
theorem d_Boxes_add_33 : decode b_Boxes_add 33 = .ok (.iconst 1, 1) := by decide +kernel
theorem d_Boxes_add_34 : decode b_Boxes_add 34 = .ok (.iadd, 1) := by decide +kernel
theorem d_Boxes_add_35 : decode b_Boxes_add 35 = .ok (.putfield 9, 3) := by decide +kernel
theorem d_Boxes_add_38 : decode b_Boxes_add 38 = .ok (.aload_n 0, 1) := by decide +kernel
theorem d_Boxes_add_39 : decode b_Boxes_add 39 = .ok (.getfield 9, 3) := by decide +kernel
theorem d_Boxes_add_42 : decode b_Boxes_add 42 = .ok (.iconst 1, 1) := by decide +kernel
theorem d_Boxes_add_43 : decode b_Boxes_add 43 = .ok (.isub, 1) := by decide +kernel
theorem d_Boxes_add_44 : decode b_Boxes_add 44 = .ok (.ireturn, 1) := by decide +kernel
theorem d_Boxes_isHeight_0 : decode b_Boxes_isHeight 0 = .ok (.iload_n 0, 1) := by decide +kernel
theorem d_Boxes_isHeight_1 : decode b_Boxes_isHeight 1 = .ok (.iconst 1, 1) := by decide +kernel
theorem d_Boxes_isHeight_2 : decode b_Boxes_isHeight 2 = .ok (.if_icmp .lt 14, 3) := by decide +kernel
theorem d_Boxes_isHeight_5 : decode b_Boxes_isHeight 5 = .ok (.iload_n 0, 1) := by decide +kernel
theorem d_Boxes_isHeight_6 : decode b_Boxes_isHeight 6 = .ok (.sipush 1000, 3) := by decide +kernel
theorem d_Boxes_isHeight_9 : decode b_Boxes_isHeight 9 = .ok (.if_icmp .gt 7, 3) := by decide +kernel
theorem d_Boxes_isHeight_12 : decode b_Boxes_isHeight 12 = .ok (.iconst 1, 1) := by decide +kernel
theorem d_Boxes_isHeight_13 : decode b_Boxes_isHeight 13 = .ok (.goto 4, 3) := by decide +kernel
theorem d_Boxes_isHeight_16 : decode b_Boxes_isHeight 16 = .ok (.iconst 0, 1) := by decide +kernel
theorem d_Boxes_isHeight_17 : decode b_Boxes_isHeight 17 = .ok (.ireturn, 1) := by decide +kernel
theorem d_Boxes_isGap_0 : decode b_Boxes_isGap 0 = .ok (.iload_n 0, 1) := by decide +kernel
theorem d_Boxes_isGap_1 : decode b_Boxes_isGap 1 = .ok (.ifCond .lt 13, 3) := by decide +kernel
theorem d_Boxes_isGap_4 : decode b_Boxes_isGap 4 = .ok (.iload_n 0, 1) := by decide +kernel
theorem d_Boxes_isGap_5 : decode b_Boxes_isGap 5 = .ok (.bipush 100, 2) := by decide +kernel
theorem d_Boxes_isGap_7 : decode b_Boxes_isGap 7 = .ok (.if_icmp .gt 7, 3) := by decide +kernel
theorem d_Boxes_isGap_10 : decode b_Boxes_isGap 10 = .ok (.iconst 1, 1) := by decide +kernel
theorem d_Boxes_isGap_11 : decode b_Boxes_isGap 11 = .ok (.goto 4, 3) := by decide +kernel
theorem d_Boxes_isGap_14 : decode b_Boxes_isGap 14 = .ok (.iconst 0, 1) := by decide +kernel
theorem d_Boxes_isGap_15 : decode b_Boxes_isGap 15 = .ok (.ireturn, 1) := by decide +kernel
theorem d_Boxes_countPages_0 : decode b_Boxes_countPages 0 = .ok (.iload_n 1, 1) := by decide +kernel
theorem d_Boxes_countPages_1 : decode b_Boxes_countPages 1 = .ok (.invokestatic 25, 3) := by decide +kernel
theorem d_Boxes_countPages_4 : decode b_Boxes_countPages 4 = .ok (.ifCond .eq 10, 3) := by decide +kernel
theorem d_Boxes_countPages_7 : decode b_Boxes_countPages 7 = .ok (.iload_n 2, 1) := by decide +kernel
theorem d_Boxes_countPages_8 : decode b_Boxes_countPages 8 = .ok (.invokestatic 29, 3) := by decide +kernel
theorem d_Boxes_countPages_11 : decode b_Boxes_countPages 11 = .ok (.ifCond .ne 5, 3) := by decide +kernel
theorem d_Boxes_countPages_14 : decode b_Boxes_countPages 14 = .ok (.iconst (-1), 1) := by decide +kernel
theorem d_Boxes_countPages_15 : decode b_Boxes_countPages 15 = .ok (.ireturn, 1) := by decide +kernel
theorem d_Boxes_countPages_16 : decode b_Boxes_countPages 16 = .ok (.aload_n 0, 1) := by decide +kernel
theorem d_Boxes_countPages_17 : decode b_Boxes_countPages 17 = .ok (.aload_n 0, 1) := by decide +kernel
theorem d_Boxes_countPages_18 : decode b_Boxes_countPages 18 = .ok (.getfield 9, 3) := by decide +kernel
theorem d_Boxes_countPages_21 : decode b_Boxes_countPages 21 = .ok (.iload_n 1, 1) := by decide +kernel
theorem d_Boxes_countPages_22 : decode b_Boxes_countPages 22 = .ok (.iload_n 2, 1) := by decide +kernel
theorem d_Boxes_countPages_23 : decode b_Boxes_countPages 23 = .ok (.invokevirtual 32, 3) := by decide +kernel
theorem d_Boxes_countPages_26 : decode b_Boxes_countPages 26 = .ok (.aload_n 0, 1) := by decide +kernel
theorem d_Boxes_countPages_27 : decode b_Boxes_countPages 27 = .ok (.getfield 19, 3) := by decide +kernel
theorem d_Boxes_countPages_30 : decode b_Boxes_countPages 30 = .ok (.iconst 1, 1) := by decide +kernel
theorem d_Boxes_countPages_31 : decode b_Boxes_countPages 31 = .ok (.iadd, 1) := by decide +kernel
theorem d_Boxes_countPages_32 : decode b_Boxes_countPages 32 = .ok (.ireturn, 1) := by decide +kernel
theorem d_Boxes_placeOf_0 : decode b_Boxes_placeOf 0 = .ok (.iload_n 2, 1) := by decide +kernel
theorem d_Boxes_placeOf_1 : decode b_Boxes_placeOf 1 = .ok (.invokestatic 25, 3) := by decide +kernel
theorem d_Boxes_placeOf_4 : decode b_Boxes_placeOf 4 = .ok (.ifCond .eq 22, 3) := by decide +kernel
theorem d_Boxes_placeOf_7 : decode b_Boxes_placeOf 7 = .ok (.iload_n 3, 1) := by decide +kernel
theorem d_Boxes_placeOf_8 : decode b_Boxes_placeOf 8 = .ok (.invokestatic 29, 3) := by decide +kernel
theorem d_Boxes_placeOf_11 : decode b_Boxes_placeOf 11 = .ok (.ifCond .eq 15, 3) := by decide +kernel
theorem d_Boxes_placeOf_14 : decode b_Boxes_placeOf 14 = .ok (.iload_n 1, 1) := by decide +kernel
theorem d_Boxes_placeOf_15 : decode b_Boxes_placeOf 15 = .ok (.ifCond .lt 11, 3) := by decide +kernel
theorem d_Boxes_placeOf_18 : decode b_Boxes_placeOf 18 = .ok (.iload_n 1, 1) := by decide +kernel
theorem d_Boxes_placeOf_19 : decode b_Boxes_placeOf 19 = .ok (.aload_n 0, 1) := by decide +kernel
theorem d_Boxes_placeOf_20 : decode b_Boxes_placeOf 20 = .ok (.getfield 9, 3) := by decide +kernel
theorem d_Boxes_placeOf_23 : decode b_Boxes_placeOf 23 = .ok (.if_icmp .lt 5, 3) := by decide +kernel
theorem d_Boxes_placeOf_26 : decode b_Boxes_placeOf 26 = .ok (.iconst (-1), 1) := by decide +kernel
theorem d_Boxes_placeOf_27 : decode b_Boxes_placeOf 27 = .ok (.ireturn, 1) := by decide +kernel
theorem d_Boxes_placeOf_28 : decode b_Boxes_placeOf 28 = .ok (.iload 4, 2) := by decide +kernel
theorem d_Boxes_placeOf_30 : decode b_Boxes_placeOf 30 = .ok (.ifCond .eq 11, 3) := by decide +kernel
theorem d_Boxes_placeOf_33 : decode b_Boxes_placeOf 33 = .ok (.iload 4, 2) := by decide +kernel
theorem d_Boxes_placeOf_35 : decode b_Boxes_placeOf 35 = .ok (.iconst 1, 1) := by decide +kernel
theorem d_Boxes_placeOf_36 : decode b_Boxes_placeOf 36 = .ok (.if_icmp .eq 5, 3) := by decide +kernel
theorem d_Boxes_placeOf_39 : decode b_Boxes_placeOf 39 = .ok (.iconst (-1), 1) := by decide +kernel
theorem d_Boxes_placeOf_40 : decode b_Boxes_placeOf 40 = .ok (.ireturn, 1) := by decide +kernel
theorem d_Boxes_placeOf_41 : decode b_Boxes_placeOf 41 = .ok (.aload_n 0, 1) := by decide +kernel
theorem d_Boxes_placeOf_42 : decode b_Boxes_placeOf 42 = .ok (.iload_n 1, 1) := by decide +kernel
theorem d_Boxes_placeOf_43 : decode b_Boxes_placeOf 43 = .ok (.iconst 1, 1) := by decide +kernel
theorem d_Boxes_placeOf_44 : decode b_Boxes_placeOf 44 = .ok (.iadd, 1) := by decide +kernel
theorem d_Boxes_placeOf_45 : decode b_Boxes_placeOf 45 = .ok (.iload_n 2, 1) := by decide +kernel
theorem d_Boxes_placeOf_46 : decode b_Boxes_placeOf 46 = .ok (.iload_n 3, 1) := by decide +kernel
theorem d_Boxes_placeOf_47 : decode b_Boxes_placeOf 47 = .ok (.invokevirtual 32, 3) := by decide +kernel
theorem d_Boxes_placeOf_50 : decode b_Boxes_placeOf 50 = .ok (.iload 4, 2) := by decide +kernel
theorem d_Boxes_placeOf_52 : decode b_Boxes_placeOf 52 = .ok (.ifCond .ne 10, 3) := by decide +kernel
theorem d_Boxes_placeOf_55 : decode b_Boxes_placeOf 55 = .ok (.aload_n 0, 1) := by decide +kernel
theorem d_Boxes_placeOf_56 : decode b_Boxes_placeOf 56 = .ok (.getfield 19, 3) := by decide +kernel
theorem d_Boxes_placeOf_59 : decode b_Boxes_placeOf 59 = .ok (.goto 7, 3) := by decide +kernel
theorem d_Boxes_placeOf_62 : decode b_Boxes_placeOf 62 = .ok (.aload_n 0, 1) := by decide +kernel
theorem d_Boxes_placeOf_63 : decode b_Boxes_placeOf 63 = .ok (.getfield 22, 3) := by decide +kernel
theorem d_Boxes_placeOf_66 : decode b_Boxes_placeOf 66 = .ok (.ireturn, 1) := by decide +kernel
theorem d_Boxes_putFirst_0 : decode b_Boxes_putFirst 0 = .ok (.aload_n 0, 1) := by decide +kernel
theorem d_Boxes_putFirst_1 : decode b_Boxes_putFirst 1 = .ok (.iconst (-1), 1) := by decide +kernel
theorem d_Boxes_putFirst_2 : decode b_Boxes_putFirst 2 = .ok (.putfield 19, 3) := by decide +kernel
theorem d_Boxes_putFirst_5 : decode b_Boxes_putFirst 5 = .ok (.iconst 0, 1) := by decide +kernel
theorem d_Boxes_putFirst_6 : decode b_Boxes_putFirst 6 = .ok (.istore 4, 2) := by decide +kernel
theorem d_Boxes_putFirst_8 : decode b_Boxes_putFirst 8 = .ok (.iconst 0, 1) := by decide +kernel
theorem d_Boxes_putFirst_9 : decode b_Boxes_putFirst 9 = .ok (.istore 5, 2) := by decide +kernel
theorem d_Boxes_putFirst_11 : decode b_Boxes_putFirst 11 = .ok (.iload 5, 2) := by decide +kernel
theorem d_Boxes_putFirst_13 : decode b_Boxes_putFirst 13 = .ok (.iload_n 1, 1) := by decide +kernel
theorem d_Boxes_putFirst_14 : decode b_Boxes_putFirst 14 = .ok (.if_icmp .ge 80, 3) := by decide +kernel
theorem d_Boxes_putFirst_17 : decode b_Boxes_putFirst 17 = .ok (.iload 5, 2) := by decide +kernel
theorem d_Boxes_putFirst_19 : decode b_Boxes_putFirst 19 = .ok (.bipush 60, 2) := by decide +kernel
theorem d_Boxes_putFirst_21 : decode b_Boxes_putFirst 21 = .ok (.if_icmp .ge 73, 3) := by decide +kernel
theorem d_Boxes_putFirst_24 : decode b_Boxes_putFirst 24 = .ok (.aload_n 0, 1) := by decide +kernel
theorem d_Boxes_putFirst_25 : decode b_Boxes_putFirst 25 = .ok (.getfield 19, 3) := by decide +kernel
theorem d_Boxes_putFirst_28 : decode b_Boxes_putFirst 28 = .ok (.iconst (-1), 1) := by decide +kernel
theorem d_Boxes_putFirst_29 : decode b_Boxes_putFirst 29 = .ok (.if_icmp .eq 30, 3) := by decide +kernel
theorem d_Boxes_putFirst_32 : decode b_Boxes_putFirst 32 = .ok (.iload 4, 2) := by decide +kernel
theorem d_Boxes_putFirst_34 : decode b_Boxes_putFirst 34 = .ok (.iload_n 3, 1) := by decide +kernel
theorem d_Boxes_putFirst_35 : decode b_Boxes_putFirst 35 = .ok (.iadd, 1) := by decide +kernel
theorem d_Boxes_putFirst_36 : decode b_Boxes_putFirst 36 = .ok (.aload_n 0, 1) := by decide +kernel
theorem d_Boxes_putFirst_37 : decode b_Boxes_putFirst 37 = .ok (.getfield 15, 3) := by decide +kernel
theorem d_Boxes_putFirst_40 : decode b_Boxes_putFirst 40 = .ok (.iload 5, 2) := by decide +kernel
theorem d_Boxes_putFirst_42 : decode b_Boxes_putFirst 42 = .ok (.iaload, 1) := by decide +kernel
theorem d_Boxes_putFirst_43 : decode b_Boxes_putFirst 43 = .ok (.iadd, 1) := by decide +kernel
theorem d_Boxes_putFirst_44 : decode b_Boxes_putFirst 44 = .ok (.iload_n 2, 1) := by decide +kernel
theorem d_Boxes_putFirst_45 : decode b_Boxes_putFirst 45 = .ok (.if_icmp .gt 14, 3) := by decide +kernel
theorem d_Boxes_putFirst_48 : decode b_Boxes_putFirst 48 = .ok (.aload_n 0, 1) := by decide +kernel
theorem d_Boxes_putFirst_49 : decode b_Boxes_putFirst 49 = .ok (.iload 4, 2) := by decide +kernel
theorem d_Boxes_putFirst_51 : decode b_Boxes_putFirst 51 = .ok (.iload_n 3, 1) := by decide +kernel
theorem d_Boxes_putFirst_52 : decode b_Boxes_putFirst 52 = .ok (.iadd, 1) := by decide +kernel
theorem d_Boxes_putFirst_53 : decode b_Boxes_putFirst 53 = .ok (.putfield 22, 3) := by decide +kernel
theorem d_Boxes_putFirst_56 : decode b_Boxes_putFirst 56 = .ok (.goto 18, 3) := by decide +kernel
theorem d_Boxes_putFirst_59 : decode b_Boxes_putFirst 59 = .ok (.aload_n 0, 1) := by decide +kernel
theorem d_Boxes_putFirst_60 : decode b_Boxes_putFirst 60 = .ok (.dup, 1) := by decide +kernel
theorem d_Boxes_putFirst_61 : decode b_Boxes_putFirst 61 = .ok (.getfield 19, 3) := by decide +kernel
theorem d_Boxes_putFirst_64 : decode b_Boxes_putFirst 64 = .ok (.iconst 1, 1) := by decide +kernel
theorem d_Boxes_putFirst_65 : decode b_Boxes_putFirst 65 = .ok (.iadd, 1) := by decide +kernel
theorem d_Boxes_putFirst_66 : decode b_Boxes_putFirst 66 = .ok (.putfield 19, 3) := by decide +kernel
theorem d_Boxes_putFirst_69 : decode b_Boxes_putFirst 69 = .ok (.aload_n 0, 1) := by decide +kernel
theorem d_Boxes_putFirst_70 : decode b_Boxes_putFirst 70 = .ok (.iconst 0, 1) := by decide +kernel
theorem d_Boxes_putFirst_71 : decode b_Boxes_putFirst 71 = .ok (.putfield 22, 3) := by decide +kernel
theorem d_Boxes_putFirst_74 : decode b_Boxes_putFirst 74 = .ok (.aload_n 0, 1) := by decide +kernel
theorem d_Boxes_putFirst_75 : decode b_Boxes_putFirst 75 = .ok (.getfield 22, 3) := by decide +kernel
theorem d_Boxes_putFirst_78 : decode b_Boxes_putFirst 78 = .ok (.aload_n 0, 1) := by decide +kernel
theorem d_Boxes_putFirst_79 : decode b_Boxes_putFirst 79 = .ok (.getfield 15, 3) := by decide +kernel
theorem d_Boxes_putFirst_82 : decode b_Boxes_putFirst 82 = .ok (.iload 5, 2) := by decide +kernel
theorem d_Boxes_putFirst_84 : decode b_Boxes_putFirst 84 = .ok (.iaload, 1) := by decide +kernel
theorem d_Boxes_putFirst_85 : decode b_Boxes_putFirst 85 = .ok (.iadd, 1) := by decide +kernel
theorem d_Boxes_putFirst_86 : decode b_Boxes_putFirst 86 = .ok (.istore 4, 2) := by decide +kernel
theorem d_Boxes_putFirst_88 : decode b_Boxes_putFirst 88 = .ok (.iinc 5 1, 3) := by decide +kernel
theorem d_Boxes_putFirst_91 : decode b_Boxes_putFirst 91 = .ok (.goto (-80), 3) := by decide +kernel
theorem d_Boxes_putFirst_94 : decode b_Boxes_putFirst 94 = .ok (.return_, 1) := by decide +kernel
theorem d_Code_init_0 : decode b_Code_init 0 = .ok (.aload_n 0, 1) := by decide +kernel
theorem d_Code_init_1 : decode b_Code_init 1 = .ok (.invokespecial 3, 3) := by decide +kernel
theorem d_Code_init_4 : decode b_Code_init 4 = .ok (.aload_n 0, 1) := by decide +kernel
theorem d_Code_init_5 : decode b_Code_init 5 = .ok (.iconst 0, 1) := by decide +kernel
theorem d_Code_init_6 : decode b_Code_init 6 = .ok (.putfield 9, 3) := by decide +kernel
theorem d_Code_init_9 : decode b_Code_init 9 = .ok (.aload_n 0, 1) := by decide +kernel
theorem d_Code_init_10 : decode b_Code_init 10 = .ok (.bipush 12, 2) := by decide +kernel
theorem d_Code_init_12 : decode b_Code_init 12 = .ok (.newarray .int, 2) := by decide +kernel
theorem d_Code_init_14 : decode b_Code_init 14 = .ok (.putfield 15, 3) := by decide +kernel
theorem d_Code_init_17 : decode b_Code_init 17 = .ok (.aload_n 0, 1) := by decide +kernel
theorem d_Code_init_18 : decode b_Code_init 18 = .ok (.bipush 13, 2) := by decide +kernel
theorem d_Code_init_20 : decode b_Code_init 20 = .ok (.newarray .int, 2) := by decide +kernel
theorem d_Code_init_22 : decode b_Code_init 22 = .ok (.putfield 19, 3) := by decide +kernel
theorem d_Code_init_25 : decode b_Code_init 25 = .ok (.return_, 1) := by decide +kernel
theorem d_Code_append_0 : decode b_Code_append 0 = .ok (.iload_n 1, 1) := by decide +kernel
theorem d_Code_append_1 : decode b_Code_append 1 = .ok (.ifCond .lt 19, 3) := by decide +kernel
theorem d_Code_append_4 : decode b_Code_append 4 = .ok (.iload_n 1, 1) := by decide +kernel
theorem d_Code_append_5 : decode b_Code_append 5 = .ok (.sipush 255, 3) := by decide +kernel
theorem d_Code_append_8 : decode b_Code_append 8 = .ok (.if_icmp .gt 12, 3) := by decide +kernel
theorem d_Code_append_11 : decode b_Code_append 11 = .ok (.aload_n 0, 1) := by decide +kernel
theorem d_Code_append_12 : decode b_Code_append 12 = .ok (.getfield 9, 3) := by decide +kernel
theorem d_Code_append_15 : decode b_Code_append 15 = .ok (.bipush 12, 2) := by decide +kernel
theorem d_Code_append_17 : decode b_Code_append 17 = .ok (.if_icmp .lt 5, 3) := by decide +kernel
