theorem d_Mod_putUpTo_29 : decode b_Mod_putUpTo 29 = .ok (.iadd, 1) := by decide +kernel
theorem d_Mod_putUpTo_30 : decode b_Mod_putUpTo 30 = .ok (.putfield 78, 3) := by decide +kernel
theorem d_Mod_putUpTo_33 : decode b_Mod_putUpTo 33 = .ok (.iload 5, 2) := by decide +kernel
theorem d_Mod_putUpTo_35 : decode b_Mod_putUpTo 35 = .ok (.ifCond .ne 19, 3) := by decide +kernel
theorem d_Mod_putUpTo_38 : decode b_Mod_putUpTo 38 = .ok (.aload_n 0, 1) := by decide +kernel
theorem d_Mod_putUpTo_39 : decode b_Mod_putUpTo 39 = .ok (.getfield 78, 3) := by decide +kernel
theorem d_Mod_putUpTo_42 : decode b_Mod_putUpTo 42 = .ok (.aload_n 0, 1) := by decide +kernel
theorem d_Mod_putUpTo_43 : decode b_Mod_putUpTo 43 = .ok (.getfield 28, 3) := by decide +kernel
theorem d_Mod_putUpTo_46 : decode b_Mod_putUpTo 46 = .ok (.iload 6, 2) := by decide +kernel
theorem d_Mod_putUpTo_48 : decode b_Mod_putUpTo 48 = .ok (.iaload, 1) := by decide +kernel
theorem d_Mod_putUpTo_49 : decode b_Mod_putUpTo 49 = .ok (.iadd, 1) := by decide +kernel
theorem d_Mod_putUpTo_50 : decode b_Mod_putUpTo 50 = .ok (.iload_n 2, 1) := by decide +kernel
theorem d_Mod_putUpTo_51 : decode b_Mod_putUpTo 51 = .ok (.if_icmp .le 18, 3) := by decide +kernel
theorem d_Mod_putUpTo_54 : decode b_Mod_putUpTo 54 = .ok (.aload_n 0, 1) := by decide +kernel
theorem d_Mod_putUpTo_55 : decode b_Mod_putUpTo 55 = .ok (.dup, 1) := by decide +kernel
theorem d_Mod_putUpTo_56 : decode b_Mod_putUpTo 56 = .ok (.getfield 75, 3) := by decide +kernel
theorem d_Mod_putUpTo_59 : decode b_Mod_putUpTo 59 = .ok (.iconst 1, 1) := by decide +kernel
theorem d_Mod_putUpTo_60 : decode b_Mod_putUpTo 60 = .ok (.iadd, 1) := by decide +kernel
theorem d_Mod_putUpTo_61 : decode b_Mod_putUpTo 61 = .ok (.putfield 75, 3) := by decide +kernel
theorem d_Mod_putUpTo_64 : decode b_Mod_putUpTo 64 = .ok (.aload_n 0, 1) := by decide +kernel
theorem d_Mod_putUpTo_65 : decode b_Mod_putUpTo 65 = .ok (.iconst 0, 1) := by decide +kernel
theorem d_Mod_putUpTo_66 : decode b_Mod_putUpTo 66 = .ok (.putfield 78, 3) := by decide +kernel
theorem d_Mod_putUpTo_69 : decode b_Mod_putUpTo 69 = .ok (.aload_n 0, 1) := by decide +kernel
theorem d_Mod_putUpTo_70 : decode b_Mod_putUpTo 70 = .ok (.getfield 78, 3) := by decide +kernel
theorem d_Mod_putUpTo_73 : decode b_Mod_putUpTo 73 = .ok (.aload_n 0, 1) := by decide +kernel
theorem d_Mod_putUpTo_74 : decode b_Mod_putUpTo 74 = .ok (.getfield 28, 3) := by decide +kernel
theorem d_Mod_putUpTo_77 : decode b_Mod_putUpTo 77 = .ok (.iload 6, 2) := by decide +kernel
theorem d_Mod_putUpTo_79 : decode b_Mod_putUpTo 79 = .ok (.iaload, 1) := by decide +kernel
theorem d_Mod_putUpTo_80 : decode b_Mod_putUpTo 80 = .ok (.iadd, 1) := by decide +kernel
theorem d_Mod_putUpTo_81 : decode b_Mod_putUpTo 81 = .ok (.istore 4, 2) := by decide +kernel
theorem d_Mod_putUpTo_83 : decode b_Mod_putUpTo 83 = .ok (.aload_n 0, 1) := by decide +kernel
theorem d_Mod_putUpTo_84 : decode b_Mod_putUpTo 84 = .ok (.getfield 28, 3) := by decide +kernel
theorem d_Mod_putUpTo_87 : decode b_Mod_putUpTo 87 = .ok (.iload 6, 2) := by decide +kernel
theorem d_Mod_putUpTo_89 : decode b_Mod_putUpTo 89 = .ok (.iaload, 1) := by decide +kernel
theorem d_Mod_putUpTo_90 : decode b_Mod_putUpTo 90 = .ok (.iload_n 2, 1) := by decide +kernel
theorem d_Mod_putUpTo_91 : decode b_Mod_putUpTo 91 = .ok (.if_icmp .le 7, 3) := by decide +kernel
theorem d_Mod_putUpTo_94 : decode b_Mod_putUpTo 94 = .ok (.iconst 1, 1) := by decide +kernel
theorem d_Mod_putUpTo_95 : decode b_Mod_putUpTo 95 = .ok (.goto 4, 3) := by decide +kernel
theorem d_Mod_putUpTo_98 : decode b_Mod_putUpTo 98 = .ok (.iconst 0, 1) := by decide +kernel
theorem d_Mod_putUpTo_99 : decode b_Mod_putUpTo 99 = .ok (.istore 5, 2) := by decide +kernel
theorem d_Mod_putUpTo_101 : decode b_Mod_putUpTo 101 = .ok (.iinc 6 1, 3) := by decide +kernel
theorem d_Mod_putUpTo_104 : decode b_Mod_putUpTo 104 = .ok (.goto (-85), 3) := by decide +kernel
theorem d_Mod_putUpTo_107 : decode b_Mod_putUpTo 107 = .ok (.return_, 1) := by decide +kernel
theorem d_Mod_isPage_0 : decode b_Mod_isPage 0 = .ok (.iload_n 0, 1) := by decide +kernel
theorem d_Mod_isPage_1 : decode b_Mod_isPage 1 = .ok (.iconst 1, 1) := by decide +kernel
theorem d_Mod_isPage_2 : decode b_Mod_isPage 2 = .ok (.sipush 1000, 3) := by decide +kernel
theorem d_Mod_isPage_5 : decode b_Mod_isPage 5 = .ok (.invokestatic 51, 3) := by decide +kernel
theorem d_Mod_isPage_8 : decode b_Mod_isPage 8 = .ok (.ifCond .eq 17, 3) := by decide +kernel
theorem d_Mod_isPage_11 : decode b_Mod_isPage 11 = .ok (.iload_n 1, 1) := by decide +kernel
theorem d_Mod_isPage_12 : decode b_Mod_isPage 12 = .ok (.iconst 0, 1) := by decide +kernel
theorem d_Mod_isPage_13 : decode b_Mod_isPage 13 = .ok (.bipush 100, 2) := by decide +kernel
theorem d_Mod_isPage_15 : decode b_Mod_isPage 15 = .ok (.invokestatic 51, 3) := by decide +kernel
theorem d_Mod_isPage_18 : decode b_Mod_isPage 18 = .ok (.ifCond .eq 7, 3) := by decide +kernel
theorem d_Mod_isPage_21 : decode b_Mod_isPage 21 = .ok (.iconst 1, 1) := by decide +kernel
theorem d_Mod_isPage_22 : decode b_Mod_isPage 22 = .ok (.goto 4, 3) := by decide +kernel
theorem d_Mod_isPage_25 : decode b_Mod_isPage 25 = .ok (.iconst 0, 1) := by decide +kernel
theorem d_Mod_isPage_26 : decode b_Mod_isPage 26 = .ok (.ireturn, 1) := by decide +kernel
theorem d_Mod_pages_0 : decode b_Mod_pages 0 = .ok (.aload_n 0, 1) := by decide +kernel
theorem d_Mod_pages_1 : decode b_Mod_pages 1 = .ok (.iconst 0, 1) := by decide +kernel
theorem d_Mod_pages_2 : decode b_Mod_pages 2 = .ok (.putfield 48, 3) := by decide +kernel
theorem d_Mod_pages_5 : decode b_Mod_pages 5 = .ok (.iload_n 1, 1) := by decide +kernel
theorem d_Mod_pages_6 : decode b_Mod_pages 6 = .ok (.iload_n 2, 1) := by decide +kernel
theorem d_Mod_pages_7 : decode b_Mod_pages 7 = .ok (.invokestatic 81, 3) := by decide +kernel
theorem d_Mod_pages_10 : decode b_Mod_pages 10 = .ok (.ifCond .ne 5, 3) := by decide +kernel
theorem d_Mod_pages_13 : decode b_Mod_pages 13 = .ok (.iconst (-1), 1) := by decide +kernel
theorem d_Mod_pages_14 : decode b_Mod_pages 14 = .ok (.ireturn, 1) := by decide +kernel
theorem d_Mod_pages_15 : decode b_Mod_pages 15 = .ok (.aload_n 0, 1) := by decide +kernel
theorem d_Mod_pages_16 : decode b_Mod_pages 16 = .ok (.aload_n 0, 1) := by decide +kernel
theorem d_Mod_pages_17 : decode b_Mod_pages 17 = .ok (.getfield 72, 3) := by decide +kernel
theorem d_Mod_pages_20 : decode b_Mod_pages 20 = .ok (.iconst 1, 1) := by decide +kernel
theorem d_Mod_pages_21 : decode b_Mod_pages 21 = .ok (.isub, 1) := by decide +kernel
theorem d_Mod_pages_22 : decode b_Mod_pages 22 = .ok (.iload_n 1, 1) := by decide +kernel
theorem d_Mod_pages_23 : decode b_Mod_pages 23 = .ok (.iload_n 2, 1) := by decide +kernel
theorem d_Mod_pages_24 : decode b_Mod_pages 24 = .ok (.invokevirtual 85, 3) := by decide +kernel
theorem d_Mod_pages_27 : decode b_Mod_pages 27 = .ok (.aload_n 0, 1) := by decide +kernel
theorem d_Mod_pages_28 : decode b_Mod_pages 28 = .ok (.getfield 75, 3) := by decide +kernel
theorem d_Mod_pages_31 : decode b_Mod_pages 31 = .ok (.iconst 1, 1) := by decide +kernel
theorem d_Mod_pages_32 : decode b_Mod_pages 32 = .ok (.iadd, 1) := by decide +kernel
theorem d_Mod_pages_33 : decode b_Mod_pages 33 = .ok (.ireturn, 1) := by decide +kernel
theorem d_Mod_put_0 : decode b_Mod_put 0 = .ok (.aload_n 0, 1) := by decide +kernel
theorem d_Mod_put_1 : decode b_Mod_put 1 = .ok (.iconst 0, 1) := by decide +kernel
theorem d_Mod_put_2 : decode b_Mod_put 2 = .ok (.putfield 48, 3) := by decide +kernel
theorem d_Mod_put_5 : decode b_Mod_put 5 = .ok (.iload_n 2, 1) := by decide +kernel
theorem d_Mod_put_6 : decode b_Mod_put 6 = .ok (.iload_n 3, 1) := by decide +kernel
theorem d_Mod_put_7 : decode b_Mod_put 7 = .ok (.invokestatic 81, 3) := by decide +kernel
theorem d_Mod_put_10 : decode b_Mod_put 10 = .ok (.ifCond .eq 27, 3) := by decide +kernel
theorem d_Mod_put_13 : decode b_Mod_put 13 = .ok (.iload_n 1, 1) := by decide +kernel
theorem d_Mod_put_14 : decode b_Mod_put 14 = .ok (.iconst 0, 1) := by decide +kernel
theorem d_Mod_put_15 : decode b_Mod_put 15 = .ok (.aload_n 0, 1) := by decide +kernel
theorem d_Mod_put_16 : decode b_Mod_put 16 = .ok (.getfield 72, 3) := by decide +kernel
theorem d_Mod_put_19 : decode b_Mod_put 19 = .ok (.iconst 1, 1) := by decide +kernel
theorem d_Mod_put_20 : decode b_Mod_put 20 = .ok (.isub, 1) := by decide +kernel
theorem d_Mod_put_21 : decode b_Mod_put 21 = .ok (.invokestatic 51, 3) := by decide +kernel
theorem d_Mod_put_24 : decode b_Mod_put 24 = .ok (.ifCond .eq 13, 3) := by decide +kernel
theorem d_Mod_put_27 : decode b_Mod_put 27 = .ok (.iload 4, 2) := by decide +kernel
theorem d_Mod_put_29 : decode b_Mod_put 29 = .ok (.iconst 0, 1) := by decide +kernel
theorem d_Mod_put_30 : decode b_Mod_put 30 = .ok (.iconst 1, 1) := by decide +kernel
theorem d_Mod_put_31 : decode b_Mod_put 31 = .ok (.invokestatic 51, 3) := by decide +kernel
theorem d_Mod_put_34 : decode b_Mod_put 34 = .ok (.ifCond .ne 5, 3) := by decide +kernel
theorem d_Mod_put_37 : decode b_Mod_put 37 = .ok (.iconst (-1), 1) := by decide +kernel
theorem d_Mod_put_38 : decode b_Mod_put 38 = .ok (.ireturn, 1) := by decide +kernel
theorem d_Mod_put_39 : decode b_Mod_put 39 = .ok (.aload_n 0, 1) := by decide +kernel
theorem d_Mod_put_40 : decode b_Mod_put 40 = .ok (.iload_n 1, 1) := by decide +kernel
theorem d_Mod_put_41 : decode b_Mod_put 41 = .ok (.iload_n 2, 1) := by decide +kernel
theorem d_Mod_put_42 : decode b_Mod_put 42 = .ok (.iload_n 3, 1) := by decide +kernel
theorem d_Mod_put_43 : decode b_Mod_put 43 = .ok (.invokevirtual 85, 3) := by decide +kernel
theorem d_Mod_put_46 : decode b_Mod_put 46 = .ok (.iload 4, 2) := by decide +kernel
theorem d_Mod_put_48 : decode b_Mod_put 48 = .ok (.ifCond .ne 10, 3) := by decide +kernel
theorem d_Mod_put_51 : decode b_Mod_put 51 = .ok (.aload_n 0, 1) := by decide +kernel
theorem d_Mod_put_52 : decode b_Mod_put 52 = .ok (.getfield 75, 3) := by decide +kernel
theorem d_Mod_put_55 : decode b_Mod_put 55 = .ok (.goto 7, 3) := by decide +kernel
theorem d_Mod_put_58 : decode b_Mod_put 58 = .ok (.aload_n 0, 1) := by decide +kernel
theorem d_Mod_put_59 : decode b_Mod_put 59 = .ok (.getfield 78, 3) := by decide +kernel
theorem d_Mod_put_62 : decode b_Mod_put 62 = .ok (.ireturn, 1) := by decide +kernel
theorem d_Mod_grid_0 : decode b_Mod_grid 0 = .ok (.aload_n 0, 1) := by decide +kernel
theorem d_Mod_grid_1 : decode b_Mod_grid 1 = .ok (.iconst 0, 1) := by decide +kernel
theorem d_Mod_grid_2 : decode b_Mod_grid 2 = .ok (.putfield 48, 3) := by decide +kernel
theorem d_Mod_grid_5 : decode b_Mod_grid 5 = .ok (.iload_n 1, 1) := by decide +kernel
theorem d_Mod_grid_6 : decode b_Mod_grid 6 = .ok (.iconst 1, 1) := by decide +kernel
theorem d_Mod_grid_7 : decode b_Mod_grid 7 = .ok (.bipush 8, 2) := by decide +kernel
theorem d_Mod_grid_9 : decode b_Mod_grid 9 = .ok (.invokestatic 51, 3) := by decide +kernel
theorem d_Mod_grid_12 : decode b_Mod_grid 12 = .ok (.ifCond .eq 13, 3) := by decide +kernel
theorem d_Mod_grid_15 : decode b_Mod_grid 15 = .ok (.iload_n 2, 1) := by decide +kernel
theorem d_Mod_grid_16 : decode b_Mod_grid 16 = .ok (.iconst 1, 1) := by decide +kernel
theorem d_Mod_grid_17 : decode b_Mod_grid 17 = .ok (.bipush 8, 2) := by decide +kernel
theorem d_Mod_grid_19 : decode b_Mod_grid 19 = .ok (.invokestatic 51, 3) := by decide +kernel
theorem d_Mod_grid_22 : decode b_Mod_grid 22 = .ok (.ifCond .ne 5, 3) := by decide +kernel
theorem d_Mod_grid_25 : decode b_Mod_grid 25 = .ok (.iconst 0, 1) := by decide +kernel
theorem d_Mod_grid_26 : decode b_Mod_grid 26 = .ok (.ireturn, 1) := by decide +kernel
theorem d_Mod_grid_27 : decode b_Mod_grid 27 = .ok (.aload_n 0, 1) := by decide +kernel
theorem d_Mod_grid_28 : decode b_Mod_grid 28 = .ok (.iload_n 1, 1) := by decide +kernel
theorem d_Mod_grid_29 : decode b_Mod_grid 29 = .ok (.putfield 31, 3) := by decide +kernel
theorem d_Mod_grid_32 : decode b_Mod_grid 32 = .ok (.aload_n 0, 1) := by decide +kernel
theorem d_Mod_grid_33 : decode b_Mod_grid 33 = .ok (.iload_n 2, 1) := by decide +kernel
theorem d_Mod_grid_34 : decode b_Mod_grid 34 = .ok (.putfield 35, 3) := by decide +kernel
theorem d_Mod_grid_37 : decode b_Mod_grid 37 = .ok (.iconst 0, 1) := by decide +kernel
theorem d_Mod_grid_38 : decode b_Mod_grid 38 = .ok (.istore_n 3, 1) := by decide +kernel
theorem d_Mod_grid_39 : decode b_Mod_grid 39 = .ok (.iload_n 3, 1) := by decide +kernel
theorem d_Mod_grid_40 : decode b_Mod_grid 40 = .ok (.bipush 64, 2) := by decide +kernel
theorem d_Mod_grid_42 : decode b_Mod_grid 42 = .ok (.if_icmp .ge 16, 3) := by decide +kernel
theorem d_Mod_grid_45 : decode b_Mod_grid 45 = .ok (.aload_n 0, 1) := by decide +kernel
theorem d_Mod_grid_46 : decode b_Mod_grid 46 = .ok (.getfield 38, 3) := by decide +kernel
theorem d_Mod_grid_49 : decode b_Mod_grid 49 = .ok (.iload_n 3, 1) := by decide +kernel
theorem d_Mod_grid_50 : decode b_Mod_grid 50 = .ok (.iconst 0, 1) := by decide +kernel
theorem d_Mod_grid_51 : decode b_Mod_grid 51 = .ok (.iastore, 1) := by decide +kernel
theorem d_Mod_grid_52 : decode b_Mod_grid 52 = .ok (.iinc 3 1, 3) := by decide +kernel
theorem d_Mod_grid_55 : decode b_Mod_grid 55 = .ok (.goto (-16), 3) := by decide +kernel
theorem d_Mod_grid_58 : decode b_Mod_grid 58 = .ok (.iconst 1, 1) := by decide +kernel
theorem d_Mod_grid_59 : decode b_Mod_grid 59 = .ok (.ireturn, 1) := by decide +kernel
theorem d_Mod_cage_0 : decode b_Mod_cage 0 = .ok (.aload_n 0, 1) := by decide +kernel
theorem d_Mod_cage_1 : decode b_Mod_cage 1 = .ok (.iconst 0, 1) := by decide +kernel
theorem d_Mod_cage_2 : decode b_Mod_cage 2 = .ok (.putfield 48, 3) := by decide +kernel
theorem d_Mod_cage_5 : decode b_Mod_cage 5 = .ok (.iload_n 1, 1) := by decide +kernel
theorem d_Mod_cage_6 : decode b_Mod_cage 6 = .ok (.iconst 0, 1) := by decide +kernel
theorem d_Mod_cage_7 : decode b_Mod_cage 7 = .ok (.aload_n 0, 1) := by decide +kernel
theorem d_Mod_cage_8 : decode b_Mod_cage 8 = .ok (.getfield 31, 3) := by decide +kernel
theorem d_Mod_cage_11 : decode b_Mod_cage 11 = .ok (.aload_n 0, 1) := by decide +kernel
theorem d_Mod_cage_12 : decode b_Mod_cage 12 = .ok (.getfield 35, 3) := by decide +kernel
theorem d_Mod_cage_15 : decode b_Mod_cage 15 = .ok (.imul, 1) := by decide +kernel
theorem d_Mod_cage_16 : decode b_Mod_cage 16 = .ok (.iconst 1, 1) := by decide +kernel
theorem d_Mod_cage_17 : decode b_Mod_cage 17 = .ok (.isub, 1) := by decide +kernel
theorem d_Mod_cage_18 : decode b_Mod_cage 18 = .ok (.invokestatic 51, 3) := by decide +kernel
theorem d_Mod_cage_21 : decode b_Mod_cage 21 = .ok (.ifCond .eq 13, 3) := by decide +kernel
theorem d_Mod_cage_24 : decode b_Mod_cage 24 = .ok (.iload_n 2, 1) := by decide +kernel
theorem d_Mod_cage_25 : decode b_Mod_cage 25 = .ok (.iconst 0, 1) := by decide +kernel
theorem d_Mod_cage_26 : decode b_Mod_cage 26 = .ok (.bipush 9, 2) := by decide +kernel
theorem d_Mod_cage_28 : decode b_Mod_cage 28 = .ok (.invokestatic 51, 3) := by decide +kernel
theorem d_Mod_cage_31 : decode b_Mod_cage 31 = .ok (.ifCond .ne 5, 3) := by decide +kernel
theorem d_Mod_cage_34 : decode b_Mod_cage 34 = .ok (.iconst 0, 1) := by decide +kernel
theorem d_Mod_cage_35 : decode b_Mod_cage 35 = .ok (.ireturn, 1) := by decide +kernel
theorem d_Mod_cage_36 : decode b_Mod_cage 36 = .ok (.aload_n 0, 1) := by decide +kernel
theorem d_Mod_cage_37 : decode b_Mod_cage 37 = .ok (.getfield 38, 3) := by decide +kernel
theorem d_Mod_cage_40 : decode b_Mod_cage 40 = .ok (.iload_n 1, 1) := by decide +kernel
theorem d_Mod_cage_41 : decode b_Mod_cage 41 = .ok (.iload_n 2, 1) := by decide +kernel
theorem d_Mod_cage_42 : decode b_Mod_cage 42 = .ok (.iastore, 1) := by decide +kernel
theorem d_Mod_cage_43 : decode b_Mod_cage 43 = .ok (.iconst 1, 1) := by decide +kernel
theorem d_Mod_cage_44 : decode b_Mod_cage 44 = .ok (.ireturn, 1) := by decide +kernel
theorem d_Mod_isThick_0 : decode b_Mod_isThick 0 = .ok (.iload_n 1, 1) := by decide +kernel
theorem d_Mod_isThick_1 : decode b_Mod_isThick 1 = .ok (.ifCond .eq 52, 3) := by decide +kernel
theorem d_Mod_isThick_4 : decode b_Mod_isThick 4 = .ok (.iload_n 2, 1) := by decide +kernel
theorem d_Mod_isThick_5 : decode b_Mod_isThick 5 = .ok (.ifCond .eq 42, 3) := by decide +kernel
theorem d_Mod_isThick_8 : decode b_Mod_isThick 8 = .ok (.iload_n 2, 1) := by decide +kernel
theorem d_Mod_isThick_9 : decode b_Mod_isThick 9 = .ok (.aload_n 0, 1) := by decide +kernel
theorem d_Mod_isThick_10 : decode b_Mod_isThick 10 = .ok (.getfield 31, 3) := by decide +kernel
theorem d_Mod_isThick_13 : decode b_Mod_isThick 13 = .ok (.if_icmp .eq 34, 3) := by decide +kernel
theorem d_Mod_isThick_16 : decode b_Mod_isThick 16 = .ok (.aload_n 0, 1) := by decide +kernel
theorem d_Mod_isThick_17 : decode b_Mod_isThick 17 = .ok (.getfield 38, 3) := by decide +kernel
theorem d_Mod_isThick_20 : decode b_Mod_isThick 20 = .ok (.iload_n 2, 1) := by decide +kernel
theorem d_Mod_isThick_21 : decode b_Mod_isThick 21 = .ok (.iconst 1, 1) := by decide +kernel
theorem d_Mod_isThick_22 : decode b_Mod_isThick 22 = .ok (.isub, 1) := by decide +kernel
theorem d_Mod_isThick_23 : decode b_Mod_isThick 23 = .ok (.aload_n 0, 1) := by decide +kernel
theorem d_Mod_isThick_24 : decode b_Mod_isThick 24 = .ok (.getfield 31, 3) := by decide +kernel
theorem d_Mod_isThick_27 : decode b_Mod_isThick 27 = .ok (.iload_n 3, 1) := by decide +kernel
theorem d_Mod_isThick_28 : decode b_Mod_isThick 28 = .ok (.imul, 1) := by decide +kernel
theorem d_Mod_isThick_29 : decode b_Mod_isThick 29 = .ok (.iadd, 1) := by decide +kernel
theorem d_Mod_isThick_30 : decode b_Mod_isThick 30 = .ok (.iaload, 1) := by decide +kernel
theorem d_Mod_isThick_31 : decode b_Mod_isThick 31 = .ok (.aload_n 0, 1) := by decide +kernel
theorem d_Mod_isThick_32 : decode b_Mod_isThick 32 = .ok (.getfield 38, 3) := by decide +kernel
theorem d_Mod_isThick_35 : decode b_Mod_isThick 35 = .ok (.iload_n 2, 1) := by decide +kernel
theorem d_Mod_isThick_36 : decode b_Mod_isThick 36 = .ok (.aload_n 0, 1) := by decide +kernel
theorem d_Mod_isThick_37 : decode b_Mod_isThick 37 = .ok (.getfield 31, 3) := by decide +kernel
theorem d_Mod_isThick_40 : decode b_Mod_isThick 40 = .ok (.iload_n 3, 1) := by decide +kernel
theorem d_Mod_isThick_41 : decode b_Mod_isThick 41 = .ok (.imul, 1) := by decide +kernel
theorem d_Mod_isThick_42 : decode b_Mod_isThick 42 = .ok (.iadd, 1) := by decide +kernel
theorem d_Mod_isThick_43 : decode b_Mod_isThick 43 = .ok (.iaload, 1) := by decide +kernel
theorem d_Mod_isThick_44 : decode b_Mod_isThick 44 = .ok (.if_icmp .eq 7, 3) := by decide +kernel
theorem d_Mod_isThick_47 : decode b_Mod_isThick 47 = .ok (.iconst 1, 1) := by decide +kernel
theorem d_Mod_isThick_48 : decode b_Mod_isThick 48 = .ok (.goto 4, 3) := by decide +kernel
theorem d_Mod_isThick_51 : decode b_Mod_isThick 51 = .ok (.iconst 0, 1) := by decide +kernel
theorem d_Mod_isThick_52 : decode b_Mod_isThick 52 = .ok (.ireturn, 1) := by decide +kernel
theorem d_Mod_isThick_53 : decode b_Mod_isThick 53 = .ok (.iload_n 3, 1) := by decide +kernel
theorem d_Mod_isThick_54 : decode b_Mod_isThick 54 = .ok (.ifCond .eq 42, 3) := by decide +kernel
theorem d_Mod_isThick_57 : decode b_Mod_isThick 57 = .ok (.iload_n 3, 1) := by decide +kernel
theorem d_Mod_isThick_58 : decode b_Mod_isThick 58 = .ok (.aload_n 0, 1) := by decide +kernel
theorem d_Mod_isThick_59 : decode b_Mod_isThick 59 = .ok (.getfield 35, 3) := by decide +kernel
theorem d_Mod_isThick_62 : decode b_Mod_isThick 62 = .ok (.if_icmp .eq 34, 3) := by decide +kernel
theorem d_Mod_isThick_65 : decode b_Mod_isThick 65 = .ok (.aload_n 0, 1) := by decide +kernel
theorem d_Mod_isThick_66 : decode b_Mod_isThick 66 = .ok (.getfield 38, 3) := by decide +kernel
theorem d_Mod_isThick_69 : decode b_Mod_isThick 69 = .ok (.iload_n 2, 1) := by decide +kernel
theorem d_Mod_isThick_70 : decode b_Mod_isThick 70 = .ok (.aload_n 0, 1) := by decide +kernel
theorem d_Mod_isThick_71 : decode b_Mod_isThick 71 = .ok (.getfield 31, 3) := by decide +kernel
theorem d_Mod_isThick_74 : decode b_Mod_isThick 74 = .ok (.iload_n 3, 1) := by decide +kernel
theorem d_Mod_isThick_75 : decode b_Mod_isThick 75 = .ok (.iconst 1, 1) := by decide +kernel
theorem d_Mod_isThick_76 : decode b_Mod_isThick 76 = .ok (.isub, 1) := by decide +kernel
theorem d_Mod_isThick_77 : decode b_Mod_isThick 77 = .ok (.imul, 1) := by decide +kernel
theorem d_Mod_isThick_78 : decode b_Mod_isThick 78 = .ok (.iadd, 1) := by decide +kernel
theorem d_Mod_isThick_79 : decode b_Mod_isThick 79 = .ok (.iaload, 1) := by decide +kernel
theorem d_Mod_isThick_80 : decode b_Mod_isThick 80 = .ok (.aload_n 0, 1) := by decide +kernel
theorem d_Mod_isThick_81 : decode b_Mod_isThick 81 = .ok (.getfield 38, 3) := by decide +kernel
theorem d_Mod_isThick_84 : decode b_Mod_isThick 84 = .ok (.iload_n 2, 1) := by decide +kernel
theorem d_Mod_isThick_85 : decode b_Mod_isThick 85 = .ok (.aload_n 0, 1) := by decide +kernel
theorem d_Mod_isThick_86 : decode b_Mod_isThick 86 = .ok (.getfield 31, 3) := by decide +kernel
theorem d_Mod_isThick_89 : decode b_Mod_isThick 89 = .ok (.iload_n 3, 1) := by decide +kernel
theorem d_Mod_isThick_90 : decode b_Mod_isThick 90 = .ok (.imul, 1) := by decide +kernel
theorem d_Mod_isThick_91 : decode b_Mod_isThick 91 = .ok (.iadd, 1) := by decide +kernel
theorem d_Mod_isThick_92 : decode b_Mod_isThick 92 = .ok (.iaload, 1) := by decide +kernel
theorem d_Mod_isThick_93 : decode b_Mod_isThick 93 = .ok (.if_icmp .eq 7, 3) := by decide +kernel
theorem d_Mod_isThick_96 : decode b_Mod_isThick 96 = .ok (.iconst 1, 1) := by decide +kernel
theorem d_Mod_isThick_97 : decode b_Mod_isThick 97 = .ok (.goto 4, 3) := by decide +kernel
theorem d_Mod_isThick_100 : decode b_Mod_isThick 100 = .ok (.iconst 0, 1) := by decide +kernel
theorem d_Mod_isThick_101 : decode b_Mod_isThick 101 = .ok (.ireturn, 1) := by decide +kernel
theorem d_Mod_begins_0 : decode b_Mod_begins 0 = .ok (.iload_n 1, 1) := by decide +kernel
theorem d_Mod_begins_1 : decode b_Mod_begins 1 = .ok (.ifCond .eq 32, 3) := by decide +kernel
theorem d_Mod_begins_4 : decode b_Mod_begins 4 = .ok (.iload_n 3, 1) := by decide +kernel
theorem d_Mod_begins_5 : decode b_Mod_begins 5 = .ok (.ifCond .eq 22, 3) := by decide +kernel
theorem d_Mod_begins_8 : decode b_Mod_begins 8 = .ok (.aload_n 0, 1) := by decide +kernel
theorem d_Mod_begins_9 : decode b_Mod_begins 9 = .ok (.iconst 1, 1) := by decide +kernel
theorem d_Mod_begins_10 : decode b_Mod_begins 10 = .ok (.iload_n 2, 1) := by decide +kernel
theorem d_Mod_begins_11 : decode b_Mod_begins 11 = .ok (.iload_n 3, 1) := by decide +kernel
theorem d_Mod_begins_12 : decode b_Mod_begins 12 = .ok (.iconst 1, 1) := by decide +kernel
theorem d_Mod_begins_13 : decode b_Mod_begins 13 = .ok (.isub, 1) := by decide +kernel
theorem d_Mod_begins_14 : decode b_Mod_begins 14 = .ok (.invokevirtual 88, 3) := by decide +kernel
theorem d_Mod_begins_17 : decode b_Mod_begins 17 = .ok (.aload_n 0, 1) := by decide +kernel
theorem d_Mod_begins_18 : decode b_Mod_begins 18 = .ok (.iconst 1, 1) := by decide +kernel
theorem d_Mod_begins_19 : decode b_Mod_begins 19 = .ok (.iload_n 2, 1) := by decide +kernel
theorem d_Mod_begins_20 : decode b_Mod_begins 20 = .ok (.iload_n 3, 1) := by decide +kernel
theorem d_Mod_begins_21 : decode b_Mod_begins 21 = .ok (.invokevirtual 88, 3) := by decide +kernel
theorem d_Mod_begins_24 : decode b_Mod_begins 24 = .ok (.if_icmp .eq 7, 3) := by decide +kernel
theorem d_Mod_begins_27 : decode b_Mod_begins 27 = .ok (.iconst 1, 1) := by decide +kernel
theorem d_Mod_begins_28 : decode b_Mod_begins 28 = .ok (.goto 4, 3) := by decide +kernel
theorem d_Mod_begins_31 : decode b_Mod_begins 31 = .ok (.iconst 0, 1) := by decide +kernel
theorem d_Mod_begins_32 : decode b_Mod_begins 32 = .ok (.ireturn, 1) := by decide +kernel
theorem d_Mod_begins_33 : decode b_Mod_begins 33 = .ok (.iload_n 2, 1) := by decide +kernel
theorem d_Mod_begins_34 : decode b_Mod_begins 34 = .ok (.ifCond .eq 22, 3) := by decide +kernel
theorem d_Mod_begins_37 : decode b_Mod_begins 37 = .ok (.aload_n 0, 1) := by decide +kernel
theorem d_Mod_begins_38 : decode b_Mod_begins 38 = .ok (.iconst 0, 1) := by decide +kernel
theorem d_Mod_begins_39 : decode b_Mod_begins 39 = .ok (.iload_n 2, 1) := by decide +kernel
theorem d_Mod_begins_40 : decode b_Mod_begins 40 = .ok (.iconst 1, 1) := by decide +kernel
theorem d_Mod_begins_41 : decode b_Mod_begins 41 = .ok (.isub, 1) := by decide +kernel
theorem d_Mod_begins_42 : decode b_Mod_begins 42 = .ok (.iload_n 3, 1) := by decide +kernel
theorem d_Mod_begins_43 : decode b_Mod_begins 43 = .ok (.invokevirtual 88, 3) := by decide +kernel
theorem d_Mod_begins_46 : decode b_Mod_begins 46 = .ok (.aload_n 0, 1) := by decide +kernel
theorem d_Mod_begins_47 : decode b_Mod_begins 47 = .ok (.iconst 0, 1) := by decide +kernel
theorem d_Mod_begins_48 : decode b_Mod_begins 48 = .ok (.iload_n 2, 1) := by decide +kernel
theorem d_Mod_begins_49 : decode b_Mod_begins 49 = .ok (.iload_n 3, 1) := by decide +kernel
theorem d_Mod_begins_50 : decode b_Mod_begins 50 = .ok (.invokevirtual 88, 3) := by decide +kernel
theorem d_Mod_begins_53 : decode b_Mod_begins 53 = .ok (.if_icmp .eq 7, 3) := by decide +kernel
theorem d_Mod_begins_56 : decode b_Mod_begins 56 = .ok (.iconst 1, 1) := by decide +kernel
theorem d_Mod_begins_57 : decode b_Mod_begins 57 = .ok (.goto 4, 3) := by decide +kernel
theorem d_Mod_begins_60 : decode b_Mod_begins 60 = .ok (.iconst 0, 1) := by decide +kernel
theorem d_Mod_begins_61 : decode b_Mod_begins 61 = .ok (.ireturn, 1) := by decide +kernel
theorem d_Mod_findLineOf_0 : decode b_Mod_findLineOf 0 = .ok (.iconst 0, 1) := by decide +kernel
theorem d_Mod_findLineOf_1 : decode b_Mod_findLineOf 1 = .ok (.istore_n 2, 1) := by decide +kernel
theorem d_Mod_findLineOf_2 : decode b_Mod_findLineOf 2 = .ok (.iconst 0, 1) := by decide +kernel
theorem d_Mod_findLineOf_3 : decode b_Mod_findLineOf 3 = .ok (.istore_n 3, 1) := by decide +kernel
theorem d_Mod_findLineOf_4 : decode b_Mod_findLineOf 4 = .ok (.iload_n 3, 1) := by decide +kernel
theorem d_Mod_findLineOf_5 : decode b_Mod_findLineOf 5 = .ok (.aload_n 0, 1) := by decide +kernel
theorem d_Mod_findLineOf_6 : decode b_Mod_findLineOf 6 = .ok (.getfield 35, 3) := by decide +kernel
theorem d_Mod_findLineOf_9 : decode b_Mod_findLineOf 9 = .ok (.if_icmp .gt 54, 3) := by decide +kernel
theorem d_Mod_findLineOf_12 : decode b_Mod_findLineOf 12 = .ok (.iconst 0, 1) := by decide +kernel
theorem d_Mod_findLineOf_13 : decode b_Mod_findLineOf 13 = .ok (.istore 4, 2) := by decide +kernel
theorem d_Mod_findLineOf_15 : decode b_Mod_findLineOf 15 = .ok (.iload 4, 2) := by decide +kernel
theorem d_Mod_findLineOf_17 : decode b_Mod_findLineOf 17 = .ok (.aload_n 0, 1) := by decide +kernel
theorem d_Mod_findLineOf_18 : decode b_Mod_findLineOf 18 = .ok (.getfield 31, 3) := by decide +kernel
theorem d_Mod_findLineOf_21 : decode b_Mod_findLineOf 21 = .ok (.if_icmp .ge 36, 3) := by decide +kernel
theorem d_Mod_findLineOf_24 : decode b_Mod_findLineOf 24 = .ok (.aload_n 0, 1) := by decide +kernel
theorem d_Mod_findLineOf_25 : decode b_Mod_findLineOf 25 = .ok (.iconst 0, 1) := by decide +kernel
theorem d_Mod_findLineOf_26 : decode b_Mod_findLineOf 26 = .ok (.iload 4, 2) := by decide +kernel
theorem d_Mod_findLineOf_28 : decode b_Mod_findLineOf 28 = .ok (.iload_n 3, 1) := by decide +kernel
theorem d_Mod_findLineOf_29 : decode b_Mod_findLineOf 29 = .ok (.invokevirtual 92, 3) := by decide +kernel
theorem d_Mod_findLineOf_32 : decode b_Mod_findLineOf 32 = .ok (.ifCond .eq 19, 3) := by decide +kernel
theorem d_Mod_findLineOf_35 : decode b_Mod_findLineOf 35 = .ok (.iload_n 2, 1) := by decide +kernel
theorem d_Mod_findLineOf_36 : decode b_Mod_findLineOf 36 = .ok (.iload_n 1, 1) := by decide +kernel
theorem d_Mod_findLineOf_37 : decode b_Mod_findLineOf 37 = .ok (.if_icmp .ne 11, 3) := by decide +kernel
theorem d_Mod_findLineOf_40 : decode b_Mod_findLineOf 40 = .ok (.aload_n 0, 1) := by decide +kernel
theorem d_Mod_findLineOf_41 : decode b_Mod_findLineOf 41 = .ok (.iconst 0, 1) := by decide +kernel
theorem d_Mod_findLineOf_42 : decode b_Mod_findLineOf 42 = .ok (.iload 4, 2) := by decide +kernel
theorem d_Mod_findLineOf_44 : decode b_Mod_findLineOf 44 = .ok (.iload_n 3, 1) := by decide +kernel
theorem d_Mod_findLineOf_45 : decode b_Mod_findLineOf 45 = .ok (.invokevirtual 95, 3) := by decide +kernel
theorem d_Mod_findLineOf_48 : decode b_Mod_findLineOf 48 = .ok (.iinc 2 1, 3) := by decide +kernel
theorem d_Mod_findLineOf_51 : decode b_Mod_findLineOf 51 = .ok (.iinc 4 1, 3) := by decide +kernel
theorem d_Mod_findLineOf_54 : decode b_Mod_findLineOf 54 = .ok (.goto (-39), 3) := by decide +kernel
theorem d_Mod_findLineOf_57 : decode b_Mod_findLineOf 57 = .ok (.iinc 3 1, 3) := by decide +kernel
theorem d_Mod_findLineOf_60 : decode b_Mod_findLineOf 60 = .ok (.goto (-56), 3) := by decide +kernel
theorem d_Mod_findLineOf_63 : decode b_Mod_findLineOf 63 = .ok (.iconst 0, 1) := by decide +kernel
theorem d_Mod_findLineOf_64 : decode b_Mod_findLineOf 64 = .ok (.istore_n 3, 1) := by decide +kernel
theorem d_Mod_findLineOf_65 : decode b_Mod_findLineOf 65 = .ok (.iload_n 3, 1) := by decide +kernel
theorem d_Mod_findLineOf_66 : decode b_Mod_findLineOf 66 = .ok (.aload_n 0, 1) := by decide +kernel
theorem d_Mod_findLineOf_67 : decode b_Mod_findLineOf 67 = .ok (.getfield 31, 3) := by decide +kernel
theorem d_Mod_findLineOf_70 : decode b_Mod_findLineOf 70 = .ok (.if_icmp .gt 54, 3) := by decide +kernel
theorem d_Mod_findLineOf_73 : decode b_Mod_findLineOf 73 = .ok (.iconst 0, 1) := by decide +kernel
theorem d_Mod_findLineOf_74 : decode b_Mod_findLineOf 74 = .ok (.istore 4, 2) := by decide +kernel
theorem d_Mod_findLineOf_76 : decode b_Mod_findLineOf 76 = .ok (.iload 4, 2) := by decide +kernel
theorem d_Mod_findLineOf_78 : decode b_Mod_findLineOf 78 = .ok (.aload_n 0, 1) := by decide +kernel
theorem d_Mod_findLineOf_79 : decode b_Mod_findLineOf 79 = .ok (.getfield 35, 3) := by decide +kernel
theorem d_Mod_findLineOf_82 : decode b_Mod_findLineOf 82 = .ok (.if_icmp .ge 36, 3) := by decide +kernel
theorem d_Mod_findLineOf_85 : decode b_Mod_findLineOf 85 = .ok (.aload_n 0, 1) := by decide +kernel
theorem d_Mod_findLineOf_86 : decode b_Mod_findLineOf 86 = .ok (.iconst 1, 1) := by decide +kernel
theorem d_Mod_findLineOf_87 : decode b_Mod_findLineOf 87 = .ok (.iload_n 3, 1) := by decide +kernel
theorem d_Mod_findLineOf_88 : decode b_Mod_findLineOf 88 = .ok (.iload 4, 2) := by decide +kernel
theorem d_Mod_findLineOf_90 : decode b_Mod_findLineOf 90 = .ok (.invokevirtual 92, 3) := by decide +kernel
theorem d_Mod_findLineOf_93 : decode b_Mod_findLineOf 93 = .ok (.ifCond .eq 19, 3) := by decide +kernel
theorem d_Mod_findLineOf_96 : decode b_Mod_findLineOf 96 = .ok (.iload_n 2, 1) := by decide +kernel
theorem d_Mod_findLineOf_97 : decode b_Mod_findLineOf 97 = .ok (.iload_n 1, 1) := by decide +kernel
theorem d_Mod_findLineOf_98 : decode b_Mod_findLineOf 98 = .ok (.if_icmp .ne 11, 3) := by decide +kernel
theorem d_Mod_findLineOf_101 : decode b_Mod_findLineOf 101 = .ok (.aload_n 0, 1) := by decide +kernel
theorem d_Mod_findLineOf_102 : decode b_Mod_findLineOf 102 = .ok (.iconst 1, 1) := by decide +kernel
theorem d_Mod_findLineOf_103 : decode b_Mod_findLineOf 103 = .ok (.iload_n 3, 1) := by decide +kernel
theorem d_Mod_findLineOf_104 : decode b_Mod_findLineOf 104 = .ok (.iload 4, 2) := by decide +kernel
theorem d_Mod_findLineOf_106 : decode b_Mod_findLineOf 106 = .ok (.invokevirtual 95, 3) := by decide +kernel
theorem d_Mod_findLineOf_109 : decode b_Mod_findLineOf 109 = .ok (.iinc 2 1, 3) := by decide +kernel
theorem d_Mod_findLineOf_112 : decode b_Mod_findLineOf 112 = .ok (.iinc 4 1, 3) := by decide +kernel
theorem d_Mod_findLineOf_115 : decode b_Mod_findLineOf 115 = .ok (.goto (-39), 3) := by decide +kernel
theorem d_Mod_findLineOf_118 : decode b_Mod_findLineOf 118 = .ok (.iinc 3 1, 3) := by decide +kernel
theorem d_Mod_findLineOf_121 : decode b_Mod_findLineOf 121 = .ok (.goto (-56), 3) := by decide +kernel
theorem d_Mod_findLineOf_124 : decode b_Mod_findLineOf 124 = .ok (.iload_n 2, 1) := by decide +kernel
theorem d_Mod_findLineOf_125 : decode b_Mod_findLineOf 125 = .ok (.ireturn, 1) := by decide +kernel
theorem d_Mod_keep_0 : decode b_Mod_keep 0 = .ok (.aload_n 0, 1) := by decide +kernel
theorem d_Mod_keep_1 : decode b_Mod_keep 1 = .ok (.iload_n 1, 1) := by decide +kernel
theorem d_Mod_keep_2 : decode b_Mod_keep 2 = .ok (.putfield 99, 3) := by decide +kernel
theorem d_Mod_keep_5 : decode b_Mod_keep 5 = .ok (.aload_n 0, 1) := by decide +kernel
theorem d_Mod_keep_6 : decode b_Mod_keep 6 = .ok (.iload_n 2, 1) := by decide +kernel
theorem d_Mod_keep_7 : decode b_Mod_keep 7 = .ok (.putfield 103, 3) := by decide +kernel
theorem d_Mod_keep_10 : decode b_Mod_keep 10 = .ok (.aload_n 0, 1) := by decide +kernel
theorem d_Mod_keep_11 : decode b_Mod_keep 11 = .ok (.iload_n 3, 1) := by decide +kernel
theorem d_Mod_keep_12 : decode b_Mod_keep 12 = .ok (.putfield 106, 3) := by decide +kernel
theorem d_Mod_keep_15 : decode b_Mod_keep 15 = .ok (.return_, 1) := by decide +kernel
theorem d_Mod_lines_0 : decode b_Mod_lines 0 = .ok (.aload_n 0, 1) := by decide +kernel
theorem d_Mod_lines_1 : decode b_Mod_lines 1 = .ok (.iconst 0, 1) := by decide +kernel
theorem d_Mod_lines_2 : decode b_Mod_lines 2 = .ok (.putfield 48, 3) := by decide +kernel
theorem d_Mod_lines_5 : decode b_Mod_lines 5 = .ok (.aload_n 0, 1) := by decide +kernel
theorem d_Mod_lines_6 : decode b_Mod_lines 6 = .ok (.iconst (-1), 1) := by decide +kernel
theorem d_Mod_lines_7 : decode b_Mod_lines 7 = .ok (.invokevirtual 109, 3) := by decide +kernel
theorem d_Mod_lines_10 : decode b_Mod_lines 10 = .ok (.ireturn, 1) := by decide +kernel
theorem d_Mod_drawn_0 : decode b_Mod_drawn 0 = .ok (.aload_n 0, 1) := by decide +kernel
theorem d_Mod_drawn_1 : decode b_Mod_drawn 1 = .ok (.iconst 0, 1) := by decide +kernel
theorem d_Mod_drawn_2 : decode b_Mod_drawn 2 = .ok (.putfield 48, 3) := by decide +kernel
theorem d_Mod_drawn_5 : decode b_Mod_drawn 5 = .ok (.iload_n 1, 1) := by decide +kernel
theorem d_Mod_drawn_6 : decode b_Mod_drawn 6 = .ok (.ifCond .lt 21, 3) := by decide +kernel
theorem d_Mod_drawn_9 : decode b_Mod_drawn 9 = .ok (.iload_n 2, 1) := by decide +kernel
theorem d_Mod_drawn_10 : decode b_Mod_drawn 10 = .ok (.iconst 0, 1) := by decide +kernel
theorem d_Mod_drawn_11 : decode b_Mod_drawn 11 = .ok (.iconst 4, 1) := by decide +kernel
theorem d_Mod_drawn_12 : decode b_Mod_drawn 12 = .ok (.invokestatic 51, 3) := by decide +kernel
theorem d_Mod_drawn_15 : decode b_Mod_drawn 15 = .ok (.ifCond .eq 12, 3) := by decide +kernel
theorem d_Mod_drawn_18 : decode b_Mod_drawn 18 = .ok (.iload_n 1, 1) := by decide +kernel
theorem d_Mod_drawn_19 : decode b_Mod_drawn 19 = .ok (.aload_n 0, 1) := by decide +kernel
theorem d_Mod_drawn_20 : decode b_Mod_drawn 20 = .ok (.iload_n 1, 1) := by decide +kernel
theorem d_Mod_drawn_21 : decode b_Mod_drawn 21 = .ok (.invokevirtual 109, 3) := by decide +kernel
theorem d_Mod_drawn_24 : decode b_Mod_drawn 24 = .ok (.if_icmp .lt 5, 3) := by decide +kernel
theorem d_Mod_drawn_27 : decode b_Mod_drawn 27 = .ok (.iconst (-1), 1) := by decide +kernel
theorem d_Mod_drawn_28 : decode b_Mod_drawn 28 = .ok (.ireturn, 1) := by decide +kernel
theorem d_Mod_drawn_29 : decode b_Mod_drawn 29 = .ok (.aload_n 0, 1) := by decide +kernel
theorem d_Mod_drawn_30 : decode b_Mod_drawn 30 = .ok (.getfield 103, 3) := by decide +kernel
theorem d_Mod_drawn_33 : decode b_Mod_drawn 33 = .ok (.istore_n 3, 1) := by decide +kernel
theorem d_Mod_drawn_34 : decode b_Mod_drawn 34 = .ok (.aload_n 0, 1) := by decide +kernel
theorem d_Mod_drawn_35 : decode b_Mod_drawn 35 = .ok (.getfield 106, 3) := by decide +kernel
theorem d_Mod_drawn_38 : decode b_Mod_drawn 38 = .ok (.istore 4, 2) := by decide +kernel
theorem d_Mod_drawn_40 : decode b_Mod_drawn 40 = .ok (.aload_n 0, 1) := by decide +kernel
theorem d_Mod_drawn_41 : decode b_Mod_drawn 41 = .ok (.getfield 99, 3) := by decide +kernel
theorem d_Mod_drawn_44 : decode b_Mod_drawn 44 = .ok (.ifCond .eq 32, 3) := by decide +kernel
theorem d_Mod_drawn_47 : decode b_Mod_drawn 47 = .ok (.iinc 4 1, 3) := by decide +kernel
theorem d_Mod_drawn_50 : decode b_Mod_drawn 50 = .ok (.iload 4, 2) := by decide +kernel
theorem d_Mod_drawn_52 : decode b_Mod_drawn 52 = .ok (.aload_n 0, 1) := by decide +kernel
theorem d_Mod_drawn_53 : decode b_Mod_drawn 53 = .ok (.getfield 35, 3) := by decide +kernel
theorem d_Mod_drawn_56 : decode b_Mod_drawn 56 = .ok (.if_icmp .ge 48, 3) := by decide +kernel
theorem d_Mod_drawn_59 : decode b_Mod_drawn 59 = .ok (.aload_n 0, 1) := by decide +kernel
theorem d_Mod_drawn_60 : decode b_Mod_drawn 60 = .ok (.iconst 1, 1) := by decide +kernel
theorem d_Mod_drawn_61 : decode b_Mod_drawn 61 = .ok (.iload_n 3, 1) := by decide +kernel
theorem d_Mod_drawn_62 : decode b_Mod_drawn 62 = .ok (.iload 4, 2) := by decide +kernel
theorem d_Mod_drawn_64 : decode b_Mod_drawn 64 = .ok (.invokevirtual 92, 3) := by decide +kernel
theorem d_Mod_drawn_67 : decode b_Mod_drawn 67 = .ok (.ifCond .ne 37, 3) := by decide +kernel
theorem d_Mod_drawn_70 : decode b_Mod_drawn 70 = .ok (.iinc 4 1, 3) := by decide +kernel
theorem d_Mod_drawn_73 : decode b_Mod_drawn 73 = .ok (.goto (-23), 3) := by decide +kernel
theorem d_Mod_drawn_76 : decode b_Mod_drawn 76 = .ok (.iinc 3 1, 3) := by decide +kernel
theorem d_Mod_drawn_79 : decode b_Mod_drawn 79 = .ok (.iload_n 3, 1) := by decide +kernel
theorem d_Mod_drawn_80 : decode b_Mod_drawn 80 = .ok (.aload_n 0, 1) := by decide +kernel
theorem d_Mod_drawn_81 : decode b_Mod_drawn 81 = .ok (.getfield 31, 3) := by decide +kernel
theorem d_Mod_drawn_84 : decode b_Mod_drawn 84 = .ok (.if_icmp .ge 20, 3) := by decide +kernel
theorem d_Mod_drawn_87 : decode b_Mod_drawn 87 = .ok (.aload_n 0, 1) := by decide +kernel
theorem d_Mod_drawn_88 : decode b_Mod_drawn 88 = .ok (.iconst 0, 1) := by decide +kernel
theorem d_Mod_drawn_89 : decode b_Mod_drawn 89 = .ok (.iload_n 3, 1) := by decide +kernel
theorem d_Mod_drawn_90 : decode b_Mod_drawn 90 = .ok (.iload 4, 2) := by decide +kernel
theorem d_Mod_drawn_92 : decode b_Mod_drawn 92 = .ok (.invokevirtual 92, 3) := by decide +kernel
theorem d_Mod_drawn_95 : decode b_Mod_drawn 95 = .ok (.ifCond .ne 9, 3) := by decide +kernel
theorem d_Mod_drawn_98 : decode b_Mod_drawn 98 = .ok (.iinc 3 1, 3) := by decide +kernel
theorem d_Mod_drawn_101 : decode b_Mod_drawn 101 = .ok (.goto (-22), 3) := by decide +kernel
theorem d_Mod_drawn_104 : decode b_Mod_drawn 104 = .ok (.iload_n 2, 1) := by decide +kernel
theorem d_Mod_drawn_105 : decode b_Mod_drawn 105 = .ok (.tableswitch 46 0 3 #[31, 36, 41, 43], 31) := by decide +kernel
theorem d_Mod_drawn_136 : decode b_Mod_drawn 136 = .ok (.aload_n 0, 1) := by decide +kernel
theorem d_Mod_drawn_137 : decode b_Mod_drawn 137 = .ok (.getfield 103, 3) := by decide +kernel
theorem d_Mod_drawn_140 : decode b_Mod_drawn 140 = .ok (.ireturn, 1) := by decide +kernel
theorem d_Mod_drawn_141 : decode b_Mod_drawn 141 = .ok (.aload_n 0, 1) := by decide +kernel
theorem d_Mod_drawn_142 : decode b_Mod_drawn 142 = .ok (.getfield 106, 3) := by decide +kernel
theorem d_Mod_drawn_145 : decode b_Mod_drawn 145 = .ok (.ireturn, 1) := by decide +kernel
theorem d_Mod_drawn_146 : decode b_Mod_drawn 146 = .ok (.iload_n 3, 1) := by decide +kernel
theorem d_Mod_drawn_147 : decode b_Mod_drawn 147 = .ok (.ireturn, 1) := by decide +kernel
theorem d_Mod_drawn_148 : decode b_Mod_drawn 148 = .ok (.iload 4, 2) := by decide +kernel
theorem d_Mod_drawn_150 : decode b_Mod_drawn 150 = .ok (.ireturn, 1) := by decide +kernel
theorem d_Mod_drawn_151 : decode b_Mod_drawn 151 = .ok (.aload_n 0, 1) := by decide +kernel
theorem d_Mod_drawn_152 : decode b_Mod_drawn 152 = .ok (.aload_n 0, 1) := by decide +kernel
theorem d_Mod_drawn_153 : decode b_Mod_drawn 153 = .ok (.getfield 99, 3) := by decide +kernel
theorem d_Mod_drawn_156 : decode b_Mod_drawn 156 = .ok (.aload_n 0, 1) := by decide +kernel
theorem d_Mod_drawn_157 : decode b_Mod_drawn 157 = .ok (.getfield 103, 3) := by decide +kernel
theorem d_Mod_drawn_160 : decode b_Mod_drawn 160 = .ok (.aload_n 0, 1) := by decide +kernel
theorem d_Mod_drawn_161 : decode b_Mod_drawn 161 = .ok (.getfield 106, 3) := by decide +kernel
theorem d_Mod_drawn_164 : decode b_Mod_drawn 164 = .ok (.invokevirtual 88, 3) := by decide +kernel
theorem d_Mod_drawn_167 : decode b_Mod_drawn 167 = .ok (.ifCond .eq 7, 3) := by decide +kernel
theorem d_Mod_drawn_170 : decode b_Mod_drawn 170 = .ok (.iconst 1, 1) := by decide +kernel
theorem d_Mod_drawn_171 : decode b_Mod_drawn 171 = .ok (.goto 4, 3) := by decide +kernel
theorem d_Mod_drawn_174 : decode b_Mod_drawn 174 = .ok (.iconst 0, 1) := by decide +kernel
theorem d_Mod_drawn_175 : decode b_Mod_drawn 175 = .ok (.ireturn, 1) := by decide +kernel
theorem d_Mod_code_0 : decode b_Mod_code 0 = .ok (.aload_n 0, 1) := by decide +kernel
theorem d_Mod_code_1 : decode b_Mod_code 1 = .ok (.iconst 0, 1) := by decide +kernel
theorem d_Mod_code_2 : decode b_Mod_code 2 = .ok (.putfield 48, 3) := by decide +kernel
theorem d_Mod_code_5 : decode b_Mod_code 5 = .ok (.iload_n 1, 1) := by decide +kernel
theorem d_Mod_code_6 : decode b_Mod_code 6 = .ok (.iconst 0, 1) := by decide +kernel
theorem d_Mod_code_7 : decode b_Mod_code 7 = .ok (.sipush 255, 3) := by decide +kernel
theorem d_Mod_code_10 : decode b_Mod_code 10 = .ok (.invokestatic 51, 3) := by decide +kernel
theorem d_Mod_code_13 : decode b_Mod_code 13 = .ok (.ifCond .eq 12, 3) := by decide +kernel
theorem d_Mod_code_16 : decode b_Mod_code 16 = .ok (.aload_n 0, 1) := by decide +kernel
theorem d_Mod_code_17 : decode b_Mod_code 17 = .ok (.getfield 113, 3) := by decide +kernel
theorem d_Mod_code_20 : decode b_Mod_code 20 = .ok (.bipush 12, 2) := by decide +kernel
theorem d_Mod_code_22 : decode b_Mod_code 22 = .ok (.if_icmp .ne 5, 3) := by decide +kernel
theorem d_Mod_code_25 : decode b_Mod_code 25 = .ok (.iconst 0, 1) := by decide +kernel
theorem d_Mod_code_26 : decode b_Mod_code 26 = .ok (.ireturn, 1) := by decide +kernel
theorem d_Mod_code_27 : decode b_Mod_code 27 = .ok (.aload_n 0, 1) := by decide +kernel
theorem d_Mod_code_28 : decode b_Mod_code 28 = .ok (.getfield 41, 3) := by decide +kernel
theorem d_Mod_code_31 : decode b_Mod_code 31 = .ok (.aload_n 0, 1) := by decide +kernel
theorem d_Mod_code_32 : decode b_Mod_code 32 = .ok (.getfield 113, 3) := by decide +kernel
theorem d_Mod_code_35 : decode b_Mod_code 35 = .ok (.iload_n 1, 1) := by decide +kernel
theorem d_Mod_code_36 : decode b_Mod_code 36 = .ok (.iastore, 1) := by decide +kernel
theorem d_Mod_code_37 : decode b_Mod_code 37 = .ok (.aload_n 0, 1) := by decide +kernel
theorem d_Mod_code_38 : decode b_Mod_code 38 = .ok (.dup, 1) := by decide +kernel
theorem d_Mod_code_39 : decode b_Mod_code 39 = .ok (.getfield 113, 3) := by decide +kernel
theorem d_Mod_code_42 : decode b_Mod_code 42 = .ok (.iconst 1, 1) := by decide +kernel
theorem d_Mod_code_43 : decode b_Mod_code 43 = .ok (.iadd, 1) := by decide +kernel
theorem d_Mod_code_44 : decode b_Mod_code 44 = .ok (.putfield 113, 3) := by decide +kernel
theorem d_Mod_code_47 : decode b_Mod_code 47 = .ok (.iconst 0, 1) := by decide +kernel
theorem d_Mod_code_48 : decode b_Mod_code 48 = .ok (.istore_n 2, 1) := by decide +kernel
theorem d_Mod_code_49 : decode b_Mod_code 49 = .ok (.iload_n 2, 1) := by decide +kernel
theorem d_Mod_code_50 : decode b_Mod_code 50 = .ok (.bipush 117, 2) := by decide +kernel
theorem d_Mod_code_52 : decode b_Mod_code 52 = .ok (.if_icmp .ge 16, 3) := by decide +kernel
theorem d_Mod_code_55 : decode b_Mod_code 55 = .ok (.aload_n 0, 1) := by decide +kernel
theorem d_Mod_code_56 : decode b_Mod_code 56 = .ok (.getfield 44, 3) := by decide +kernel
theorem d_Mod_code_59 : decode b_Mod_code 59 = .ok (.iload_n 2, 1) := by decide +kernel
theorem d_Mod_code_60 : decode b_Mod_code 60 = .ok (.iconst 0, 1) := by decide +kernel
theorem d_Mod_code_61 : decode b_Mod_code 61 = .ok (.bastore, 1) := by decide +kernel
theorem d_Mod_code_62 : decode b_Mod_code 62 = .ok (.iinc 2 1, 3) := by decide +kernel
theorem d_Mod_code_65 : decode b_Mod_code 65 = .ok (.goto (-16), 3) := by decide +kernel
theorem d_Mod_code_68 : decode b_Mod_code 68 = .ok (.iconst 1, 1) := by decide +kernel
theorem d_Mod_code_69 : decode b_Mod_code 69 = .ok (.ireturn, 1) := by decide +kernel
theorem d_Mod_rows_0 : decode b_Mod_rows 0 = .ok (.aload_n 0, 1) := by decide +kernel
theorem d_Mod_rows_1 : decode b_Mod_rows 1 = .ok (.iconst 0, 1) := by decide +kernel
theorem d_Mod_rows_2 : decode b_Mod_rows 2 = .ok (.putfield 48, 3) := by decide +kernel
theorem d_Mod_rows_5 : decode b_Mod_rows 5 = .ok (.aload_n 0, 1) := by decide +kernel
theorem d_Mod_rows_6 : decode b_Mod_rows 6 = .ok (.getfield 113, 3) := by decide +kernel
theorem d_Mod_rows_9 : decode b_Mod_rows 9 = .ok (.ifCond .ne 7, 3) := by decide +kernel
theorem d_Mod_rows_12 : decode b_Mod_rows 12 = .ok (.iconst 0, 1) := by decide +kernel
theorem d_Mod_rows_13 : decode b_Mod_rows 13 = .ok (.goto 9, 3) := by decide +kernel
theorem d_Mod_rows_16 : decode b_Mod_rows 16 = .ok (.aload_n 0, 1) := by decide +kernel
theorem d_Mod_rows_17 : decode b_Mod_rows 17 = .ok (.getfield 113, 3) := by decide +kernel
theorem d_Mod_rows_20 : decode b_Mod_rows 20 = .ok (.iconst 1, 1) := by decide +kernel
theorem d_Mod_rows_21 : decode b_Mod_rows 21 = .ok (.iadd, 1) := by decide +kernel
theorem d_Mod_rows_22 : decode b_Mod_rows 22 = .ok (.ireturn, 1) := by decide +kernel
theorem d_Mod_isSquare_0 : decode b_Mod_isSquare 0 = .ok (.aload_n 0, 1) := by decide +kernel
theorem d_Mod_isSquare_1 : decode b_Mod_isSquare 1 = .ok (.getfield 113, 3) := by decide +kernel
theorem d_Mod_isSquare_4 : decode b_Mod_isSquare 4 = .ok (.ifCond .le 29, 3) := by decide +kernel
theorem d_Mod_isSquare_7 : decode b_Mod_isSquare 7 = .ok (.iload_n 1, 1) := by decide +kernel
theorem d_Mod_isSquare_8 : decode b_Mod_isSquare 8 = .ok (.iconst 0, 1) := by decide +kernel
theorem d_Mod_isSquare_9 : decode b_Mod_isSquare 9 = .ok (.bipush 8, 2) := by decide +kernel
