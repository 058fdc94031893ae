theorem d_PF_init_0 : decode b_PF_init 0 = .ok (.aload_n 0, 1) := by decide +kernel
theorem d_PF_init_1 : decode b_PF_init 1 = .ok (.invokespecial 1, 3) := by decide +kernel
theorem d_PF_init_4 : decode b_PF_init 4 = .ok (.aload_n 0, 1) := by decide +kernel
theorem d_PF_init_5 : decode b_PF_init 5 = .ok (.new 7, 3) := by decide +kernel
theorem d_PF_init_8 : decode b_PF_init 8 = .ok (.dup, 1) := by decide +kernel
theorem d_PF_init_9 : decode b_PF_init 9 = .ok (.invokespecial 9, 3) := by decide +kernel
theorem d_PF_init_12 : decode b_PF_init 12 = .ok (.putfield 10, 3) := by decide +kernel
theorem d_PF_init_15 : decode b_PF_init 15 = .ok (.aload_n 0, 1) := by decide +kernel
theorem d_PF_init_16 : decode b_PF_init 16 = .ok (.new 16, 3) := by decide +kernel
theorem d_PF_init_19 : decode b_PF_init 19 = .ok (.dup, 1) := by decide +kernel
theorem d_PF_init_20 : decode b_PF_init 20 = .ok (.invokespecial 18, 3) := by decide +kernel
theorem d_PF_init_23 : decode b_PF_init 23 = .ok (.putfield 19, 3) := by decide +kernel
theorem d_PF_init_26 : decode b_PF_init 26 = .ok (.aload_n 0, 1) := by decide +kernel
theorem d_PF_init_27 : decode b_PF_init 27 = .ok (.new 23, 3) := by decide +kernel
theorem d_PF_init_30 : decode b_PF_init 30 = .ok (.dup, 1) := by decide +kernel
theorem d_PF_init_31 : decode b_PF_init 31 = .ok (.invokespecial 25, 3) := by decide +kernel
theorem d_PF_init_34 : decode b_PF_init 34 = .ok (.putfield 26, 3) := by decide +kernel
theorem d_PF_init_37 : decode b_PF_init 37 = .ok (.aload_n 0, 1) := by decide +kernel
theorem d_PF_init_38 : decode b_PF_init 38 = .ok (.new 30, 3) := by decide +kernel
theorem d_PF_init_41 : decode b_PF_init 41 = .ok (.dup, 1) := by decide +kernel
theorem d_PF_init_42 : decode b_PF_init 42 = .ok (.invokespecial 32, 3) := by decide +kernel
theorem d_PF_init_45 : decode b_PF_init 45 = .ok (.putfield 33, 3) := by decide +kernel
theorem d_PF_init_48 : decode b_PF_init 48 = .ok (.return_, 1) := by decide +kernel
theorem d_PF_unit_0 : decode b_PF_unit 0 = .ok (.aload_n 0, 1) := by decide +kernel
theorem d_PF_unit_1 : decode b_PF_unit 1 = .ok (.getfield 10, 3) := by decide +kernel
theorem d_PF_unit_4 : decode b_PF_unit 4 = .ok (.iload_n 1, 1) := by decide +kernel
theorem d_PF_unit_5 : decode b_PF_unit 5 = .ok (.invokevirtual 37, 3) := by decide +kernel
theorem d_PF_unit_8 : decode b_PF_unit 8 = .ok (.ireturn, 1) := by decide +kernel
theorem d_PF_broken_0 : decode b_PF_broken 0 = .ok (.aload_n 0, 1) := by decide +kernel
theorem d_PF_broken_1 : decode b_PF_broken 1 = .ok (.getfield 10, 3) := by decide +kernel
theorem d_PF_broken_4 : decode b_PF_broken 4 = .ok (.iload_n 1, 1) := by decide +kernel
theorem d_PF_broken_5 : decode b_PF_broken 5 = .ok (.invokevirtual 41, 3) := by decide +kernel
theorem d_PF_broken_8 : decode b_PF_broken 8 = .ok (.ireturn, 1) := by decide +kernel
theorem d_PF_line_0 : decode b_PF_line 0 = .ok (.aload_n 0, 1) := by decide +kernel
theorem d_PF_line_1 : decode b_PF_line 1 = .ok (.getfield 10, 3) := by decide +kernel
theorem d_PF_line_4 : decode b_PF_line 4 = .ok (.iload_n 1, 1) := by decide +kernel
theorem d_PF_line_5 : decode b_PF_line 5 = .ok (.invokevirtual 45, 3) := by decide +kernel
theorem d_PF_line_8 : decode b_PF_line 8 = .ok (.ireturn, 1) := by decide +kernel
theorem d_PF_rest_0 : decode b_PF_rest 0 = .ok (.aload_n 0, 1) := by decide +kernel
theorem d_PF_rest_1 : decode b_PF_rest 1 = .ok (.getfield 10, 3) := by decide +kernel
theorem d_PF_rest_4 : decode b_PF_rest 4 = .ok (.invokevirtual 48, 3) := by decide +kernel
theorem d_PF_rest_7 : decode b_PF_rest 7 = .ok (.ireturn, 1) := by decide +kernel
theorem d_PF_clear_0 : decode b_PF_clear 0 = .ok (.aload_n 0, 1) := by decide +kernel
theorem d_PF_clear_1 : decode b_PF_clear 1 = .ok (.getfield 10, 3) := by decide +kernel
theorem d_PF_clear_4 : decode b_PF_clear 4 = .ok (.invokevirtual 52, 3) := by decide +kernel
theorem d_PF_clear_7 : decode b_PF_clear 7 = .ok (.return_, 1) := by decide +kernel
theorem d_PF_box_0 : decode b_PF_box 0 = .ok (.aload_n 0, 1) := by decide +kernel
theorem d_PF_box_1 : decode b_PF_box 1 = .ok (.getfield 19, 3) := by decide +kernel
theorem d_PF_box_4 : decode b_PF_box 4 = .ok (.iload_n 1, 1) := by decide +kernel
theorem d_PF_box_5 : decode b_PF_box 5 = .ok (.invokevirtual 55, 3) := by decide +kernel
theorem d_PF_box_8 : decode b_PF_box 8 = .ok (.ireturn, 1) := by decide +kernel
theorem d_PF_pages_0 : decode b_PF_pages 0 = .ok (.aload_n 0, 1) := by decide +kernel
theorem d_PF_pages_1 : decode b_PF_pages 1 = .ok (.getfield 19, 3) := by decide +kernel
theorem d_PF_pages_4 : decode b_PF_pages 4 = .ok (.iload_n 1, 1) := by decide +kernel
theorem d_PF_pages_5 : decode b_PF_pages 5 = .ok (.iload_n 2, 1) := by decide +kernel
theorem d_PF_pages_6 : decode b_PF_pages 6 = .ok (.invokevirtual 58, 3) := by decide +kernel
theorem d_PF_pages_9 : decode b_PF_pages 9 = .ok (.ireturn, 1) := by decide +kernel
theorem d_PF_put_0 : decode b_PF_put 0 = .ok (.aload_n 0, 1) := by decide +kernel
theorem d_PF_put_1 : decode b_PF_put 1 = .ok (.getfield 19, 3) := by decide +kernel
theorem d_PF_put_4 : decode b_PF_put 4 = .ok (.iload_n 1, 1) := by decide +kernel
theorem d_PF_put_5 : decode b_PF_put 5 = .ok (.iload_n 2, 1) := by decide +kernel
theorem d_PF_put_6 : decode b_PF_put 6 = .ok (.iload_n 3, 1) := by decide +kernel
theorem d_PF_put_7 : decode b_PF_put 7 = .ok (.iload 4, 2) := by decide +kernel
theorem d_PF_put_9 : decode b_PF_put 9 = .ok (.invokevirtual 62, 3) := by decide +kernel
theorem d_PF_put_12 : decode b_PF_put 12 = .ok (.ireturn, 1) := by decide +kernel
theorem d_PF_grid_0 : decode b_PF_grid 0 = .ok (.aload_n 0, 1) := by decide +kernel
theorem d_PF_grid_1 : decode b_PF_grid 1 = .ok (.getfield 26, 3) := by decide +kernel
theorem d_PF_grid_4 : decode b_PF_grid 4 = .ok (.iload_n 1, 1) := by decide +kernel
theorem d_PF_grid_5 : decode b_PF_grid 5 = .ok (.iload_n 2, 1) := by decide +kernel
theorem d_PF_grid_6 : decode b_PF_grid 6 = .ok (.invokevirtual 66, 3) := by decide +kernel
theorem d_PF_grid_9 : decode b_PF_grid 9 = .ok (.ireturn, 1) := by decide +kernel
theorem d_PF_cage_0 : decode b_PF_cage 0 = .ok (.aload_n 0, 1) := by decide +kernel
theorem d_PF_cage_1 : decode b_PF_cage 1 = .ok (.getfield 26, 3) := by decide +kernel
theorem d_PF_cage_4 : decode b_PF_cage 4 = .ok (.iload_n 1, 1) := by decide +kernel
theorem d_PF_cage_5 : decode b_PF_cage 5 = .ok (.iload_n 2, 1) := by decide +kernel
theorem d_PF_cage_6 : decode b_PF_cage 6 = .ok (.invokevirtual 70, 3) := by decide +kernel
theorem d_PF_cage_9 : decode b_PF_cage 9 = .ok (.ireturn, 1) := by decide +kernel
theorem d_PF_lines_0 : decode b_PF_lines 0 = .ok (.aload_n 0, 1) := by decide +kernel
theorem d_PF_lines_1 : decode b_PF_lines 1 = .ok (.getfield 26, 3) := by decide +kernel
theorem d_PF_lines_4 : decode b_PF_lines 4 = .ok (.invokevirtual 73, 3) := by decide +kernel
theorem d_PF_lines_7 : decode b_PF_lines 7 = .ok (.ireturn, 1) := by decide +kernel
theorem d_PF_drawn_0 : decode b_PF_drawn 0 = .ok (.aload_n 0, 1) := by decide +kernel
theorem d_PF_drawn_1 : decode b_PF_drawn 1 = .ok (.getfield 26, 3) := by decide +kernel
theorem d_PF_drawn_4 : decode b_PF_drawn 4 = .ok (.iload_n 1, 1) := by decide +kernel
theorem d_PF_drawn_5 : decode b_PF_drawn 5 = .ok (.iload_n 2, 1) := by decide +kernel
theorem d_PF_drawn_6 : decode b_PF_drawn 6 = .ok (.invokevirtual 76, 3) := by decide +kernel
theorem d_PF_drawn_9 : decode b_PF_drawn 9 = .ok (.ireturn, 1) := by decide +kernel
theorem d_PF_code_0 : decode b_PF_code 0 = .ok (.aload_n 0, 1) := by decide +kernel
theorem d_PF_code_1 : decode b_PF_code 1 = .ok (.getfield 33, 3) := by decide +kernel
theorem d_PF_code_4 : decode b_PF_code 4 = .ok (.iload_n 1, 1) := by decide +kernel
theorem d_PF_code_5 : decode b_PF_code 5 = .ok (.invokevirtual 79, 3) := by decide +kernel
theorem d_PF_code_8 : decode b_PF_code 8 = .ok (.ireturn, 1) := by decide +kernel
theorem d_PF_rows_0 : decode b_PF_rows 0 = .ok (.aload_n 0, 1) := by decide +kernel
theorem d_PF_rows_1 : decode b_PF_rows 1 = .ok (.getfield 33, 3) := by decide +kernel
theorem d_PF_rows_4 : decode b_PF_rows 4 = .ok (.invokevirtual 80, 3) := by decide +kernel
theorem d_PF_rows_7 : decode b_PF_rows 7 = .ok (.ireturn, 1) := by decide +kernel
theorem d_PF_dark_0 : decode b_PF_dark 0 = .ok (.aload_n 0, 1) := by decide +kernel
theorem d_PF_dark_1 : decode b_PF_dark 1 = .ok (.getfield 33, 3) := by decide +kernel
theorem d_PF_dark_4 : decode b_PF_dark 4 = .ok (.iload_n 1, 1) := by decide +kernel
theorem d_PF_dark_5 : decode b_PF_dark 5 = .ok (.iload_n 2, 1) := by decide +kernel
theorem d_PF_dark_6 : decode b_PF_dark 6 = .ok (.invokevirtual 83, 3) := by decide +kernel
theorem d_PF_dark_9 : decode b_PF_dark 9 = .ok (.ireturn, 1) := by decide +kernel
theorem d_PF_spoil_0 : decode b_PF_spoil 0 = .ok (.aload_n 0, 1) := by decide +kernel
theorem d_PF_spoil_1 : decode b_PF_spoil 1 = .ok (.getfield 33, 3) := by decide +kernel
theorem d_PF_spoil_4 : decode b_PF_spoil 4 = .ok (.iload_n 1, 1) := by decide +kernel
theorem d_PF_spoil_5 : decode b_PF_spoil 5 = .ok (.iload_n 2, 1) := by decide +kernel
theorem d_PF_spoil_6 : decode b_PF_spoil 6 = .ok (.invokevirtual 86, 3) := by decide +kernel
theorem d_PF_spoil_9 : decode b_PF_spoil 9 = .ok (.ireturn, 1) := by decide +kernel
theorem d_PF_read_0 : decode b_PF_read 0 = .ok (.aload_n 0, 1) := by decide +kernel
theorem d_PF_read_1 : decode b_PF_read 1 = .ok (.getfield 33, 3) := by decide +kernel
theorem d_PF_read_4 : decode b_PF_read 4 = .ok (.invokevirtual 89, 3) := by decide +kernel
theorem d_PF_read_7 : decode b_PF_read 7 = .ok (.ireturn, 1) := by decide +kernel
theorem d_PF_byteAt_0 : decode b_PF_byteAt 0 = .ok (.aload_n 0, 1) := by decide +kernel
theorem d_PF_byteAt_1 : decode b_PF_byteAt 1 = .ok (.getfield 33, 3) := by decide +kernel
theorem d_PF_byteAt_4 : decode b_PF_byteAt 4 = .ok (.iload_n 1, 1) := by decide +kernel
theorem d_PF_byteAt_5 : decode b_PF_byteAt 5 = .ok (.invokevirtual 92, 3) := by decide +kernel
theorem d_PF_byteAt_8 : decode b_PF_byteAt 8 = .ok (.ireturn, 1) := by decide +kernel
theorem d_PF_wipe_0 : decode b_PF_wipe 0 = .ok (.aload_n 0, 1) := by decide +kernel
theorem d_PF_wipe_1 : decode b_PF_wipe 1 = .ok (.getfield 33, 3) := by decide +kernel
theorem d_PF_wipe_4 : decode b_PF_wipe 4 = .ok (.invokevirtual 95, 3) := by decide +kernel
theorem d_PF_wipe_7 : decode b_PF_wipe 7 = .ok (.return_, 1) := by decide +kernel
theorem d_Mod_init_0 : decode b_Mod_init 0 = .ok (.aload_n 0, 1) := by decide +kernel
theorem d_Mod_init_1 : decode b_Mod_init 1 = .ok (.invokespecial 1, 3) := by decide +kernel
theorem d_Mod_init_4 : decode b_Mod_init 4 = .ok (.aload_n 0, 1) := by decide +kernel
theorem d_Mod_init_5 : decode b_Mod_init 5 = .ok (.sipush 200, 3) := by decide +kernel
theorem d_Mod_init_8 : decode b_Mod_init 8 = .ok (.newarray .int, 2) := by decide +kernel
theorem d_Mod_init_10 : decode b_Mod_init 10 = .ok (.putfield 7, 3) := by decide +kernel
theorem d_Mod_init_13 : decode b_Mod_init 13 = .ok (.aload_n 0, 1) := by decide +kernel
theorem d_Mod_init_14 : decode b_Mod_init 14 = .ok (.bipush 101, 2) := by decide +kernel
theorem d_Mod_init_16 : decode b_Mod_init 16 = .ok (.newarray .int, 2) := by decide +kernel
theorem d_Mod_init_18 : decode b_Mod_init 18 = .ok (.putfield 13, 3) := by decide +kernel
theorem d_Mod_init_21 : decode b_Mod_init 21 = .ok (.aload_n 0, 1) := by decide +kernel
theorem d_Mod_init_22 : decode b_Mod_init 22 = .ok (.bipush 101, 2) := by decide +kernel
theorem d_Mod_init_24 : decode b_Mod_init 24 = .ok (.newarray .int, 2) := by decide +kernel
theorem d_Mod_init_26 : decode b_Mod_init 26 = .ok (.putfield 16, 3) := by decide +kernel
theorem d_Mod_init_29 : decode b_Mod_init 29 = .ok (.aload_n 0, 1) := by decide +kernel
theorem d_Mod_init_30 : decode b_Mod_init 30 = .ok (.bipush 102, 2) := by decide +kernel
theorem d_Mod_init_32 : decode b_Mod_init 32 = .ok (.newarray .int, 2) := by decide +kernel
theorem d_Mod_init_34 : decode b_Mod_init 34 = .ok (.putfield 19, 3) := by decide +kernel
theorem d_Mod_init_37 : decode b_Mod_init 37 = .ok (.aload_n 0, 1) := by decide +kernel
theorem d_Mod_init_38 : decode b_Mod_init 38 = .ok (.bipush 102, 2) := by decide +kernel
theorem d_Mod_init_40 : decode b_Mod_init 40 = .ok (.newarray .int, 2) := by decide +kernel
theorem d_Mod_init_42 : decode b_Mod_init 42 = .ok (.putfield 22, 3) := by decide +kernel
theorem d_Mod_init_45 : decode b_Mod_init 45 = .ok (.aload_n 0, 1) := by decide +kernel
theorem d_Mod_init_46 : decode b_Mod_init 46 = .ok (.bipush 101, 2) := by decide +kernel
theorem d_Mod_init_48 : decode b_Mod_init 48 = .ok (.newarray .int, 2) := by decide +kernel
theorem d_Mod_init_50 : decode b_Mod_init 50 = .ok (.putfield 25, 3) := by decide +kernel
theorem d_Mod_init_53 : decode b_Mod_init 53 = .ok (.aload_n 0, 1) := by decide +kernel
theorem d_Mod_init_54 : decode b_Mod_init 54 = .ok (.bipush 60, 2) := by decide +kernel
theorem d_Mod_init_56 : decode b_Mod_init 56 = .ok (.newarray .int, 2) := by decide +kernel
theorem d_Mod_init_58 : decode b_Mod_init 58 = .ok (.putfield 28, 3) := by decide +kernel
theorem d_Mod_init_61 : decode b_Mod_init 61 = .ok (.aload_n 0, 1) := by decide +kernel
theorem d_Mod_init_62 : decode b_Mod_init 62 = .ok (.iconst 1, 1) := by decide +kernel
theorem d_Mod_init_63 : decode b_Mod_init 63 = .ok (.putfield 31, 3) := by decide +kernel
theorem d_Mod_init_66 : decode b_Mod_init 66 = .ok (.aload_n 0, 1) := by decide +kernel
theorem d_Mod_init_67 : decode b_Mod_init 67 = .ok (.iconst 1, 1) := by decide +kernel
theorem d_Mod_init_68 : decode b_Mod_init 68 = .ok (.putfield 35, 3) := by decide +kernel
theorem d_Mod_init_71 : decode b_Mod_init 71 = .ok (.aload_n 0, 1) := by decide +kernel
theorem d_Mod_init_72 : decode b_Mod_init 72 = .ok (.bipush 64, 2) := by decide +kernel
theorem d_Mod_init_74 : decode b_Mod_init 74 = .ok (.newarray .int, 2) := by decide +kernel
theorem d_Mod_init_76 : decode b_Mod_init 76 = .ok (.putfield 38, 3) := by decide +kernel
theorem d_Mod_init_79 : decode b_Mod_init 79 = .ok (.aload_n 0, 1) := by decide +kernel
theorem d_Mod_init_80 : decode b_Mod_init 80 = .ok (.bipush 12, 2) := by decide +kernel
theorem d_Mod_init_82 : decode b_Mod_init 82 = .ok (.newarray .int, 2) := by decide +kernel
theorem d_Mod_init_84 : decode b_Mod_init 84 = .ok (.putfield 41, 3) := by decide +kernel
theorem d_Mod_init_87 : decode b_Mod_init 87 = .ok (.aload_n 0, 1) := by decide +kernel
theorem d_Mod_init_88 : decode b_Mod_init 88 = .ok (.bipush 117, 2) := by decide +kernel
theorem d_Mod_init_90 : decode b_Mod_init 90 = .ok (.newarray .boolean, 2) := by decide +kernel
theorem d_Mod_init_92 : decode b_Mod_init 92 = .ok (.putfield 44, 3) := by decide +kernel
theorem d_Mod_init_95 : decode b_Mod_init 95 = .ok (.return_, 1) := by decide +kernel
theorem d_Mod_within_0 : decode b_Mod_within 0 = .ok (.iload_n 0, 1) := by decide +kernel
theorem d_Mod_within_1 : decode b_Mod_within 1 = .ok (.iload_n 1, 1) := by decide +kernel
theorem d_Mod_within_2 : decode b_Mod_within 2 = .ok (.if_icmp .lt 12, 3) := by decide +kernel
theorem d_Mod_within_5 : decode b_Mod_within 5 = .ok (.iload_n 0, 1) := by decide +kernel
theorem d_Mod_within_6 : decode b_Mod_within 6 = .ok (.iload_n 2, 1) := by decide +kernel
theorem d_Mod_within_7 : decode b_Mod_within 7 = .ok (.if_icmp .gt 7, 3) := by decide +kernel
theorem d_Mod_within_10 : decode b_Mod_within 10 = .ok (.iconst 1, 1) := by decide +kernel
theorem d_Mod_within_11 : decode b_Mod_within 11 = .ok (.goto 4, 3) := by decide +kernel
theorem d_Mod_within_14 : decode b_Mod_within 14 = .ok (.iconst 0, 1) := by decide +kernel
theorem d_Mod_within_15 : decode b_Mod_within 15 = .ok (.ireturn, 1) := by decide +kernel
theorem d_Mod_unit_0 : decode b_Mod_unit 0 = .ok (.aload_n 0, 1) := by decide +kernel
theorem d_Mod_unit_1 : decode b_Mod_unit 1 = .ok (.iconst 0, 1) := by decide +kernel
theorem d_Mod_unit_2 : decode b_Mod_unit 2 = .ok (.putfield 48, 3) := by decide +kernel
theorem d_Mod_unit_5 : decode b_Mod_unit 5 = .ok (.iload_n 1, 1) := by decide +kernel
theorem d_Mod_unit_6 : decode b_Mod_unit 6 = .ok (.bipush 32, 2) := by decide +kernel
theorem d_Mod_unit_8 : decode b_Mod_unit 8 = .ok (.bipush 126, 2) := by decide +kernel
theorem d_Mod_unit_10 : decode b_Mod_unit 10 = .ok (.invokestatic 51, 3) := by decide +kernel
theorem d_Mod_unit_13 : decode b_Mod_unit 13 = .ok (.ifCond .eq 13, 3) := by decide +kernel
theorem d_Mod_unit_16 : decode b_Mod_unit 16 = .ok (.aload_n 0, 1) := by decide +kernel
theorem d_Mod_unit_17 : decode b_Mod_unit 17 = .ok (.getfield 55, 3) := by decide +kernel
theorem d_Mod_unit_20 : decode b_Mod_unit 20 = .ok (.sipush 200, 3) := by decide +kernel
theorem d_Mod_unit_23 : decode b_Mod_unit 23 = .ok (.if_icmp .ne 5, 3) := by decide +kernel
theorem d_Mod_unit_26 : decode b_Mod_unit 26 = .ok (.iconst 0, 1) := by decide +kernel
theorem d_Mod_unit_27 : decode b_Mod_unit 27 = .ok (.ireturn, 1) := by decide +kernel
theorem d_Mod_unit_28 : decode b_Mod_unit 28 = .ok (.aload_n 0, 1) := by decide +kernel
theorem d_Mod_unit_29 : decode b_Mod_unit 29 = .ok (.getfield 7, 3) := by decide +kernel
theorem d_Mod_unit_32 : decode b_Mod_unit 32 = .ok (.aload_n 0, 1) := by decide +kernel
theorem d_Mod_unit_33 : decode b_Mod_unit 33 = .ok (.getfield 55, 3) := by decide +kernel
theorem d_Mod_unit_36 : decode b_Mod_unit 36 = .ok (.iload_n 1, 1) := by decide +kernel
theorem d_Mod_unit_37 : decode b_Mod_unit 37 = .ok (.iastore, 1) := by decide +kernel
theorem d_Mod_unit_38 : decode b_Mod_unit 38 = .ok (.aload_n 0, 1) := by decide +kernel
theorem d_Mod_unit_39 : decode b_Mod_unit 39 = .ok (.dup, 1) := by decide +kernel
theorem d_Mod_unit_40 : decode b_Mod_unit 40 = .ok (.getfield 55, 3) := by decide +kernel
theorem d_Mod_unit_43 : decode b_Mod_unit 43 = .ok (.iconst 1, 1) := by decide +kernel
theorem d_Mod_unit_44 : decode b_Mod_unit 44 = .ok (.iadd, 1) := by decide +kernel
theorem d_Mod_unit_45 : decode b_Mod_unit 45 = .ok (.putfield 55, 3) := by decide +kernel
theorem d_Mod_unit_48 : decode b_Mod_unit 48 = .ok (.iconst 1, 1) := by decide +kernel
theorem d_Mod_unit_49 : decode b_Mod_unit 49 = .ok (.ireturn, 1) := by decide +kernel
theorem d_Mod_cutWords_0 : decode b_Mod_cutWords 0 = .ok (.iconst 0, 1) := by decide +kernel
theorem d_Mod_cutWords_1 : decode b_Mod_cutWords 1 = .ok (.istore_n 1, 1) := by decide +kernel
theorem d_Mod_cutWords_2 : decode b_Mod_cutWords 2 = .ok (.iconst 0, 1) := by decide +kernel
theorem d_Mod_cutWords_3 : decode b_Mod_cutWords 3 = .ok (.istore_n 2, 1) := by decide +kernel
theorem d_Mod_cutWords_4 : decode b_Mod_cutWords 4 = .ok (.iload_n 2, 1) := by decide +kernel
theorem d_Mod_cutWords_5 : decode b_Mod_cutWords 5 = .ok (.aload_n 0, 1) := by decide +kernel
theorem d_Mod_cutWords_6 : decode b_Mod_cutWords 6 = .ok (.getfield 55, 3) := by decide +kernel
theorem d_Mod_cutWords_9 : decode b_Mod_cutWords 9 = .ok (.if_icmp .ge 65, 3) := by decide +kernel
theorem d_Mod_cutWords_12 : decode b_Mod_cutWords 12 = .ok (.aload_n 0, 1) := by decide +kernel
theorem d_Mod_cutWords_13 : decode b_Mod_cutWords 13 = .ok (.getfield 7, 3) := by decide +kernel
theorem d_Mod_cutWords_16 : decode b_Mod_cutWords 16 = .ok (.iload_n 2, 1) := by decide +kernel
theorem d_Mod_cutWords_17 : decode b_Mod_cutWords 17 = .ok (.iaload, 1) := by decide +kernel
theorem d_Mod_cutWords_18 : decode b_Mod_cutWords 18 = .ok (.bipush 32, 2) := by decide +kernel
theorem d_Mod_cutWords_20 : decode b_Mod_cutWords 20 = .ok (.if_icmp .ne 9, 3) := by decide +kernel
theorem d_Mod_cutWords_23 : decode b_Mod_cutWords 23 = .ok (.iinc 2 1, 3) := by decide +kernel
theorem d_Mod_cutWords_26 : decode b_Mod_cutWords 26 = .ok (.goto (-22), 3) := by decide +kernel
theorem d_Mod_cutWords_29 : decode b_Mod_cutWords 29 = .ok (.aload_n 0, 1) := by decide +kernel
theorem d_Mod_cutWords_30 : decode b_Mod_cutWords 30 = .ok (.getfield 13, 3) := by decide +kernel
theorem d_Mod_cutWords_33 : decode b_Mod_cutWords 33 = .ok (.iload_n 1, 1) := by decide +kernel
theorem d_Mod_cutWords_34 : decode b_Mod_cutWords 34 = .ok (.iload_n 2, 1) := by decide +kernel
theorem d_Mod_cutWords_35 : decode b_Mod_cutWords 35 = .ok (.iastore, 1) := by decide +kernel
theorem d_Mod_cutWords_36 : decode b_Mod_cutWords 36 = .ok (.iload_n 2, 1) := by decide +kernel
theorem d_Mod_cutWords_37 : decode b_Mod_cutWords 37 = .ok (.aload_n 0, 1) := by decide +kernel
theorem d_Mod_cutWords_38 : decode b_Mod_cutWords 38 = .ok (.getfield 55, 3) := by decide +kernel
theorem d_Mod_cutWords_41 : decode b_Mod_cutWords 41 = .ok (.if_icmp .ge 20, 3) := by decide +kernel
theorem d_Mod_cutWords_44 : decode b_Mod_cutWords 44 = .ok (.aload_n 0, 1) := by decide +kernel
theorem d_Mod_cutWords_45 : decode b_Mod_cutWords 45 = .ok (.getfield 7, 3) := by decide +kernel
theorem d_Mod_cutWords_48 : decode b_Mod_cutWords 48 = .ok (.iload_n 2, 1) := by decide +kernel
theorem d_Mod_cutWords_49 : decode b_Mod_cutWords 49 = .ok (.iaload, 1) := by decide +kernel
theorem d_Mod_cutWords_50 : decode b_Mod_cutWords 50 = .ok (.bipush 32, 2) := by decide +kernel
theorem d_Mod_cutWords_52 : decode b_Mod_cutWords 52 = .ok (.if_icmp .eq 9, 3) := by decide +kernel
theorem d_Mod_cutWords_55 : decode b_Mod_cutWords 55 = .ok (.iinc 2 1, 3) := by decide +kernel
theorem d_Mod_cutWords_58 : decode b_Mod_cutWords 58 = .ok (.goto (-22), 3) := by decide +kernel
theorem d_Mod_cutWords_61 : decode b_Mod_cutWords 61 = .ok (.aload_n 0, 1) := by decide +kernel
theorem d_Mod_cutWords_62 : decode b_Mod_cutWords 62 = .ok (.getfield 16, 3) := by decide +kernel
theorem d_Mod_cutWords_65 : decode b_Mod_cutWords 65 = .ok (.iload_n 1, 1) := by decide +kernel
theorem d_Mod_cutWords_66 : decode b_Mod_cutWords 66 = .ok (.iload_n 2, 1) := by decide +kernel
theorem d_Mod_cutWords_67 : decode b_Mod_cutWords 67 = .ok (.iastore, 1) := by decide +kernel
theorem d_Mod_cutWords_68 : decode b_Mod_cutWords 68 = .ok (.iinc 1 1, 3) := by decide +kernel
theorem d_Mod_cutWords_71 : decode b_Mod_cutWords 71 = .ok (.goto (-67), 3) := by decide +kernel
theorem d_Mod_cutWords_74 : decode b_Mod_cutWords 74 = .ok (.iload_n 1, 1) := by decide +kernel
theorem d_Mod_cutWords_75 : decode b_Mod_cutWords 75 = .ok (.ireturn, 1) := by decide +kernel
theorem d_Mod_findLine_0 : decode b_Mod_findLine 0 = .ok (.aload_n 0, 1) := by decide +kernel
theorem d_Mod_findLine_1 : decode b_Mod_findLine 1 = .ok (.getfield 19, 3) := by decide +kernel
theorem d_Mod_findLine_4 : decode b_Mod_findLine 4 = .ok (.iload_n 1, 1) := by decide +kernel
theorem d_Mod_findLine_5 : decode b_Mod_findLine 5 = .ok (.iconst (-1), 1) := by decide +kernel
theorem d_Mod_findLine_6 : decode b_Mod_findLine 6 = .ok (.iastore, 1) := by decide +kernel
theorem d_Mod_findLine_7 : decode b_Mod_findLine 7 = .ok (.iconst (-1), 1) := by decide +kernel
theorem d_Mod_findLine_8 : decode b_Mod_findLine 8 = .ok (.istore 4, 2) := by decide +kernel
theorem d_Mod_findLine_10 : decode b_Mod_findLine 10 = .ok (.iload_n 1, 1) := by decide +kernel
theorem d_Mod_findLine_11 : decode b_Mod_findLine 11 = .ok (.istore 5, 2) := by decide +kernel
theorem d_Mod_findLine_13 : decode b_Mod_findLine 13 = .ok (.iload 5, 2) := by decide +kernel
theorem d_Mod_findLine_15 : decode b_Mod_findLine 15 = .ok (.iload_n 2, 1) := by decide +kernel
theorem d_Mod_findLine_16 : decode b_Mod_findLine 16 = .ok (.if_icmp .ge 101, 3) := by decide +kernel
theorem d_Mod_findLine_19 : decode b_Mod_findLine 19 = .ok (.iload 4, 2) := by decide +kernel
theorem d_Mod_findLine_21 : decode b_Mod_findLine 21 = .ok (.iconst 1, 1) := by decide +kernel
theorem d_Mod_findLine_22 : decode b_Mod_findLine 22 = .ok (.aload_n 0, 1) := by decide +kernel
theorem d_Mod_findLine_23 : decode b_Mod_findLine 23 = .ok (.getfield 16, 3) := by decide +kernel
theorem d_Mod_findLine_26 : decode b_Mod_findLine 26 = .ok (.iload 5, 2) := by decide +kernel
theorem d_Mod_findLine_28 : decode b_Mod_findLine 28 = .ok (.iaload, 1) := by decide +kernel
theorem d_Mod_findLine_29 : decode b_Mod_findLine 29 = .ok (.iadd, 1) := by decide +kernel
theorem d_Mod_findLine_30 : decode b_Mod_findLine 30 = .ok (.aload_n 0, 1) := by decide +kernel
theorem d_Mod_findLine_31 : decode b_Mod_findLine 31 = .ok (.getfield 13, 3) := by decide +kernel
theorem d_Mod_findLine_34 : decode b_Mod_findLine 34 = .ok (.iload 5, 2) := by decide +kernel
theorem d_Mod_findLine_36 : decode b_Mod_findLine 36 = .ok (.iaload, 1) := by decide +kernel
theorem d_Mod_findLine_37 : decode b_Mod_findLine 37 = .ok (.isub, 1) := by decide +kernel
theorem d_Mod_findLine_38 : decode b_Mod_findLine 38 = .ok (.iadd, 1) := by decide +kernel
theorem d_Mod_findLine_39 : decode b_Mod_findLine 39 = .ok (.istore 4, 2) := by decide +kernel
theorem d_Mod_findLine_41 : decode b_Mod_findLine 41 = .ok (.iload_n 3, 1) := by decide +kernel
theorem d_Mod_findLine_42 : decode b_Mod_findLine 42 = .ok (.iload 4, 2) := by decide +kernel
theorem d_Mod_findLine_44 : decode b_Mod_findLine 44 = .ok (.isub, 1) := by decide +kernel
theorem d_Mod_findLine_45 : decode b_Mod_findLine 45 = .ok (.istore 6, 2) := by decide +kernel
theorem d_Mod_findLine_47 : decode b_Mod_findLine 47 = .ok (.iload 6, 2) := by decide +kernel
theorem d_Mod_findLine_49 : decode b_Mod_findLine 49 = .ok (.ifCond .ge 4, 3) := by decide +kernel
theorem d_Mod_findLine_52 : decode b_Mod_findLine 52 = .ok (.return_, 1) := by decide +kernel
theorem d_Mod_findLine_53 : decode b_Mod_findLine 53 = .ok (.iload 6, 2) := by decide +kernel
theorem d_Mod_findLine_55 : decode b_Mod_findLine 55 = .ok (.iload 6, 2) := by decide +kernel
theorem d_Mod_findLine_57 : decode b_Mod_findLine 57 = .ok (.imul, 1) := by decide +kernel
theorem d_Mod_findLine_58 : decode b_Mod_findLine 58 = .ok (.aload_n 0, 1) := by decide +kernel
theorem d_Mod_findLine_59 : decode b_Mod_findLine 59 = .ok (.getfield 19, 3) := by decide +kernel
theorem d_Mod_findLine_62 : decode b_Mod_findLine 62 = .ok (.iload 5, 2) := by decide +kernel
theorem d_Mod_findLine_64 : decode b_Mod_findLine 64 = .ok (.iconst 1, 1) := by decide +kernel
theorem d_Mod_findLine_65 : decode b_Mod_findLine 65 = .ok (.iadd, 1) := by decide +kernel
theorem d_Mod_findLine_66 : decode b_Mod_findLine 66 = .ok (.iaload, 1) := by decide +kernel
theorem d_Mod_findLine_67 : decode b_Mod_findLine 67 = .ok (.iadd, 1) := by decide +kernel
theorem d_Mod_findLine_68 : decode b_Mod_findLine 68 = .ok (.istore 7, 2) := by decide +kernel
theorem d_Mod_findLine_70 : decode b_Mod_findLine 70 = .ok (.aload_n 0, 1) := by decide +kernel
theorem d_Mod_findLine_71 : decode b_Mod_findLine 71 = .ok (.getfield 19, 3) := by decide +kernel
theorem d_Mod_findLine_74 : decode b_Mod_findLine 74 = .ok (.iload_n 1, 1) := by decide +kernel
theorem d_Mod_findLine_75 : decode b_Mod_findLine 75 = .ok (.iaload, 1) := by decide +kernel
theorem d_Mod_findLine_76 : decode b_Mod_findLine 76 = .ok (.iconst (-1), 1) := by decide +kernel
theorem d_Mod_findLine_77 : decode b_Mod_findLine 77 = .ok (.if_icmp .eq 14, 3) := by decide +kernel
theorem d_Mod_findLine_80 : decode b_Mod_findLine 80 = .ok (.iload 7, 2) := by decide +kernel
theorem d_Mod_findLine_82 : decode b_Mod_findLine 82 = .ok (.aload_n 0, 1) := by decide +kernel
theorem d_Mod_findLine_83 : decode b_Mod_findLine 83 = .ok (.getfield 19, 3) := by decide +kernel
theorem d_Mod_findLine_86 : decode b_Mod_findLine 86 = .ok (.iload_n 1, 1) := by decide +kernel
theorem d_Mod_findLine_87 : decode b_Mod_findLine 87 = .ok (.iaload, 1) := by decide +kernel
theorem d_Mod_findLine_88 : decode b_Mod_findLine 88 = .ok (.if_icmp .gt 23, 3) := by decide +kernel
theorem d_Mod_findLine_91 : decode b_Mod_findLine 91 = .ok (.aload_n 0, 1) := by decide +kernel
theorem d_Mod_findLine_92 : decode b_Mod_findLine 92 = .ok (.getfield 19, 3) := by decide +kernel
theorem d_Mod_findLine_95 : decode b_Mod_findLine 95 = .ok (.iload_n 1, 1) := by decide +kernel
theorem d_Mod_findLine_96 : decode b_Mod_findLine 96 = .ok (.iload 7, 2) := by decide +kernel
theorem d_Mod_findLine_98 : decode b_Mod_findLine 98 = .ok (.iastore, 1) := by decide +kernel
theorem d_Mod_findLine_99 : decode b_Mod_findLine 99 = .ok (.aload_n 0, 1) := by decide +kernel
theorem d_Mod_findLine_100 : decode b_Mod_findLine 100 = .ok (.getfield 22, 3) := by decide +kernel
theorem d_Mod_findLine_103 : decode b_Mod_findLine 103 = .ok (.iload_n 1, 1) := by decide +kernel
theorem d_Mod_findLine_104 : decode b_Mod_findLine 104 = .ok (.iload 5, 2) := by decide +kernel
theorem d_Mod_findLine_106 : decode b_Mod_findLine 106 = .ok (.iconst 1, 1) := by decide +kernel
theorem d_Mod_findLine_107 : decode b_Mod_findLine 107 = .ok (.iadd, 1) := by decide +kernel
theorem d_Mod_findLine_108 : decode b_Mod_findLine 108 = .ok (.iload_n 1, 1) := by decide +kernel
theorem d_Mod_findLine_109 : decode b_Mod_findLine 109 = .ok (.isub, 1) := by decide +kernel
theorem d_Mod_findLine_110 : decode b_Mod_findLine 110 = .ok (.iastore, 1) := by decide +kernel
theorem d_Mod_findLine_111 : decode b_Mod_findLine 111 = .ok (.iinc 5 1, 3) := by decide +kernel
theorem d_Mod_findLine_114 : decode b_Mod_findLine 114 = .ok (.goto (-101), 3) := by decide +kernel
theorem d_Mod_findLine_117 : decode b_Mod_findLine 117 = .ok (.return_, 1) := by decide +kernel
theorem d_Mod_broken_0 : decode b_Mod_broken 0 = .ok (.aload_n 0, 1) := by decide +kernel
theorem d_Mod_broken_1 : decode b_Mod_broken 1 = .ok (.iconst 0, 1) := by decide +kernel
theorem d_Mod_broken_2 : decode b_Mod_broken 2 = .ok (.putfield 48, 3) := by decide +kernel
theorem d_Mod_broken_5 : decode b_Mod_broken 5 = .ok (.iload_n 1, 1) := by decide +kernel
theorem d_Mod_broken_6 : decode b_Mod_broken 6 = .ok (.iconst 1, 1) := by decide +kernel
theorem d_Mod_broken_7 : decode b_Mod_broken 7 = .ok (.bipush 100, 2) := by decide +kernel
theorem d_Mod_broken_9 : decode b_Mod_broken 9 = .ok (.invokestatic 51, 3) := by decide +kernel
theorem d_Mod_broken_12 : decode b_Mod_broken 12 = .ok (.ifCond .ne 5, 3) := by decide +kernel
theorem d_Mod_broken_15 : decode b_Mod_broken 15 = .ok (.iconst (-1), 1) := by decide +kernel
theorem d_Mod_broken_16 : decode b_Mod_broken 16 = .ok (.ireturn, 1) := by decide +kernel
theorem d_Mod_broken_17 : decode b_Mod_broken 17 = .ok (.aload_n 0, 1) := by decide +kernel
theorem d_Mod_broken_18 : decode b_Mod_broken 18 = .ok (.invokevirtual 58, 3) := by decide +kernel
theorem d_Mod_broken_21 : decode b_Mod_broken 21 = .ok (.istore_n 2, 1) := by decide +kernel
theorem d_Mod_broken_22 : decode b_Mod_broken 22 = .ok (.aload_n 0, 1) := by decide +kernel
theorem d_Mod_broken_23 : decode b_Mod_broken 23 = .ok (.iconst 0, 1) := by decide +kernel
theorem d_Mod_broken_24 : decode b_Mod_broken 24 = .ok (.putfield 62, 3) := by decide +kernel
theorem d_Mod_broken_27 : decode b_Mod_broken 27 = .ok (.aload_n 0, 1) := by decide +kernel
theorem d_Mod_broken_28 : decode b_Mod_broken 28 = .ok (.iconst 0, 1) := by decide +kernel
theorem d_Mod_broken_29 : decode b_Mod_broken 29 = .ok (.putfield 65, 3) := by decide +kernel
theorem d_Mod_broken_32 : decode b_Mod_broken 32 = .ok (.iconst 0, 1) := by decide +kernel
theorem d_Mod_broken_33 : decode b_Mod_broken 33 = .ok (.istore_n 3, 1) := by decide +kernel
theorem d_Mod_broken_34 : decode b_Mod_broken 34 = .ok (.iload_n 3, 1) := by decide +kernel
theorem d_Mod_broken_35 : decode b_Mod_broken 35 = .ok (.iload_n 2, 1) := by decide +kernel
theorem d_Mod_broken_36 : decode b_Mod_broken 36 = .ok (.if_icmp .ge 29, 3) := by decide +kernel
theorem d_Mod_broken_39 : decode b_Mod_broken 39 = .ok (.aload_n 0, 1) := by decide +kernel
theorem d_Mod_broken_40 : decode b_Mod_broken 40 = .ok (.getfield 16, 3) := by decide +kernel
theorem d_Mod_broken_43 : decode b_Mod_broken 43 = .ok (.iload_n 3, 1) := by decide +kernel
theorem d_Mod_broken_44 : decode b_Mod_broken 44 = .ok (.iaload, 1) := by decide +kernel
theorem d_Mod_broken_45 : decode b_Mod_broken 45 = .ok (.aload_n 0, 1) := by decide +kernel
theorem d_Mod_broken_46 : decode b_Mod_broken 46 = .ok (.getfield 13, 3) := by decide +kernel
theorem d_Mod_broken_49 : decode b_Mod_broken 49 = .ok (.iload_n 3, 1) := by decide +kernel
theorem d_Mod_broken_50 : decode b_Mod_broken 50 = .ok (.iaload, 1) := by decide +kernel
theorem d_Mod_broken_51 : decode b_Mod_broken 51 = .ok (.isub, 1) := by decide +kernel
theorem d_Mod_broken_52 : decode b_Mod_broken 52 = .ok (.iload_n 1, 1) := by decide +kernel
theorem d_Mod_broken_53 : decode b_Mod_broken 53 = .ok (.if_icmp .le 6, 3) := by decide +kernel
theorem d_Mod_broken_56 : decode b_Mod_broken 56 = .ok (.bipush (-2), 2) := by decide +kernel
theorem d_Mod_broken_58 : decode b_Mod_broken 58 = .ok (.ireturn, 1) := by decide +kernel
theorem d_Mod_broken_59 : decode b_Mod_broken 59 = .ok (.iinc 3 1, 3) := by decide +kernel
theorem d_Mod_broken_62 : decode b_Mod_broken 62 = .ok (.goto (-28), 3) := by decide +kernel
theorem d_Mod_broken_65 : decode b_Mod_broken 65 = .ok (.aload_n 0, 1) := by decide +kernel
theorem d_Mod_broken_66 : decode b_Mod_broken 66 = .ok (.getfield 19, 3) := by decide +kernel
theorem d_Mod_broken_69 : decode b_Mod_broken 69 = .ok (.iload_n 2, 1) := by decide +kernel
theorem d_Mod_broken_70 : decode b_Mod_broken 70 = .ok (.iconst 0, 1) := by decide +kernel
theorem d_Mod_broken_71 : decode b_Mod_broken 71 = .ok (.iastore, 1) := by decide +kernel
theorem d_Mod_broken_72 : decode b_Mod_broken 72 = .ok (.iload_n 2, 1) := by decide +kernel
theorem d_Mod_broken_73 : decode b_Mod_broken 73 = .ok (.iconst 1, 1) := by decide +kernel
theorem d_Mod_broken_74 : decode b_Mod_broken 74 = .ok (.isub, 1) := by decide +kernel
theorem d_Mod_broken_75 : decode b_Mod_broken 75 = .ok (.istore_n 3, 1) := by decide +kernel
theorem d_Mod_broken_76 : decode b_Mod_broken 76 = .ok (.iload_n 3, 1) := by decide +kernel
theorem d_Mod_broken_77 : decode b_Mod_broken 77 = .ok (.ifCond .lt 16, 3) := by decide +kernel
theorem d_Mod_broken_80 : decode b_Mod_broken 80 = .ok (.aload_n 0, 1) := by decide +kernel
theorem d_Mod_broken_81 : decode b_Mod_broken 81 = .ok (.iload_n 3, 1) := by decide +kernel
theorem d_Mod_broken_82 : decode b_Mod_broken 82 = .ok (.iload_n 2, 1) := by decide +kernel
theorem d_Mod_broken_83 : decode b_Mod_broken 83 = .ok (.iload_n 1, 1) := by decide +kernel
theorem d_Mod_broken_84 : decode b_Mod_broken 84 = .ok (.invokevirtual 68, 3) := by decide +kernel
theorem d_Mod_broken_87 : decode b_Mod_broken 87 = .ok (.iinc 3 (-1), 3) := by decide +kernel
theorem d_Mod_broken_90 : decode b_Mod_broken 90 = .ok (.goto (-14), 3) := by decide +kernel
theorem d_Mod_broken_93 : decode b_Mod_broken 93 = .ok (.aload_n 0, 1) := by decide +kernel
theorem d_Mod_broken_94 : decode b_Mod_broken 94 = .ok (.aload_n 0, 1) := by decide +kernel
theorem d_Mod_broken_95 : decode b_Mod_broken 95 = .ok (.getfield 19, 3) := by decide +kernel
theorem d_Mod_broken_98 : decode b_Mod_broken 98 = .ok (.iconst 0, 1) := by decide +kernel
theorem d_Mod_broken_99 : decode b_Mod_broken 99 = .ok (.iaload, 1) := by decide +kernel
theorem d_Mod_broken_100 : decode b_Mod_broken 100 = .ok (.putfield 65, 3) := by decide +kernel
theorem d_Mod_broken_103 : decode b_Mod_broken 103 = .ok (.iconst 0, 1) := by decide +kernel
theorem d_Mod_broken_104 : decode b_Mod_broken 104 = .ok (.istore_n 3, 1) := by decide +kernel
theorem d_Mod_broken_105 : decode b_Mod_broken 105 = .ok (.iload_n 3, 1) := by decide +kernel
theorem d_Mod_broken_106 : decode b_Mod_broken 106 = .ok (.iload_n 2, 1) := by decide +kernel
theorem d_Mod_broken_107 : decode b_Mod_broken 107 = .ok (.if_icmp .ge 35, 3) := by decide +kernel
theorem d_Mod_broken_110 : decode b_Mod_broken 110 = .ok (.aload_n 0, 1) := by decide +kernel
theorem d_Mod_broken_111 : decode b_Mod_broken 111 = .ok (.getfield 25, 3) := by decide +kernel
theorem d_Mod_broken_114 : decode b_Mod_broken 114 = .ok (.aload_n 0, 1) := by decide +kernel
theorem d_Mod_broken_115 : decode b_Mod_broken 115 = .ok (.getfield 62, 3) := by decide +kernel
theorem d_Mod_broken_118 : decode b_Mod_broken 118 = .ok (.iload_n 3, 1) := by decide +kernel
theorem d_Mod_broken_119 : decode b_Mod_broken 119 = .ok (.iastore, 1) := by decide +kernel
theorem d_Mod_broken_120 : decode b_Mod_broken 120 = .ok (.aload_n 0, 1) := by decide +kernel
theorem d_Mod_broken_121 : decode b_Mod_broken 121 = .ok (.dup, 1) := by decide +kernel
theorem d_Mod_broken_122 : decode b_Mod_broken 122 = .ok (.getfield 62, 3) := by decide +kernel
theorem d_Mod_broken_125 : decode b_Mod_broken 125 = .ok (.iconst 1, 1) := by decide +kernel
theorem d_Mod_broken_126 : decode b_Mod_broken 126 = .ok (.iadd, 1) := by decide +kernel
theorem d_Mod_broken_127 : decode b_Mod_broken 127 = .ok (.putfield 62, 3) := by decide +kernel
theorem d_Mod_broken_130 : decode b_Mod_broken 130 = .ok (.iload_n 3, 1) := by decide +kernel
theorem d_Mod_broken_131 : decode b_Mod_broken 131 = .ok (.aload_n 0, 1) := by decide +kernel
theorem d_Mod_broken_132 : decode b_Mod_broken 132 = .ok (.getfield 22, 3) := by decide +kernel
theorem d_Mod_broken_135 : decode b_Mod_broken 135 = .ok (.iload_n 3, 1) := by decide +kernel
theorem d_Mod_broken_136 : decode b_Mod_broken 136 = .ok (.iaload, 1) := by decide +kernel
theorem d_Mod_broken_137 : decode b_Mod_broken 137 = .ok (.iadd, 1) := by decide +kernel
theorem d_Mod_broken_138 : decode b_Mod_broken 138 = .ok (.istore_n 3, 1) := by decide +kernel
theorem d_Mod_broken_139 : decode b_Mod_broken 139 = .ok (.goto (-34), 3) := by decide +kernel
theorem d_Mod_broken_142 : decode b_Mod_broken 142 = .ok (.aload_n 0, 1) := by decide +kernel
theorem d_Mod_broken_143 : decode b_Mod_broken 143 = .ok (.getfield 62, 3) := by decide +kernel
theorem d_Mod_broken_146 : decode b_Mod_broken 146 = .ok (.ireturn, 1) := by decide +kernel
theorem d_Mod_line_0 : decode b_Mod_line 0 = .ok (.aload_n 0, 1) := by decide +kernel
theorem d_Mod_line_1 : decode b_Mod_line 1 = .ok (.iconst 0, 1) := by decide +kernel
theorem d_Mod_line_2 : decode b_Mod_line 2 = .ok (.putfield 48, 3) := by decide +kernel
theorem d_Mod_line_5 : decode b_Mod_line 5 = .ok (.iload_n 1, 1) := by decide +kernel
theorem d_Mod_line_6 : decode b_Mod_line 6 = .ok (.iconst 0, 1) := by decide +kernel
theorem d_Mod_line_7 : decode b_Mod_line 7 = .ok (.aload_n 0, 1) := by decide +kernel
theorem d_Mod_line_8 : decode b_Mod_line 8 = .ok (.getfield 62, 3) := by decide +kernel
theorem d_Mod_line_11 : decode b_Mod_line 11 = .ok (.iconst 1, 1) := by decide +kernel
theorem d_Mod_line_12 : decode b_Mod_line 12 = .ok (.isub, 1) := by decide +kernel
theorem d_Mod_line_13 : decode b_Mod_line 13 = .ok (.invokestatic 51, 3) := by decide +kernel
theorem d_Mod_line_16 : decode b_Mod_line 16 = .ok (.ifCond .eq 12, 3) := by decide +kernel
theorem d_Mod_line_19 : decode b_Mod_line 19 = .ok (.aload_n 0, 1) := by decide +kernel
theorem d_Mod_line_20 : decode b_Mod_line 20 = .ok (.getfield 25, 3) := by decide +kernel
theorem d_Mod_line_23 : decode b_Mod_line 23 = .ok (.iload_n 1, 1) := by decide +kernel
theorem d_Mod_line_24 : decode b_Mod_line 24 = .ok (.iaload, 1) := by decide +kernel
theorem d_Mod_line_25 : decode b_Mod_line 25 = .ok (.goto 4, 3) := by decide +kernel
theorem d_Mod_line_28 : decode b_Mod_line 28 = .ok (.iconst (-1), 1) := by decide +kernel
theorem d_Mod_line_29 : decode b_Mod_line 29 = .ok (.ireturn, 1) := by decide +kernel
theorem d_Mod_rest_0 : decode b_Mod_rest 0 = .ok (.aload_n 0, 1) := by decide +kernel
theorem d_Mod_rest_1 : decode b_Mod_rest 1 = .ok (.iconst 0, 1) := by decide +kernel
theorem d_Mod_rest_2 : decode b_Mod_rest 2 = .ok (.putfield 48, 3) := by decide +kernel
theorem d_Mod_rest_5 : decode b_Mod_rest 5 = .ok (.aload_n 0, 1) := by decide +kernel
theorem d_Mod_rest_6 : decode b_Mod_rest 6 = .ok (.getfield 65, 3) := by decide +kernel
theorem d_Mod_rest_9 : decode b_Mod_rest 9 = .ok (.ireturn, 1) := by decide +kernel
theorem d_Mod_clear_0 : decode b_Mod_clear 0 = .ok (.aload_n 0, 1) := by decide +kernel
theorem d_Mod_clear_1 : decode b_Mod_clear 1 = .ok (.iconst 0, 1) := by decide +kernel
theorem d_Mod_clear_2 : decode b_Mod_clear 2 = .ok (.putfield 48, 3) := by decide +kernel
theorem d_Mod_clear_5 : decode b_Mod_clear 5 = .ok (.aload_n 0, 1) := by decide +kernel
theorem d_Mod_clear_6 : decode b_Mod_clear 6 = .ok (.iconst 0, 1) := by decide +kernel
theorem d_Mod_clear_7 : decode b_Mod_clear 7 = .ok (.putfield 55, 3) := by decide +kernel
theorem d_Mod_clear_10 : decode b_Mod_clear 10 = .ok (.aload_n 0, 1) := by decide +kernel
theorem d_Mod_clear_11 : decode b_Mod_clear 11 = .ok (.iconst 0, 1) := by decide +kernel
theorem d_Mod_clear_12 : decode b_Mod_clear 12 = .ok (.putfield 62, 3) := by decide +kernel
theorem d_Mod_clear_15 : decode b_Mod_clear 15 = .ok (.aload_n 0, 1) := by decide +kernel
theorem d_Mod_clear_16 : decode b_Mod_clear 16 = .ok (.iconst 0, 1) := by decide +kernel
theorem d_Mod_clear_17 : decode b_Mod_clear 17 = .ok (.putfield 65, 3) := by decide +kernel
theorem d_Mod_clear_20 : decode b_Mod_clear 20 = .ok (.return_, 1) := by decide +kernel
theorem d_Mod_box_0 : decode b_Mod_box 0 = .ok (.aload_n 0, 1) := by decide +kernel
theorem d_Mod_box_1 : decode b_Mod_box 1 = .ok (.iconst 0, 1) := by decide +kernel
theorem d_Mod_box_2 : decode b_Mod_box 2 = .ok (.putfield 48, 3) := by decide +kernel
theorem d_Mod_box_5 : decode b_Mod_box 5 = .ok (.iload_n 1, 1) := by decide +kernel
theorem d_Mod_box_6 : decode b_Mod_box 6 = .ok (.iconst 1, 1) := by decide +kernel
theorem d_Mod_box_7 : decode b_Mod_box 7 = .ok (.sipush 1000, 3) := by decide +kernel
theorem d_Mod_box_10 : decode b_Mod_box 10 = .ok (.invokestatic 51, 3) := by decide +kernel
theorem d_Mod_box_13 : decode b_Mod_box 13 = .ok (.ifCond .eq 12, 3) := by decide +kernel
theorem d_Mod_box_16 : decode b_Mod_box 16 = .ok (.aload_n 0, 1) := by decide +kernel
theorem d_Mod_box_17 : decode b_Mod_box 17 = .ok (.getfield 72, 3) := by decide +kernel
theorem d_Mod_box_20 : decode b_Mod_box 20 = .ok (.bipush 60, 2) := by decide +kernel
theorem d_Mod_box_22 : decode b_Mod_box 22 = .ok (.if_icmp .ne 5, 3) := by decide +kernel
theorem d_Mod_box_25 : decode b_Mod_box 25 = .ok (.iconst (-1), 1) := by decide +kernel
theorem d_Mod_box_26 : decode b_Mod_box 26 = .ok (.ireturn, 1) := by decide +kernel
theorem d_Mod_box_27 : decode b_Mod_box 27 = .ok (.aload_n 0, 1) := by decide +kernel
theorem d_Mod_box_28 : decode b_Mod_box 28 = .ok (.getfield 28, 3) := by decide +kernel
theorem d_Mod_box_31 : decode b_Mod_box 31 = .ok (.aload_n 0, 1) := by decide +kernel
theorem d_Mod_box_32 : decode b_Mod_box 32 = .ok (.getfield 72, 3) := by decide +kernel
theorem d_Mod_box_35 : decode b_Mod_box 35 = .ok (.iload_n 1, 1) := by decide +kernel
theorem d_Mod_box_36 : decode b_Mod_box 36 = .ok (.iastore, 1) := by decide +kernel
theorem d_Mod_box_37 : decode b_Mod_box 37 = .ok (.aload_n 0, 1) := by decide +kernel
theorem d_Mod_box_38 : decode b_Mod_box 38 = .ok (.dup, 1) := by decide +kernel
theorem d_Mod_box_39 : decode b_Mod_box 39 = .ok (.getfield 72, 3) := by decide +kernel
theorem d_Mod_box_42 : decode b_Mod_box 42 = .ok (.iconst 1, 1) := by decide +kernel
theorem d_Mod_box_43 : decode b_Mod_box 43 = .ok (.iadd, 1) := by decide +kernel
theorem d_Mod_box_44 : decode b_Mod_box 44 = .ok (.putfield 72, 3) := by decide +kernel
theorem d_Mod_box_47 : decode b_Mod_box 47 = .ok (.aload_n 0, 1) := by decide +kernel
theorem d_Mod_box_48 : decode b_Mod_box 48 = .ok (.getfield 72, 3) := by decide +kernel
theorem d_Mod_box_51 : decode b_Mod_box 51 = .ok (.iconst 1, 1) := by decide +kernel
theorem d_Mod_box_52 : decode b_Mod_box 52 = .ok (.isub, 1) := by decide +kernel
theorem d_Mod_box_53 : decode b_Mod_box 53 = .ok (.ireturn, 1) := by decide +kernel
theorem d_Mod_putUpTo_0 : decode b_Mod_putUpTo 0 = .ok (.aload_n 0, 1) := by decide +kernel
theorem d_Mod_putUpTo_1 : decode b_Mod_putUpTo 1 = .ok (.iconst (-1), 1) := by decide +kernel
theorem d_Mod_putUpTo_2 : decode b_Mod_putUpTo 2 = .ok (.putfield 75, 3) := by decide +kernel
theorem d_Mod_putUpTo_5 : decode b_Mod_putUpTo 5 = .ok (.aload_n 0, 1) := by decide +kernel
theorem d_Mod_putUpTo_6 : decode b_Mod_putUpTo 6 = .ok (.iconst 0, 1) := by decide +kernel
theorem d_Mod_putUpTo_7 : decode b_Mod_putUpTo 7 = .ok (.putfield 78, 3) := by decide +kernel
theorem d_Mod_putUpTo_10 : decode b_Mod_putUpTo 10 = .ok (.iconst 0, 1) := by decide +kernel
theorem d_Mod_putUpTo_11 : decode b_Mod_putUpTo 11 = .ok (.istore 4, 2) := by decide +kernel
theorem d_Mod_putUpTo_13 : decode b_Mod_putUpTo 13 = .ok (.iconst 1, 1) := by decide +kernel
theorem d_Mod_putUpTo_14 : decode b_Mod_putUpTo 14 = .ok (.istore 5, 2) := by decide +kernel
theorem d_Mod_putUpTo_16 : decode b_Mod_putUpTo 16 = .ok (.iconst 0, 1) := by decide +kernel
theorem d_Mod_putUpTo_17 : decode b_Mod_putUpTo 17 = .ok (.istore 6, 2) := by decide +kernel
theorem d_Mod_putUpTo_19 : decode b_Mod_putUpTo 19 = .ok (.iload 6, 2) := by decide +kernel
theorem d_Mod_putUpTo_21 : decode b_Mod_putUpTo 21 = .ok (.iload_n 1, 1) := by decide +kernel
theorem d_Mod_putUpTo_22 : decode b_Mod_putUpTo 22 = .ok (.if_icmp .gt 85, 3) := by decide +kernel
theorem d_Mod_putUpTo_25 : decode b_Mod_putUpTo 25 = .ok (.aload_n 0, 1) := by decide +kernel
theorem d_Mod_putUpTo_26 : decode b_Mod_putUpTo 26 = .ok (.iload 4, 2) := by decide +kernel
theorem d_Mod_putUpTo_28 : decode b_Mod_putUpTo 28 = .ok (.iload_n 3, 1) := by decide +kernel
