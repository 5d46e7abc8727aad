theorem d_R_add_23 : decode b_R_add 23 = .ok (.aload_n 0, 1) := by decide +kernel
theorem d_R_add_24 : decode b_R_add 24 = .ok (.getfield 19, 3) := by decide +kernel
theorem d_R_add_27 : decode b_R_add 27 = .ok (.iload_n 1, 1) := by decide +kernel
theorem d_R_add_28 : decode b_R_add 28 = .ok (.iastore, 1) := by decide +kernel
theorem d_R_add_29 : decode b_R_add 29 = .ok (.aload_n 0, 1) := by decide +kernel
theorem d_R_add_30 : decode b_R_add 30 = .ok (.getfield 15, 3) := by decide +kernel
theorem d_R_add_33 : decode b_R_add 33 = .ok (.aload_n 0, 1) := by decide +kernel
theorem d_R_add_34 : decode b_R_add 34 = .ok (.getfield 19, 3) := by decide +kernel
theorem d_R_add_37 : decode b_R_add 37 = .ok (.lload_n 2, 1) := by decide +kernel
theorem d_R_add_38 : decode b_R_add 38 = .ok (.lastore, 1) := by decide +kernel
theorem d_R_add_39 : decode b_R_add 39 = .ok (.aload_n 0, 1) := by decide +kernel
theorem d_R_add_40 : decode b_R_add 40 = .ok (.getfield 19, 3) := by decide +kernel
theorem d_R_add_43 : decode b_R_add 43 = .ok (.ireturn, 1) := by decide +kernel
theorem d_R_headingOf_0 : decode b_R_headingOf 0 = .ok (.iload_n 1, 1) := by decide +kernel
theorem d_R_headingOf_1 : decode b_R_headingOf 1 = .ok (.iconst 1, 1) := by decide +kernel
theorem d_R_headingOf_2 : decode b_R_headingOf 2 = .ok (.if_icmp .lt 20, 3) := by decide +kernel
theorem d_R_headingOf_5 : decode b_R_headingOf 5 = .ok (.iload_n 1, 1) := by decide +kernel
theorem d_R_headingOf_6 : decode b_R_headingOf 6 = .ok (.aload_n 0, 1) := by decide +kernel
theorem d_R_headingOf_7 : decode b_R_headingOf 7 = .ok (.getfield 19, 3) := by decide +kernel
theorem d_R_headingOf_10 : decode b_R_headingOf 10 = .ok (.if_icmp .gt 12, 3) := by decide +kernel
theorem d_R_headingOf_13 : decode b_R_headingOf 13 = .ok (.aload_n 0, 1) := by decide +kernel
theorem d_R_headingOf_14 : decode b_R_headingOf 14 = .ok (.getfield 9, 3) := by decide +kernel
theorem d_R_headingOf_17 : decode b_R_headingOf 17 = .ok (.iload_n 1, 1) := by decide +kernel
theorem d_R_headingOf_18 : decode b_R_headingOf 18 = .ok (.iaload, 1) := by decide +kernel
theorem d_R_headingOf_19 : decode b_R_headingOf 19 = .ok (.goto 4, 3) := by decide +kernel
theorem d_R_headingOf_22 : decode b_R_headingOf 22 = .ok (.iconst 0, 1) := by decide +kernel
theorem d_R_headingOf_23 : decode b_R_headingOf 23 = .ok (.ireturn, 1) := by decide +kernel
theorem d_R_countOf_0 : decode b_R_countOf 0 = .ok (.iconst 0, 1) := by decide +kernel
theorem d_R_countOf_1 : decode b_R_countOf 1 = .ok (.istore_n 2, 1) := by decide +kernel
theorem d_R_countOf_2 : decode b_R_countOf 2 = .ok (.iconst 1, 1) := by decide +kernel
theorem d_R_countOf_3 : decode b_R_countOf 3 = .ok (.istore_n 3, 1) := by decide +kernel
theorem d_R_countOf_4 : decode b_R_countOf 4 = .ok (.iload_n 3, 1) := by decide +kernel
theorem d_R_countOf_5 : decode b_R_countOf 5 = .ok (.aload_n 0, 1) := by decide +kernel
theorem d_R_countOf_6 : decode b_R_countOf 6 = .ok (.getfield 19, 3) := by decide +kernel
theorem d_R_countOf_9 : decode b_R_countOf 9 = .ok (.if_icmp .gt 22, 3) := by decide +kernel
theorem d_R_countOf_12 : decode b_R_countOf 12 = .ok (.aload_n 0, 1) := by decide +kernel
theorem d_R_countOf_13 : decode b_R_countOf 13 = .ok (.getfield 9, 3) := by decide +kernel
theorem d_R_countOf_16 : decode b_R_countOf 16 = .ok (.iload_n 3, 1) := by decide +kernel
theorem d_R_countOf_17 : decode b_R_countOf 17 = .ok (.iaload, 1) := by decide +kernel
theorem d_R_countOf_18 : decode b_R_countOf 18 = .ok (.iload_n 1, 1) := by decide +kernel
theorem d_R_countOf_19 : decode b_R_countOf 19 = .ok (.if_icmp .ne 6, 3) := by decide +kernel
theorem d_R_countOf_22 : decode b_R_countOf 22 = .ok (.iinc 2 1, 3) := by decide +kernel
theorem d_R_countOf_25 : decode b_R_countOf 25 = .ok (.iinc 3 1, 3) := by decide +kernel
theorem d_R_countOf_28 : decode b_R_countOf 28 = .ok (.goto (-24), 3) := by decide +kernel
theorem d_R_countOf_31 : decode b_R_countOf 31 = .ok (.iload_n 2, 1) := by decide +kernel
theorem d_R_countOf_32 : decode b_R_countOf 32 = .ok (.ireturn, 1) := by decide +kernel
theorem d_R_move_0 : decode b_R_move 0 = .ok (.iconst 1, 1) := by decide +kernel
theorem d_R_move_1 : decode b_R_move 1 = .ok (.istore 5, 2) := by decide +kernel
theorem d_R_move_3 : decode b_R_move 3 = .ok (.iload 5, 2) := by decide +kernel
theorem d_R_move_5 : decode b_R_move 5 = .ok (.aload_n 0, 1) := by decide +kernel
theorem d_R_move_6 : decode b_R_move 6 = .ok (.getfield 19, 3) := by decide +kernel
theorem d_R_move_9 : decode b_R_move 9 = .ok (.if_icmp .gt 40, 3) := by decide +kernel
theorem d_R_move_12 : decode b_R_move 12 = .ok (.aload_n 0, 1) := by decide +kernel
theorem d_R_move_13 : decode b_R_move 13 = .ok (.getfield 9, 3) := by decide +kernel
theorem d_R_move_16 : decode b_R_move 16 = .ok (.iload 5, 2) := by decide +kernel
theorem d_R_move_18 : decode b_R_move 18 = .ok (.iaload, 1) := by decide +kernel
theorem d_R_move_19 : decode b_R_move 19 = .ok (.iload_n 1, 1) := by decide +kernel
theorem d_R_move_20 : decode b_R_move 20 = .ok (.if_icmp .ne 23, 3) := by decide +kernel
theorem d_R_move_23 : decode b_R_move 23 = .ok (.aload_n 0, 1) := by decide +kernel
theorem d_R_move_24 : decode b_R_move 24 = .ok (.getfield 15, 3) := by decide +kernel
theorem d_R_move_27 : decode b_R_move 27 = .ok (.iload 5, 2) := by decide +kernel
theorem d_R_move_29 : decode b_R_move 29 = .ok (.laload, 1) := by decide +kernel
theorem d_R_move_30 : decode b_R_move 30 = .ok (.lload_n 3, 1) := by decide +kernel
theorem d_R_move_31 : decode b_R_move 31 = .ok (.lcmp, 1) := by decide +kernel
theorem d_R_move_32 : decode b_R_move 32 = .ok (.ifCond .lt 11, 3) := by decide +kernel
theorem d_R_move_35 : decode b_R_move 35 = .ok (.aload_n 0, 1) := by decide +kernel
theorem d_R_move_36 : decode b_R_move 36 = .ok (.getfield 9, 3) := by decide +kernel
theorem d_R_move_39 : decode b_R_move 39 = .ok (.iload 5, 2) := by decide +kernel
theorem d_R_move_41 : decode b_R_move 41 = .ok (.iload_n 2, 1) := by decide +kernel
theorem d_R_move_42 : decode b_R_move 42 = .ok (.iastore, 1) := by decide +kernel
theorem d_R_move_43 : decode b_R_move 43 = .ok (.iinc 5 1, 3) := by decide +kernel
theorem d_R_move_46 : decode b_R_move 46 = .ok (.goto (-43), 3) := by decide +kernel
theorem d_R_move_49 : decode b_R_move 49 = .ok (.return_, 1) := by decide +kernel
theorem d_T_init_0 : decode b_T_init 0 = .ok (.aload_n 0, 1) := by decide +kernel
theorem d_T_init_1 : decode b_T_init 1 = .ok (.invokespecial 3, 3) := by decide +kernel
theorem d_T_init_4 : decode b_T_init 4 = .ok (.aload_n 0, 1) := by decide +kernel
theorem d_T_init_5 : decode b_T_init 5 = .ok (.bipush 20, 2) := by decide +kernel
theorem d_T_init_7 : decode b_T_init 7 = .ok (.newarray .char, 2) := by decide +kernel
theorem d_T_init_9 : decode b_T_init 9 = .ok (.putfield 9, 3) := by decide +kernel
theorem d_T_init_12 : decode b_T_init 12 = .ok (.aload_n 0, 1) := by decide +kernel
theorem d_T_init_13 : decode b_T_init 13 = .ok (.iconst 0, 1) := by decide +kernel
theorem d_T_init_14 : decode b_T_init 14 = .ok (.putfield 15, 3) := by decide +kernel
theorem d_T_init_17 : decode b_T_init 17 = .ok (.return_, 1) := by decide +kernel
theorem d_T_clear_0 : decode b_T_clear 0 = .ok (.aload_n 0, 1) := by decide +kernel
theorem d_T_clear_1 : decode b_T_clear 1 = .ok (.iconst 0, 1) := by decide +kernel
theorem d_T_clear_2 : decode b_T_clear 2 = .ok (.putfield 15, 3) := by decide +kernel
theorem d_T_clear_5 : decode b_T_clear 5 = .ok (.return_, 1) := by decide +kernel
theorem d_T_add_0 : decode b_T_add 0 = .ok (.aload_n 0, 1) := by decide +kernel
theorem d_T_add_1 : decode b_T_add 1 = .ok (.getfield 15, 3) := by decide +kernel
theorem d_T_add_4 : decode b_T_add 4 = .ok (.bipush 20, 2) := by decide +kernel
theorem d_T_add_6 : decode b_T_add 6 = .ok (.if_icmp .ge 23, 3) := by decide +kernel
theorem d_T_add_9 : decode b_T_add 9 = .ok (.aload_n 0, 1) := by decide +kernel
theorem d_T_add_10 : decode b_T_add 10 = .ok (.getfield 9, 3) := by decide +kernel
theorem d_T_add_13 : decode b_T_add 13 = .ok (.aload_n 0, 1) := by decide +kernel
theorem d_T_add_14 : decode b_T_add 14 = .ok (.getfield 15, 3) := by decide +kernel
theorem d_T_add_17 : decode b_T_add 17 = .ok (.iload_n 1, 1) := by decide +kernel
theorem d_T_add_18 : decode b_T_add 18 = .ok (.castore, 1) := by decide +kernel
theorem d_T_add_19 : decode b_T_add 19 = .ok (.aload_n 0, 1) := by decide +kernel
theorem d_T_add_20 : decode b_T_add 20 = .ok (.dup, 1) := by decide +kernel
theorem d_T_add_21 : decode b_T_add 21 = .ok (.getfield 15, 3) := by decide +kernel
theorem d_T_add_24 : decode b_T_add 24 = .ok (.iconst 1, 1) := by decide +kernel
theorem d_T_add_25 : decode b_T_add 25 = .ok (.iadd, 1) := by decide +kernel
theorem d_T_add_26 : decode b_T_add 26 = .ok (.putfield 15, 3) := by decide +kernel
theorem d_T_add_29 : decode b_T_add 29 = .ok (.return_, 1) := by decide +kernel
theorem d_Y_init_0 : decode b_Y_init 0 = .ok (.aload_n 0, 1) := by decide +kernel
theorem d_Y_init_1 : decode b_Y_init 1 = .ok (.invokespecial 3, 3) := by decide +kernel
theorem d_Y_init_4 : decode b_Y_init 4 = .ok (.aload_n 0, 1) := by decide +kernel
theorem d_Y_init_5 : decode b_Y_init 5 = .ok (.bipush 60, 2) := by decide +kernel
theorem d_Y_init_7 : decode b_Y_init 7 = .ok (.newarray .int, 2) := by decide +kernel
theorem d_Y_init_9 : decode b_Y_init 9 = .ok (.putfield 9, 3) := by decide +kernel
theorem d_Y_init_12 : decode b_Y_init 12 = .ok (.aload_n 0, 1) := by decide +kernel
theorem d_Y_init_13 : decode b_Y_init 13 = .ok (.iconst 0, 1) := by decide +kernel
theorem d_Y_init_14 : decode b_Y_init 14 = .ok (.putfield 15, 3) := by decide +kernel
theorem d_Y_init_17 : decode b_Y_init 17 = .ok (.aload_n 0, 1) := by decide +kernel
theorem d_Y_init_18 : decode b_Y_init 18 = .ok (.bipush 61, 2) := by decide +kernel
theorem d_Y_init_20 : decode b_Y_init 20 = .ok (.newarray .long, 2) := by decide +kernel
theorem d_Y_init_22 : decode b_Y_init 22 = .ok (.putfield 19, 3) := by decide +kernel
theorem d_Y_init_25 : decode b_Y_init 25 = .ok (.return_, 1) := by decide +kernel
theorem d_Y_at_0 : decode b_Y_at 0 = .ok (.iload_n 1, 1) := by decide +kernel
theorem d_Y_at_1 : decode b_Y_at 1 = .ok (.ifCond .lt 20, 3) := by decide +kernel
theorem d_Y_at_4 : decode b_Y_at 4 = .ok (.iload_n 1, 1) := by decide +kernel
theorem d_Y_at_5 : decode b_Y_at 5 = .ok (.aload_n 0, 1) := by decide +kernel
theorem d_Y_at_6 : decode b_Y_at 6 = .ok (.getfield 15, 3) := by decide +kernel
theorem d_Y_at_9 : decode b_Y_at 9 = .ok (.if_icmp .ge 12, 3) := by decide +kernel
theorem d_Y_at_12 : decode b_Y_at 12 = .ok (.aload_n 0, 1) := by decide +kernel
theorem d_Y_at_13 : decode b_Y_at 13 = .ok (.getfield 9, 3) := by decide +kernel
theorem d_Y_at_16 : decode b_Y_at 16 = .ok (.iload_n 1, 1) := by decide +kernel
theorem d_Y_at_17 : decode b_Y_at 17 = .ok (.iaload, 1) := by decide +kernel
theorem d_Y_at_18 : decode b_Y_at 18 = .ok (.goto 4, 3) := by decide +kernel
theorem d_Y_at_21 : decode b_Y_at 21 = .ok (.iconst 0, 1) := by decide +kernel
theorem d_Y_at_22 : decode b_Y_at 22 = .ok (.ireturn, 1) := by decide +kernel
theorem d_Y_lay_0 : decode b_Y_lay 0 = .ok (.aload_n 0, 1) := by decide +kernel
theorem d_Y_lay_1 : decode b_Y_lay 1 = .ok (.aload_n 1, 1) := by decide +kernel
theorem d_Y_lay_2 : decode b_Y_lay 2 = .ok (.iload_n 2, 1) := by decide +kernel
theorem d_Y_lay_3 : decode b_Y_lay 3 = .ok (.iload_n 3, 1) := by decide +kernel
theorem d_Y_lay_4 : decode b_Y_lay 4 = .ok (.iload 4, 2) := by decide +kernel
theorem d_Y_lay_6 : decode b_Y_lay 6 = .ok (.invokevirtual 23, 3) := by decide +kernel
theorem d_Y_lay_9 : decode b_Y_lay 9 = .ok (.istore 5, 2) := by decide +kernel
theorem d_Y_lay_11 : decode b_Y_lay 11 = .ok (.iload 5, 2) := by decide +kernel
theorem d_Y_lay_13 : decode b_Y_lay 13 = .ok (.iconst (-1), 1) := by decide +kernel
theorem d_Y_lay_14 : decode b_Y_lay 14 = .ok (.if_icmp .ne 5, 3) := by decide +kernel
theorem d_Y_lay_17 : decode b_Y_lay 17 = .ok (.iconst 0, 1) := by decide +kernel
theorem d_Y_lay_18 : decode b_Y_lay 18 = .ok (.ireturn, 1) := by decide +kernel
theorem d_Y_lay_19 : decode b_Y_lay 19 = .ok (.aload_n 0, 1) := by decide +kernel
theorem d_Y_lay_20 : decode b_Y_lay 20 = .ok (.aload_n 1, 1) := by decide +kernel
theorem d_Y_lay_21 : decode b_Y_lay 21 = .ok (.iload_n 2, 1) := by decide +kernel
theorem d_Y_lay_22 : decode b_Y_lay 22 = .ok (.iload_n 3, 1) := by decide +kernel
theorem d_Y_lay_23 : decode b_Y_lay 23 = .ok (.iload 5, 2) := by decide +kernel
theorem d_Y_lay_25 : decode b_Y_lay 25 = .ok (.invokevirtual 27, 3) := by decide +kernel
theorem d_Y_lay_28 : decode b_Y_lay 28 = .ok (.iconst 1, 1) := by decide +kernel
theorem d_Y_lay_29 : decode b_Y_lay 29 = .ok (.ireturn, 1) := by decide +kernel
theorem d_Y_measure_0 : decode b_Y_measure 0 = .ok (.iload 4, 2) := by decide +kernel
theorem d_Y_measure_2 : decode b_Y_measure 2 = .ok (.invokestatic 31, 3) := by decide +kernel
theorem d_Y_measure_5 : decode b_Y_measure 5 = .ok (.lstore 5, 2) := by decide +kernel
theorem d_Y_measure_7 : decode b_Y_measure 7 = .ok (.aload_n 0, 1) := by decide +kernel
theorem d_Y_measure_8 : decode b_Y_measure 8 = .ok (.getfield 19, 3) := by decide +kernel
theorem d_Y_measure_11 : decode b_Y_measure 11 = .ok (.iconst 0, 1) := by decide +kernel
theorem d_Y_measure_12 : decode b_Y_measure 12 = .ok (.lload 5, 2) := by decide +kernel
theorem d_Y_measure_14 : decode b_Y_measure 14 = .ok (.lastore, 1) := by decide +kernel
theorem d_Y_measure_15 : decode b_Y_measure 15 = .ok (.iconst 0, 1) := by decide +kernel
theorem d_Y_measure_16 : decode b_Y_measure 16 = .ok (.istore 7, 2) := by decide +kernel
theorem d_Y_measure_18 : decode b_Y_measure 18 = .ok (.iload 7, 2) := by decide +kernel
theorem d_Y_measure_20 : decode b_Y_measure 20 = .ok (.bipush 60, 2) := by decide +kernel
theorem d_Y_measure_22 : decode b_Y_measure 22 = .ok (.if_icmp .ge 80, 3) := by decide +kernel
theorem d_Y_measure_25 : decode b_Y_measure 25 = .ok (.aload_n 0, 1) := by decide +kernel
theorem d_Y_measure_26 : decode b_Y_measure 26 = .ok (.getfield 19, 3) := by decide +kernel
theorem d_Y_measure_29 : decode b_Y_measure 29 = .ok (.iload 7, 2) := by decide +kernel
theorem d_Y_measure_31 : decode b_Y_measure 31 = .ok (.laload, 1) := by decide +kernel
theorem d_Y_measure_32 : decode b_Y_measure 32 = .ok (.lconst 0, 1) := by decide +kernel
theorem d_Y_measure_33 : decode b_Y_measure 33 = .ok (.lcmp, 1) := by decide +kernel
theorem d_Y_measure_34 : decode b_Y_measure 34 = .ok (.ifCond .eq 68, 3) := by decide +kernel
theorem d_Y_measure_37 : decode b_Y_measure 37 = .ok (.aload_n 0, 1) := by decide +kernel
theorem d_Y_measure_38 : decode b_Y_measure 38 = .ok (.getfield 19, 3) := by decide +kernel
theorem d_Y_measure_41 : decode b_Y_measure 41 = .ok (.iload 7, 2) := by decide +kernel
theorem d_Y_measure_43 : decode b_Y_measure 43 = .ok (.laload, 1) := by decide +kernel
theorem d_Y_measure_44 : decode b_Y_measure 44 = .ok (.iload_n 3, 1) := by decide +kernel
theorem d_Y_measure_45 : decode b_Y_measure 45 = .ok (.invokestatic 35, 3) := by decide +kernel
theorem d_Y_measure_48 : decode b_Y_measure 48 = .ok (.ifCond .eq 6, 3) := by decide +kernel
theorem d_Y_measure_51 : decode b_Y_measure 51 = .ok (.iload 7, 2) := by decide +kernel
theorem d_Y_measure_53 : decode b_Y_measure 53 = .ok (.ireturn, 1) := by decide +kernel
theorem d_Y_measure_54 : decode b_Y_measure 54 = .ok (.aload_n 0, 1) := by decide +kernel
theorem d_Y_measure_55 : decode b_Y_measure 55 = .ok (.getfield 19, 3) := by decide +kernel
theorem d_Y_measure_58 : decode b_Y_measure 58 = .ok (.iload 7, 2) := by decide +kernel
theorem d_Y_measure_60 : decode b_Y_measure 60 = .ok (.iconst 1, 1) := by decide +kernel
theorem d_Y_measure_61 : decode b_Y_measure 61 = .ok (.iadd, 1) := by decide +kernel
theorem d_Y_measure_62 : decode b_Y_measure 62 = .ok (.aload_n 1, 1) := by decide +kernel
theorem d_Y_measure_63 : decode b_Y_measure 63 = .ok (.iload_n 2, 1) := by decide +kernel
theorem d_Y_measure_64 : decode b_Y_measure 64 = .ok (.aload_n 0, 1) := by decide +kernel
theorem d_Y_measure_65 : decode b_Y_measure 65 = .ok (.getfield 19, 3) := by decide +kernel
theorem d_Y_measure_68 : decode b_Y_measure 68 = .ok (.iload 7, 2) := by decide +kernel
theorem d_Y_measure_70 : decode b_Y_measure 70 = .ok (.laload, 1) := by decide +kernel
theorem d_Y_measure_71 : decode b_Y_measure 71 = .ok (.invokevirtual 39, 3) := by decide +kernel
theorem d_Y_measure_74 : decode b_Y_measure 74 = .ok (.lload 5, 2) := by decide +kernel
theorem d_Y_measure_76 : decode b_Y_measure 76 = .ok (.ldc2_w 45, 3) := by decide +kernel
theorem d_Y_measure_79 : decode b_Y_measure 79 = .ok (.lxor, 1) := by decide +kernel
theorem d_Y_measure_80 : decode b_Y_measure 80 = .ok (.land, 1) := by decide +kernel
theorem d_Y_measure_81 : decode b_Y_measure 81 = .ok (.lastore, 1) := by decide +kernel
theorem d_Y_measure_82 : decode b_Y_measure 82 = .ok (.lload 5, 2) := by decide +kernel
theorem d_Y_measure_84 : decode b_Y_measure 84 = .ok (.aload_n 0, 1) := by decide +kernel
theorem d_Y_measure_85 : decode b_Y_measure 85 = .ok (.getfield 19, 3) := by decide +kernel
theorem d_Y_measure_88 : decode b_Y_measure 88 = .ok (.iload 7, 2) := by decide +kernel
theorem d_Y_measure_90 : decode b_Y_measure 90 = .ok (.iconst 1, 1) := by decide +kernel
theorem d_Y_measure_91 : decode b_Y_measure 91 = .ok (.iadd, 1) := by decide +kernel
theorem d_Y_measure_92 : decode b_Y_measure 92 = .ok (.laload, 1) := by decide +kernel
theorem d_Y_measure_93 : decode b_Y_measure 93 = .ok (.lor, 1) := by decide +kernel
theorem d_Y_measure_94 : decode b_Y_measure 94 = .ok (.lstore 5, 2) := by decide +kernel
theorem d_Y_measure_96 : decode b_Y_measure 96 = .ok (.iinc 7 1, 3) := by decide +kernel
theorem d_Y_measure_99 : decode b_Y_measure 99 = .ok (.goto (-81), 3) := by decide +kernel
theorem d_Y_measure_102 : decode b_Y_measure 102 = .ok (.iconst (-1), 1) := by decide +kernel
theorem d_Y_measure_103 : decode b_Y_measure 103 = .ok (.ireturn, 1) := by decide +kernel
theorem d_Y_walk_0 : decode b_Y_walk 0 = .ok (.aload_n 0, 1) := by decide +kernel
theorem d_Y_walk_1 : decode b_Y_walk 1 = .ok (.getfield 9, 3) := by decide +kernel
theorem d_Y_walk_4 : decode b_Y_walk 4 = .ok (.iconst 0, 1) := by decide +kernel
theorem d_Y_walk_5 : decode b_Y_walk 5 = .ok (.iload_n 3, 1) := by decide +kernel
theorem d_Y_walk_6 : decode b_Y_walk 6 = .ok (.iastore, 1) := by decide +kernel
theorem d_Y_walk_7 : decode b_Y_walk 7 = .ok (.aload_n 0, 1) := by decide +kernel
theorem d_Y_walk_8 : decode b_Y_walk 8 = .ok (.iconst 1, 1) := by decide +kernel
theorem d_Y_walk_9 : decode b_Y_walk 9 = .ok (.putfield 15, 3) := by decide +kernel
theorem d_Y_walk_12 : decode b_Y_walk 12 = .ok (.iload 4, 2) := by decide +kernel
theorem d_Y_walk_14 : decode b_Y_walk 14 = .ok (.iconst 1, 1) := by decide +kernel
theorem d_Y_walk_15 : decode b_Y_walk 15 = .ok (.isub, 1) := by decide +kernel
theorem d_Y_walk_16 : decode b_Y_walk 16 = .ok (.istore 5, 2) := by decide +kernel
theorem d_Y_walk_18 : decode b_Y_walk 18 = .ok (.iload 5, 2) := by decide +kernel
theorem d_Y_walk_20 : decode b_Y_walk 20 = .ok (.ifCond .lt 69, 3) := by decide +kernel
theorem d_Y_walk_23 : decode b_Y_walk 23 = .ok (.aload_n 0, 1) := by decide +kernel
theorem d_Y_walk_24 : decode b_Y_walk 24 = .ok (.getfield 15, 3) := by decide +kernel
theorem d_Y_walk_27 : decode b_Y_walk 27 = .ok (.bipush 60, 2) := by decide +kernel
theorem d_Y_walk_29 : decode b_Y_walk 29 = .ok (.if_icmp .ge 60, 3) := by decide +kernel
theorem d_Y_walk_32 : decode b_Y_walk 32 = .ok (.aload_n 1, 1) := by decide +kernel
theorem d_Y_walk_33 : decode b_Y_walk 33 = .ok (.iload_n 2, 1) := by decide +kernel
theorem d_Y_walk_34 : decode b_Y_walk 34 = .ok (.aload_n 0, 1) := by decide +kernel
theorem d_Y_walk_35 : decode b_Y_walk 35 = .ok (.getfield 9, 3) := by decide +kernel
theorem d_Y_walk_38 : decode b_Y_walk 38 = .ok (.aload_n 0, 1) := by decide +kernel
theorem d_Y_walk_39 : decode b_Y_walk 39 = .ok (.getfield 15, 3) := by decide +kernel
theorem d_Y_walk_42 : decode b_Y_walk 42 = .ok (.iconst 1, 1) := by decide +kernel
theorem d_Y_walk_43 : decode b_Y_walk 43 = .ok (.isub, 1) := by decide +kernel
theorem d_Y_walk_44 : decode b_Y_walk 44 = .ok (.iaload, 1) := by decide +kernel
theorem d_Y_walk_45 : decode b_Y_walk 45 = .ok (.invokevirtual 47, 3) := by decide +kernel
theorem d_Y_walk_48 : decode b_Y_walk 48 = .ok (.aload_n 0, 1) := by decide +kernel
theorem d_Y_walk_49 : decode b_Y_walk 49 = .ok (.getfield 19, 3) := by decide +kernel
theorem d_Y_walk_52 : decode b_Y_walk 52 = .ok (.iload 5, 2) := by decide +kernel
theorem d_Y_walk_54 : decode b_Y_walk 54 = .ok (.laload, 1) := by decide +kernel
theorem d_Y_walk_55 : decode b_Y_walk 55 = .ok (.land, 1) := by decide +kernel
theorem d_Y_walk_56 : decode b_Y_walk 56 = .ok (.lstore 6, 2) := by decide +kernel
theorem d_Y_walk_58 : decode b_Y_walk 58 = .ok (.aload_n 0, 1) := by decide +kernel
theorem d_Y_walk_59 : decode b_Y_walk 59 = .ok (.getfield 9, 3) := by decide +kernel
theorem d_Y_walk_62 : decode b_Y_walk 62 = .ok (.aload_n 0, 1) := by decide +kernel
theorem d_Y_walk_63 : decode b_Y_walk 63 = .ok (.getfield 15, 3) := by decide +kernel
theorem d_Y_walk_66 : decode b_Y_walk 66 = .ok (.lload 6, 2) := by decide +kernel
theorem d_Y_walk_68 : decode b_Y_walk 68 = .ok (.iconst 0, 1) := by decide +kernel
theorem d_Y_walk_69 : decode b_Y_walk 69 = .ok (.invokestatic 51, 3) := by decide +kernel
theorem d_Y_walk_72 : decode b_Y_walk 72 = .ok (.iastore, 1) := by decide +kernel
theorem d_Y_walk_73 : decode b_Y_walk 73 = .ok (.aload_n 0, 1) := by decide +kernel
theorem d_Y_walk_74 : decode b_Y_walk 74 = .ok (.dup, 1) := by decide +kernel
theorem d_Y_walk_75 : decode b_Y_walk 75 = .ok (.getfield 15, 3) := by decide +kernel
theorem d_Y_walk_78 : decode b_Y_walk 78 = .ok (.iconst 1, 1) := by decide +kernel
theorem d_Y_walk_79 : decode b_Y_walk 79 = .ok (.iadd, 1) := by decide +kernel
theorem d_Y_walk_80 : decode b_Y_walk 80 = .ok (.putfield 15, 3) := by decide +kernel
theorem d_Y_walk_83 : decode b_Y_walk 83 = .ok (.iinc 5 (-1), 3) := by decide +kernel
theorem d_Y_walk_86 : decode b_Y_walk 86 = .ok (.goto (-68), 3) := by decide +kernel
theorem d_Y_walk_89 : decode b_Y_walk 89 = .ok (.return_, 1) := by decide +kernel
theorem d_J_bitCount_0 : decode b_J_bitCount 0 = .ok (.lload_n 0, 1) := by decide +kernel
theorem d_J_bitCount_1 : decode b_J_bitCount 1 = .ok (.lload_n 0, 1) := by decide +kernel
theorem d_J_bitCount_2 : decode b_J_bitCount 2 = .ok (.iconst 1, 1) := by decide +kernel
theorem d_J_bitCount_3 : decode b_J_bitCount 3 = .ok (.lushr, 1) := by decide +kernel
theorem d_J_bitCount_4 : decode b_J_bitCount 4 = .ok (.ldc2_w 314, 3) := by decide +kernel
theorem d_J_bitCount_7 : decode b_J_bitCount 7 = .ok (.land, 1) := by decide +kernel
theorem d_J_bitCount_8 : decode b_J_bitCount 8 = .ok (.lsub, 1) := by decide +kernel
theorem d_J_bitCount_9 : decode b_J_bitCount 9 = .ok (.lstore_n 0, 1) := by decide +kernel
theorem d_J_bitCount_10 : decode b_J_bitCount 10 = .ok (.lload_n 0, 1) := by decide +kernel
theorem d_J_bitCount_11 : decode b_J_bitCount 11 = .ok (.ldc2_w 316, 3) := by decide +kernel
theorem d_J_bitCount_14 : decode b_J_bitCount 14 = .ok (.land, 1) := by decide +kernel
theorem d_J_bitCount_15 : decode b_J_bitCount 15 = .ok (.lload_n 0, 1) := by decide +kernel
theorem d_J_bitCount_16 : decode b_J_bitCount 16 = .ok (.iconst 2, 1) := by decide +kernel
theorem d_J_bitCount_17 : decode b_J_bitCount 17 = .ok (.lushr, 1) := by decide +kernel
theorem d_J_bitCount_18 : decode b_J_bitCount 18 = .ok (.ldc2_w 316, 3) := by decide +kernel
theorem d_J_bitCount_21 : decode b_J_bitCount 21 = .ok (.land, 1) := by decide +kernel
theorem d_J_bitCount_22 : decode b_J_bitCount 22 = .ok (.ladd, 1) := by decide +kernel
theorem d_J_bitCount_23 : decode b_J_bitCount 23 = .ok (.lstore_n 0, 1) := by decide +kernel
theorem d_J_bitCount_24 : decode b_J_bitCount 24 = .ok (.lload_n 0, 1) := by decide +kernel
theorem d_J_bitCount_25 : decode b_J_bitCount 25 = .ok (.lload_n 0, 1) := by decide +kernel
theorem d_J_bitCount_26 : decode b_J_bitCount 26 = .ok (.iconst 4, 1) := by decide +kernel
theorem d_J_bitCount_27 : decode b_J_bitCount 27 = .ok (.lushr, 1) := by decide +kernel
theorem d_J_bitCount_28 : decode b_J_bitCount 28 = .ok (.ladd, 1) := by decide +kernel
theorem d_J_bitCount_29 : decode b_J_bitCount 29 = .ok (.ldc2_w 318, 3) := by decide +kernel
theorem d_J_bitCount_32 : decode b_J_bitCount 32 = .ok (.land, 1) := by decide +kernel
theorem d_J_bitCount_33 : decode b_J_bitCount 33 = .ok (.lstore_n 0, 1) := by decide +kernel
theorem d_J_bitCount_34 : decode b_J_bitCount 34 = .ok (.lload_n 0, 1) := by decide +kernel
theorem d_J_bitCount_35 : decode b_J_bitCount 35 = .ok (.lload_n 0, 1) := by decide +kernel
theorem d_J_bitCount_36 : decode b_J_bitCount 36 = .ok (.bipush 8, 2) := by decide +kernel
theorem d_J_bitCount_38 : decode b_J_bitCount 38 = .ok (.lushr, 1) := by decide +kernel
theorem d_J_bitCount_39 : decode b_J_bitCount 39 = .ok (.ladd, 1) := by decide +kernel
theorem d_J_bitCount_40 : decode b_J_bitCount 40 = .ok (.lstore_n 0, 1) := by decide +kernel
theorem d_J_bitCount_41 : decode b_J_bitCount 41 = .ok (.lload_n 0, 1) := by decide +kernel
theorem d_J_bitCount_42 : decode b_J_bitCount 42 = .ok (.lload_n 0, 1) := by decide +kernel
theorem d_J_bitCount_43 : decode b_J_bitCount 43 = .ok (.bipush 16, 2) := by decide +kernel
theorem d_J_bitCount_45 : decode b_J_bitCount 45 = .ok (.lushr, 1) := by decide +kernel
theorem d_J_bitCount_46 : decode b_J_bitCount 46 = .ok (.ladd, 1) := by decide +kernel
theorem d_J_bitCount_47 : decode b_J_bitCount 47 = .ok (.lstore_n 0, 1) := by decide +kernel
theorem d_J_bitCount_48 : decode b_J_bitCount 48 = .ok (.lload_n 0, 1) := by decide +kernel
theorem d_J_bitCount_49 : decode b_J_bitCount 49 = .ok (.lload_n 0, 1) := by decide +kernel
theorem d_J_bitCount_50 : decode b_J_bitCount 50 = .ok (.bipush 32, 2) := by decide +kernel
theorem d_J_bitCount_52 : decode b_J_bitCount 52 = .ok (.lushr, 1) := by decide +kernel
theorem d_J_bitCount_53 : decode b_J_bitCount 53 = .ok (.ladd, 1) := by decide +kernel
theorem d_J_bitCount_54 : decode b_J_bitCount 54 = .ok (.lstore_n 0, 1) := by decide +kernel
theorem d_J_bitCount_55 : decode b_J_bitCount 55 = .ok (.lload_n 0, 1) := by decide +kernel
theorem d_J_bitCount_56 : decode b_J_bitCount 56 = .ok (.l2i, 1) := by decide +kernel
theorem d_J_bitCount_57 : decode b_J_bitCount 57 = .ok (.bipush 127, 2) := by decide +kernel
theorem d_J_bitCount_59 : decode b_J_bitCount 59 = .ok (.iand, 1) := by decide +kernel
theorem d_J_bitCount_60 : decode b_J_bitCount 60 = .ok (.ireturn, 1) := by decide +kernel
