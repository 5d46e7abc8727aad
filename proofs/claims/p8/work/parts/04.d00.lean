theorem d_A_init_0 : decode b_A_init 0 = .ok (.aload_n 0, 1) := by decide +kernel
theorem d_A_init_1 : decode b_A_init 1 = .ok (.invokespecial 3, 3) := by decide +kernel
theorem d_A_init_4 : decode b_A_init 4 = .ok (.aload_n 0, 1) := by decide +kernel
theorem d_A_init_5 : decode b_A_init 5 = .ok (.new 9, 3) := by decide +kernel
theorem d_A_init_8 : decode b_A_init 8 = .ok (.dup, 1) := by decide +kernel
theorem d_A_init_9 : decode b_A_init 9 = .ok (.invokespecial 11, 3) := by decide +kernel
theorem d_A_init_12 : decode b_A_init 12 = .ok (.putfield 12, 3) := by decide +kernel
theorem d_A_init_15 : decode b_A_init 15 = .ok (.aload_n 0, 1) := by decide +kernel
theorem d_A_init_16 : decode b_A_init 16 = .ok (.new 16, 3) := by decide +kernel
theorem d_A_init_19 : decode b_A_init 19 = .ok (.dup, 1) := by decide +kernel
theorem d_A_init_20 : decode b_A_init 20 = .ok (.invokespecial 18, 3) := by decide +kernel
theorem d_A_init_23 : decode b_A_init 23 = .ok (.putfield 19, 3) := by decide +kernel
theorem d_A_init_26 : decode b_A_init 26 = .ok (.aload_n 0, 1) := by decide +kernel
theorem d_A_init_27 : decode b_A_init 27 = .ok (.new 23, 3) := by decide +kernel
theorem d_A_init_30 : decode b_A_init 30 = .ok (.dup, 1) := by decide +kernel
theorem d_A_init_31 : decode b_A_init 31 = .ok (.invokespecial 25, 3) := by decide +kernel
theorem d_A_init_34 : decode b_A_init 34 = .ok (.putfield 26, 3) := by decide +kernel
theorem d_A_init_37 : decode b_A_init 37 = .ok (.aload_n 0, 1) := by decide +kernel
theorem d_A_init_38 : decode b_A_init 38 = .ok (.new 30, 3) := by decide +kernel
theorem d_A_init_41 : decode b_A_init 41 = .ok (.dup, 1) := by decide +kernel
theorem d_A_init_42 : decode b_A_init 42 = .ok (.invokespecial 32, 3) := by decide +kernel
theorem d_A_init_45 : decode b_A_init 45 = .ok (.putfield 33, 3) := by decide +kernel
theorem d_A_init_48 : decode b_A_init 48 = .ok (.aload_n 0, 1) := by decide +kernel
theorem d_A_init_49 : decode b_A_init 49 = .ok (.new 37, 3) := by decide +kernel
theorem d_A_init_52 : decode b_A_init 52 = .ok (.dup, 1) := by decide +kernel
theorem d_A_init_53 : decode b_A_init 53 = .ok (.invokespecial 39, 3) := by decide +kernel
theorem d_A_init_56 : decode b_A_init 56 = .ok (.putfield 40, 3) := by decide +kernel
theorem d_A_init_59 : decode b_A_init 59 = .ok (.aload_n 0, 1) := by decide +kernel
theorem d_A_init_60 : decode b_A_init 60 = .ok (.new 44, 3) := by decide +kernel
theorem d_A_init_63 : decode b_A_init 63 = .ok (.dup, 1) := by decide +kernel
theorem d_A_init_64 : decode b_A_init 64 = .ok (.invokespecial 46, 3) := by decide +kernel
theorem d_A_init_67 : decode b_A_init 67 = .ok (.putfield 47, 3) := by decide +kernel
theorem d_A_init_70 : decode b_A_init 70 = .ok (.return_, 1) := by decide +kernel
theorem d_A_sign_0 : decode b_A_sign 0 = .ok (.aload_n 0, 1) := by decide +kernel
theorem d_A_sign_1 : decode b_A_sign 1 = .ok (.getfield 12, 3) := by decide +kernel
theorem d_A_sign_4 : decode b_A_sign 4 = .ok (.iload_n 1, 1) := by decide +kernel
theorem d_A_sign_5 : decode b_A_sign 5 = .ok (.sipush 255, 3) := by decide +kernel
theorem d_A_sign_8 : decode b_A_sign 8 = .ok (.iand, 1) := by decide +kernel
theorem d_A_sign_9 : decode b_A_sign 9 = .ok (.i2c, 1) := by decide +kernel
theorem d_A_sign_10 : decode b_A_sign 10 = .ok (.invokevirtual 51, 3) := by decide +kernel
theorem d_A_sign_13 : decode b_A_sign 13 = .ok (.return_, 1) := by decide +kernel
theorem d_A_heading_0 : decode b_A_heading 0 = .ok (.aload_n 0, 1) := by decide +kernel
theorem d_A_heading_1 : decode b_A_heading 1 = .ok (.getfield 12, 3) := by decide +kernel
theorem d_A_heading_4 : decode b_A_heading 4 = .ok (.aload_n 0, 1) := by decide +kernel
theorem d_A_heading_5 : decode b_A_heading 5 = .ok (.getfield 19, 3) := by decide +kernel
theorem d_A_heading_8 : decode b_A_heading 8 = .ok (.invokevirtual 55, 3) := by decide +kernel
theorem d_A_heading_11 : decode b_A_heading 11 = .ok (.ifCond .ne 6, 3) := by decide +kernel
theorem d_A_heading_14 : decode b_A_heading 14 = .ok (.bipush (-99), 2) := by decide +kernel
theorem d_A_heading_16 : decode b_A_heading 16 = .ok (.ireturn, 1) := by decide +kernel
theorem d_A_heading_17 : decode b_A_heading 17 = .ok (.iload_n 1, 1) := by decide +kernel
theorem d_A_heading_18 : decode b_A_heading 18 = .ok (.ifCond .lt 8, 3) := by decide +kernel
theorem d_A_heading_21 : decode b_A_heading 21 = .ok (.iload_n 1, 1) := by decide +kernel
theorem d_A_heading_22 : decode b_A_heading 22 = .ok (.iconst 4, 1) := by decide +kernel
theorem d_A_heading_23 : decode b_A_heading 23 = .ok (.if_icmp .lt 5, 3) := by decide +kernel
theorem d_A_heading_26 : decode b_A_heading 26 = .ok (.iconst 0, 1) := by decide +kernel
theorem d_A_heading_27 : decode b_A_heading 27 = .ok (.ireturn, 1) := by decide +kernel
theorem d_A_heading_28 : decode b_A_heading 28 = .ok (.aload_n 0, 1) := by decide +kernel
theorem d_A_heading_29 : decode b_A_heading 29 = .ok (.iload_n 1, 1) := by decide +kernel
theorem d_A_heading_30 : decode b_A_heading 30 = .ok (.invokevirtual 59, 3) := by decide +kernel
theorem d_A_heading_33 : decode b_A_heading 33 = .ok (.ireturn, 1) := by decide +kernel
theorem d_A_link_0 : decode b_A_link 0 = .ok (.iload_n 1, 1) := by decide +kernel
theorem d_A_link_1 : decode b_A_link 1 = .ok (.ifCond .lt 13, 3) := by decide +kernel
theorem d_A_link_4 : decode b_A_link 4 = .ok (.iload_n 1, 1) := by decide +kernel
theorem d_A_link_5 : decode b_A_link 5 = .ok (.iconst 4, 1) := by decide +kernel
theorem d_A_link_6 : decode b_A_link 6 = .ok (.if_icmp .ge 8, 3) := by decide +kernel
theorem d_A_link_9 : decode b_A_link 9 = .ok (.iload_n 2, 1) := by decide +kernel
theorem d_A_link_10 : decode b_A_link 10 = .ok (.iload_n 3, 1) := by decide +kernel
theorem d_A_link_11 : decode b_A_link 11 = .ok (.if_icmp .ne 5, 3) := by decide +kernel
theorem d_A_link_14 : decode b_A_link 14 = .ok (.iconst 0, 1) := by decide +kernel
theorem d_A_link_15 : decode b_A_link 15 = .ok (.ireturn, 1) := by decide +kernel
theorem d_A_link_16 : decode b_A_link 16 = .ok (.aload_n 0, 1) := by decide +kernel
theorem d_A_link_17 : decode b_A_link 17 = .ok (.getfield 26, 3) := by decide +kernel
theorem d_A_link_20 : decode b_A_link 20 = .ok (.iload_n 2, 1) := by decide +kernel
theorem d_A_link_21 : decode b_A_link 21 = .ok (.invokevirtual 63, 3) := by decide +kernel
theorem d_A_link_24 : decode b_A_link 24 = .ok (.ifCond .eq 14, 3) := by decide +kernel
theorem d_A_link_27 : decode b_A_link 27 = .ok (.aload_n 0, 1) := by decide +kernel
theorem d_A_link_28 : decode b_A_link 28 = .ok (.getfield 26, 3) := by decide +kernel
theorem d_A_link_31 : decode b_A_link 31 = .ok (.iload_n 3, 1) := by decide +kernel
theorem d_A_link_32 : decode b_A_link 32 = .ok (.invokevirtual 63, 3) := by decide +kernel
theorem d_A_link_35 : decode b_A_link 35 = .ok (.ifCond .ne 5, 3) := by decide +kernel
theorem d_A_link_38 : decode b_A_link 38 = .ok (.iconst 0, 1) := by decide +kernel
theorem d_A_link_39 : decode b_A_link 39 = .ok (.ireturn, 1) := by decide +kernel
theorem d_A_link_40 : decode b_A_link 40 = .ok (.aload_n 0, 1) := by decide +kernel
theorem d_A_link_41 : decode b_A_link 41 = .ok (.getfield 33, 3) := by decide +kernel
theorem d_A_link_44 : decode b_A_link 44 = .ok (.iload_n 1, 1) := by decide +kernel
theorem d_A_link_45 : decode b_A_link 45 = .ok (.iload_n 2, 1) := by decide +kernel
theorem d_A_link_46 : decode b_A_link 46 = .ok (.iload_n 3, 1) := by decide +kernel
theorem d_A_link_47 : decode b_A_link 47 = .ok (.invokevirtual 67, 3) := by decide +kernel
theorem d_A_link_50 : decode b_A_link 50 = .ok (.ifCond .ne 13, 3) := by decide +kernel
theorem d_A_link_53 : decode b_A_link 53 = .ok (.aload_n 0, 1) := by decide +kernel
theorem d_A_link_54 : decode b_A_link 54 = .ok (.getfield 33, 3) := by decide +kernel
theorem d_A_link_57 : decode b_A_link 57 = .ok (.invokevirtual 71, 3) := by decide +kernel
theorem d_A_link_60 : decode b_A_link 60 = .ok (.ifCond .eq 5, 3) := by decide +kernel
theorem d_A_link_63 : decode b_A_link 63 = .ok (.iconst 0, 1) := by decide +kernel
theorem d_A_link_64 : decode b_A_link 64 = .ok (.ireturn, 1) := by decide +kernel
theorem d_A_link_65 : decode b_A_link 65 = .ok (.iload_n 1, 1) := by decide +kernel
theorem d_A_link_66 : decode b_A_link 66 = .ok (.ifCond .ne 14, 3) := by decide +kernel
theorem d_A_link_69 : decode b_A_link 69 = .ok (.aload_n 0, 1) := by decide +kernel
theorem d_A_link_70 : decode b_A_link 70 = .ok (.iload_n 2, 1) := by decide +kernel
theorem d_A_link_71 : decode b_A_link 71 = .ok (.iload_n 3, 1) := by decide +kernel
theorem d_A_link_72 : decode b_A_link 72 = .ok (.invokevirtual 75, 3) := by decide +kernel
theorem d_A_link_75 : decode b_A_link 75 = .ok (.ifCond .eq 5, 3) := by decide +kernel
theorem d_A_link_78 : decode b_A_link 78 = .ok (.iconst 0, 1) := by decide +kernel
theorem d_A_link_79 : decode b_A_link 79 = .ok (.ireturn, 1) := by decide +kernel
theorem d_A_link_80 : decode b_A_link 80 = .ok (.iload_n 1, 1) := by decide +kernel
theorem d_A_link_81 : decode b_A_link 81 = .ok (.iconst 2, 1) := by decide +kernel
theorem d_A_link_82 : decode b_A_link 82 = .ok (.if_icmp .eq 8, 3) := by decide +kernel
theorem d_A_link_85 : decode b_A_link 85 = .ok (.iload_n 1, 1) := by decide +kernel
theorem d_A_link_86 : decode b_A_link 86 = .ok (.iconst 3, 1) := by decide +kernel
theorem d_A_link_87 : decode b_A_link 87 = .ok (.if_icmp .ne 22, 3) := by decide +kernel
theorem d_A_link_90 : decode b_A_link 90 = .ok (.aload_n 0, 1) := by decide +kernel
theorem d_A_link_91 : decode b_A_link 91 = .ok (.getfield 47, 3) := by decide +kernel
theorem d_A_link_94 : decode b_A_link 94 = .ok (.aload_n 0, 1) := by decide +kernel
theorem d_A_link_95 : decode b_A_link 95 = .ok (.getfield 33, 3) := by decide +kernel
theorem d_A_link_98 : decode b_A_link 98 = .ok (.iload_n 1, 1) := by decide +kernel
theorem d_A_link_99 : decode b_A_link 99 = .ok (.iload_n 3, 1) := by decide +kernel
theorem d_A_link_100 : decode b_A_link 100 = .ok (.iload_n 2, 1) := by decide +kernel
theorem d_A_link_101 : decode b_A_link 101 = .ok (.invokevirtual 79, 3) := by decide +kernel
theorem d_A_link_104 : decode b_A_link 104 = .ok (.ifCond .eq 5, 3) := by decide +kernel
theorem d_A_link_107 : decode b_A_link 107 = .ok (.iconst 0, 1) := by decide +kernel
theorem d_A_link_108 : decode b_A_link 108 = .ok (.ireturn, 1) := by decide +kernel
theorem d_A_link_109 : decode b_A_link 109 = .ok (.aload_n 0, 1) := by decide +kernel
theorem d_A_link_110 : decode b_A_link 110 = .ok (.getfield 33, 3) := by decide +kernel
theorem d_A_link_113 : decode b_A_link 113 = .ok (.iload_n 1, 1) := by decide +kernel
theorem d_A_link_114 : decode b_A_link 114 = .ok (.iload_n 2, 1) := by decide +kernel
theorem d_A_link_115 : decode b_A_link 115 = .ok (.iload_n 3, 1) := by decide +kernel
theorem d_A_link_116 : decode b_A_link 116 = .ok (.lload 4, 2) := by decide +kernel
theorem d_A_link_118 : decode b_A_link 118 = .ok (.invokevirtual 83, 3) := by decide +kernel
theorem d_A_link_121 : decode b_A_link 121 = .ok (.iconst 1, 1) := by decide +kernel
theorem d_A_link_122 : decode b_A_link 122 = .ok (.ireturn, 1) := by decide +kernel
theorem d_A_rename_0 : decode b_A_rename 0 = .ok (.aload_n 0, 1) := by decide +kernel
theorem d_A_rename_1 : decode b_A_rename 1 = .ok (.getfield 12, 3) := by decide +kernel
theorem d_A_rename_4 : decode b_A_rename 4 = .ok (.aload_n 0, 1) := by decide +kernel
theorem d_A_rename_5 : decode b_A_rename 5 = .ok (.getfield 19, 3) := by decide +kernel
theorem d_A_rename_8 : decode b_A_rename 8 = .ok (.invokevirtual 55, 3) := by decide +kernel
theorem d_A_rename_11 : decode b_A_rename 11 = .ok (.ifCond .ne 6, 3) := by decide +kernel
theorem d_A_rename_14 : decode b_A_rename 14 = .ok (.bipush (-99), 2) := by decide +kernel
theorem d_A_rename_16 : decode b_A_rename 16 = .ok (.ireturn, 1) := by decide +kernel
theorem d_A_rename_17 : decode b_A_rename 17 = .ok (.aload_n 0, 1) := by decide +kernel
theorem d_A_rename_18 : decode b_A_rename 18 = .ok (.getfield 26, 3) := by decide +kernel
theorem d_A_rename_21 : decode b_A_rename 21 = .ok (.iload_n 1, 1) := by decide +kernel
theorem d_A_rename_22 : decode b_A_rename 22 = .ok (.invokevirtual 63, 3) := by decide +kernel
theorem d_A_rename_25 : decode b_A_rename 25 = .ok (.ifCond .ne 6, 3) := by decide +kernel
theorem d_A_rename_28 : decode b_A_rename 28 = .ok (.bipush (-100), 2) := by decide +kernel
theorem d_A_rename_30 : decode b_A_rename 30 = .ok (.ireturn, 1) := by decide +kernel
theorem d_A_rename_31 : decode b_A_rename 31 = .ok (.aload_n 0, 1) := by decide +kernel
theorem d_A_rename_32 : decode b_A_rename 32 = .ok (.getfield 26, 3) := by decide +kernel
theorem d_A_rename_35 : decode b_A_rename 35 = .ok (.aload_n 0, 1) := by decide +kernel
theorem d_A_rename_36 : decode b_A_rename 36 = .ok (.getfield 26, 3) := by decide +kernel
theorem d_A_rename_39 : decode b_A_rename 39 = .ok (.iload_n 1, 1) := by decide +kernel
theorem d_A_rename_40 : decode b_A_rename 40 = .ok (.invokevirtual 86, 3) := by decide +kernel
theorem d_A_rename_43 : decode b_A_rename 43 = .ok (.aload_n 0, 1) := by decide +kernel
theorem d_A_rename_44 : decode b_A_rename 44 = .ok (.getfield 19, 3) := by decide +kernel
theorem d_A_rename_47 : decode b_A_rename 47 = .ok (.iload_n 1, 1) := by decide +kernel
theorem d_A_rename_48 : decode b_A_rename 48 = .ok (.invokevirtual 89, 3) := by decide +kernel
theorem d_A_rename_51 : decode b_A_rename 51 = .ok (.istore_n 2, 1) := by decide +kernel
theorem d_A_rename_52 : decode b_A_rename 52 = .ok (.iload_n 2, 1) := by decide +kernel
theorem d_A_rename_53 : decode b_A_rename 53 = .ok (.ifCond .eq 6, 3) := by decide +kernel
theorem d_A_rename_56 : decode b_A_rename 56 = .ok (.iload_n 2, 1) := by decide +kernel
theorem d_A_rename_57 : decode b_A_rename 57 = .ok (.ineg, 1) := by decide +kernel
theorem d_A_rename_58 : decode b_A_rename 58 = .ok (.ireturn, 1) := by decide +kernel
theorem d_A_rename_59 : decode b_A_rename 59 = .ok (.aload_n 0, 1) := by decide +kernel
theorem d_A_rename_60 : decode b_A_rename 60 = .ok (.getfield 26, 3) := by decide +kernel
theorem d_A_rename_63 : decode b_A_rename 63 = .ok (.iload_n 1, 1) := by decide +kernel
theorem d_A_rename_64 : decode b_A_rename 64 = .ok (.aload_n 0, 1) := by decide +kernel
theorem d_A_rename_65 : decode b_A_rename 65 = .ok (.getfield 19, 3) := by decide +kernel
theorem d_A_rename_68 : decode b_A_rename 68 = .ok (.invokevirtual 93, 3) := by decide +kernel
theorem d_A_rename_71 : decode b_A_rename 71 = .ok (.aload_n 0, 1) := by decide +kernel
theorem d_A_rename_72 : decode b_A_rename 72 = .ok (.getfield 40, 3) := by decide +kernel
theorem d_A_rename_75 : decode b_A_rename 75 = .ok (.iload_n 1, 1) := by decide +kernel
theorem d_A_rename_76 : decode b_A_rename 76 = .ok (.invokevirtual 97, 3) := by decide +kernel
theorem d_A_rename_79 : decode b_A_rename 79 = .ok (.ireturn, 1) := by decide +kernel
theorem d_A_find_0 : decode b_A_find 0 = .ok (.aload_n 0, 1) := by decide +kernel
theorem d_A_find_1 : decode b_A_find 1 = .ok (.getfield 12, 3) := by decide +kernel
theorem d_A_find_4 : decode b_A_find 4 = .ok (.aload_n 0, 1) := by decide +kernel
theorem d_A_find_5 : decode b_A_find 5 = .ok (.getfield 19, 3) := by decide +kernel
theorem d_A_find_8 : decode b_A_find 8 = .ok (.invokevirtual 55, 3) := by decide +kernel
theorem d_A_find_11 : decode b_A_find 11 = .ok (.ifCond .ne 6, 3) := by decide +kernel
theorem d_A_find_14 : decode b_A_find 14 = .ok (.bipush (-99), 2) := by decide +kernel
theorem d_A_find_16 : decode b_A_find 16 = .ok (.ireturn, 1) := by decide +kernel
theorem d_A_find_17 : decode b_A_find 17 = .ok (.aload_n 0, 1) := by decide +kernel
theorem d_A_find_18 : decode b_A_find 18 = .ok (.getfield 26, 3) := by decide +kernel
theorem d_A_find_21 : decode b_A_find 21 = .ok (.aload_n 0, 1) := by decide +kernel
theorem d_A_find_22 : decode b_A_find 22 = .ok (.getfield 19, 3) := by decide +kernel
theorem d_A_find_25 : decode b_A_find 25 = .ok (.invokevirtual 100, 3) := by decide +kernel
theorem d_A_find_28 : decode b_A_find 28 = .ok (.ireturn, 1) := by decide +kernel
theorem d_A_see_0 : decode b_A_see 0 = .ok (.aload_n 0, 1) := by decide +kernel
theorem d_A_see_1 : decode b_A_see 1 = .ok (.getfield 26, 3) := by decide +kernel
theorem d_A_see_4 : decode b_A_see 4 = .ok (.iload_n 1, 1) := by decide +kernel
theorem d_A_see_5 : decode b_A_see 5 = .ok (.invokevirtual 63, 3) := by decide +kernel
theorem d_A_see_8 : decode b_A_see 8 = .ok (.ifCond .eq 7, 3) := by decide +kernel
theorem d_A_see_11 : decode b_A_see 11 = .ok (.iload_n 2, 1) := by decide +kernel
theorem d_A_see_12 : decode b_A_see 12 = .ok (.ifCond .ge 5, 3) := by decide +kernel
theorem d_A_see_15 : decode b_A_see 15 = .ok (.iconst 0, 1) := by decide +kernel
theorem d_A_see_16 : decode b_A_see 16 = .ok (.ireturn, 1) := by decide +kernel
theorem d_A_see_17 : decode b_A_see 17 = .ok (.aload_n 0, 1) := by decide +kernel
theorem d_A_see_18 : decode b_A_see 18 = .ok (.getfield 33, 3) := by decide +kernel
theorem d_A_see_21 : decode b_A_see 21 = .ok (.iconst 0, 1) := by decide +kernel
theorem d_A_see_22 : decode b_A_see 22 = .ok (.iload_n 1, 1) := by decide +kernel
theorem d_A_see_23 : decode b_A_see 23 = .ok (.invokestatic 104, 3) := by decide +kernel
theorem d_A_see_26 : decode b_A_see 26 = .ok (.invokevirtual 108, 3) := by decide +kernel
theorem d_A_see_29 : decode b_A_see 29 = .ok (.iload_n 2, 1) := by decide +kernel
theorem d_A_see_30 : decode b_A_see 30 = .ok (.invokestatic 112, 3) := by decide +kernel
theorem d_A_see_33 : decode b_A_see 33 = .ok (.ireturn, 1) := by decide +kernel
theorem d_A_broader_0 : decode b_A_broader 0 = .ok (.aload_n 0, 1) := by decide +kernel
theorem d_A_broader_1 : decode b_A_broader 1 = .ok (.getfield 26, 3) := by decide +kernel
theorem d_A_broader_4 : decode b_A_broader 4 = .ok (.iload_n 1, 1) := by decide +kernel
theorem d_A_broader_5 : decode b_A_broader 5 = .ok (.invokevirtual 63, 3) := by decide +kernel
theorem d_A_broader_8 : decode b_A_broader 8 = .ok (.ifCond .eq 7, 3) := by decide +kernel
theorem d_A_broader_11 : decode b_A_broader 11 = .ok (.iload_n 2, 1) := by decide +kernel
theorem d_A_broader_12 : decode b_A_broader 12 = .ok (.ifCond .ge 5, 3) := by decide +kernel
theorem d_A_broader_15 : decode b_A_broader 15 = .ok (.iconst 0, 1) := by decide +kernel
theorem d_A_broader_16 : decode b_A_broader 16 = .ok (.ireturn, 1) := by decide +kernel
theorem d_A_broader_17 : decode b_A_broader 17 = .ok (.iload_n 2, 1) := by decide +kernel
theorem d_A_broader_18 : decode b_A_broader 18 = .ok (.istore_n 3, 1) := by decide +kernel
theorem d_A_broader_19 : decode b_A_broader 19 = .ok (.iload_n 1, 1) := by decide +kernel
theorem d_A_broader_20 : decode b_A_broader 20 = .ok (.invokestatic 104, 3) := by decide +kernel
theorem d_A_broader_23 : decode b_A_broader 23 = .ok (.lstore 4, 2) := by decide +kernel
theorem d_A_broader_25 : decode b_A_broader 25 = .ok (.aload_n 0, 1) := by decide +kernel
theorem d_A_broader_26 : decode b_A_broader 26 = .ok (.getfield 33, 3) := by decide +kernel
theorem d_A_broader_29 : decode b_A_broader 29 = .ok (.iconst 2, 1) := by decide +kernel
theorem d_A_broader_30 : decode b_A_broader 30 = .ok (.iload_n 1, 1) := by decide +kernel
theorem d_A_broader_31 : decode b_A_broader 31 = .ok (.invokevirtual 116, 3) := by decide +kernel
theorem d_A_broader_34 : decode b_A_broader 34 = .ok (.lstore 6, 2) := by decide +kernel
theorem d_A_broader_36 : decode b_A_broader 36 = .ok (.iconst 1, 1) := by decide +kernel
theorem d_A_broader_37 : decode b_A_broader 37 = .ok (.istore 8, 2) := by decide +kernel
theorem d_A_broader_39 : decode b_A_broader 39 = .ok (.iload 8, 2) := by decide +kernel
theorem d_A_broader_41 : decode b_A_broader 41 = .ok (.bipush 60, 2) := by decide +kernel
theorem d_A_broader_43 : decode b_A_broader 43 = .ok (.if_icmp .ge 67, 3) := by decide +kernel
theorem d_A_broader_46 : decode b_A_broader 46 = .ok (.lload 6, 2) := by decide +kernel
theorem d_A_broader_48 : decode b_A_broader 48 = .ok (.lconst 0, 1) := by decide +kernel
theorem d_A_broader_49 : decode b_A_broader 49 = .ok (.lcmp, 1) := by decide +kernel
theorem d_A_broader_50 : decode b_A_broader 50 = .ok (.ifCond .eq 60, 3) := by decide +kernel
theorem d_A_broader_53 : decode b_A_broader 53 = .ok (.lload 6, 2) := by decide +kernel
theorem d_A_broader_55 : decode b_A_broader 55 = .ok (.invokestatic 120, 3) := by decide +kernel
theorem d_A_broader_58 : decode b_A_broader 58 = .ok (.istore 9, 2) := by decide +kernel
theorem d_A_broader_60 : decode b_A_broader 60 = .ok (.iload_n 3, 1) := by decide +kernel
theorem d_A_broader_61 : decode b_A_broader 61 = .ok (.iload 9, 2) := by decide +kernel
theorem d_A_broader_63 : decode b_A_broader 63 = .ok (.if_icmp .ge 10, 3) := by decide +kernel
theorem d_A_broader_66 : decode b_A_broader 66 = .ok (.lload 6, 2) := by decide +kernel
theorem d_A_broader_68 : decode b_A_broader 68 = .ok (.iload_n 3, 1) := by decide +kernel
theorem d_A_broader_69 : decode b_A_broader 69 = .ok (.invokestatic 112, 3) := by decide +kernel
theorem d_A_broader_72 : decode b_A_broader 72 = .ok (.ireturn, 1) := by decide +kernel
theorem d_A_broader_73 : decode b_A_broader 73 = .ok (.iload_n 3, 1) := by decide +kernel
theorem d_A_broader_74 : decode b_A_broader 74 = .ok (.iload 9, 2) := by decide +kernel
theorem d_A_broader_76 : decode b_A_broader 76 = .ok (.isub, 1) := by decide +kernel
theorem d_A_broader_77 : decode b_A_broader 77 = .ok (.istore_n 3, 1) := by decide +kernel
theorem d_A_broader_78 : decode b_A_broader 78 = .ok (.lload 4, 2) := by decide +kernel
theorem d_A_broader_80 : decode b_A_broader 80 = .ok (.lload 6, 2) := by decide +kernel
theorem d_A_broader_82 : decode b_A_broader 82 = .ok (.lor, 1) := by decide +kernel
theorem d_A_broader_83 : decode b_A_broader 83 = .ok (.lstore 4, 2) := by decide +kernel
theorem d_A_broader_85 : decode b_A_broader 85 = .ok (.aload_n 0, 1) := by decide +kernel
theorem d_A_broader_86 : decode b_A_broader 86 = .ok (.getfield 33, 3) := by decide +kernel
theorem d_A_broader_89 : decode b_A_broader 89 = .ok (.iconst 2, 1) := by decide +kernel
theorem d_A_broader_90 : decode b_A_broader 90 = .ok (.lload 6, 2) := by decide +kernel
theorem d_A_broader_92 : decode b_A_broader 92 = .ok (.invokevirtual 126, 3) := by decide +kernel
theorem d_A_broader_95 : decode b_A_broader 95 = .ok (.lload 4, 2) := by decide +kernel
theorem d_A_broader_97 : decode b_A_broader 97 = .ok (.ldc2_w 129, 3) := by decide +kernel
theorem d_A_broader_100 : decode b_A_broader 100 = .ok (.lxor, 1) := by decide +kernel
theorem d_A_broader_101 : decode b_A_broader 101 = .ok (.land, 1) := by decide +kernel
theorem d_A_broader_102 : decode b_A_broader 102 = .ok (.lstore 6, 2) := by decide +kernel
theorem d_A_broader_104 : decode b_A_broader 104 = .ok (.iinc 8 1, 3) := by decide +kernel
theorem d_A_broader_107 : decode b_A_broader 107 = .ok (.goto (-68), 3) := by decide +kernel
theorem d_A_broader_110 : decode b_A_broader 110 = .ok (.iconst 0, 1) := by decide +kernel
theorem d_A_broader_111 : decode b_A_broader 111 = .ok (.ireturn, 1) := by decide +kernel
theorem d_A_delete_0 : decode b_A_delete 0 = .ok (.aload_n 0, 1) := by decide +kernel
theorem d_A_delete_1 : decode b_A_delete 1 = .ok (.getfield 26, 3) := by decide +kernel
theorem d_A_delete_4 : decode b_A_delete 4 = .ok (.iload_n 1, 1) := by decide +kernel
theorem d_A_delete_5 : decode b_A_delete 5 = .ok (.invokevirtual 63, 3) := by decide +kernel
theorem d_A_delete_8 : decode b_A_delete 8 = .ok (.ifCond .ne 5, 3) := by decide +kernel
theorem d_A_delete_11 : decode b_A_delete 11 = .ok (.iconst 0, 1) := by decide +kernel
theorem d_A_delete_12 : decode b_A_delete 12 = .ok (.ireturn, 1) := by decide +kernel
theorem d_A_delete_13 : decode b_A_delete 13 = .ok (.aload_n 0, 1) := by decide +kernel
theorem d_A_delete_14 : decode b_A_delete 14 = .ok (.getfield 40, 3) := by decide +kernel
theorem d_A_delete_17 : decode b_A_delete 17 = .ok (.iload_n 1, 1) := by decide +kernel
theorem d_A_delete_18 : decode b_A_delete 18 = .ok (.invokevirtual 97, 3) := by decide +kernel
theorem d_A_delete_21 : decode b_A_delete 21 = .ok (.istore_n 2, 1) := by decide +kernel
theorem d_A_delete_22 : decode b_A_delete 22 = .ok (.iload_n 2, 1) := by decide +kernel
theorem d_A_delete_23 : decode b_A_delete 23 = .ok (.ifCond .le 6, 3) := by decide +kernel
theorem d_A_delete_26 : decode b_A_delete 26 = .ok (.iload_n 2, 1) := by decide +kernel
theorem d_A_delete_27 : decode b_A_delete 27 = .ok (.ineg, 1) := by decide +kernel
theorem d_A_delete_28 : decode b_A_delete 28 = .ok (.ireturn, 1) := by decide +kernel
theorem d_A_delete_29 : decode b_A_delete 29 = .ok (.aload_n 0, 1) := by decide +kernel
theorem d_A_delete_30 : decode b_A_delete 30 = .ok (.getfield 26, 3) := by decide +kernel
theorem d_A_delete_33 : decode b_A_delete 33 = .ok (.iload_n 1, 1) := by decide +kernel
theorem d_A_delete_34 : decode b_A_delete 34 = .ok (.invokevirtual 131, 3) := by decide +kernel
theorem d_A_delete_37 : decode b_A_delete 37 = .ok (.aload_n 0, 1) := by decide +kernel
theorem d_A_delete_38 : decode b_A_delete 38 = .ok (.getfield 33, 3) := by decide +kernel
theorem d_A_delete_41 : decode b_A_delete 41 = .ok (.iload_n 1, 1) := by decide +kernel
theorem d_A_delete_42 : decode b_A_delete 42 = .ok (.invokevirtual 135, 3) := by decide +kernel
theorem d_A_delete_45 : decode b_A_delete 45 = .ok (.iconst 1, 1) := by decide +kernel
theorem d_A_delete_46 : decode b_A_delete 46 = .ok (.ireturn, 1) := by decide +kernel
theorem d_A_split_0 : decode b_A_split 0 = .ok (.aload_n 0, 1) := by decide +kernel
theorem d_A_split_1 : decode b_A_split 1 = .ok (.getfield 12, 3) := by decide +kernel
theorem d_A_split_4 : decode b_A_split 4 = .ok (.aload_n 0, 1) := by decide +kernel
theorem d_A_split_5 : decode b_A_split 5 = .ok (.getfield 19, 3) := by decide +kernel
theorem d_A_split_8 : decode b_A_split 8 = .ok (.invokevirtual 55, 3) := by decide +kernel
theorem d_A_split_11 : decode b_A_split 11 = .ok (.ifCond .ne 6, 3) := by decide +kernel
theorem d_A_split_14 : decode b_A_split 14 = .ok (.bipush (-99), 2) := by decide +kernel
theorem d_A_split_16 : decode b_A_split 16 = .ok (.ireturn, 1) := by decide +kernel
theorem d_A_split_17 : decode b_A_split 17 = .ok (.aload_n 0, 1) := by decide +kernel
theorem d_A_split_18 : decode b_A_split 18 = .ok (.getfield 26, 3) := by decide +kernel
theorem d_A_split_21 : decode b_A_split 21 = .ok (.iload_n 1, 1) := by decide +kernel
theorem d_A_split_22 : decode b_A_split 22 = .ok (.invokevirtual 63, 3) := by decide +kernel
theorem d_A_split_25 : decode b_A_split 25 = .ok (.ifCond .eq 13, 3) := by decide +kernel
theorem d_A_split_28 : decode b_A_split 28 = .ok (.aload_n 0, 1) := by decide +kernel
theorem d_A_split_29 : decode b_A_split 29 = .ok (.getfield 33, 3) := by decide +kernel
theorem d_A_split_32 : decode b_A_split 32 = .ok (.invokevirtual 71, 3) := by decide +kernel
theorem d_A_split_35 : decode b_A_split 35 = .ok (.ifCond .eq 5, 3) := by decide +kernel
theorem d_A_split_38 : decode b_A_split 38 = .ok (.iconst 0, 1) := by decide +kernel
theorem d_A_split_39 : decode b_A_split 39 = .ok (.ireturn, 1) := by decide +kernel
theorem d_A_split_40 : decode b_A_split 40 = .ok (.aload_n 0, 1) := by decide +kernel
theorem d_A_split_41 : decode b_A_split 41 = .ok (.aload_n 0, 1) := by decide +kernel
theorem d_A_split_42 : decode b_A_split 42 = .ok (.getfield 26, 3) := by decide +kernel
theorem d_A_split_45 : decode b_A_split 45 = .ok (.iload_n 1, 1) := by decide +kernel
theorem d_A_split_46 : decode b_A_split 46 = .ok (.invokevirtual 86, 3) := by decide +kernel
theorem d_A_split_49 : decode b_A_split 49 = .ok (.invokevirtual 59, 3) := by decide +kernel
theorem d_A_split_52 : decode b_A_split 52 = .ok (.istore 4, 2) := by decide +kernel
theorem d_A_split_54 : decode b_A_split 54 = .ok (.iload 4, 2) := by decide +kernel
theorem d_A_split_56 : decode b_A_split 56 = .ok (.ifCond .le 26, 3) := by decide +kernel
theorem d_A_split_59 : decode b_A_split 59 = .ok (.aload_n 0, 1) := by decide +kernel
theorem d_A_split_60 : decode b_A_split 60 = .ok (.getfield 33, 3) := by decide +kernel
theorem d_A_split_63 : decode b_A_split 63 = .ok (.iconst 3, 1) := by decide +kernel
theorem d_A_split_64 : decode b_A_split 64 = .ok (.iload_n 1, 1) := by decide +kernel
theorem d_A_split_65 : decode b_A_split 65 = .ok (.iload 4, 2) := by decide +kernel
theorem d_A_split_67 : decode b_A_split 67 = .ok (.lload_n 2, 1) := by decide +kernel
theorem d_A_split_68 : decode b_A_split 68 = .ok (.invokevirtual 83, 3) := by decide +kernel
theorem d_A_split_71 : decode b_A_split 71 = .ok (.aload_n 0, 1) := by decide +kernel
theorem d_A_split_72 : decode b_A_split 72 = .ok (.getfield 40, 3) := by decide +kernel
theorem d_A_split_75 : decode b_A_split 75 = .ok (.iload_n 1, 1) := by decide +kernel
theorem d_A_split_76 : decode b_A_split 76 = .ok (.iload 4, 2) := by decide +kernel
theorem d_A_split_78 : decode b_A_split 78 = .ok (.lload_n 2, 1) := by decide +kernel
theorem d_A_split_79 : decode b_A_split 79 = .ok (.invokevirtual 138, 3) := by decide +kernel
theorem d_A_split_82 : decode b_A_split 82 = .ok (.iload 4, 2) := by decide +kernel
theorem d_A_split_84 : decode b_A_split 84 = .ok (.ireturn, 1) := by decide +kernel
theorem d_A_shown_0 : decode b_A_shown 0 = .ok (.aload_n 0, 1) := by decide +kernel
theorem d_A_shown_1 : decode b_A_shown 1 = .ok (.getfield 26, 3) := by decide +kernel
theorem d_A_shown_4 : decode b_A_shown 4 = .ok (.iload_n 1, 1) := by decide +kernel
theorem d_A_shown_5 : decode b_A_shown 5 = .ok (.invokevirtual 63, 3) := by decide +kernel
theorem d_A_shown_8 : decode b_A_shown 8 = .ok (.ifCond .ne 5, 3) := by decide +kernel
theorem d_A_shown_11 : decode b_A_shown 11 = .ok (.iconst 0, 1) := by decide +kernel
theorem d_A_shown_12 : decode b_A_shown 12 = .ok (.ireturn, 1) := by decide +kernel
theorem d_A_shown_13 : decode b_A_shown 13 = .ok (.aload_n 0, 1) := by decide +kernel
theorem d_A_shown_14 : decode b_A_shown 14 = .ok (.aload_n 0, 1) := by decide +kernel
theorem d_A_shown_15 : decode b_A_shown 15 = .ok (.iload_n 1, 1) := by decide +kernel
theorem d_A_shown_16 : decode b_A_shown 16 = .ok (.invokevirtual 142, 3) := by decide +kernel
theorem d_A_shown_19 : decode b_A_shown 19 = .ok (.lload_n 2, 1) := by decide +kernel
theorem d_A_shown_20 : decode b_A_shown 20 = .ok (.invokevirtual 145, 3) := by decide +kernel
theorem d_A_shown_23 : decode b_A_shown 23 = .ok (.ireturn, 1) := by decide +kernel
theorem d_A_record_0 : decode b_A_record 0 = .ok (.aload_n 0, 1) := by decide +kernel
theorem d_A_record_1 : decode b_A_record 1 = .ok (.getfield 26, 3) := by decide +kernel
theorem d_A_record_4 : decode b_A_record 4 = .ok (.iload_n 1, 1) := by decide +kernel
theorem d_A_record_5 : decode b_A_record 5 = .ok (.invokevirtual 63, 3) := by decide +kernel
theorem d_A_record_8 : decode b_A_record 8 = .ok (.ifCond .eq 13, 3) := by decide +kernel
theorem d_A_record_11 : decode b_A_record 11 = .ok (.aload_n 0, 1) := by decide +kernel
theorem d_A_record_12 : decode b_A_record 12 = .ok (.getfield 40, 3) := by decide +kernel
theorem d_A_record_15 : decode b_A_record 15 = .ok (.invokevirtual 149, 3) := by decide +kernel
theorem d_A_record_18 : decode b_A_record 18 = .ok (.ifCond .eq 5, 3) := by decide +kernel
theorem d_A_record_21 : decode b_A_record 21 = .ok (.iconst 0, 1) := by decide +kernel
theorem d_A_record_22 : decode b_A_record 22 = .ok (.ireturn, 1) := by decide +kernel
theorem d_A_record_23 : decode b_A_record 23 = .ok (.aload_n 0, 1) := by decide +kernel
theorem d_A_record_24 : decode b_A_record 24 = .ok (.getfield 40, 3) := by decide +kernel
theorem d_A_record_27 : decode b_A_record 27 = .ok (.aload_n 0, 1) := by decide +kernel
theorem d_A_record_28 : decode b_A_record 28 = .ok (.iload_n 1, 1) := by decide +kernel
theorem d_A_record_29 : decode b_A_record 29 = .ok (.invokevirtual 142, 3) := by decide +kernel
theorem d_A_record_32 : decode b_A_record 32 = .ok (.lload_n 2, 1) := by decide +kernel
theorem d_A_record_33 : decode b_A_record 33 = .ok (.invokevirtual 150, 3) := by decide +kernel
theorem d_A_record_36 : decode b_A_record 36 = .ok (.ireturn, 1) := by decide +kernel
theorem d_A_linked_0 : decode b_A_linked 0 = .ok (.aload_n 0, 1) := by decide +kernel
theorem d_A_linked_1 : decode b_A_linked 1 = .ok (.getfield 40, 3) := by decide +kernel
theorem d_A_linked_4 : decode b_A_linked 4 = .ok (.iload_n 1, 1) := by decide +kernel
theorem d_A_linked_5 : decode b_A_linked 5 = .ok (.invokevirtual 152, 3) := by decide +kernel
theorem d_A_linked_8 : decode b_A_linked 8 = .ok (.ireturn, 1) := by decide +kernel
theorem d_A_form_0 : decode b_A_form 0 = .ok (.aload_n 0, 1) := by decide +kernel
theorem d_A_form_1 : decode b_A_form 1 = .ok (.getfield 26, 3) := by decide +kernel
theorem d_A_form_4 : decode b_A_form 4 = .ok (.iload_n 1, 1) := by decide +kernel
theorem d_A_form_5 : decode b_A_form 5 = .ok (.invokevirtual 63, 3) := by decide +kernel
theorem d_A_form_8 : decode b_A_form 8 = .ok (.ifCond .ne 5, 3) := by decide +kernel
theorem d_A_form_11 : decode b_A_form 11 = .ok (.iconst 0, 1) := by decide +kernel
theorem d_A_form_12 : decode b_A_form 12 = .ok (.ireturn, 1) := by decide +kernel
theorem d_A_form_13 : decode b_A_form 13 = .ok (.aload_n 0, 1) := by decide +kernel
theorem d_A_form_14 : decode b_A_form 14 = .ok (.iload_n 1, 1) := by decide +kernel
theorem d_A_form_15 : decode b_A_form 15 = .ok (.lload_n 2, 1) := by decide +kernel
theorem d_A_form_16 : decode b_A_form 16 = .ok (.invokevirtual 145, 3) := by decide +kernel
theorem d_A_form_19 : decode b_A_form 19 = .ok (.ireturn, 1) := by decide +kernel
theorem d_A_ring_0 : decode b_A_ring 0 = .ok (.aload_n 0, 1) := by decide +kernel
theorem d_A_ring_1 : decode b_A_ring 1 = .ok (.getfield 47, 3) := by decide +kernel
theorem d_A_ring_4 : decode b_A_ring 4 = .ok (.iload_n 1, 1) := by decide +kernel
theorem d_A_ring_5 : decode b_A_ring 5 = .ok (.invokevirtual 155, 3) := by decide +kernel
theorem d_A_ring_8 : decode b_A_ring 8 = .ok (.ireturn, 1) := by decide +kernel
theorem d_A_letter_0 : decode b_A_letter 0 = .ok (.aload_n 0, 1) := by decide +kernel
theorem d_A_letter_1 : decode b_A_letter 1 = .ok (.getfield 26, 3) := by decide +kernel
theorem d_A_letter_4 : decode b_A_letter 4 = .ok (.iload_n 1, 1) := by decide +kernel
theorem d_A_letter_5 : decode b_A_letter 5 = .ok (.iload_n 2, 1) := by decide +kernel
theorem d_A_letter_6 : decode b_A_letter 6 = .ok (.invokevirtual 158, 3) := by decide +kernel
theorem d_A_letter_9 : decode b_A_letter 9 = .ok (.ireturn, 1) := by decide +kernel
theorem d_A_addHeading_0 : decode b_A_addHeading 0 = .ok (.aload_n 0, 1) := by decide +kernel
theorem d_A_addHeading_1 : decode b_A_addHeading 1 = .ok (.getfield 26, 3) := by decide +kernel
theorem d_A_addHeading_4 : decode b_A_addHeading 4 = .ok (.invokevirtual 162, 3) := by decide +kernel
theorem d_A_addHeading_7 : decode b_A_addHeading 7 = .ok (.ifCond .eq 5, 3) := by decide +kernel
