theorem d_M_make_23 : decode b_M_make 23 = .ok (.ineg, 1) := by decide +kernel
theorem d_M_make_24 : decode b_M_make 24 = .ok (.ireturn, 1) := by decide +kernel
theorem d_M_make_25 : decode b_M_make 25 = .ok (.aload_n 0, 1) := by decide +kernel
theorem d_M_make_26 : decode b_M_make 26 = .ok (.getfield 66, 3) := by decide +kernel
theorem d_M_make_29 : decode b_M_make 29 = .ok (.bipush 60, 2) := by decide +kernel
theorem d_M_make_31 : decode b_M_make 31 = .ok (.if_icmp .ne 5, 3) := by decide +kernel
theorem d_M_make_34 : decode b_M_make 34 = .ok (.iconst 0, 1) := by decide +kernel
theorem d_M_make_35 : decode b_M_make 35 = .ok (.ireturn, 1) := by decide +kernel
theorem d_M_make_36 : decode b_M_make 36 = .ok (.aload_n 0, 1) := by decide +kernel
theorem d_M_make_37 : decode b_M_make 37 = .ok (.dup, 1) := by decide +kernel
theorem d_M_make_38 : decode b_M_make 38 = .ok (.getfield 66, 3) := by decide +kernel
theorem d_M_make_41 : decode b_M_make 41 = .ok (.iconst 1, 1) := by decide +kernel
theorem d_M_make_42 : decode b_M_make 42 = .ok (.iadd, 1) := by decide +kernel
theorem d_M_make_43 : decode b_M_make 43 = .ok (.putfield 66, 3) := by decide +kernel
theorem d_M_make_46 : decode b_M_make 46 = .ok (.aload_n 0, 1) := by decide +kernel
theorem d_M_make_47 : decode b_M_make 47 = .ok (.getfield 13, 3) := by decide +kernel
theorem d_M_make_50 : decode b_M_make 50 = .ok (.aload_n 0, 1) := by decide +kernel
theorem d_M_make_51 : decode b_M_make 51 = .ok (.getfield 66, 3) := by decide +kernel
theorem d_M_make_54 : decode b_M_make 54 = .ok (.iload_n 1, 1) := by decide +kernel
theorem d_M_make_55 : decode b_M_make 55 = .ok (.iastore, 1) := by decide +kernel
theorem d_M_make_56 : decode b_M_make 56 = .ok (.aload_n 0, 1) := by decide +kernel
theorem d_M_make_57 : decode b_M_make 57 = .ok (.getfield 17, 3) := by decide +kernel
theorem d_M_make_60 : decode b_M_make 60 = .ok (.aload_n 0, 1) := by decide +kernel
theorem d_M_make_61 : decode b_M_make 61 = .ok (.getfield 66, 3) := by decide +kernel
theorem d_M_make_64 : decode b_M_make 64 = .ok (.iconst 1, 1) := by decide +kernel
theorem d_M_make_65 : decode b_M_make 65 = .ok (.bastore, 1) := by decide +kernel
theorem d_M_make_66 : decode b_M_make 66 = .ok (.aload_n 0, 1) := by decide +kernel
theorem d_M_make_67 : decode b_M_make 67 = .ok (.aload_n 0, 1) := by decide +kernel
theorem d_M_make_68 : decode b_M_make 68 = .ok (.getfield 66, 3) := by decide +kernel
theorem d_M_make_71 : decode b_M_make 71 = .ok (.invokevirtual 77, 3) := by decide +kernel
theorem d_M_make_74 : decode b_M_make 74 = .ok (.aload_n 0, 1) := by decide +kernel
theorem d_M_make_75 : decode b_M_make 75 = .ok (.getfield 66, 3) := by decide +kernel
theorem d_M_make_78 : decode b_M_make 78 = .ok (.ireturn, 1) := by decide +kernel
theorem d_M_heading_0 : decode b_M_heading 0 = .ok (.aload_n 0, 1) := by decide +kernel
theorem d_M_heading_1 : decode b_M_heading 1 = .ok (.iconst 0, 1) := by decide +kernel
theorem d_M_heading_2 : decode b_M_heading 2 = .ok (.putfield 52, 3) := by decide +kernel
theorem d_M_heading_5 : decode b_M_heading 5 = .ok (.aload_n 0, 1) := by decide +kernel
theorem d_M_heading_6 : decode b_M_heading 6 = .ok (.invokevirtual 81, 3) := by decide +kernel
theorem d_M_heading_9 : decode b_M_heading 9 = .ok (.ifCond .eq 11, 3) := by decide +kernel
theorem d_M_heading_12 : decode b_M_heading 12 = .ok (.aload_n 0, 1) := by decide +kernel
theorem d_M_heading_13 : decode b_M_heading 13 = .ok (.iload_n 1, 1) := by decide +kernel
theorem d_M_heading_14 : decode b_M_heading 14 = .ok (.invokevirtual 85, 3) := by decide +kernel
theorem d_M_heading_17 : decode b_M_heading 17 = .ok (.goto 5, 3) := by decide +kernel
theorem d_M_heading_20 : decode b_M_heading 20 = .ok (.bipush (-99), 2) := by decide +kernel
theorem d_M_heading_22 : decode b_M_heading 22 = .ok (.ireturn, 1) := by decide +kernel
theorem d_M_find_0 : decode b_M_find 0 = .ok (.aload_n 0, 1) := by decide +kernel
theorem d_M_find_1 : decode b_M_find 1 = .ok (.iconst 0, 1) := by decide +kernel
theorem d_M_find_2 : decode b_M_find 2 = .ok (.putfield 52, 3) := by decide +kernel
theorem d_M_find_5 : decode b_M_find 5 = .ok (.aload_n 0, 1) := by decide +kernel
theorem d_M_find_6 : decode b_M_find 6 = .ok (.invokevirtual 81, 3) := by decide +kernel
theorem d_M_find_9 : decode b_M_find 9 = .ok (.ifCond .eq 12, 3) := by decide +kernel
theorem d_M_find_12 : decode b_M_find 12 = .ok (.aload_n 0, 1) := by decide +kernel
theorem d_M_find_13 : decode b_M_find 13 = .ok (.iconst (-1), 1) := by decide +kernel
theorem d_M_find_14 : decode b_M_find 14 = .ok (.iconst 0, 1) := by decide +kernel
theorem d_M_find_15 : decode b_M_find 15 = .ok (.invokevirtual 73, 3) := by decide +kernel
theorem d_M_find_18 : decode b_M_find 18 = .ok (.goto 5, 3) := by decide +kernel
theorem d_M_find_21 : decode b_M_find 21 = .ok (.bipush (-99), 2) := by decide +kernel
theorem d_M_find_23 : decode b_M_find 23 = .ok (.ireturn, 1) := by decide +kernel
theorem d_M_linkedTo_0 : decode b_M_linkedTo 0 = .ok (.iconst 0, 1) := by decide +kernel
theorem d_M_linkedTo_1 : decode b_M_linkedTo 1 = .ok (.istore_n 2, 1) := by decide +kernel
theorem d_M_linkedTo_2 : decode b_M_linkedTo 2 = .ok (.iconst 1, 1) := by decide +kernel
theorem d_M_linkedTo_3 : decode b_M_linkedTo 3 = .ok (.istore_n 3, 1) := by decide +kernel
theorem d_M_linkedTo_4 : decode b_M_linkedTo 4 = .ok (.iload_n 3, 1) := by decide +kernel
theorem d_M_linkedTo_5 : decode b_M_linkedTo 5 = .ok (.aload_n 0, 1) := by decide +kernel
theorem d_M_linkedTo_6 : decode b_M_linkedTo 6 = .ok (.getfield 88, 3) := by decide +kernel
theorem d_M_linkedTo_9 : decode b_M_linkedTo 9 = .ok (.if_icmp .gt 27, 3) := by decide +kernel
theorem d_M_linkedTo_12 : decode b_M_linkedTo 12 = .ok (.iload_n 2, 1) := by decide +kernel
theorem d_M_linkedTo_13 : decode b_M_linkedTo 13 = .ok (.aload_n 0, 1) := by decide +kernel
theorem d_M_linkedTo_14 : decode b_M_linkedTo 14 = .ok (.getfield 40, 3) := by decide +kernel
theorem d_M_linkedTo_17 : decode b_M_linkedTo 17 = .ok (.iload_n 3, 1) := by decide +kernel
theorem d_M_linkedTo_18 : decode b_M_linkedTo 18 = .ok (.iaload, 1) := by decide +kernel
theorem d_M_linkedTo_19 : decode b_M_linkedTo 19 = .ok (.iload_n 1, 1) := by decide +kernel
theorem d_M_linkedTo_20 : decode b_M_linkedTo 20 = .ok (.if_icmp .ne 7, 3) := by decide +kernel
theorem d_M_linkedTo_23 : decode b_M_linkedTo 23 = .ok (.iconst 1, 1) := by decide +kernel
theorem d_M_linkedTo_24 : decode b_M_linkedTo 24 = .ok (.goto 4, 3) := by decide +kernel
theorem d_M_linkedTo_27 : decode b_M_linkedTo 27 = .ok (.iconst 0, 1) := by decide +kernel
theorem d_M_linkedTo_28 : decode b_M_linkedTo 28 = .ok (.iadd, 1) := by decide +kernel
theorem d_M_linkedTo_29 : decode b_M_linkedTo 29 = .ok (.istore_n 2, 1) := by decide +kernel
theorem d_M_linkedTo_30 : decode b_M_linkedTo 30 = .ok (.iinc 3 1, 3) := by decide +kernel
theorem d_M_linkedTo_33 : decode b_M_linkedTo 33 = .ok (.goto (-29), 3) := by decide +kernel
theorem d_M_linkedTo_36 : decode b_M_linkedTo 36 = .ok (.iload_n 2, 1) := by decide +kernel
theorem d_M_linkedTo_37 : decode b_M_linkedTo 37 = .ok (.ireturn, 1) := by decide +kernel
theorem d_M_rename_0 : decode b_M_rename 0 = .ok (.aload_n 0, 1) := by decide +kernel
theorem d_M_rename_1 : decode b_M_rename 1 = .ok (.iconst 0, 1) := by decide +kernel
theorem d_M_rename_2 : decode b_M_rename 2 = .ok (.putfield 52, 3) := by decide +kernel
theorem d_M_rename_5 : decode b_M_rename 5 = .ok (.aload_n 0, 1) := by decide +kernel
theorem d_M_rename_6 : decode b_M_rename 6 = .ok (.invokevirtual 81, 3) := by decide +kernel
theorem d_M_rename_9 : decode b_M_rename 9 = .ok (.ifCond .ne 6, 3) := by decide +kernel
theorem d_M_rename_12 : decode b_M_rename 12 = .ok (.bipush (-99), 2) := by decide +kernel
theorem d_M_rename_14 : decode b_M_rename 14 = .ok (.ireturn, 1) := by decide +kernel
theorem d_M_rename_15 : decode b_M_rename 15 = .ok (.aload_n 0, 1) := by decide +kernel
theorem d_M_rename_16 : decode b_M_rename 16 = .ok (.iload_n 1, 1) := by decide +kernel
theorem d_M_rename_17 : decode b_M_rename 17 = .ok (.invokevirtual 91, 3) := by decide +kernel
theorem d_M_rename_20 : decode b_M_rename 20 = .ok (.ifCond .ne 6, 3) := by decide +kernel
theorem d_M_rename_23 : decode b_M_rename 23 = .ok (.bipush (-100), 2) := by decide +kernel
theorem d_M_rename_25 : decode b_M_rename 25 = .ok (.ireturn, 1) := by decide +kernel
theorem d_M_rename_26 : decode b_M_rename 26 = .ok (.aload_n 0, 1) := by decide +kernel
theorem d_M_rename_27 : decode b_M_rename 27 = .ok (.aload_n 0, 1) := by decide +kernel
theorem d_M_rename_28 : decode b_M_rename 28 = .ok (.getfield 13, 3) := by decide +kernel
theorem d_M_rename_31 : decode b_M_rename 31 = .ok (.iload_n 1, 1) := by decide +kernel
theorem d_M_rename_32 : decode b_M_rename 32 = .ok (.iaload, 1) := by decide +kernel
theorem d_M_rename_33 : decode b_M_rename 33 = .ok (.iload_n 1, 1) := by decide +kernel
theorem d_M_rename_34 : decode b_M_rename 34 = .ok (.invokevirtual 73, 3) := by decide +kernel
theorem d_M_rename_37 : decode b_M_rename 37 = .ok (.istore_n 2, 1) := by decide +kernel
theorem d_M_rename_38 : decode b_M_rename 38 = .ok (.iload_n 2, 1) := by decide +kernel
theorem d_M_rename_39 : decode b_M_rename 39 = .ok (.ifCond .le 6, 3) := by decide +kernel
theorem d_M_rename_42 : decode b_M_rename 42 = .ok (.iload_n 2, 1) := by decide +kernel
theorem d_M_rename_43 : decode b_M_rename 43 = .ok (.ineg, 1) := by decide +kernel
theorem d_M_rename_44 : decode b_M_rename 44 = .ok (.ireturn, 1) := by decide +kernel
theorem d_M_rename_45 : decode b_M_rename 45 = .ok (.aload_n 0, 1) := by decide +kernel
theorem d_M_rename_46 : decode b_M_rename 46 = .ok (.iload_n 1, 1) := by decide +kernel
theorem d_M_rename_47 : decode b_M_rename 47 = .ok (.invokevirtual 77, 3) := by decide +kernel
theorem d_M_rename_50 : decode b_M_rename 50 = .ok (.aload_n 0, 1) := by decide +kernel
theorem d_M_rename_51 : decode b_M_rename 51 = .ok (.iload_n 1, 1) := by decide +kernel
theorem d_M_rename_52 : decode b_M_rename 52 = .ok (.invokevirtual 94, 3) := by decide +kernel
theorem d_M_rename_55 : decode b_M_rename 55 = .ok (.ireturn, 1) := by decide +kernel
theorem d_M_letter_0 : decode b_M_letter 0 = .ok (.aload_n 0, 1) := by decide +kernel
theorem d_M_letter_1 : decode b_M_letter 1 = .ok (.iconst 0, 1) := by decide +kernel
theorem d_M_letter_2 : decode b_M_letter 2 = .ok (.putfield 52, 3) := by decide +kernel
theorem d_M_letter_5 : decode b_M_letter 5 = .ok (.iload_n 1, 1) := by decide +kernel
theorem d_M_letter_6 : decode b_M_letter 6 = .ok (.iconst 1, 1) := by decide +kernel
theorem d_M_letter_7 : decode b_M_letter 7 = .ok (.if_icmp .lt 25, 3) := by decide +kernel
theorem d_M_letter_10 : decode b_M_letter 10 = .ok (.iload_n 1, 1) := by decide +kernel
theorem d_M_letter_11 : decode b_M_letter 11 = .ok (.aload_n 0, 1) := by decide +kernel
theorem d_M_letter_12 : decode b_M_letter 12 = .ok (.getfield 66, 3) := by decide +kernel
theorem d_M_letter_15 : decode b_M_letter 15 = .ok (.if_icmp .gt 17, 3) := by decide +kernel
theorem d_M_letter_18 : decode b_M_letter 18 = .ok (.iload_n 2, 1) := by decide +kernel
theorem d_M_letter_19 : decode b_M_letter 19 = .ok (.ifCond .lt 13, 3) := by decide +kernel
theorem d_M_letter_22 : decode b_M_letter 22 = .ok (.iload_n 2, 1) := by decide +kernel
theorem d_M_letter_23 : decode b_M_letter 23 = .ok (.aload_n 0, 1) := by decide +kernel
theorem d_M_letter_24 : decode b_M_letter 24 = .ok (.getfield 24, 3) := by decide +kernel
theorem d_M_letter_27 : decode b_M_letter 27 = .ok (.iload_n 1, 1) := by decide +kernel
theorem d_M_letter_28 : decode b_M_letter 28 = .ok (.iaload, 1) := by decide +kernel
theorem d_M_letter_29 : decode b_M_letter 29 = .ok (.if_icmp .lt 7, 3) := by decide +kernel
theorem d_M_letter_32 : decode b_M_letter 32 = .ok (.iconst (-1), 1) := by decide +kernel
theorem d_M_letter_33 : decode b_M_letter 33 = .ok (.goto 14, 3) := by decide +kernel
theorem d_M_letter_36 : decode b_M_letter 36 = .ok (.aload_n 0, 1) := by decide +kernel
theorem d_M_letter_37 : decode b_M_letter 37 = .ok (.getfield 21, 3) := by decide +kernel
theorem d_M_letter_40 : decode b_M_letter 40 = .ok (.bipush 20, 2) := by decide +kernel
theorem d_M_letter_42 : decode b_M_letter 42 = .ok (.iload_n 1, 1) := by decide +kernel
theorem d_M_letter_43 : decode b_M_letter 43 = .ok (.imul, 1) := by decide +kernel
theorem d_M_letter_44 : decode b_M_letter 44 = .ok (.iload_n 2, 1) := by decide +kernel
theorem d_M_letter_45 : decode b_M_letter 45 = .ok (.iadd, 1) := by decide +kernel
theorem d_M_letter_46 : decode b_M_letter 46 = .ok (.baload, 1) := by decide +kernel
theorem d_M_letter_47 : decode b_M_letter 47 = .ok (.ireturn, 1) := by decide +kernel
theorem d_M_is_0 : decode b_M_is 0 = .ok (.aload_n 0, 1) := by decide +kernel
theorem d_M_is_1 : decode b_M_is 1 = .ok (.getfield 27, 3) := by decide +kernel
theorem d_M_is_4 : decode b_M_is 4 = .ok (.iload_n 1, 1) := by decide +kernel
theorem d_M_is_5 : decode b_M_is 5 = .ok (.iaload, 1) := by decide +kernel
theorem d_M_is_6 : decode b_M_is 6 = .ok (.iload_n 2, 1) := by decide +kernel
theorem d_M_is_7 : decode b_M_is 7 = .ok (.if_icmp .ne 37, 3) := by decide +kernel
theorem d_M_is_10 : decode b_M_is 10 = .ok (.iload_n 3, 1) := by decide +kernel
theorem d_M_is_11 : decode b_M_is 11 = .ok (.ifCond .eq 13, 3) := by decide +kernel
theorem d_M_is_14 : decode b_M_is 14 = .ok (.aload_n 0, 1) := by decide +kernel
theorem d_M_is_15 : decode b_M_is 15 = .ok (.getfield 30, 3) := by decide +kernel
theorem d_M_is_18 : decode b_M_is 18 = .ok (.iload_n 1, 1) := by decide +kernel
theorem d_M_is_19 : decode b_M_is 19 = .ok (.iaload, 1) := by decide +kernel
theorem d_M_is_20 : decode b_M_is 20 = .ok (.iload_n 3, 1) := by decide +kernel
theorem d_M_is_21 : decode b_M_is 21 = .ok (.if_icmp .ne 23, 3) := by decide +kernel
theorem d_M_is_24 : decode b_M_is 24 = .ok (.iload 4, 2) := by decide +kernel
theorem d_M_is_26 : decode b_M_is 26 = .ok (.ifCond .eq 14, 3) := by decide +kernel
theorem d_M_is_29 : decode b_M_is 29 = .ok (.aload_n 0, 1) := by decide +kernel
theorem d_M_is_30 : decode b_M_is 30 = .ok (.getfield 33, 3) := by decide +kernel
theorem d_M_is_33 : decode b_M_is 33 = .ok (.iload_n 1, 1) := by decide +kernel
theorem d_M_is_34 : decode b_M_is 34 = .ok (.iaload, 1) := by decide +kernel
theorem d_M_is_35 : decode b_M_is 35 = .ok (.iload 4, 2) := by decide +kernel
theorem d_M_is_37 : decode b_M_is 37 = .ok (.if_icmp .ne 7, 3) := by decide +kernel
theorem d_M_is_40 : decode b_M_is 40 = .ok (.iconst 1, 1) := by decide +kernel
theorem d_M_is_41 : decode b_M_is 41 = .ok (.goto 4, 3) := by decide +kernel
theorem d_M_is_44 : decode b_M_is 44 = .ok (.iconst 0, 1) := by decide +kernel
theorem d_M_is_45 : decode b_M_is 45 = .ok (.ireturn, 1) := by decide +kernel
theorem d_M_has_0 : decode b_M_has 0 = .ok (.iconst 0, 1) := by decide +kernel
theorem d_M_has_1 : decode b_M_has 1 = .ok (.istore 4, 2) := by decide +kernel
theorem d_M_has_3 : decode b_M_has 3 = .ok (.iconst 0, 1) := by decide +kernel
theorem d_M_has_4 : decode b_M_has 4 = .ok (.istore 5, 2) := by decide +kernel
theorem d_M_has_6 : decode b_M_has 6 = .ok (.iload 5, 2) := by decide +kernel
theorem d_M_has_8 : decode b_M_has 8 = .ok (.aload_n 0, 1) := by decide +kernel
theorem d_M_has_9 : decode b_M_has 9 = .ok (.getfield 97, 3) := by decide +kernel
theorem d_M_has_12 : decode b_M_has 12 = .ok (.if_icmp .ge 33, 3) := by decide +kernel
theorem d_M_has_15 : decode b_M_has 15 = .ok (.iload 4, 2) := by decide +kernel
theorem d_M_has_17 : decode b_M_has 17 = .ok (.ifCond .ne 15, 3) := by decide +kernel
theorem d_M_has_20 : decode b_M_has 20 = .ok (.aload_n 0, 1) := by decide +kernel
theorem d_M_has_21 : decode b_M_has 21 = .ok (.iload 5, 2) := by decide +kernel
theorem d_M_has_23 : decode b_M_has 23 = .ok (.iload_n 1, 1) := by decide +kernel
theorem d_M_has_24 : decode b_M_has 24 = .ok (.iload_n 2, 1) := by decide +kernel
theorem d_M_has_25 : decode b_M_has 25 = .ok (.iload_n 3, 1) := by decide +kernel
theorem d_M_has_26 : decode b_M_has 26 = .ok (.invokevirtual 100, 3) := by decide +kernel
theorem d_M_has_29 : decode b_M_has 29 = .ok (.ifCond .eq 7, 3) := by decide +kernel
theorem d_M_has_32 : decode b_M_has 32 = .ok (.iconst 1, 1) := by decide +kernel
theorem d_M_has_33 : decode b_M_has 33 = .ok (.goto 4, 3) := by decide +kernel
theorem d_M_has_36 : decode b_M_has 36 = .ok (.iconst 0, 1) := by decide +kernel
theorem d_M_has_37 : decode b_M_has 37 = .ok (.istore 4, 2) := by decide +kernel
theorem d_M_has_39 : decode b_M_has 39 = .ok (.iinc 5 1, 3) := by decide +kernel
theorem d_M_has_42 : decode b_M_has 42 = .ok (.goto (-36), 3) := by decide +kernel
theorem d_M_has_45 : decode b_M_has 45 = .ok (.iload 4, 2) := by decide +kernel
theorem d_M_has_47 : decode b_M_has 47 = .ok (.ireturn, 1) := by decide +kernel
theorem d_M_add_0 : decode b_M_add 0 = .ok (.aload_n 0, 1) := by decide +kernel
theorem d_M_add_1 : decode b_M_add 1 = .ok (.getfield 27, 3) := by decide +kernel
theorem d_M_add_4 : decode b_M_add 4 = .ok (.aload_n 0, 1) := by decide +kernel
theorem d_M_add_5 : decode b_M_add 5 = .ok (.getfield 97, 3) := by decide +kernel
theorem d_M_add_8 : decode b_M_add 8 = .ok (.iload_n 1, 1) := by decide +kernel
theorem d_M_add_9 : decode b_M_add 9 = .ok (.iastore, 1) := by decide +kernel
theorem d_M_add_10 : decode b_M_add 10 = .ok (.aload_n 0, 1) := by decide +kernel
theorem d_M_add_11 : decode b_M_add 11 = .ok (.getfield 30, 3) := by decide +kernel
theorem d_M_add_14 : decode b_M_add 14 = .ok (.aload_n 0, 1) := by decide +kernel
theorem d_M_add_15 : decode b_M_add 15 = .ok (.getfield 97, 3) := by decide +kernel
theorem d_M_add_18 : decode b_M_add 18 = .ok (.iload_n 2, 1) := by decide +kernel
theorem d_M_add_19 : decode b_M_add 19 = .ok (.iastore, 1) := by decide +kernel
theorem d_M_add_20 : decode b_M_add 20 = .ok (.aload_n 0, 1) := by decide +kernel
theorem d_M_add_21 : decode b_M_add 21 = .ok (.getfield 33, 3) := by decide +kernel
theorem d_M_add_24 : decode b_M_add 24 = .ok (.aload_n 0, 1) := by decide +kernel
theorem d_M_add_25 : decode b_M_add 25 = .ok (.getfield 97, 3) := by decide +kernel
theorem d_M_add_28 : decode b_M_add 28 = .ok (.iload_n 3, 1) := by decide +kernel
theorem d_M_add_29 : decode b_M_add 29 = .ok (.iastore, 1) := by decide +kernel
theorem d_M_add_30 : decode b_M_add 30 = .ok (.aload_n 0, 1) := by decide +kernel
theorem d_M_add_31 : decode b_M_add 31 = .ok (.getfield 36, 3) := by decide +kernel
theorem d_M_add_34 : decode b_M_add 34 = .ok (.aload_n 0, 1) := by decide +kernel
theorem d_M_add_35 : decode b_M_add 35 = .ok (.getfield 97, 3) := by decide +kernel
theorem d_M_add_38 : decode b_M_add 38 = .ok (.lload 4, 2) := by decide +kernel
theorem d_M_add_40 : decode b_M_add 40 = .ok (.lastore, 1) := by decide +kernel
theorem d_M_add_41 : decode b_M_add 41 = .ok (.aload_n 0, 1) := by decide +kernel
theorem d_M_add_42 : decode b_M_add 42 = .ok (.dup, 1) := by decide +kernel
theorem d_M_add_43 : decode b_M_add 43 = .ok (.getfield 97, 3) := by decide +kernel
theorem d_M_add_46 : decode b_M_add 46 = .ok (.iconst 1, 1) := by decide +kernel
theorem d_M_add_47 : decode b_M_add 47 = .ok (.iadd, 1) := by decide +kernel
theorem d_M_add_48 : decode b_M_add 48 = .ok (.putfield 97, 3) := by decide +kernel
theorem d_M_add_51 : decode b_M_add 51 = .ok (.return_, 1) := by decide +kernel
theorem d_M_measure_0 : decode b_M_measure 0 = .ok (.iconst 1, 1) := by decide +kernel
theorem d_M_measure_1 : decode b_M_measure 1 = .ok (.istore 4, 2) := by decide +kernel
theorem d_M_measure_3 : decode b_M_measure 3 = .ok (.iload 4, 2) := by decide +kernel
theorem d_M_measure_5 : decode b_M_measure 5 = .ok (.aload_n 0, 1) := by decide +kernel
theorem d_M_measure_6 : decode b_M_measure 6 = .ok (.getfield 66, 3) := by decide +kernel
theorem d_M_measure_9 : decode b_M_measure 9 = .ok (.if_icmp .gt 28, 3) := by decide +kernel
theorem d_M_measure_12 : decode b_M_measure 12 = .ok (.aload_n 0, 1) := by decide +kernel
theorem d_M_measure_13 : decode b_M_measure 13 = .ok (.getfield 49, 3) := by decide +kernel
theorem d_M_measure_16 : decode b_M_measure 16 = .ok (.iload 4, 2) := by decide +kernel
theorem d_M_measure_18 : decode b_M_measure 18 = .ok (.iload 4, 2) := by decide +kernel
theorem d_M_measure_20 : decode b_M_measure 20 = .ok (.iload_n 2, 1) := by decide +kernel
theorem d_M_measure_21 : decode b_M_measure 21 = .ok (.if_icmp .ne 7, 3) := by decide +kernel
theorem d_M_measure_24 : decode b_M_measure 24 = .ok (.iconst 0, 1) := by decide +kernel
theorem d_M_measure_25 : decode b_M_measure 25 = .ok (.goto 5, 3) := by decide +kernel
theorem d_M_measure_28 : decode b_M_measure 28 = .ok (.bipush 100, 2) := by decide +kernel
theorem d_M_measure_30 : decode b_M_measure 30 = .ok (.iastore, 1) := by decide +kernel
theorem d_M_measure_31 : decode b_M_measure 31 = .ok (.iinc 4 1, 3) := by decide +kernel
theorem d_M_measure_34 : decode b_M_measure 34 = .ok (.goto (-31), 3) := by decide +kernel
theorem d_M_measure_37 : decode b_M_measure 37 = .ok (.iconst 1, 1) := by decide +kernel
theorem d_M_measure_38 : decode b_M_measure 38 = .ok (.istore 4, 2) := by decide +kernel
theorem d_M_measure_40 : decode b_M_measure 40 = .ok (.iload 4, 2) := by decide +kernel
theorem d_M_measure_42 : decode b_M_measure 42 = .ok (.ifCond .eq 122, 3) := by decide +kernel
theorem d_M_measure_45 : decode b_M_measure 45 = .ok (.iconst 0, 1) := by decide +kernel
theorem d_M_measure_46 : decode b_M_measure 46 = .ok (.istore 4, 2) := by decide +kernel
theorem d_M_measure_48 : decode b_M_measure 48 = .ok (.iconst 0, 1) := by decide +kernel
theorem d_M_measure_49 : decode b_M_measure 49 = .ok (.istore 5, 2) := by decide +kernel
theorem d_M_measure_51 : decode b_M_measure 51 = .ok (.iload 5, 2) := by decide +kernel
theorem d_M_measure_53 : decode b_M_measure 53 = .ok (.aload_n 0, 1) := by decide +kernel
theorem d_M_measure_54 : decode b_M_measure 54 = .ok (.getfield 97, 3) := by decide +kernel
theorem d_M_measure_57 : decode b_M_measure 57 = .ok (.if_icmp .ge 104, 3) := by decide +kernel
theorem d_M_measure_60 : decode b_M_measure 60 = .ok (.aload_n 0, 1) := by decide +kernel
theorem d_M_measure_61 : decode b_M_measure 61 = .ok (.getfield 27, 3) := by decide +kernel
theorem d_M_measure_64 : decode b_M_measure 64 = .ok (.iload 5, 2) := by decide +kernel
theorem d_M_measure_66 : decode b_M_measure 66 = .ok (.iaload, 1) := by decide +kernel
theorem d_M_measure_67 : decode b_M_measure 67 = .ok (.iload_n 1, 1) := by decide +kernel
theorem d_M_measure_68 : decode b_M_measure 68 = .ok (.if_icmp .ne 87, 3) := by decide +kernel
theorem d_M_measure_71 : decode b_M_measure 71 = .ok (.iload_n 3, 1) := by decide +kernel
theorem d_M_measure_72 : decode b_M_measure 72 = .ok (.ifCond .eq 13, 3) := by decide +kernel
theorem d_M_measure_75 : decode b_M_measure 75 = .ok (.aload_n 0, 1) := by decide +kernel
theorem d_M_measure_76 : decode b_M_measure 76 = .ok (.getfield 33, 3) := by decide +kernel
theorem d_M_measure_79 : decode b_M_measure 79 = .ok (.iload 5, 2) := by decide +kernel
theorem d_M_measure_81 : decode b_M_measure 81 = .ok (.iaload, 1) := by decide +kernel
theorem d_M_measure_82 : decode b_M_measure 82 = .ok (.goto 10, 3) := by decide +kernel
theorem d_M_measure_85 : decode b_M_measure 85 = .ok (.aload_n 0, 1) := by decide +kernel
theorem d_M_measure_86 : decode b_M_measure 86 = .ok (.getfield 30, 3) := by decide +kernel
theorem d_M_measure_89 : decode b_M_measure 89 = .ok (.iload 5, 2) := by decide +kernel
theorem d_M_measure_91 : decode b_M_measure 91 = .ok (.iaload, 1) := by decide +kernel
theorem d_M_measure_92 : decode b_M_measure 92 = .ok (.istore 6, 2) := by decide +kernel
theorem d_M_measure_94 : decode b_M_measure 94 = .ok (.iload_n 3, 1) := by decide +kernel
theorem d_M_measure_95 : decode b_M_measure 95 = .ok (.ifCond .eq 13, 3) := by decide +kernel
theorem d_M_measure_98 : decode b_M_measure 98 = .ok (.aload_n 0, 1) := by decide +kernel
theorem d_M_measure_99 : decode b_M_measure 99 = .ok (.getfield 30, 3) := by decide +kernel
theorem d_M_measure_102 : decode b_M_measure 102 = .ok (.iload 5, 2) := by decide +kernel
theorem d_M_measure_104 : decode b_M_measure 104 = .ok (.iaload, 1) := by decide +kernel
theorem d_M_measure_105 : decode b_M_measure 105 = .ok (.goto 10, 3) := by decide +kernel
theorem d_M_measure_108 : decode b_M_measure 108 = .ok (.aload_n 0, 1) := by decide +kernel
theorem d_M_measure_109 : decode b_M_measure 109 = .ok (.getfield 33, 3) := by decide +kernel
theorem d_M_measure_112 : decode b_M_measure 112 = .ok (.iload 5, 2) := by decide +kernel
theorem d_M_measure_114 : decode b_M_measure 114 = .ok (.iaload, 1) := by decide +kernel
theorem d_M_measure_115 : decode b_M_measure 115 = .ok (.istore 7, 2) := by decide +kernel
theorem d_M_measure_117 : decode b_M_measure 117 = .ok (.aload_n 0, 1) := by decide +kernel
theorem d_M_measure_118 : decode b_M_measure 118 = .ok (.getfield 49, 3) := by decide +kernel
theorem d_M_measure_121 : decode b_M_measure 121 = .ok (.iload 6, 2) := by decide +kernel
theorem d_M_measure_123 : decode b_M_measure 123 = .ok (.iaload, 1) := by decide +kernel
theorem d_M_measure_124 : decode b_M_measure 124 = .ok (.iconst 1, 1) := by decide +kernel
theorem d_M_measure_125 : decode b_M_measure 125 = .ok (.iadd, 1) := by decide +kernel
theorem d_M_measure_126 : decode b_M_measure 126 = .ok (.aload_n 0, 1) := by decide +kernel
theorem d_M_measure_127 : decode b_M_measure 127 = .ok (.getfield 49, 3) := by decide +kernel
theorem d_M_measure_130 : decode b_M_measure 130 = .ok (.iload 7, 2) := by decide +kernel
theorem d_M_measure_132 : decode b_M_measure 132 = .ok (.iaload, 1) := by decide +kernel
theorem d_M_measure_133 : decode b_M_measure 133 = .ok (.if_icmp .ge 22, 3) := by decide +kernel
theorem d_M_measure_136 : decode b_M_measure 136 = .ok (.aload_n 0, 1) := by decide +kernel
theorem d_M_measure_137 : decode b_M_measure 137 = .ok (.getfield 49, 3) := by decide +kernel
theorem d_M_measure_140 : decode b_M_measure 140 = .ok (.iload 7, 2) := by decide +kernel
theorem d_M_measure_142 : decode b_M_measure 142 = .ok (.aload_n 0, 1) := by decide +kernel
theorem d_M_measure_143 : decode b_M_measure 143 = .ok (.getfield 49, 3) := by decide +kernel
theorem d_M_measure_146 : decode b_M_measure 146 = .ok (.iload 6, 2) := by decide +kernel
theorem d_M_measure_148 : decode b_M_measure 148 = .ok (.iaload, 1) := by decide +kernel
theorem d_M_measure_149 : decode b_M_measure 149 = .ok (.iconst 1, 1) := by decide +kernel
theorem d_M_measure_150 : decode b_M_measure 150 = .ok (.iadd, 1) := by decide +kernel
theorem d_M_measure_151 : decode b_M_measure 151 = .ok (.iastore, 1) := by decide +kernel
theorem d_M_measure_152 : decode b_M_measure 152 = .ok (.iconst 1, 1) := by decide +kernel
theorem d_M_measure_153 : decode b_M_measure 153 = .ok (.istore 4, 2) := by decide +kernel
theorem d_M_measure_155 : decode b_M_measure 155 = .ok (.iinc 5 1, 3) := by decide +kernel
theorem d_M_measure_158 : decode b_M_measure 158 = .ok (.goto (-107), 3) := by decide +kernel
theorem d_M_measure_161 : decode b_M_measure 161 = .ok (.goto (-121), 3) := by decide +kernel
theorem d_M_measure_164 : decode b_M_measure 164 = .ok (.return_, 1) := by decide +kernel
theorem d_M_ways_0 : decode b_M_ways 0 = .ok (.aload_n 0, 1) := by decide +kernel
theorem d_M_ways_1 : decode b_M_ways 1 = .ok (.iload_n 1, 1) := by decide +kernel
theorem d_M_ways_2 : decode b_M_ways 2 = .ok (.iload_n 3, 1) := by decide +kernel
theorem d_M_ways_3 : decode b_M_ways 3 = .ok (.iconst 1, 1) := by decide +kernel
theorem d_M_ways_4 : decode b_M_ways 4 = .ok (.invokevirtual 104, 3) := by decide +kernel
theorem d_M_ways_7 : decode b_M_ways 7 = .ok (.iload_n 2, 1) := by decide +kernel
theorem d_M_ways_8 : decode b_M_ways 8 = .ok (.istore 4, 2) := by decide +kernel
theorem d_M_ways_10 : decode b_M_ways 10 = .ok (.aload_n 0, 1) := by decide +kernel
theorem d_M_ways_11 : decode b_M_ways 11 = .ok (.iconst 0, 1) := by decide +kernel
theorem d_M_ways_12 : decode b_M_ways 12 = .ok (.putfield 108, 3) := by decide +kernel
theorem d_M_ways_15 : decode b_M_ways 15 = .ok (.aload_n 0, 1) := by decide +kernel
theorem d_M_ways_16 : decode b_M_ways 16 = .ok (.getfield 46, 3) := by decide +kernel
theorem d_M_ways_19 : decode b_M_ways 19 = .ok (.aload_n 0, 1) := by decide +kernel
theorem d_M_ways_20 : decode b_M_ways 20 = .ok (.getfield 108, 3) := by decide +kernel
theorem d_M_ways_23 : decode b_M_ways 23 = .ok (.iload 4, 2) := by decide +kernel
theorem d_M_ways_25 : decode b_M_ways 25 = .ok (.iastore, 1) := by decide +kernel
theorem d_M_ways_26 : decode b_M_ways 26 = .ok (.aload_n 0, 1) := by decide +kernel
theorem d_M_ways_27 : decode b_M_ways 27 = .ok (.dup, 1) := by decide +kernel
theorem d_M_ways_28 : decode b_M_ways 28 = .ok (.getfield 108, 3) := by decide +kernel
theorem d_M_ways_31 : decode b_M_ways 31 = .ok (.iconst 1, 1) := by decide +kernel
theorem d_M_ways_32 : decode b_M_ways 32 = .ok (.iadd, 1) := by decide +kernel
theorem d_M_ways_33 : decode b_M_ways 33 = .ok (.putfield 108, 3) := by decide +kernel
theorem d_M_ways_36 : decode b_M_ways 36 = .ok (.iload 4, 2) := by decide +kernel
theorem d_M_ways_38 : decode b_M_ways 38 = .ok (.iload_n 3, 1) := by decide +kernel
theorem d_M_ways_39 : decode b_M_ways 39 = .ok (.if_icmp .eq 91, 3) := by decide +kernel
theorem d_M_ways_42 : decode b_M_ways 42 = .ok (.iconst 0, 1) := by decide +kernel
theorem d_M_ways_43 : decode b_M_ways 43 = .ok (.istore 5, 2) := by decide +kernel
theorem d_M_ways_45 : decode b_M_ways 45 = .ok (.aload_n 0, 1) := by decide +kernel
theorem d_M_ways_46 : decode b_M_ways 46 = .ok (.getfield 66, 3) := by decide +kernel
theorem d_M_ways_49 : decode b_M_ways 49 = .ok (.istore 6, 2) := by decide +kernel
theorem d_M_ways_51 : decode b_M_ways 51 = .ok (.iload 6, 2) := by decide +kernel
theorem d_M_ways_53 : decode b_M_ways 53 = .ok (.ifCond .le 49, 3) := by decide +kernel
theorem d_M_ways_56 : decode b_M_ways 56 = .ok (.aload_n 0, 1) := by decide +kernel
theorem d_M_ways_57 : decode b_M_ways 57 = .ok (.getfield 49, 3) := by decide +kernel
theorem d_M_ways_60 : decode b_M_ways 60 = .ok (.iload 6, 2) := by decide +kernel
theorem d_M_ways_62 : decode b_M_ways 62 = .ok (.iaload, 1) := by decide +kernel
theorem d_M_ways_63 : decode b_M_ways 63 = .ok (.aload_n 0, 1) := by decide +kernel
theorem d_M_ways_64 : decode b_M_ways 64 = .ok (.getfield 49, 3) := by decide +kernel
theorem d_M_ways_67 : decode b_M_ways 67 = .ok (.iload 4, 2) := by decide +kernel
theorem d_M_ways_69 : decode b_M_ways 69 = .ok (.iaload, 1) := by decide +kernel
theorem d_M_ways_70 : decode b_M_ways 70 = .ok (.iconst 1, 1) := by decide +kernel
theorem d_M_ways_71 : decode b_M_ways 71 = .ok (.isub, 1) := by decide +kernel
theorem d_M_ways_72 : decode b_M_ways 72 = .ok (.if_icmp .ne 20, 3) := by decide +kernel
theorem d_M_ways_75 : decode b_M_ways 75 = .ok (.aload_n 0, 1) := by decide +kernel
theorem d_M_ways_76 : decode b_M_ways 76 = .ok (.iload_n 1, 1) := by decide +kernel
theorem d_M_ways_77 : decode b_M_ways 77 = .ok (.iload 4, 2) := by decide +kernel
theorem d_M_ways_79 : decode b_M_ways 79 = .ok (.iload 6, 2) := by decide +kernel
theorem d_M_ways_81 : decode b_M_ways 81 = .ok (.invokevirtual 111, 3) := by decide +kernel
theorem d_M_ways_84 : decode b_M_ways 84 = .ok (.ifCond .eq 8, 3) := by decide +kernel
theorem d_M_ways_87 : decode b_M_ways 87 = .ok (.iload 6, 2) := by decide +kernel
theorem d_M_ways_89 : decode b_M_ways 89 = .ok (.goto 5, 3) := by decide +kernel
theorem d_M_ways_92 : decode b_M_ways 92 = .ok (.iload 5, 2) := by decide +kernel
theorem d_M_ways_94 : decode b_M_ways 94 = .ok (.istore 5, 2) := by decide +kernel
theorem d_M_ways_96 : decode b_M_ways 96 = .ok (.iinc 6 (-1), 3) := by decide +kernel
theorem d_M_ways_99 : decode b_M_ways 99 = .ok (.goto (-48), 3) := by decide +kernel
theorem d_M_ways_102 : decode b_M_ways 102 = .ok (.iload 5, 2) := by decide +kernel
theorem d_M_ways_104 : decode b_M_ways 104 = .ok (.istore 4, 2) := by decide +kernel
theorem d_M_ways_106 : decode b_M_ways 106 = .ok (.aload_n 0, 1) := by decide +kernel
theorem d_M_ways_107 : decode b_M_ways 107 = .ok (.getfield 46, 3) := by decide +kernel
theorem d_M_ways_110 : decode b_M_ways 110 = .ok (.aload_n 0, 1) := by decide +kernel
theorem d_M_ways_111 : decode b_M_ways 111 = .ok (.getfield 108, 3) := by decide +kernel
theorem d_M_ways_114 : decode b_M_ways 114 = .ok (.iload 4, 2) := by decide +kernel
theorem d_M_ways_116 : decode b_M_ways 116 = .ok (.iastore, 1) := by decide +kernel
theorem d_M_ways_117 : decode b_M_ways 117 = .ok (.aload_n 0, 1) := by decide +kernel
theorem d_M_ways_118 : decode b_M_ways 118 = .ok (.dup, 1) := by decide +kernel
theorem d_M_ways_119 : decode b_M_ways 119 = .ok (.getfield 108, 3) := by decide +kernel
theorem d_M_ways_122 : decode b_M_ways 122 = .ok (.iconst 1, 1) := by decide +kernel
theorem d_M_ways_123 : decode b_M_ways 123 = .ok (.iadd, 1) := by decide +kernel
theorem d_M_ways_124 : decode b_M_ways 124 = .ok (.putfield 108, 3) := by decide +kernel
theorem d_M_ways_127 : decode b_M_ways 127 = .ok (.goto (-91), 3) := by decide +kernel
theorem d_M_ways_130 : decode b_M_ways 130 = .ok (.return_, 1) := by decide +kernel
theorem d_M_link_0 : decode b_M_link 0 = .ok (.aload_n 0, 1) := by decide +kernel
theorem d_M_link_1 : decode b_M_link 1 = .ok (.iconst 0, 1) := by decide +kernel
theorem d_M_link_2 : decode b_M_link 2 = .ok (.putfield 52, 3) := by decide +kernel
theorem d_M_link_5 : decode b_M_link 5 = .ok (.aload_n 0, 1) := by decide +kernel
theorem d_M_link_6 : decode b_M_link 6 = .ok (.iload_n 2, 1) := by decide +kernel
theorem d_M_link_7 : decode b_M_link 7 = .ok (.invokevirtual 91, 3) := by decide +kernel
theorem d_M_link_10 : decode b_M_link 10 = .ok (.ifCond .eq 35, 3) := by decide +kernel
theorem d_M_link_13 : decode b_M_link 13 = .ok (.aload_n 0, 1) := by decide +kernel
theorem d_M_link_14 : decode b_M_link 14 = .ok (.iload_n 3, 1) := by decide +kernel
theorem d_M_link_15 : decode b_M_link 15 = .ok (.invokevirtual 91, 3) := by decide +kernel
theorem d_M_link_18 : decode b_M_link 18 = .ok (.ifCond .eq 27, 3) := by decide +kernel
theorem d_M_link_21 : decode b_M_link 21 = .ok (.iload_n 2, 1) := by decide +kernel
theorem d_M_link_22 : decode b_M_link 22 = .ok (.iload_n 3, 1) := by decide +kernel
theorem d_M_link_23 : decode b_M_link 23 = .ok (.if_icmp .eq 22, 3) := by decide +kernel
theorem d_M_link_26 : decode b_M_link 26 = .ok (.iload_n 1, 1) := by decide +kernel
