theorem d_M_formOf_88 : decode b_M_formOf 88 = .ok (.if_icmp .eq 7, 3) := by decide +kernel
theorem d_M_formOf_91 : decode b_M_formOf 91 = .ok (.iconst 1, 1) := by decide +kernel
theorem d_M_formOf_92 : decode b_M_formOf 92 = .ok (.goto 4, 3) := by decide +kernel
theorem d_M_formOf_95 : decode b_M_formOf 95 = .ok (.iconst 0, 1) := by decide +kernel
theorem d_M_formOf_96 : decode b_M_formOf 96 = .ok (.istore 5, 2) := by decide +kernel
theorem d_M_formOf_98 : decode b_M_formOf 98 = .ok (.iload 5, 2) := by decide +kernel
theorem d_M_formOf_100 : decode b_M_formOf 100 = .ok (.ifCond .eq 13, 3) := by decide +kernel
theorem d_M_formOf_103 : decode b_M_formOf 103 = .ok (.aload_n 0, 1) := by decide +kernel
theorem d_M_formOf_104 : decode b_M_formOf 104 = .ok (.getfield 33, 3) := by decide +kernel
theorem d_M_formOf_107 : decode b_M_formOf 107 = .ok (.iload 6, 2) := by decide +kernel
theorem d_M_formOf_109 : decode b_M_formOf 109 = .ok (.iaload, 1) := by decide +kernel
theorem d_M_formOf_110 : decode b_M_formOf 110 = .ok (.goto 5, 3) := by decide +kernel
theorem d_M_formOf_113 : decode b_M_formOf 113 = .ok (.iload 4, 2) := by decide +kernel
theorem d_M_formOf_115 : decode b_M_formOf 115 = .ok (.istore 4, 2) := by decide +kernel
theorem d_M_formOf_117 : decode b_M_formOf 117 = .ok (.goto (-111), 3) := by decide +kernel
theorem d_M_formOf_120 : decode b_M_formOf 120 = .ok (.iload 4, 2) := by decide +kernel
theorem d_M_formOf_122 : decode b_M_formOf 122 = .ok (.ireturn, 1) := by decide +kernel
theorem d_M_form_0 : decode b_M_form 0 = .ok (.aload_n 0, 1) := by decide +kernel
theorem d_M_form_1 : decode b_M_form 1 = .ok (.iconst 0, 1) := by decide +kernel
theorem d_M_form_2 : decode b_M_form 2 = .ok (.putfield 52, 3) := by decide +kernel
theorem d_M_form_5 : decode b_M_form 5 = .ok (.aload_n 0, 1) := by decide +kernel
theorem d_M_form_6 : decode b_M_form 6 = .ok (.iload_n 1, 1) := by decide +kernel
theorem d_M_form_7 : decode b_M_form 7 = .ok (.invokevirtual 91, 3) := by decide +kernel
theorem d_M_form_10 : decode b_M_form 10 = .ok (.ifCond .eq 12, 3) := by decide +kernel
theorem d_M_form_13 : decode b_M_form 13 = .ok (.aload_n 0, 1) := by decide +kernel
theorem d_M_form_14 : decode b_M_form 14 = .ok (.iload_n 1, 1) := by decide +kernel
theorem d_M_form_15 : decode b_M_form 15 = .ok (.lload_n 2, 1) := by decide +kernel
theorem d_M_form_16 : decode b_M_form 16 = .ok (.invokevirtual 123, 3) := by decide +kernel
theorem d_M_form_19 : decode b_M_form 19 = .ok (.goto 4, 3) := by decide +kernel
theorem d_M_form_22 : decode b_M_form 22 = .ok (.iconst 0, 1) := by decide +kernel
theorem d_M_form_23 : decode b_M_form 23 = .ok (.ireturn, 1) := by decide +kernel
theorem d_M_shown_0 : decode b_M_shown 0 = .ok (.aload_n 0, 1) := by decide +kernel
theorem d_M_shown_1 : decode b_M_shown 1 = .ok (.iconst 0, 1) := by decide +kernel
theorem d_M_shown_2 : decode b_M_shown 2 = .ok (.putfield 52, 3) := by decide +kernel
theorem d_M_shown_5 : decode b_M_shown 5 = .ok (.aload_n 0, 1) := by decide +kernel
theorem d_M_shown_6 : decode b_M_shown 6 = .ok (.iload_n 1, 1) := by decide +kernel
theorem d_M_shown_7 : decode b_M_shown 7 = .ok (.invokevirtual 91, 3) := by decide +kernel
theorem d_M_shown_10 : decode b_M_shown 10 = .ok (.ifCond .eq 16, 3) := by decide +kernel
theorem d_M_shown_13 : decode b_M_shown 13 = .ok (.aload_n 0, 1) := by decide +kernel
theorem d_M_shown_14 : decode b_M_shown 14 = .ok (.aload_n 0, 1) := by decide +kernel
theorem d_M_shown_15 : decode b_M_shown 15 = .ok (.iload_n 1, 1) := by decide +kernel
theorem d_M_shown_16 : decode b_M_shown 16 = .ok (.invokevirtual 127, 3) := by decide +kernel
theorem d_M_shown_19 : decode b_M_shown 19 = .ok (.lload_n 2, 1) := by decide +kernel
theorem d_M_shown_20 : decode b_M_shown 20 = .ok (.invokevirtual 123, 3) := by decide +kernel
theorem d_M_shown_23 : decode b_M_shown 23 = .ok (.goto 4, 3) := by decide +kernel
theorem d_M_shown_26 : decode b_M_shown 26 = .ok (.iconst 0, 1) := by decide +kernel
theorem d_M_shown_27 : decode b_M_shown 27 = .ok (.ireturn, 1) := by decide +kernel
theorem d_M_record_0 : decode b_M_record 0 = .ok (.aload_n 0, 1) := by decide +kernel
theorem d_M_record_1 : decode b_M_record 1 = .ok (.iconst 0, 1) := by decide +kernel
theorem d_M_record_2 : decode b_M_record 2 = .ok (.putfield 52, 3) := by decide +kernel
theorem d_M_record_5 : decode b_M_record 5 = .ok (.aload_n 0, 1) := by decide +kernel
theorem d_M_record_6 : decode b_M_record 6 = .ok (.iload_n 1, 1) := by decide +kernel
theorem d_M_record_7 : decode b_M_record 7 = .ok (.invokevirtual 91, 3) := by decide +kernel
theorem d_M_record_10 : decode b_M_record 10 = .ok (.ifCond .eq 12, 3) := by decide +kernel
theorem d_M_record_13 : decode b_M_record 13 = .ok (.aload_n 0, 1) := by decide +kernel
theorem d_M_record_14 : decode b_M_record 14 = .ok (.getfield 88, 3) := by decide +kernel
theorem d_M_record_17 : decode b_M_record 17 = .ok (.bipush 60, 2) := by decide +kernel
theorem d_M_record_19 : decode b_M_record 19 = .ok (.if_icmp .ne 5, 3) := by decide +kernel
theorem d_M_record_22 : decode b_M_record 22 = .ok (.iconst 0, 1) := by decide +kernel
theorem d_M_record_23 : decode b_M_record 23 = .ok (.ireturn, 1) := by decide +kernel
theorem d_M_record_24 : decode b_M_record 24 = .ok (.aload_n 0, 1) := by decide +kernel
theorem d_M_record_25 : decode b_M_record 25 = .ok (.dup, 1) := by decide +kernel
theorem d_M_record_26 : decode b_M_record 26 = .ok (.getfield 88, 3) := by decide +kernel
theorem d_M_record_29 : decode b_M_record 29 = .ok (.iconst 1, 1) := by decide +kernel
theorem d_M_record_30 : decode b_M_record 30 = .ok (.iadd, 1) := by decide +kernel
theorem d_M_record_31 : decode b_M_record 31 = .ok (.putfield 88, 3) := by decide +kernel
theorem d_M_record_34 : decode b_M_record 34 = .ok (.aload_n 0, 1) := by decide +kernel
theorem d_M_record_35 : decode b_M_record 35 = .ok (.getfield 40, 3) := by decide +kernel
theorem d_M_record_38 : decode b_M_record 38 = .ok (.aload_n 0, 1) := by decide +kernel
theorem d_M_record_39 : decode b_M_record 39 = .ok (.getfield 88, 3) := by decide +kernel
theorem d_M_record_42 : decode b_M_record 42 = .ok (.aload_n 0, 1) := by decide +kernel
theorem d_M_record_43 : decode b_M_record 43 = .ok (.iload_n 1, 1) := by decide +kernel
theorem d_M_record_44 : decode b_M_record 44 = .ok (.invokevirtual 127, 3) := by decide +kernel
theorem d_M_record_47 : decode b_M_record 47 = .ok (.iastore, 1) := by decide +kernel
theorem d_M_record_48 : decode b_M_record 48 = .ok (.aload_n 0, 1) := by decide +kernel
theorem d_M_record_49 : decode b_M_record 49 = .ok (.getfield 43, 3) := by decide +kernel
theorem d_M_record_52 : decode b_M_record 52 = .ok (.aload_n 0, 1) := by decide +kernel
theorem d_M_record_53 : decode b_M_record 53 = .ok (.getfield 88, 3) := by decide +kernel
theorem d_M_record_56 : decode b_M_record 56 = .ok (.lload_n 2, 1) := by decide +kernel
theorem d_M_record_57 : decode b_M_record 57 = .ok (.lastore, 1) := by decide +kernel
theorem d_M_record_58 : decode b_M_record 58 = .ok (.aload_n 0, 1) := by decide +kernel
theorem d_M_record_59 : decode b_M_record 59 = .ok (.getfield 88, 3) := by decide +kernel
theorem d_M_record_62 : decode b_M_record 62 = .ok (.ireturn, 1) := by decide +kernel
theorem d_M_linked_0 : decode b_M_linked 0 = .ok (.aload_n 0, 1) := by decide +kernel
theorem d_M_linked_1 : decode b_M_linked 1 = .ok (.iconst 0, 1) := by decide +kernel
theorem d_M_linked_2 : decode b_M_linked 2 = .ok (.putfield 52, 3) := by decide +kernel
theorem d_M_linked_5 : decode b_M_linked 5 = .ok (.iload_n 1, 1) := by decide +kernel
theorem d_M_linked_6 : decode b_M_linked 6 = .ok (.ifCond .le 20, 3) := by decide +kernel
theorem d_M_linked_9 : decode b_M_linked 9 = .ok (.iload_n 1, 1) := by decide +kernel
theorem d_M_linked_10 : decode b_M_linked 10 = .ok (.aload_n 0, 1) := by decide +kernel
theorem d_M_linked_11 : decode b_M_linked 11 = .ok (.getfield 88, 3) := by decide +kernel
theorem d_M_linked_14 : decode b_M_linked 14 = .ok (.if_icmp .gt 12, 3) := by decide +kernel
theorem d_M_linked_17 : decode b_M_linked 17 = .ok (.aload_n 0, 1) := by decide +kernel
theorem d_M_linked_18 : decode b_M_linked 18 = .ok (.getfield 40, 3) := by decide +kernel
theorem d_M_linked_21 : decode b_M_linked 21 = .ok (.iload_n 1, 1) := by decide +kernel
theorem d_M_linked_22 : decode b_M_linked 22 = .ok (.iaload, 1) := by decide +kernel
theorem d_M_linked_23 : decode b_M_linked 23 = .ok (.goto 4, 3) := by decide +kernel
theorem d_M_linked_26 : decode b_M_linked 26 = .ok (.iconst 0, 1) := by decide +kernel
theorem d_M_linked_27 : decode b_M_linked 27 = .ok (.ireturn, 1) := by decide +kernel
theorem d_C_init_0 : decode b_C_init 0 = .ok (.aload_n 0, 1) := by decide +kernel
theorem d_C_init_1 : decode b_C_init 1 = .ok (.invokespecial 3, 3) := by decide +kernel
theorem d_C_init_4 : decode b_C_init 4 = .ok (.aload_n 0, 1) := by decide +kernel
theorem d_C_init_5 : decode b_C_init 5 = .ok (.bipush 40, 2) := by decide +kernel
theorem d_C_init_7 : decode b_C_init 7 = .ok (.newarray .char, 2) := by decide +kernel
theorem d_C_init_9 : decode b_C_init 9 = .ok (.putfield 9, 3) := by decide +kernel
theorem d_C_init_12 : decode b_C_init 12 = .ok (.aload_n 0, 1) := by decide +kernel
theorem d_C_init_13 : decode b_C_init 13 = .ok (.iconst 0, 1) := by decide +kernel
theorem d_C_init_14 : decode b_C_init 14 = .ok (.putfield 15, 3) := by decide +kernel
theorem d_C_init_17 : decode b_C_init 17 = .ok (.return_, 1) := by decide +kernel
theorem d_C_add_0 : decode b_C_add 0 = .ok (.aload_n 0, 1) := by decide +kernel
theorem d_C_add_1 : decode b_C_add 1 = .ok (.getfield 15, 3) := by decide +kernel
theorem d_C_add_4 : decode b_C_add 4 = .ok (.bipush 40, 2) := by decide +kernel
theorem d_C_add_6 : decode b_C_add 6 = .ok (.if_icmp .ge 23, 3) := by decide +kernel
theorem d_C_add_9 : decode b_C_add 9 = .ok (.aload_n 0, 1) := by decide +kernel
theorem d_C_add_10 : decode b_C_add 10 = .ok (.getfield 9, 3) := by decide +kernel
theorem d_C_add_13 : decode b_C_add 13 = .ok (.aload_n 0, 1) := by decide +kernel
theorem d_C_add_14 : decode b_C_add 14 = .ok (.getfield 15, 3) := by decide +kernel
theorem d_C_add_17 : decode b_C_add 17 = .ok (.iload_n 1, 1) := by decide +kernel
theorem d_C_add_18 : decode b_C_add 18 = .ok (.castore, 1) := by decide +kernel
theorem d_C_add_19 : decode b_C_add 19 = .ok (.aload_n 0, 1) := by decide +kernel
theorem d_C_add_20 : decode b_C_add 20 = .ok (.dup, 1) := by decide +kernel
theorem d_C_add_21 : decode b_C_add 21 = .ok (.getfield 15, 3) := by decide +kernel
theorem d_C_add_24 : decode b_C_add 24 = .ok (.iconst 1, 1) := by decide +kernel
theorem d_C_add_25 : decode b_C_add 25 = .ok (.iadd, 1) := by decide +kernel
theorem d_C_add_26 : decode b_C_add 26 = .ok (.putfield 15, 3) := by decide +kernel
theorem d_C_add_29 : decode b_C_add 29 = .ok (.return_, 1) := by decide +kernel
theorem d_C_moveTo_0 : decode b_C_moveTo 0 = .ok (.aload_n 0, 1) := by decide +kernel
theorem d_C_moveTo_1 : decode b_C_moveTo 1 = .ok (.getfield 15, 3) := by decide +kernel
theorem d_C_moveTo_4 : decode b_C_moveTo 4 = .ok (.istore_n 2, 1) := by decide +kernel
theorem d_C_moveTo_5 : decode b_C_moveTo 5 = .ok (.aload_n 0, 1) := by decide +kernel
theorem d_C_moveTo_6 : decode b_C_moveTo 6 = .ok (.iconst 0, 1) := by decide +kernel
theorem d_C_moveTo_7 : decode b_C_moveTo 7 = .ok (.putfield 15, 3) := by decide +kernel
theorem d_C_moveTo_10 : decode b_C_moveTo 10 = .ok (.iload_n 2, 1) := by decide +kernel
theorem d_C_moveTo_11 : decode b_C_moveTo 11 = .ok (.iconst 1, 1) := by decide +kernel
theorem d_C_moveTo_12 : decode b_C_moveTo 12 = .ok (.if_icmp .lt 9, 3) := by decide +kernel
theorem d_C_moveTo_15 : decode b_C_moveTo 15 = .ok (.iload_n 2, 1) := by decide +kernel
theorem d_C_moveTo_16 : decode b_C_moveTo 16 = .ok (.bipush 20, 2) := by decide +kernel
theorem d_C_moveTo_18 : decode b_C_moveTo 18 = .ok (.if_icmp .le 5, 3) := by decide +kernel
theorem d_C_moveTo_21 : decode b_C_moveTo 21 = .ok (.iconst 0, 1) := by decide +kernel
theorem d_C_moveTo_22 : decode b_C_moveTo 22 = .ok (.ireturn, 1) := by decide +kernel
theorem d_C_moveTo_23 : decode b_C_moveTo 23 = .ok (.aload_n 1, 1) := by decide +kernel
theorem d_C_moveTo_24 : decode b_C_moveTo 24 = .ok (.invokevirtual 19, 3) := by decide +kernel
theorem d_C_moveTo_27 : decode b_C_moveTo 27 = .ok (.iconst 0, 1) := by decide +kernel
theorem d_C_moveTo_28 : decode b_C_moveTo 28 = .ok (.istore_n 3, 1) := by decide +kernel
theorem d_C_moveTo_29 : decode b_C_moveTo 29 = .ok (.iload_n 3, 1) := by decide +kernel
theorem d_C_moveTo_30 : decode b_C_moveTo 30 = .ok (.iload_n 2, 1) := by decide +kernel
theorem d_C_moveTo_31 : decode b_C_moveTo 31 = .ok (.if_icmp .ge 33, 3) := by decide +kernel
theorem d_C_moveTo_34 : decode b_C_moveTo 34 = .ok (.aload_n 0, 1) := by decide +kernel
theorem d_C_moveTo_35 : decode b_C_moveTo 35 = .ok (.getfield 9, 3) := by decide +kernel
theorem d_C_moveTo_38 : decode b_C_moveTo 38 = .ok (.iload_n 3, 1) := by decide +kernel
theorem d_C_moveTo_39 : decode b_C_moveTo 39 = .ok (.caload, 1) := by decide +kernel
theorem d_C_moveTo_40 : decode b_C_moveTo 40 = .ok (.invokestatic 24, 3) := by decide +kernel
theorem d_C_moveTo_43 : decode b_C_moveTo 43 = .ok (.ifCond .ne 5, 3) := by decide +kernel
theorem d_C_moveTo_46 : decode b_C_moveTo 46 = .ok (.iconst 0, 1) := by decide +kernel
theorem d_C_moveTo_47 : decode b_C_moveTo 47 = .ok (.ireturn, 1) := by decide +kernel
theorem d_C_moveTo_48 : decode b_C_moveTo 48 = .ok (.aload_n 1, 1) := by decide +kernel
theorem d_C_moveTo_49 : decode b_C_moveTo 49 = .ok (.aload_n 0, 1) := by decide +kernel
theorem d_C_moveTo_50 : decode b_C_moveTo 50 = .ok (.getfield 9, 3) := by decide +kernel
theorem d_C_moveTo_53 : decode b_C_moveTo 53 = .ok (.iload_n 3, 1) := by decide +kernel
theorem d_C_moveTo_54 : decode b_C_moveTo 54 = .ok (.caload, 1) := by decide +kernel
theorem d_C_moveTo_55 : decode b_C_moveTo 55 = .ok (.invokevirtual 28, 3) := by decide +kernel
theorem d_C_moveTo_58 : decode b_C_moveTo 58 = .ok (.iinc 3 1, 3) := by decide +kernel
theorem d_C_moveTo_61 : decode b_C_moveTo 61 = .ok (.goto (-32), 3) := by decide +kernel
theorem d_C_moveTo_64 : decode b_C_moveTo 64 = .ok (.iconst 1, 1) := by decide +kernel
theorem d_C_moveTo_65 : decode b_C_moveTo 65 = .ok (.ireturn, 1) := by decide +kernel
theorem d_C_isLetterOrDigit_0 : decode b_C_isLetterOrDigit 0 = .ok (.iload_n 0, 1) := by decide +kernel
theorem d_C_isLetterOrDigit_1 : decode b_C_isLetterOrDigit 1 = .ok (.bipush 97, 2) := by decide +kernel
theorem d_C_isLetterOrDigit_3 : decode b_C_isLetterOrDigit 3 = .ok (.if_icmp .lt 9, 3) := by decide +kernel
theorem d_C_isLetterOrDigit_6 : decode b_C_isLetterOrDigit 6 = .ok (.iload_n 0, 1) := by decide +kernel
theorem d_C_isLetterOrDigit_7 : decode b_C_isLetterOrDigit 7 = .ok (.bipush 122, 2) := by decide +kernel
theorem d_C_isLetterOrDigit_9 : decode b_C_isLetterOrDigit 9 = .ok (.if_icmp .le 27, 3) := by decide +kernel
theorem d_C_isLetterOrDigit_12 : decode b_C_isLetterOrDigit 12 = .ok (.iload_n 0, 1) := by decide +kernel
theorem d_C_isLetterOrDigit_13 : decode b_C_isLetterOrDigit 13 = .ok (.bipush 65, 2) := by decide +kernel
theorem d_C_isLetterOrDigit_15 : decode b_C_isLetterOrDigit 15 = .ok (.if_icmp .lt 9, 3) := by decide +kernel
theorem d_C_isLetterOrDigit_18 : decode b_C_isLetterOrDigit 18 = .ok (.iload_n 0, 1) := by decide +kernel
theorem d_C_isLetterOrDigit_19 : decode b_C_isLetterOrDigit 19 = .ok (.bipush 90, 2) := by decide +kernel
theorem d_C_isLetterOrDigit_21 : decode b_C_isLetterOrDigit 21 = .ok (.if_icmp .le 15, 3) := by decide +kernel
theorem d_C_isLetterOrDigit_24 : decode b_C_isLetterOrDigit 24 = .ok (.iload_n 0, 1) := by decide +kernel
theorem d_C_isLetterOrDigit_25 : decode b_C_isLetterOrDigit 25 = .ok (.bipush 48, 2) := by decide +kernel
theorem d_C_isLetterOrDigit_27 : decode b_C_isLetterOrDigit 27 = .ok (.if_icmp .lt 13, 3) := by decide +kernel
theorem d_C_isLetterOrDigit_30 : decode b_C_isLetterOrDigit 30 = .ok (.iload_n 0, 1) := by decide +kernel
theorem d_C_isLetterOrDigit_31 : decode b_C_isLetterOrDigit 31 = .ok (.bipush 57, 2) := by decide +kernel
theorem d_C_isLetterOrDigit_33 : decode b_C_isLetterOrDigit 33 = .ok (.if_icmp .gt 7, 3) := by decide +kernel
theorem d_C_isLetterOrDigit_36 : decode b_C_isLetterOrDigit 36 = .ok (.iconst 1, 1) := by decide +kernel
theorem d_C_isLetterOrDigit_37 : decode b_C_isLetterOrDigit 37 = .ok (.goto 4, 3) := by decide +kernel
theorem d_C_isLetterOrDigit_40 : decode b_C_isLetterOrDigit 40 = .ok (.iconst 0, 1) := by decide +kernel
theorem d_C_isLetterOrDigit_41 : decode b_C_isLetterOrDigit 41 = .ok (.ireturn, 1) := by decide +kernel
theorem d_H_init_0 : decode b_H_init 0 = .ok (.aload_n 0, 1) := by decide +kernel
theorem d_H_init_1 : decode b_H_init 1 = .ok (.invokespecial 3, 3) := by decide +kernel
theorem d_H_init_4 : decode b_H_init 4 = .ok (.aload_n 0, 1) := by decide +kernel
theorem d_H_init_5 : decode b_H_init 5 = .ok (.bipush 61, 2) := by decide +kernel
theorem d_H_init_7 : decode b_H_init 7 = .ok (.newarray .int, 2) := by decide +kernel
theorem d_H_init_9 : decode b_H_init 9 = .ok (.putfield 9, 3) := by decide +kernel
theorem d_H_init_12 : decode b_H_init 12 = .ok (.aload_n 0, 1) := by decide +kernel
theorem d_H_init_13 : decode b_H_init 13 = .ok (.bipush 61, 2) := by decide +kernel
theorem d_H_init_15 : decode b_H_init 15 = .ok (.newarray .boolean, 2) := by decide +kernel
theorem d_H_init_17 : decode b_H_init 17 = .ok (.putfield 15, 3) := by decide +kernel
theorem d_H_init_20 : decode b_H_init 20 = .ok (.aload_n 0, 1) := by decide +kernel
theorem d_H_init_21 : decode b_H_init 21 = .ok (.sipush 1220, 3) := by decide +kernel
theorem d_H_init_24 : decode b_H_init 24 = .ok (.newarray .char, 2) := by decide +kernel
theorem d_H_init_26 : decode b_H_init 26 = .ok (.putfield 19, 3) := by decide +kernel
theorem d_H_init_29 : decode b_H_init 29 = .ok (.aload_n 0, 1) := by decide +kernel
theorem d_H_init_30 : decode b_H_init 30 = .ok (.bipush 61, 2) := by decide +kernel
theorem d_H_init_32 : decode b_H_init 32 = .ok (.newarray .int, 2) := by decide +kernel
theorem d_H_init_34 : decode b_H_init 34 = .ok (.putfield 23, 3) := by decide +kernel
theorem d_H_init_37 : decode b_H_init 37 = .ok (.aload_n 0, 1) := by decide +kernel
theorem d_H_init_38 : decode b_H_init 38 = .ok (.iconst 0, 1) := by decide +kernel
theorem d_H_init_39 : decode b_H_init 39 = .ok (.putfield 26, 3) := by decide +kernel
theorem d_H_init_42 : decode b_H_init 42 = .ok (.return_, 1) := by decide +kernel
theorem d_H_isFull_0 : decode b_H_isFull 0 = .ok (.aload_n 0, 1) := by decide +kernel
theorem d_H_isFull_1 : decode b_H_isFull 1 = .ok (.getfield 26, 3) := by decide +kernel
theorem d_H_isFull_4 : decode b_H_isFull 4 = .ok (.bipush 60, 2) := by decide +kernel
theorem d_H_isFull_6 : decode b_H_isFull 6 = .ok (.if_icmp .lt 7, 3) := by decide +kernel
theorem d_H_isFull_9 : decode b_H_isFull 9 = .ok (.iconst 1, 1) := by decide +kernel
theorem d_H_isFull_10 : decode b_H_isFull 10 = .ok (.goto 4, 3) := by decide +kernel
theorem d_H_isFull_13 : decode b_H_isFull 13 = .ok (.iconst 0, 1) := by decide +kernel
theorem d_H_isFull_14 : decode b_H_isFull 14 = .ok (.ireturn, 1) := by decide +kernel
theorem d_H_isThere_0 : decode b_H_isThere 0 = .ok (.iload_n 1, 1) := by decide +kernel
theorem d_H_isThere_1 : decode b_H_isThere 1 = .ok (.iconst 1, 1) := by decide +kernel
theorem d_H_isThere_2 : decode b_H_isThere 2 = .ok (.if_icmp .lt 15, 3) := by decide +kernel
theorem d_H_isThere_5 : decode b_H_isThere 5 = .ok (.iload_n 1, 1) := by decide +kernel
theorem d_H_isThere_6 : decode b_H_isThere 6 = .ok (.aload_n 0, 1) := by decide +kernel
theorem d_H_isThere_7 : decode b_H_isThere 7 = .ok (.getfield 26, 3) := by decide +kernel
theorem d_H_isThere_10 : decode b_H_isThere 10 = .ok (.if_icmp .gt 7, 3) := by decide +kernel
theorem d_H_isThere_13 : decode b_H_isThere 13 = .ok (.iconst 1, 1) := by decide +kernel
theorem d_H_isThere_14 : decode b_H_isThere 14 = .ok (.goto 4, 3) := by decide +kernel
theorem d_H_isThere_17 : decode b_H_isThere 17 = .ok (.iconst 0, 1) := by decide +kernel
theorem d_H_isThere_18 : decode b_H_isThere 18 = .ok (.ireturn, 1) := by decide +kernel
theorem d_H_isLive_0 : decode b_H_isLive 0 = .ok (.aload_n 0, 1) := by decide +kernel
theorem d_H_isLive_1 : decode b_H_isLive 1 = .ok (.iload_n 1, 1) := by decide +kernel
theorem d_H_isLive_2 : decode b_H_isLive 2 = .ok (.invokevirtual 30, 3) := by decide +kernel
theorem d_H_isLive_5 : decode b_H_isLive 5 = .ok (.ifCond .eq 16, 3) := by decide +kernel
theorem d_H_isLive_8 : decode b_H_isLive 8 = .ok (.aload_n 0, 1) := by decide +kernel
theorem d_H_isLive_9 : decode b_H_isLive 9 = .ok (.getfield 15, 3) := by decide +kernel
theorem d_H_isLive_12 : decode b_H_isLive 12 = .ok (.iload_n 1, 1) := by decide +kernel
theorem d_H_isLive_13 : decode b_H_isLive 13 = .ok (.baload, 1) := by decide +kernel
theorem d_H_isLive_14 : decode b_H_isLive 14 = .ok (.ifCond .eq 7, 3) := by decide +kernel
theorem d_H_isLive_17 : decode b_H_isLive 17 = .ok (.iconst 1, 1) := by decide +kernel
theorem d_H_isLive_18 : decode b_H_isLive 18 = .ok (.goto 4, 3) := by decide +kernel
theorem d_H_isLive_21 : decode b_H_isLive 21 = .ok (.iconst 0, 1) := by decide +kernel
theorem d_H_isLive_22 : decode b_H_isLive 22 = .ok (.ireturn, 1) := by decide +kernel
theorem d_H_kindOf_0 : decode b_H_kindOf 0 = .ok (.aload_n 0, 1) := by decide +kernel
theorem d_H_kindOf_1 : decode b_H_kindOf 1 = .ok (.iload_n 1, 1) := by decide +kernel
theorem d_H_kindOf_2 : decode b_H_kindOf 2 = .ok (.invokevirtual 30, 3) := by decide +kernel
theorem d_H_kindOf_5 : decode b_H_kindOf 5 = .ok (.ifCond .eq 12, 3) := by decide +kernel
theorem d_H_kindOf_8 : decode b_H_kindOf 8 = .ok (.aload_n 0, 1) := by decide +kernel
theorem d_H_kindOf_9 : decode b_H_kindOf 9 = .ok (.getfield 9, 3) := by decide +kernel
theorem d_H_kindOf_12 : decode b_H_kindOf 12 = .ok (.iload_n 1, 1) := by decide +kernel
theorem d_H_kindOf_13 : decode b_H_kindOf 13 = .ok (.iaload, 1) := by decide +kernel
theorem d_H_kindOf_14 : decode b_H_kindOf 14 = .ok (.goto 4, 3) := by decide +kernel
theorem d_H_kindOf_17 : decode b_H_kindOf 17 = .ok (.iconst (-1), 1) := by decide +kernel
theorem d_H_kindOf_18 : decode b_H_kindOf 18 = .ok (.ireturn, 1) := by decide +kernel
theorem d_H_add_0 : decode b_H_add 0 = .ok (.aload_n 0, 1) := by decide +kernel
theorem d_H_add_1 : decode b_H_add 1 = .ok (.invokevirtual 34, 3) := by decide +kernel
theorem d_H_add_4 : decode b_H_add 4 = .ok (.ifCond .eq 5, 3) := by decide +kernel
theorem d_H_add_7 : decode b_H_add 7 = .ok (.iconst 0, 1) := by decide +kernel
theorem d_H_add_8 : decode b_H_add 8 = .ok (.ireturn, 1) := by decide +kernel
theorem d_H_add_9 : decode b_H_add 9 = .ok (.aload_n 0, 1) := by decide +kernel
theorem d_H_add_10 : decode b_H_add 10 = .ok (.dup, 1) := by decide +kernel
theorem d_H_add_11 : decode b_H_add 11 = .ok (.getfield 26, 3) := by decide +kernel
theorem d_H_add_14 : decode b_H_add 14 = .ok (.iconst 1, 1) := by decide +kernel
theorem d_H_add_15 : decode b_H_add 15 = .ok (.iadd, 1) := by decide +kernel
theorem d_H_add_16 : decode b_H_add 16 = .ok (.putfield 26, 3) := by decide +kernel
theorem d_H_add_19 : decode b_H_add 19 = .ok (.aload_n 0, 1) := by decide +kernel
theorem d_H_add_20 : decode b_H_add 20 = .ok (.getfield 9, 3) := by decide +kernel
theorem d_H_add_23 : decode b_H_add 23 = .ok (.aload_n 0, 1) := by decide +kernel
theorem d_H_add_24 : decode b_H_add 24 = .ok (.getfield 26, 3) := by decide +kernel
theorem d_H_add_27 : decode b_H_add 27 = .ok (.iload_n 1, 1) := by decide +kernel
theorem d_H_add_28 : decode b_H_add 28 = .ok (.iastore, 1) := by decide +kernel
theorem d_H_add_29 : decode b_H_add 29 = .ok (.aload_n 0, 1) := by decide +kernel
theorem d_H_add_30 : decode b_H_add 30 = .ok (.getfield 15, 3) := by decide +kernel
theorem d_H_add_33 : decode b_H_add 33 = .ok (.aload_n 0, 1) := by decide +kernel
theorem d_H_add_34 : decode b_H_add 34 = .ok (.getfield 26, 3) := by decide +kernel
theorem d_H_add_37 : decode b_H_add 37 = .ok (.iconst 1, 1) := by decide +kernel
theorem d_H_add_38 : decode b_H_add 38 = .ok (.bastore, 1) := by decide +kernel
theorem d_H_add_39 : decode b_H_add 39 = .ok (.aload_n 0, 1) := by decide +kernel
theorem d_H_add_40 : decode b_H_add 40 = .ok (.aload_n 0, 1) := by decide +kernel
theorem d_H_add_41 : decode b_H_add 41 = .ok (.getfield 26, 3) := by decide +kernel
theorem d_H_add_44 : decode b_H_add 44 = .ok (.aload_n 2, 1) := by decide +kernel
theorem d_H_add_45 : decode b_H_add 45 = .ok (.invokevirtual 38, 3) := by decide +kernel
theorem d_H_add_48 : decode b_H_add 48 = .ok (.aload_n 0, 1) := by decide +kernel
theorem d_H_add_49 : decode b_H_add 49 = .ok (.getfield 26, 3) := by decide +kernel
theorem d_H_add_52 : decode b_H_add 52 = .ok (.ireturn, 1) := by decide +kernel
theorem d_H_end_0 : decode b_H_end 0 = .ok (.aload_n 0, 1) := by decide +kernel
theorem d_H_end_1 : decode b_H_end 1 = .ok (.iload_n 1, 1) := by decide +kernel
theorem d_H_end_2 : decode b_H_end 2 = .ok (.invokevirtual 30, 3) := by decide +kernel
theorem d_H_end_5 : decode b_H_end 5 = .ok (.ifCond .eq 10, 3) := by decide +kernel
theorem d_H_end_8 : decode b_H_end 8 = .ok (.aload_n 0, 1) := by decide +kernel
theorem d_H_end_9 : decode b_H_end 9 = .ok (.getfield 15, 3) := by decide +kernel
theorem d_H_end_12 : decode b_H_end 12 = .ok (.iload_n 1, 1) := by decide +kernel
theorem d_H_end_13 : decode b_H_end 13 = .ok (.iconst 0, 1) := by decide +kernel
theorem d_H_end_14 : decode b_H_end 14 = .ok (.bastore, 1) := by decide +kernel
theorem d_H_end_15 : decode b_H_end 15 = .ok (.return_, 1) := by decide +kernel
theorem d_H_setText_0 : decode b_H_setText 0 = .ok (.aload_n 0, 1) := by decide +kernel
theorem d_H_setText_1 : decode b_H_setText 1 = .ok (.iload_n 1, 1) := by decide +kernel
theorem d_H_setText_2 : decode b_H_setText 2 = .ok (.invokevirtual 30, 3) := by decide +kernel
theorem d_H_setText_5 : decode b_H_setText 5 = .ok (.ifCond .ne 4, 3) := by decide +kernel
theorem d_H_setText_8 : decode b_H_setText 8 = .ok (.return_, 1) := by decide +kernel
theorem d_H_setText_9 : decode b_H_setText 9 = .ok (.iconst 0, 1) := by decide +kernel
theorem d_H_setText_10 : decode b_H_setText 10 = .ok (.istore_n 3, 1) := by decide +kernel
theorem d_H_setText_11 : decode b_H_setText 11 = .ok (.iload_n 3, 1) := by decide +kernel
theorem d_H_setText_12 : decode b_H_setText 12 = .ok (.aload_n 2, 1) := by decide +kernel
theorem d_H_setText_13 : decode b_H_setText 13 = .ok (.getfield 42, 3) := by decide +kernel
theorem d_H_setText_16 : decode b_H_setText 16 = .ok (.if_icmp .ge 26, 3) := by decide +kernel
theorem d_H_setText_19 : decode b_H_setText 19 = .ok (.aload_n 0, 1) := by decide +kernel
theorem d_H_setText_20 : decode b_H_setText 20 = .ok (.getfield 19, 3) := by decide +kernel
theorem d_H_setText_23 : decode b_H_setText 23 = .ok (.iload_n 1, 1) := by decide +kernel
theorem d_H_setText_24 : decode b_H_setText 24 = .ok (.bipush 20, 2) := by decide +kernel
theorem d_H_setText_26 : decode b_H_setText 26 = .ok (.imul, 1) := by decide +kernel
theorem d_H_setText_27 : decode b_H_setText 27 = .ok (.iload_n 3, 1) := by decide +kernel
theorem d_H_setText_28 : decode b_H_setText 28 = .ok (.iadd, 1) := by decide +kernel
theorem d_H_setText_29 : decode b_H_setText 29 = .ok (.aload_n 2, 1) := by decide +kernel
theorem d_H_setText_30 : decode b_H_setText 30 = .ok (.getfield 47, 3) := by decide +kernel
theorem d_H_setText_33 : decode b_H_setText 33 = .ok (.iload_n 3, 1) := by decide +kernel
theorem d_H_setText_34 : decode b_H_setText 34 = .ok (.caload, 1) := by decide +kernel
theorem d_H_setText_35 : decode b_H_setText 35 = .ok (.castore, 1) := by decide +kernel
theorem d_H_setText_36 : decode b_H_setText 36 = .ok (.iinc 3 1, 3) := by decide +kernel
theorem d_H_setText_39 : decode b_H_setText 39 = .ok (.goto (-28), 3) := by decide +kernel
theorem d_H_setText_42 : decode b_H_setText 42 = .ok (.aload_n 0, 1) := by decide +kernel
theorem d_H_setText_43 : decode b_H_setText 43 = .ok (.getfield 23, 3) := by decide +kernel
theorem d_H_setText_46 : decode b_H_setText 46 = .ok (.iload_n 1, 1) := by decide +kernel
theorem d_H_setText_47 : decode b_H_setText 47 = .ok (.aload_n 2, 1) := by decide +kernel
theorem d_H_setText_48 : decode b_H_setText 48 = .ok (.getfield 42, 3) := by decide +kernel
theorem d_H_setText_51 : decode b_H_setText 51 = .ok (.iastore, 1) := by decide +kernel
theorem d_H_setText_52 : decode b_H_setText 52 = .ok (.return_, 1) := by decide +kernel
theorem d_H_letterOf_0 : decode b_H_letterOf 0 = .ok (.aload_n 0, 1) := by decide +kernel
theorem d_H_letterOf_1 : decode b_H_letterOf 1 = .ok (.iload_n 1, 1) := by decide +kernel
theorem d_H_letterOf_2 : decode b_H_letterOf 2 = .ok (.invokevirtual 30, 3) := by decide +kernel
theorem d_H_letterOf_5 : decode b_H_letterOf 5 = .ok (.ifCond .eq 17, 3) := by decide +kernel
theorem d_H_letterOf_8 : decode b_H_letterOf 8 = .ok (.iload_n 2, 1) := by decide +kernel
theorem d_H_letterOf_9 : decode b_H_letterOf 9 = .ok (.ifCond .lt 13, 3) := by decide +kernel
theorem d_H_letterOf_12 : decode b_H_letterOf 12 = .ok (.iload_n 2, 1) := by decide +kernel
theorem d_H_letterOf_13 : decode b_H_letterOf 13 = .ok (.aload_n 0, 1) := by decide +kernel
theorem d_H_letterOf_14 : decode b_H_letterOf 14 = .ok (.getfield 23, 3) := by decide +kernel
theorem d_H_letterOf_17 : decode b_H_letterOf 17 = .ok (.iload_n 1, 1) := by decide +kernel
theorem d_H_letterOf_18 : decode b_H_letterOf 18 = .ok (.iaload, 1) := by decide +kernel
theorem d_H_letterOf_19 : decode b_H_letterOf 19 = .ok (.if_icmp .lt 5, 3) := by decide +kernel
theorem d_H_letterOf_22 : decode b_H_letterOf 22 = .ok (.iconst (-1), 1) := by decide +kernel
theorem d_H_letterOf_23 : decode b_H_letterOf 23 = .ok (.ireturn, 1) := by decide +kernel
theorem d_H_letterOf_24 : decode b_H_letterOf 24 = .ok (.aload_n 0, 1) := by decide +kernel
theorem d_H_letterOf_25 : decode b_H_letterOf 25 = .ok (.getfield 19, 3) := by decide +kernel
theorem d_H_letterOf_28 : decode b_H_letterOf 28 = .ok (.iload_n 1, 1) := by decide +kernel
theorem d_H_letterOf_29 : decode b_H_letterOf 29 = .ok (.bipush 20, 2) := by decide +kernel
theorem d_H_letterOf_31 : decode b_H_letterOf 31 = .ok (.imul, 1) := by decide +kernel
theorem d_H_letterOf_32 : decode b_H_letterOf 32 = .ok (.iload_n 2, 1) := by decide +kernel
theorem d_H_letterOf_33 : decode b_H_letterOf 33 = .ok (.iadd, 1) := by decide +kernel
theorem d_H_letterOf_34 : decode b_H_letterOf 34 = .ok (.caload, 1) := by decide +kernel
theorem d_H_letterOf_35 : decode b_H_letterOf 35 = .ok (.ireturn, 1) := by decide +kernel
theorem d_H_firstOfAnyKind_0 : decode b_H_firstOfAnyKind 0 = .ok (.iconst 1, 1) := by decide +kernel
theorem d_H_firstOfAnyKind_1 : decode b_H_firstOfAnyKind 1 = .ok (.istore_n 2, 1) := by decide +kernel
theorem d_H_firstOfAnyKind_2 : decode b_H_firstOfAnyKind 2 = .ok (.iload_n 2, 1) := by decide +kernel
theorem d_H_firstOfAnyKind_3 : decode b_H_firstOfAnyKind 3 = .ok (.aload_n 0, 1) := by decide +kernel
theorem d_H_firstOfAnyKind_4 : decode b_H_firstOfAnyKind 4 = .ok (.getfield 26, 3) := by decide +kernel
theorem d_H_firstOfAnyKind_7 : decode b_H_firstOfAnyKind 7 = .ok (.if_icmp .gt 29, 3) := by decide +kernel
theorem d_H_firstOfAnyKind_10 : decode b_H_firstOfAnyKind 10 = .ok (.aload_n 0, 1) := by decide +kernel
theorem d_H_firstOfAnyKind_11 : decode b_H_firstOfAnyKind 11 = .ok (.getfield 15, 3) := by decide +kernel
theorem d_H_firstOfAnyKind_14 : decode b_H_firstOfAnyKind 14 = .ok (.iload_n 2, 1) := by decide +kernel
theorem d_H_firstOfAnyKind_15 : decode b_H_firstOfAnyKind 15 = .ok (.baload, 1) := by decide +kernel
theorem d_H_firstOfAnyKind_16 : decode b_H_firstOfAnyKind 16 = .ok (.ifCond .eq 14, 3) := by decide +kernel
theorem d_H_firstOfAnyKind_19 : decode b_H_firstOfAnyKind 19 = .ok (.aload_n 0, 1) := by decide +kernel
theorem d_H_firstOfAnyKind_20 : decode b_H_firstOfAnyKind 20 = .ok (.iload_n 2, 1) := by decide +kernel
theorem d_H_firstOfAnyKind_21 : decode b_H_firstOfAnyKind 21 = .ok (.aload_n 1, 1) := by decide +kernel
theorem d_H_firstOfAnyKind_22 : decode b_H_firstOfAnyKind 22 = .ok (.invokevirtual 48, 3) := by decide +kernel
theorem d_H_firstOfAnyKind_25 : decode b_H_firstOfAnyKind 25 = .ok (.ifCond .eq 5, 3) := by decide +kernel
theorem d_H_firstOfAnyKind_28 : decode b_H_firstOfAnyKind 28 = .ok (.iload_n 2, 1) := by decide +kernel
theorem d_H_firstOfAnyKind_29 : decode b_H_firstOfAnyKind 29 = .ok (.ireturn, 1) := by decide +kernel
theorem d_H_firstOfAnyKind_30 : decode b_H_firstOfAnyKind 30 = .ok (.iinc 2 1, 3) := by decide +kernel
theorem d_H_firstOfAnyKind_33 : decode b_H_firstOfAnyKind 33 = .ok (.goto (-31), 3) := by decide +kernel
theorem d_H_firstOfAnyKind_36 : decode b_H_firstOfAnyKind 36 = .ok (.iconst 0, 1) := by decide +kernel
theorem d_H_firstOfAnyKind_37 : decode b_H_firstOfAnyKind 37 = .ok (.ireturn, 1) := by decide +kernel
theorem d_H_firstOfKind_0 : decode b_H_firstOfKind 0 = .ok (.iconst 1, 1) := by decide +kernel
theorem d_H_firstOfKind_1 : decode b_H_firstOfKind 1 = .ok (.istore 4, 2) := by decide +kernel
theorem d_H_firstOfKind_3 : decode b_H_firstOfKind 3 = .ok (.iload 4, 2) := by decide +kernel
theorem d_H_firstOfKind_5 : decode b_H_firstOfKind 5 = .ok (.aload_n 0, 1) := by decide +kernel
theorem d_H_firstOfKind_6 : decode b_H_firstOfKind 6 = .ok (.getfield 26, 3) := by decide +kernel
theorem d_H_firstOfKind_9 : decode b_H_firstOfKind 9 = .ok (.if_icmp .gt 49, 3) := by decide +kernel
theorem d_H_firstOfKind_12 : decode b_H_firstOfKind 12 = .ok (.iload 4, 2) := by decide +kernel
theorem d_H_firstOfKind_14 : decode b_H_firstOfKind 14 = .ok (.iload_n 3, 1) := by decide +kernel
theorem d_H_firstOfKind_15 : decode b_H_firstOfKind 15 = .ok (.if_icmp .eq 37, 3) := by decide +kernel
theorem d_H_firstOfKind_18 : decode b_H_firstOfKind 18 = .ok (.aload_n 0, 1) := by decide +kernel
theorem d_H_firstOfKind_19 : decode b_H_firstOfKind 19 = .ok (.getfield 15, 3) := by decide +kernel
theorem d_H_firstOfKind_22 : decode b_H_firstOfKind 22 = .ok (.iload 4, 2) := by decide +kernel
theorem d_H_firstOfKind_24 : decode b_H_firstOfKind 24 = .ok (.baload, 1) := by decide +kernel
theorem d_H_firstOfKind_25 : decode b_H_firstOfKind 25 = .ok (.ifCond .eq 27, 3) := by decide +kernel
theorem d_H_firstOfKind_28 : decode b_H_firstOfKind 28 = .ok (.aload_n 0, 1) := by decide +kernel
theorem d_H_firstOfKind_29 : decode b_H_firstOfKind 29 = .ok (.getfield 9, 3) := by decide +kernel
theorem d_H_firstOfKind_32 : decode b_H_firstOfKind 32 = .ok (.iload 4, 2) := by decide +kernel
theorem d_H_firstOfKind_34 : decode b_H_firstOfKind 34 = .ok (.iaload, 1) := by decide +kernel
theorem d_H_firstOfKind_35 : decode b_H_firstOfKind 35 = .ok (.iload_n 1, 1) := by decide +kernel
theorem d_H_firstOfKind_36 : decode b_H_firstOfKind 36 = .ok (.if_icmp .ne 16, 3) := by decide +kernel
theorem d_H_firstOfKind_39 : decode b_H_firstOfKind 39 = .ok (.aload_n 0, 1) := by decide +kernel
theorem d_H_firstOfKind_40 : decode b_H_firstOfKind 40 = .ok (.iload 4, 2) := by decide +kernel
theorem d_H_firstOfKind_42 : decode b_H_firstOfKind 42 = .ok (.aload_n 2, 1) := by decide +kernel
theorem d_H_firstOfKind_43 : decode b_H_firstOfKind 43 = .ok (.invokevirtual 48, 3) := by decide +kernel
theorem d_H_firstOfKind_46 : decode b_H_firstOfKind 46 = .ok (.ifCond .eq 6, 3) := by decide +kernel
theorem d_H_firstOfKind_49 : decode b_H_firstOfKind 49 = .ok (.iload 4, 2) := by decide +kernel
theorem d_H_firstOfKind_51 : decode b_H_firstOfKind 51 = .ok (.ireturn, 1) := by decide +kernel
theorem d_H_firstOfKind_52 : decode b_H_firstOfKind 52 = .ok (.iinc 4 1, 3) := by decide +kernel
theorem d_H_firstOfKind_55 : decode b_H_firstOfKind 55 = .ok (.goto (-52), 3) := by decide +kernel
theorem d_H_firstOfKind_58 : decode b_H_firstOfKind 58 = .ok (.iconst 0, 1) := by decide +kernel
