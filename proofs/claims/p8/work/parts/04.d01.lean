theorem d_A_addHeading_10 : decode b_A_addHeading 10 = .ok (.iconst 0, 1) := by decide +kernel
theorem d_A_addHeading_11 : decode b_A_addHeading 11 = .ok (.ireturn, 1) := by decide +kernel
theorem d_A_addHeading_12 : decode b_A_addHeading 12 = .ok (.aload_n 0, 1) := by decide +kernel
theorem d_A_addHeading_13 : decode b_A_addHeading 13 = .ok (.getfield 26, 3) := by decide +kernel
theorem d_A_addHeading_16 : decode b_A_addHeading 16 = .ok (.iload_n 1, 1) := by decide +kernel
theorem d_A_addHeading_17 : decode b_A_addHeading 17 = .ok (.aload_n 0, 1) := by decide +kernel
theorem d_A_addHeading_18 : decode b_A_addHeading 18 = .ok (.getfield 19, 3) := by decide +kernel
theorem d_A_addHeading_21 : decode b_A_addHeading 21 = .ok (.iconst 0, 1) := by decide +kernel
theorem d_A_addHeading_22 : decode b_A_addHeading 22 = .ok (.invokevirtual 89, 3) := by decide +kernel
theorem d_A_addHeading_25 : decode b_A_addHeading 25 = .ok (.istore_n 2, 1) := by decide +kernel
theorem d_A_addHeading_26 : decode b_A_addHeading 26 = .ok (.iload_n 2, 1) := by decide +kernel
theorem d_A_addHeading_27 : decode b_A_addHeading 27 = .ok (.ifCond .eq 6, 3) := by decide +kernel
theorem d_A_addHeading_30 : decode b_A_addHeading 30 = .ok (.iload_n 2, 1) := by decide +kernel
theorem d_A_addHeading_31 : decode b_A_addHeading 31 = .ok (.ineg, 1) := by decide +kernel
theorem d_A_addHeading_32 : decode b_A_addHeading 32 = .ok (.ireturn, 1) := by decide +kernel
theorem d_A_addHeading_33 : decode b_A_addHeading 33 = .ok (.aload_n 0, 1) := by decide +kernel
theorem d_A_addHeading_34 : decode b_A_addHeading 34 = .ok (.getfield 26, 3) := by decide +kernel
theorem d_A_addHeading_37 : decode b_A_addHeading 37 = .ok (.iload_n 1, 1) := by decide +kernel
theorem d_A_addHeading_38 : decode b_A_addHeading 38 = .ok (.aload_n 0, 1) := by decide +kernel
theorem d_A_addHeading_39 : decode b_A_addHeading 39 = .ok (.getfield 19, 3) := by decide +kernel
theorem d_A_addHeading_42 : decode b_A_addHeading 42 = .ok (.invokevirtual 163, 3) := by decide +kernel
theorem d_A_addHeading_45 : decode b_A_addHeading 45 = .ok (.ireturn, 1) := by decide +kernel
theorem d_A_wouldChainSees_0 : decode b_A_wouldChainSees 0 = .ok (.aload_n 0, 1) := by decide +kernel
theorem d_A_wouldChainSees_1 : decode b_A_wouldChainSees 1 = .ok (.getfield 33, 3) := by decide +kernel
theorem d_A_wouldChainSees_4 : decode b_A_wouldChainSees 4 = .ok (.iconst 0, 1) := by decide +kernel
theorem d_A_wouldChainSees_5 : decode b_A_wouldChainSees 5 = .ok (.iload_n 1, 1) := by decide +kernel
theorem d_A_wouldChainSees_6 : decode b_A_wouldChainSees 6 = .ok (.invokevirtual 116, 3) := by decide +kernel
theorem d_A_wouldChainSees_9 : decode b_A_wouldChainSees 9 = .ok (.lconst 0, 1) := by decide +kernel
theorem d_A_wouldChainSees_10 : decode b_A_wouldChainSees 10 = .ok (.lcmp, 1) := by decide +kernel
theorem d_A_wouldChainSees_11 : decode b_A_wouldChainSees 11 = .ok (.ifCond .ne 34, 3) := by decide +kernel
theorem d_A_wouldChainSees_14 : decode b_A_wouldChainSees 14 = .ok (.aload_n 0, 1) := by decide +kernel
theorem d_A_wouldChainSees_15 : decode b_A_wouldChainSees 15 = .ok (.getfield 33, 3) := by decide +kernel
theorem d_A_wouldChainSees_18 : decode b_A_wouldChainSees 18 = .ok (.iconst 0, 1) := by decide +kernel
theorem d_A_wouldChainSees_19 : decode b_A_wouldChainSees 19 = .ok (.iload_n 1, 1) := by decide +kernel
theorem d_A_wouldChainSees_20 : decode b_A_wouldChainSees 20 = .ok (.invokestatic 104, 3) := by decide +kernel
theorem d_A_wouldChainSees_23 : decode b_A_wouldChainSees 23 = .ok (.invokevirtual 108, 3) := by decide +kernel
theorem d_A_wouldChainSees_26 : decode b_A_wouldChainSees 26 = .ok (.lconst 0, 1) := by decide +kernel
theorem d_A_wouldChainSees_27 : decode b_A_wouldChainSees 27 = .ok (.lcmp, 1) := by decide +kernel
theorem d_A_wouldChainSees_28 : decode b_A_wouldChainSees 28 = .ok (.ifCond .ne 17, 3) := by decide +kernel
theorem d_A_wouldChainSees_31 : decode b_A_wouldChainSees 31 = .ok (.aload_n 0, 1) := by decide +kernel
theorem d_A_wouldChainSees_32 : decode b_A_wouldChainSees 32 = .ok (.getfield 33, 3) := by decide +kernel
theorem d_A_wouldChainSees_35 : decode b_A_wouldChainSees 35 = .ok (.iconst 0, 1) := by decide +kernel
theorem d_A_wouldChainSees_36 : decode b_A_wouldChainSees 36 = .ok (.iload_n 2, 1) := by decide +kernel
theorem d_A_wouldChainSees_37 : decode b_A_wouldChainSees 37 = .ok (.invokevirtual 116, 3) := by decide +kernel
theorem d_A_wouldChainSees_40 : decode b_A_wouldChainSees 40 = .ok (.lconst 0, 1) := by decide +kernel
theorem d_A_wouldChainSees_41 : decode b_A_wouldChainSees 41 = .ok (.lcmp, 1) := by decide +kernel
theorem d_A_wouldChainSees_42 : decode b_A_wouldChainSees 42 = .ok (.ifCond .eq 7, 3) := by decide +kernel
theorem d_A_wouldChainSees_45 : decode b_A_wouldChainSees 45 = .ok (.iconst 1, 1) := by decide +kernel
theorem d_A_wouldChainSees_46 : decode b_A_wouldChainSees 46 = .ok (.goto 4, 3) := by decide +kernel
theorem d_A_wouldChainSees_49 : decode b_A_wouldChainSees 49 = .ok (.iconst 0, 1) := by decide +kernel
theorem d_A_wouldChainSees_50 : decode b_A_wouldChainSees 50 = .ok (.ireturn, 1) := by decide +kernel
theorem d_A_usedFormOf_0 : decode b_A_usedFormOf 0 = .ok (.aload_n 0, 1) := by decide +kernel
theorem d_A_usedFormOf_1 : decode b_A_usedFormOf 1 = .ok (.getfield 33, 3) := by decide +kernel
theorem d_A_usedFormOf_4 : decode b_A_usedFormOf 4 = .ok (.iconst 0, 1) := by decide +kernel
theorem d_A_usedFormOf_5 : decode b_A_usedFormOf 5 = .ok (.iload_n 1, 1) := by decide +kernel
theorem d_A_usedFormOf_6 : decode b_A_usedFormOf 6 = .ok (.invokevirtual 116, 3) := by decide +kernel
theorem d_A_usedFormOf_9 : decode b_A_usedFormOf 9 = .ok (.iconst 0, 1) := by decide +kernel
theorem d_A_usedFormOf_10 : decode b_A_usedFormOf 10 = .ok (.invokestatic 112, 3) := by decide +kernel
theorem d_A_usedFormOf_13 : decode b_A_usedFormOf 13 = .ok (.istore_n 2, 1) := by decide +kernel
theorem d_A_usedFormOf_14 : decode b_A_usedFormOf 14 = .ok (.iload_n 2, 1) := by decide +kernel
theorem d_A_usedFormOf_15 : decode b_A_usedFormOf 15 = .ok (.ifCond .ne 7, 3) := by decide +kernel
theorem d_A_usedFormOf_18 : decode b_A_usedFormOf 18 = .ok (.iload_n 1, 1) := by decide +kernel
theorem d_A_usedFormOf_19 : decode b_A_usedFormOf 19 = .ok (.goto 4, 3) := by decide +kernel
theorem d_A_usedFormOf_22 : decode b_A_usedFormOf 22 = .ok (.iload_n 2, 1) := by decide +kernel
theorem d_A_usedFormOf_23 : decode b_A_usedFormOf 23 = .ok (.ireturn, 1) := by decide +kernel
theorem d_A_formOn_0 : decode b_A_formOn 0 = .ok (.iload_n 1, 1) := by decide +kernel
theorem d_A_formOn_1 : decode b_A_formOn 1 = .ok (.istore 4, 2) := by decide +kernel
theorem d_A_formOn_3 : decode b_A_formOn 3 = .ok (.iconst 0, 1) := by decide +kernel
theorem d_A_formOn_4 : decode b_A_formOn 4 = .ok (.istore 5, 2) := by decide +kernel
theorem d_A_formOn_6 : decode b_A_formOn 6 = .ok (.iload 5, 2) := by decide +kernel
theorem d_A_formOn_8 : decode b_A_formOn 8 = .ok (.bipush 60, 2) := by decide +kernel
theorem d_A_formOn_10 : decode b_A_formOn 10 = .ok (.if_icmp .ge 33, 3) := by decide +kernel
theorem d_A_formOn_13 : decode b_A_formOn 13 = .ok (.aload_n 0, 1) := by decide +kernel
theorem d_A_formOn_14 : decode b_A_formOn 14 = .ok (.getfield 33, 3) := by decide +kernel
theorem d_A_formOn_17 : decode b_A_formOn 17 = .ok (.iload 4, 2) := by decide +kernel
theorem d_A_formOn_19 : decode b_A_formOn 19 = .ok (.lload_n 2, 1) := by decide +kernel
theorem d_A_formOn_20 : decode b_A_formOn 20 = .ok (.invokevirtual 166, 3) := by decide +kernel
theorem d_A_formOn_23 : decode b_A_formOn 23 = .ok (.istore 6, 2) := by decide +kernel
theorem d_A_formOn_25 : decode b_A_formOn 25 = .ok (.iload 6, 2) := by decide +kernel
theorem d_A_formOn_27 : decode b_A_formOn 27 = .ok (.ifCond .ne 6, 3) := by decide +kernel
theorem d_A_formOn_30 : decode b_A_formOn 30 = .ok (.iload 4, 2) := by decide +kernel
theorem d_A_formOn_32 : decode b_A_formOn 32 = .ok (.ireturn, 1) := by decide +kernel
theorem d_A_formOn_33 : decode b_A_formOn 33 = .ok (.iload 6, 2) := by decide +kernel
theorem d_A_formOn_35 : decode b_A_formOn 35 = .ok (.istore 4, 2) := by decide +kernel
theorem d_A_formOn_37 : decode b_A_formOn 37 = .ok (.iinc 5 1, 3) := by decide +kernel
theorem d_A_formOn_40 : decode b_A_formOn 40 = .ok (.goto (-34), 3) := by decide +kernel
theorem d_A_formOn_43 : decode b_A_formOn 43 = .ok (.iload 4, 2) := by decide +kernel
theorem d_A_formOn_45 : decode b_A_formOn 45 = .ok (.ireturn, 1) := by decide +kernel
theorem d_A_setOf_0 : decode b_A_setOf 0 = .ok (.lconst 1, 1) := by decide +kernel
theorem d_A_setOf_1 : decode b_A_setOf 1 = .ok (.iload_n 0, 1) := by decide +kernel
theorem d_A_setOf_2 : decode b_A_setOf 2 = .ok (.lshl, 1) := by decide +kernel
theorem d_A_setOf_3 : decode b_A_setOf 3 = .ok (.lreturn, 1) := by decide +kernel
theorem d_A_holds_0 : decode b_A_holds 0 = .ok (.lload_n 0, 1) := by decide +kernel
theorem d_A_holds_1 : decode b_A_holds 1 = .ok (.iload_n 2, 1) := by decide +kernel
theorem d_A_holds_2 : decode b_A_holds 2 = .ok (.invokestatic 104, 3) := by decide +kernel
theorem d_A_holds_5 : decode b_A_holds 5 = .ok (.land, 1) := by decide +kernel
theorem d_A_holds_6 : decode b_A_holds 6 = .ok (.lconst 0, 1) := by decide +kernel
theorem d_A_holds_7 : decode b_A_holds 7 = .ok (.lcmp, 1) := by decide +kernel
theorem d_A_holds_8 : decode b_A_holds 8 = .ok (.ifCond .eq 7, 3) := by decide +kernel
theorem d_A_holds_11 : decode b_A_holds 11 = .ok (.iconst 1, 1) := by decide +kernel
theorem d_A_holds_12 : decode b_A_holds 12 = .ok (.goto 4, 3) := by decide +kernel
theorem d_A_holds_15 : decode b_A_holds 15 = .ok (.iconst 0, 1) := by decide +kernel
theorem d_A_holds_16 : decode b_A_holds 16 = .ok (.ireturn, 1) := by decide +kernel
theorem d_A_nthOf_0 : decode b_A_nthOf 0 = .ok (.iload_n 2, 1) := by decide +kernel
theorem d_A_nthOf_1 : decode b_A_nthOf 1 = .ok (.istore_n 3, 1) := by decide +kernel
theorem d_A_nthOf_2 : decode b_A_nthOf 2 = .ok (.iconst 1, 1) := by decide +kernel
theorem d_A_nthOf_3 : decode b_A_nthOf 3 = .ok (.istore 4, 2) := by decide +kernel
theorem d_A_nthOf_5 : decode b_A_nthOf 5 = .ok (.iload 4, 2) := by decide +kernel
theorem d_A_nthOf_7 : decode b_A_nthOf 7 = .ok (.bipush 60, 2) := by decide +kernel
theorem d_A_nthOf_9 : decode b_A_nthOf 9 = .ok (.if_icmp .gt 28, 3) := by decide +kernel
theorem d_A_nthOf_12 : decode b_A_nthOf 12 = .ok (.lload_n 0, 1) := by decide +kernel
theorem d_A_nthOf_13 : decode b_A_nthOf 13 = .ok (.iload 4, 2) := by decide +kernel
theorem d_A_nthOf_15 : decode b_A_nthOf 15 = .ok (.invokestatic 169, 3) := by decide +kernel
theorem d_A_nthOf_18 : decode b_A_nthOf 18 = .ok (.ifCond .eq 13, 3) := by decide +kernel
theorem d_A_nthOf_21 : decode b_A_nthOf 21 = .ok (.iload_n 3, 1) := by decide +kernel
theorem d_A_nthOf_22 : decode b_A_nthOf 22 = .ok (.ifCond .ne 6, 3) := by decide +kernel
theorem d_A_nthOf_25 : decode b_A_nthOf 25 = .ok (.iload 4, 2) := by decide +kernel
theorem d_A_nthOf_27 : decode b_A_nthOf 27 = .ok (.ireturn, 1) := by decide +kernel
theorem d_A_nthOf_28 : decode b_A_nthOf 28 = .ok (.iinc 3 (-1), 3) := by decide +kernel
theorem d_A_nthOf_31 : decode b_A_nthOf 31 = .ok (.iinc 4 1, 3) := by decide +kernel
theorem d_A_nthOf_34 : decode b_A_nthOf 34 = .ok (.goto (-29), 3) := by decide +kernel
theorem d_A_nthOf_37 : decode b_A_nthOf 37 = .ok (.iconst 0, 1) := by decide +kernel
theorem d_A_nthOf_38 : decode b_A_nthOf 38 = .ok (.ireturn, 1) := by decide +kernel
theorem d_M_init_0 : decode b_M_init 0 = .ok (.aload_n 0, 1) := by decide +kernel
theorem d_M_init_1 : decode b_M_init 1 = .ok (.invokespecial 1, 3) := by decide +kernel
theorem d_M_init_4 : decode b_M_init 4 = .ok (.aload_n 0, 1) := by decide +kernel
theorem d_M_init_5 : decode b_M_init 5 = .ok (.bipush 40, 2) := by decide +kernel
theorem d_M_init_7 : decode b_M_init 7 = .ok (.newarray .byte, 2) := by decide +kernel
theorem d_M_init_9 : decode b_M_init 9 = .ok (.putfield 7, 3) := by decide +kernel
theorem d_M_init_12 : decode b_M_init 12 = .ok (.aload_n 0, 1) := by decide +kernel
theorem d_M_init_13 : decode b_M_init 13 = .ok (.bipush 61, 2) := by decide +kernel
theorem d_M_init_15 : decode b_M_init 15 = .ok (.newarray .int, 2) := by decide +kernel
theorem d_M_init_17 : decode b_M_init 17 = .ok (.putfield 13, 3) := by decide +kernel
theorem d_M_init_20 : decode b_M_init 20 = .ok (.aload_n 0, 1) := by decide +kernel
theorem d_M_init_21 : decode b_M_init 21 = .ok (.bipush 61, 2) := by decide +kernel
theorem d_M_init_23 : decode b_M_init 23 = .ok (.newarray .boolean, 2) := by decide +kernel
theorem d_M_init_25 : decode b_M_init 25 = .ok (.putfield 17, 3) := by decide +kernel
theorem d_M_init_28 : decode b_M_init 28 = .ok (.aload_n 0, 1) := by decide +kernel
theorem d_M_init_29 : decode b_M_init 29 = .ok (.sipush 1220, 3) := by decide +kernel
theorem d_M_init_32 : decode b_M_init 32 = .ok (.newarray .byte, 2) := by decide +kernel
theorem d_M_init_34 : decode b_M_init 34 = .ok (.putfield 21, 3) := by decide +kernel
theorem d_M_init_37 : decode b_M_init 37 = .ok (.aload_n 0, 1) := by decide +kernel
theorem d_M_init_38 : decode b_M_init 38 = .ok (.bipush 61, 2) := by decide +kernel
theorem d_M_init_40 : decode b_M_init 40 = .ok (.newarray .int, 2) := by decide +kernel
theorem d_M_init_42 : decode b_M_init 42 = .ok (.putfield 24, 3) := by decide +kernel
theorem d_M_init_45 : decode b_M_init 45 = .ok (.aload_n 0, 1) := by decide +kernel
theorem d_M_init_46 : decode b_M_init 46 = .ok (.sipush 20000, 3) := by decide +kernel
theorem d_M_init_49 : decode b_M_init 49 = .ok (.newarray .int, 2) := by decide +kernel
theorem d_M_init_51 : decode b_M_init 51 = .ok (.putfield 27, 3) := by decide +kernel
theorem d_M_init_54 : decode b_M_init 54 = .ok (.aload_n 0, 1) := by decide +kernel
theorem d_M_init_55 : decode b_M_init 55 = .ok (.sipush 20000, 3) := by decide +kernel
theorem d_M_init_58 : decode b_M_init 58 = .ok (.newarray .int, 2) := by decide +kernel
theorem d_M_init_60 : decode b_M_init 60 = .ok (.putfield 30, 3) := by decide +kernel
theorem d_M_init_63 : decode b_M_init 63 = .ok (.aload_n 0, 1) := by decide +kernel
theorem d_M_init_64 : decode b_M_init 64 = .ok (.sipush 20000, 3) := by decide +kernel
theorem d_M_init_67 : decode b_M_init 67 = .ok (.newarray .int, 2) := by decide +kernel
theorem d_M_init_69 : decode b_M_init 69 = .ok (.putfield 33, 3) := by decide +kernel
theorem d_M_init_72 : decode b_M_init 72 = .ok (.aload_n 0, 1) := by decide +kernel
theorem d_M_init_73 : decode b_M_init 73 = .ok (.sipush 20000, 3) := by decide +kernel
theorem d_M_init_76 : decode b_M_init 76 = .ok (.newarray .long, 2) := by decide +kernel
theorem d_M_init_78 : decode b_M_init 78 = .ok (.putfield 36, 3) := by decide +kernel
theorem d_M_init_81 : decode b_M_init 81 = .ok (.aload_n 0, 1) := by decide +kernel
theorem d_M_init_82 : decode b_M_init 82 = .ok (.bipush 61, 2) := by decide +kernel
theorem d_M_init_84 : decode b_M_init 84 = .ok (.newarray .int, 2) := by decide +kernel
theorem d_M_init_86 : decode b_M_init 86 = .ok (.putfield 40, 3) := by decide +kernel
theorem d_M_init_89 : decode b_M_init 89 = .ok (.aload_n 0, 1) := by decide +kernel
theorem d_M_init_90 : decode b_M_init 90 = .ok (.bipush 61, 2) := by decide +kernel
theorem d_M_init_92 : decode b_M_init 92 = .ok (.newarray .long, 2) := by decide +kernel
theorem d_M_init_94 : decode b_M_init 94 = .ok (.putfield 43, 3) := by decide +kernel
theorem d_M_init_97 : decode b_M_init 97 = .ok (.aload_n 0, 1) := by decide +kernel
theorem d_M_init_98 : decode b_M_init 98 = .ok (.bipush 61, 2) := by decide +kernel
theorem d_M_init_100 : decode b_M_init 100 = .ok (.newarray .int, 2) := by decide +kernel
theorem d_M_init_102 : decode b_M_init 102 = .ok (.putfield 46, 3) := by decide +kernel
theorem d_M_init_105 : decode b_M_init 105 = .ok (.aload_n 0, 1) := by decide +kernel
theorem d_M_init_106 : decode b_M_init 106 = .ok (.bipush 61, 2) := by decide +kernel
theorem d_M_init_108 : decode b_M_init 108 = .ok (.newarray .int, 2) := by decide +kernel
theorem d_M_init_110 : decode b_M_init 110 = .ok (.putfield 49, 3) := by decide +kernel
theorem d_M_init_113 : decode b_M_init 113 = .ok (.return_, 1) := by decide +kernel
theorem d_M_sign_0 : decode b_M_sign 0 = .ok (.aload_n 0, 1) := by decide +kernel
theorem d_M_sign_1 : decode b_M_sign 1 = .ok (.iconst 0, 1) := by decide +kernel
theorem d_M_sign_2 : decode b_M_sign 2 = .ok (.putfield 52, 3) := by decide +kernel
theorem d_M_sign_5 : decode b_M_sign 5 = .ok (.aload_n 0, 1) := by decide +kernel
theorem d_M_sign_6 : decode b_M_sign 6 = .ok (.getfield 56, 3) := by decide +kernel
theorem d_M_sign_9 : decode b_M_sign 9 = .ok (.bipush 40, 2) := by decide +kernel
theorem d_M_sign_11 : decode b_M_sign 11 = .ok (.if_icmp .ge 24, 3) := by decide +kernel
theorem d_M_sign_14 : decode b_M_sign 14 = .ok (.aload_n 0, 1) := by decide +kernel
theorem d_M_sign_15 : decode b_M_sign 15 = .ok (.getfield 7, 3) := by decide +kernel
theorem d_M_sign_18 : decode b_M_sign 18 = .ok (.aload_n 0, 1) := by decide +kernel
theorem d_M_sign_19 : decode b_M_sign 19 = .ok (.getfield 56, 3) := by decide +kernel
theorem d_M_sign_22 : decode b_M_sign 22 = .ok (.iload_n 1, 1) := by decide +kernel
theorem d_M_sign_23 : decode b_M_sign 23 = .ok (.i2b, 1) := by decide +kernel
theorem d_M_sign_24 : decode b_M_sign 24 = .ok (.bastore, 1) := by decide +kernel
theorem d_M_sign_25 : decode b_M_sign 25 = .ok (.aload_n 0, 1) := by decide +kernel
theorem d_M_sign_26 : decode b_M_sign 26 = .ok (.dup, 1) := by decide +kernel
theorem d_M_sign_27 : decode b_M_sign 27 = .ok (.getfield 56, 3) := by decide +kernel
theorem d_M_sign_30 : decode b_M_sign 30 = .ok (.iconst 1, 1) := by decide +kernel
theorem d_M_sign_31 : decode b_M_sign 31 = .ok (.iadd, 1) := by decide +kernel
theorem d_M_sign_32 : decode b_M_sign 32 = .ok (.putfield 56, 3) := by decide +kernel
theorem d_M_sign_35 : decode b_M_sign 35 = .ok (.return_, 1) := by decide +kernel
theorem d_M_takes_0 : decode b_M_takes 0 = .ok (.aload_n 0, 1) := by decide +kernel
theorem d_M_takes_1 : decode b_M_takes 1 = .ok (.aload_n 0, 1) := by decide +kernel
theorem d_M_takes_2 : decode b_M_takes 2 = .ok (.getfield 56, 3) := by decide +kernel
theorem d_M_takes_5 : decode b_M_takes 5 = .ok (.putfield 59, 3) := by decide +kernel
theorem d_M_takes_8 : decode b_M_takes 8 = .ok (.aload_n 0, 1) := by decide +kernel
theorem d_M_takes_9 : decode b_M_takes 9 = .ok (.iconst 0, 1) := by decide +kernel
theorem d_M_takes_10 : decode b_M_takes 10 = .ok (.putfield 56, 3) := by decide +kernel
theorem d_M_takes_13 : decode b_M_takes 13 = .ok (.aload_n 0, 1) := by decide +kernel
theorem d_M_takes_14 : decode b_M_takes 14 = .ok (.getfield 59, 3) := by decide +kernel
theorem d_M_takes_17 : decode b_M_takes 17 = .ok (.ifCond .le 16, 3) := by decide +kernel
theorem d_M_takes_20 : decode b_M_takes 20 = .ok (.aload_n 0, 1) := by decide +kernel
theorem d_M_takes_21 : decode b_M_takes 21 = .ok (.getfield 59, 3) := by decide +kernel
theorem d_M_takes_24 : decode b_M_takes 24 = .ok (.bipush 21, 2) := by decide +kernel
theorem d_M_takes_26 : decode b_M_takes 26 = .ok (.if_icmp .ge 7, 3) := by decide +kernel
theorem d_M_takes_29 : decode b_M_takes 29 = .ok (.iconst 1, 1) := by decide +kernel
theorem d_M_takes_30 : decode b_M_takes 30 = .ok (.goto 4, 3) := by decide +kernel
theorem d_M_takes_33 : decode b_M_takes 33 = .ok (.iconst 0, 1) := by decide +kernel
theorem d_M_takes_34 : decode b_M_takes 34 = .ok (.istore_n 1, 1) := by decide +kernel
theorem d_M_takes_35 : decode b_M_takes 35 = .ok (.iconst 0, 1) := by decide +kernel
theorem d_M_takes_36 : decode b_M_takes 36 = .ok (.istore_n 2, 1) := by decide +kernel
theorem d_M_takes_37 : decode b_M_takes 37 = .ok (.iload_n 2, 1) := by decide +kernel
theorem d_M_takes_38 : decode b_M_takes 38 = .ok (.aload_n 0, 1) := by decide +kernel
theorem d_M_takes_39 : decode b_M_takes 39 = .ok (.getfield 59, 3) := by decide +kernel
theorem d_M_takes_42 : decode b_M_takes 42 = .ok (.if_icmp .ge 62, 3) := by decide +kernel
theorem d_M_takes_45 : decode b_M_takes 45 = .ok (.aload_n 0, 1) := by decide +kernel
theorem d_M_takes_46 : decode b_M_takes 46 = .ok (.getfield 7, 3) := by decide +kernel
theorem d_M_takes_49 : decode b_M_takes 49 = .ok (.iload_n 2, 1) := by decide +kernel
theorem d_M_takes_50 : decode b_M_takes 50 = .ok (.baload, 1) := by decide +kernel
theorem d_M_takes_51 : decode b_M_takes 51 = .ok (.istore_n 3, 1) := by decide +kernel
theorem d_M_takes_52 : decode b_M_takes 52 = .ok (.iload_n 1, 1) := by decide +kernel
theorem d_M_takes_53 : decode b_M_takes 53 = .ok (.ifCond .eq 43, 3) := by decide +kernel
theorem d_M_takes_56 : decode b_M_takes 56 = .ok (.iload_n 3, 1) := by decide +kernel
theorem d_M_takes_57 : decode b_M_takes 57 = .ok (.bipush 48, 2) := by decide +kernel
theorem d_M_takes_59 : decode b_M_takes 59 = .ok (.if_icmp .lt 9, 3) := by decide +kernel
theorem d_M_takes_62 : decode b_M_takes 62 = .ok (.iload_n 3, 1) := by decide +kernel
theorem d_M_takes_63 : decode b_M_takes 63 = .ok (.bipush 57, 2) := by decide +kernel
theorem d_M_takes_65 : decode b_M_takes 65 = .ok (.if_icmp .le 27, 3) := by decide +kernel
theorem d_M_takes_68 : decode b_M_takes 68 = .ok (.iload_n 3, 1) := by decide +kernel
theorem d_M_takes_69 : decode b_M_takes 69 = .ok (.bipush 65, 2) := by decide +kernel
theorem d_M_takes_71 : decode b_M_takes 71 = .ok (.if_icmp .lt 9, 3) := by decide +kernel
theorem d_M_takes_74 : decode b_M_takes 74 = .ok (.iload_n 3, 1) := by decide +kernel
theorem d_M_takes_75 : decode b_M_takes 75 = .ok (.bipush 90, 2) := by decide +kernel
theorem d_M_takes_77 : decode b_M_takes 77 = .ok (.if_icmp .le 15, 3) := by decide +kernel
theorem d_M_takes_80 : decode b_M_takes 80 = .ok (.iload_n 3, 1) := by decide +kernel
theorem d_M_takes_81 : decode b_M_takes 81 = .ok (.bipush 97, 2) := by decide +kernel
theorem d_M_takes_83 : decode b_M_takes 83 = .ok (.if_icmp .lt 13, 3) := by decide +kernel
theorem d_M_takes_86 : decode b_M_takes 86 = .ok (.iload_n 3, 1) := by decide +kernel
theorem d_M_takes_87 : decode b_M_takes 87 = .ok (.bipush 122, 2) := by decide +kernel
theorem d_M_takes_89 : decode b_M_takes 89 = .ok (.if_icmp .gt 7, 3) := by decide +kernel
theorem d_M_takes_92 : decode b_M_takes 92 = .ok (.iconst 1, 1) := by decide +kernel
theorem d_M_takes_93 : decode b_M_takes 93 = .ok (.goto 4, 3) := by decide +kernel
theorem d_M_takes_96 : decode b_M_takes 96 = .ok (.iconst 0, 1) := by decide +kernel
theorem d_M_takes_97 : decode b_M_takes 97 = .ok (.istore_n 1, 1) := by decide +kernel
theorem d_M_takes_98 : decode b_M_takes 98 = .ok (.iinc 2 1, 3) := by decide +kernel
theorem d_M_takes_101 : decode b_M_takes 101 = .ok (.goto (-64), 3) := by decide +kernel
theorem d_M_takes_104 : decode b_M_takes 104 = .ok (.iload_n 1, 1) := by decide +kernel
theorem d_M_takes_105 : decode b_M_takes 105 = .ok (.ireturn, 1) := by decide +kernel
theorem d_M_small_0 : decode b_M_small 0 = .ok (.iload_n 0, 1) := by decide +kernel
theorem d_M_small_1 : decode b_M_small 1 = .ok (.bipush 65, 2) := by decide +kernel
theorem d_M_small_3 : decode b_M_small 3 = .ok (.if_icmp .lt 16, 3) := by decide +kernel
theorem d_M_small_6 : decode b_M_small 6 = .ok (.iload_n 0, 1) := by decide +kernel
theorem d_M_small_7 : decode b_M_small 7 = .ok (.bipush 90, 2) := by decide +kernel
theorem d_M_small_9 : decode b_M_small 9 = .ok (.if_icmp .gt 10, 3) := by decide +kernel
theorem d_M_small_12 : decode b_M_small 12 = .ok (.iload_n 0, 1) := by decide +kernel
theorem d_M_small_13 : decode b_M_small 13 = .ok (.bipush 32, 2) := by decide +kernel
theorem d_M_small_15 : decode b_M_small 15 = .ok (.iadd, 1) := by decide +kernel
theorem d_M_small_16 : decode b_M_small 16 = .ok (.goto 4, 3) := by decide +kernel
theorem d_M_small_19 : decode b_M_small 19 = .ok (.iload_n 0, 1) := by decide +kernel
theorem d_M_small_20 : decode b_M_small 20 = .ok (.ireturn, 1) := by decide +kernel
theorem d_M_hasText_0 : decode b_M_hasText 0 = .ok (.aload_n 0, 1) := by decide +kernel
theorem d_M_hasText_1 : decode b_M_hasText 1 = .ok (.getfield 24, 3) := by decide +kernel
theorem d_M_hasText_4 : decode b_M_hasText 4 = .ok (.iload_n 1, 1) := by decide +kernel
theorem d_M_hasText_5 : decode b_M_hasText 5 = .ok (.iaload, 1) := by decide +kernel
theorem d_M_hasText_6 : decode b_M_hasText 6 = .ok (.aload_n 0, 1) := by decide +kernel
theorem d_M_hasText_7 : decode b_M_hasText 7 = .ok (.getfield 59, 3) := by decide +kernel
theorem d_M_hasText_10 : decode b_M_hasText 10 = .ok (.if_icmp .ne 7, 3) := by decide +kernel
theorem d_M_hasText_13 : decode b_M_hasText 13 = .ok (.iconst 1, 1) := by decide +kernel
theorem d_M_hasText_14 : decode b_M_hasText 14 = .ok (.goto 4, 3) := by decide +kernel
theorem d_M_hasText_17 : decode b_M_hasText 17 = .ok (.iconst 0, 1) := by decide +kernel
theorem d_M_hasText_18 : decode b_M_hasText 18 = .ok (.istore_n 2, 1) := by decide +kernel
theorem d_M_hasText_19 : decode b_M_hasText 19 = .ok (.iconst 0, 1) := by decide +kernel
theorem d_M_hasText_20 : decode b_M_hasText 20 = .ok (.istore_n 3, 1) := by decide +kernel
theorem d_M_hasText_21 : decode b_M_hasText 21 = .ok (.iload_n 3, 1) := by decide +kernel
theorem d_M_hasText_22 : decode b_M_hasText 22 = .ok (.aload_n 0, 1) := by decide +kernel
theorem d_M_hasText_23 : decode b_M_hasText 23 = .ok (.getfield 59, 3) := by decide +kernel
theorem d_M_hasText_26 : decode b_M_hasText 26 = .ok (.if_icmp .ge 45, 3) := by decide +kernel
theorem d_M_hasText_29 : decode b_M_hasText 29 = .ok (.iload_n 2, 1) := by decide +kernel
theorem d_M_hasText_30 : decode b_M_hasText 30 = .ok (.ifCond .eq 41, 3) := by decide +kernel
theorem d_M_hasText_33 : decode b_M_hasText 33 = .ok (.aload_n 0, 1) := by decide +kernel
theorem d_M_hasText_34 : decode b_M_hasText 34 = .ok (.getfield 21, 3) := by decide +kernel
theorem d_M_hasText_37 : decode b_M_hasText 37 = .ok (.bipush 20, 2) := by decide +kernel
theorem d_M_hasText_39 : decode b_M_hasText 39 = .ok (.iload_n 1, 1) := by decide +kernel
theorem d_M_hasText_40 : decode b_M_hasText 40 = .ok (.imul, 1) := by decide +kernel
theorem d_M_hasText_41 : decode b_M_hasText 41 = .ok (.iload_n 3, 1) := by decide +kernel
theorem d_M_hasText_42 : decode b_M_hasText 42 = .ok (.iadd, 1) := by decide +kernel
theorem d_M_hasText_43 : decode b_M_hasText 43 = .ok (.baload, 1) := by decide +kernel
theorem d_M_hasText_44 : decode b_M_hasText 44 = .ok (.invokestatic 62, 3) := by decide +kernel
theorem d_M_hasText_47 : decode b_M_hasText 47 = .ok (.aload_n 0, 1) := by decide +kernel
theorem d_M_hasText_48 : decode b_M_hasText 48 = .ok (.getfield 7, 3) := by decide +kernel
theorem d_M_hasText_51 : decode b_M_hasText 51 = .ok (.iload_n 3, 1) := by decide +kernel
theorem d_M_hasText_52 : decode b_M_hasText 52 = .ok (.baload, 1) := by decide +kernel
theorem d_M_hasText_53 : decode b_M_hasText 53 = .ok (.invokestatic 62, 3) := by decide +kernel
theorem d_M_hasText_56 : decode b_M_hasText 56 = .ok (.if_icmp .ne 7, 3) := by decide +kernel
theorem d_M_hasText_59 : decode b_M_hasText 59 = .ok (.iconst 1, 1) := by decide +kernel
theorem d_M_hasText_60 : decode b_M_hasText 60 = .ok (.goto 4, 3) := by decide +kernel
theorem d_M_hasText_63 : decode b_M_hasText 63 = .ok (.iconst 0, 1) := by decide +kernel
theorem d_M_hasText_64 : decode b_M_hasText 64 = .ok (.istore_n 2, 1) := by decide +kernel
theorem d_M_hasText_65 : decode b_M_hasText 65 = .ok (.iinc 3 1, 3) := by decide +kernel
theorem d_M_hasText_68 : decode b_M_hasText 68 = .ok (.goto (-47), 3) := by decide +kernel
theorem d_M_hasText_71 : decode b_M_hasText 71 = .ok (.iload_n 2, 1) := by decide +kernel
theorem d_M_hasText_72 : decode b_M_hasText 72 = .ok (.ireturn, 1) := by decide +kernel
theorem d_M_lay_0 : decode b_M_lay 0 = .ok (.aload_n 0, 1) := by decide +kernel
theorem d_M_lay_1 : decode b_M_lay 1 = .ok (.getfield 24, 3) := by decide +kernel
theorem d_M_lay_4 : decode b_M_lay 4 = .ok (.iload_n 1, 1) := by decide +kernel
theorem d_M_lay_5 : decode b_M_lay 5 = .ok (.aload_n 0, 1) := by decide +kernel
theorem d_M_lay_6 : decode b_M_lay 6 = .ok (.getfield 59, 3) := by decide +kernel
theorem d_M_lay_9 : decode b_M_lay 9 = .ok (.iastore, 1) := by decide +kernel
theorem d_M_lay_10 : decode b_M_lay 10 = .ok (.iconst 0, 1) := by decide +kernel
theorem d_M_lay_11 : decode b_M_lay 11 = .ok (.istore_n 2, 1) := by decide +kernel
theorem d_M_lay_12 : decode b_M_lay 12 = .ok (.iload_n 2, 1) := by decide +kernel
theorem d_M_lay_13 : decode b_M_lay 13 = .ok (.aload_n 0, 1) := by decide +kernel
theorem d_M_lay_14 : decode b_M_lay 14 = .ok (.getfield 59, 3) := by decide +kernel
theorem d_M_lay_17 : decode b_M_lay 17 = .ok (.if_icmp .ge 26, 3) := by decide +kernel
theorem d_M_lay_20 : decode b_M_lay 20 = .ok (.aload_n 0, 1) := by decide +kernel
theorem d_M_lay_21 : decode b_M_lay 21 = .ok (.getfield 21, 3) := by decide +kernel
theorem d_M_lay_24 : decode b_M_lay 24 = .ok (.bipush 20, 2) := by decide +kernel
theorem d_M_lay_26 : decode b_M_lay 26 = .ok (.iload_n 1, 1) := by decide +kernel
theorem d_M_lay_27 : decode b_M_lay 27 = .ok (.imul, 1) := by decide +kernel
theorem d_M_lay_28 : decode b_M_lay 28 = .ok (.iload_n 2, 1) := by decide +kernel
theorem d_M_lay_29 : decode b_M_lay 29 = .ok (.iadd, 1) := by decide +kernel
theorem d_M_lay_30 : decode b_M_lay 30 = .ok (.aload_n 0, 1) := by decide +kernel
theorem d_M_lay_31 : decode b_M_lay 31 = .ok (.getfield 7, 3) := by decide +kernel
theorem d_M_lay_34 : decode b_M_lay 34 = .ok (.iload_n 2, 1) := by decide +kernel
theorem d_M_lay_35 : decode b_M_lay 35 = .ok (.baload, 1) := by decide +kernel
theorem d_M_lay_36 : decode b_M_lay 36 = .ok (.bastore, 1) := by decide +kernel
theorem d_M_lay_37 : decode b_M_lay 37 = .ok (.iinc 2 1, 3) := by decide +kernel
theorem d_M_lay_40 : decode b_M_lay 40 = .ok (.goto (-28), 3) := by decide +kernel
theorem d_M_lay_43 : decode b_M_lay 43 = .ok (.return_, 1) := by decide +kernel
theorem d_M_first_0 : decode b_M_first 0 = .ok (.iconst 1, 1) := by decide +kernel
theorem d_M_first_1 : decode b_M_first 1 = .ok (.istore_n 3, 1) := by decide +kernel
theorem d_M_first_2 : decode b_M_first 2 = .ok (.iload_n 3, 1) := by decide +kernel
theorem d_M_first_3 : decode b_M_first 3 = .ok (.aload_n 0, 1) := by decide +kernel
theorem d_M_first_4 : decode b_M_first 4 = .ok (.getfield 66, 3) := by decide +kernel
theorem d_M_first_7 : decode b_M_first 7 = .ok (.if_icmp .gt 48, 3) := by decide +kernel
theorem d_M_first_10 : decode b_M_first 10 = .ok (.aload_n 0, 1) := by decide +kernel
theorem d_M_first_11 : decode b_M_first 11 = .ok (.getfield 17, 3) := by decide +kernel
theorem d_M_first_14 : decode b_M_first 14 = .ok (.iload_n 3, 1) := by decide +kernel
theorem d_M_first_15 : decode b_M_first 15 = .ok (.baload, 1) := by decide +kernel
theorem d_M_first_16 : decode b_M_first 16 = .ok (.ifCond .eq 33, 3) := by decide +kernel
theorem d_M_first_19 : decode b_M_first 19 = .ok (.iload_n 3, 1) := by decide +kernel
theorem d_M_first_20 : decode b_M_first 20 = .ok (.iload_n 2, 1) := by decide +kernel
theorem d_M_first_21 : decode b_M_first 21 = .ok (.if_icmp .eq 28, 3) := by decide +kernel
theorem d_M_first_24 : decode b_M_first 24 = .ok (.iload_n 1, 1) := by decide +kernel
theorem d_M_first_25 : decode b_M_first 25 = .ok (.iconst (-1), 1) := by decide +kernel
theorem d_M_first_26 : decode b_M_first 26 = .ok (.if_icmp .eq 13, 3) := by decide +kernel
theorem d_M_first_29 : decode b_M_first 29 = .ok (.aload_n 0, 1) := by decide +kernel
theorem d_M_first_30 : decode b_M_first 30 = .ok (.getfield 13, 3) := by decide +kernel
theorem d_M_first_33 : decode b_M_first 33 = .ok (.iload_n 3, 1) := by decide +kernel
theorem d_M_first_34 : decode b_M_first 34 = .ok (.iaload, 1) := by decide +kernel
theorem d_M_first_35 : decode b_M_first 35 = .ok (.iload_n 1, 1) := by decide +kernel
theorem d_M_first_36 : decode b_M_first 36 = .ok (.if_icmp .ne 13, 3) := by decide +kernel
theorem d_M_first_39 : decode b_M_first 39 = .ok (.aload_n 0, 1) := by decide +kernel
theorem d_M_first_40 : decode b_M_first 40 = .ok (.iload_n 3, 1) := by decide +kernel
theorem d_M_first_41 : decode b_M_first 41 = .ok (.invokevirtual 69, 3) := by decide +kernel
theorem d_M_first_44 : decode b_M_first 44 = .ok (.ifCond .eq 5, 3) := by decide +kernel
theorem d_M_first_47 : decode b_M_first 47 = .ok (.iload_n 3, 1) := by decide +kernel
theorem d_M_first_48 : decode b_M_first 48 = .ok (.ireturn, 1) := by decide +kernel
theorem d_M_first_49 : decode b_M_first 49 = .ok (.iinc 3 1, 3) := by decide +kernel
theorem d_M_first_52 : decode b_M_first 52 = .ok (.goto (-50), 3) := by decide +kernel
theorem d_M_first_55 : decode b_M_first 55 = .ok (.iconst 0, 1) := by decide +kernel
theorem d_M_first_56 : decode b_M_first 56 = .ok (.ireturn, 1) := by decide +kernel
theorem d_M_isLive_0 : decode b_M_isLive 0 = .ok (.iload_n 1, 1) := by decide +kernel
theorem d_M_isLive_1 : decode b_M_isLive 1 = .ok (.ifCond .le 24, 3) := by decide +kernel
theorem d_M_isLive_4 : decode b_M_isLive 4 = .ok (.iload_n 1, 1) := by decide +kernel
theorem d_M_isLive_5 : decode b_M_isLive 5 = .ok (.aload_n 0, 1) := by decide +kernel
theorem d_M_isLive_6 : decode b_M_isLive 6 = .ok (.getfield 66, 3) := by decide +kernel
theorem d_M_isLive_9 : decode b_M_isLive 9 = .ok (.if_icmp .gt 16, 3) := by decide +kernel
theorem d_M_isLive_12 : decode b_M_isLive 12 = .ok (.aload_n 0, 1) := by decide +kernel
theorem d_M_isLive_13 : decode b_M_isLive 13 = .ok (.getfield 17, 3) := by decide +kernel
theorem d_M_isLive_16 : decode b_M_isLive 16 = .ok (.iload_n 1, 1) := by decide +kernel
theorem d_M_isLive_17 : decode b_M_isLive 17 = .ok (.baload, 1) := by decide +kernel
theorem d_M_isLive_18 : decode b_M_isLive 18 = .ok (.ifCond .eq 7, 3) := by decide +kernel
theorem d_M_isLive_21 : decode b_M_isLive 21 = .ok (.iconst 1, 1) := by decide +kernel
theorem d_M_isLive_22 : decode b_M_isLive 22 = .ok (.goto 4, 3) := by decide +kernel
theorem d_M_isLive_25 : decode b_M_isLive 25 = .ok (.iconst 0, 1) := by decide +kernel
theorem d_M_isLive_26 : decode b_M_isLive 26 = .ok (.ireturn, 1) := by decide +kernel
theorem d_M_make_0 : decode b_M_make 0 = .ok (.iload_n 1, 1) := by decide +kernel
theorem d_M_make_1 : decode b_M_make 1 = .ok (.ifCond .lt 8, 3) := by decide +kernel
theorem d_M_make_4 : decode b_M_make 4 = .ok (.iload_n 1, 1) := by decide +kernel
theorem d_M_make_5 : decode b_M_make 5 = .ok (.iconst 3, 1) := by decide +kernel
theorem d_M_make_6 : decode b_M_make 6 = .ok (.if_icmp .le 5, 3) := by decide +kernel
theorem d_M_make_9 : decode b_M_make 9 = .ok (.iconst 0, 1) := by decide +kernel
theorem d_M_make_10 : decode b_M_make 10 = .ok (.ireturn, 1) := by decide +kernel
theorem d_M_make_11 : decode b_M_make 11 = .ok (.aload_n 0, 1) := by decide +kernel
theorem d_M_make_12 : decode b_M_make 12 = .ok (.iload_n 1, 1) := by decide +kernel
theorem d_M_make_13 : decode b_M_make 13 = .ok (.iconst 0, 1) := by decide +kernel
theorem d_M_make_14 : decode b_M_make 14 = .ok (.invokevirtual 73, 3) := by decide +kernel
theorem d_M_make_17 : decode b_M_make 17 = .ok (.istore_n 2, 1) := by decide +kernel
theorem d_M_make_18 : decode b_M_make 18 = .ok (.iload_n 2, 1) := by decide +kernel
theorem d_M_make_19 : decode b_M_make 19 = .ok (.ifCond .le 6, 3) := by decide +kernel
theorem d_M_make_22 : decode b_M_make 22 = .ok (.iload_n 2, 1) := by decide +kernel
