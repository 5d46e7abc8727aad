theorem d_H_firstOfKind_59 : decode b_H_firstOfKind 59 = .ok (.ireturn, 1) := by decide +kernel
theorem d_H_hasText_0 : decode b_H_hasText 0 = .ok (.aload_n 0, 1) := by decide +kernel
theorem d_H_hasText_1 : decode b_H_hasText 1 = .ok (.getfield 23, 3) := by decide +kernel
theorem d_H_hasText_4 : decode b_H_hasText 4 = .ok (.iload_n 1, 1) := by decide +kernel
theorem d_H_hasText_5 : decode b_H_hasText 5 = .ok (.iaload, 1) := by decide +kernel
theorem d_H_hasText_6 : decode b_H_hasText 6 = .ok (.aload_n 2, 1) := by decide +kernel
theorem d_H_hasText_7 : decode b_H_hasText 7 = .ok (.getfield 42, 3) := by decide +kernel
theorem d_H_hasText_10 : decode b_H_hasText 10 = .ok (.if_icmp .eq 5, 3) := by decide +kernel
theorem d_H_hasText_13 : decode b_H_hasText 13 = .ok (.iconst 0, 1) := by decide +kernel
theorem d_H_hasText_14 : decode b_H_hasText 14 = .ok (.ireturn, 1) := by decide +kernel
theorem d_H_hasText_15 : decode b_H_hasText 15 = .ok (.iconst 0, 1) := by decide +kernel
theorem d_H_hasText_16 : decode b_H_hasText 16 = .ok (.istore_n 3, 1) := by decide +kernel
theorem d_H_hasText_17 : decode b_H_hasText 17 = .ok (.iload_n 3, 1) := by decide +kernel
theorem d_H_hasText_18 : decode b_H_hasText 18 = .ok (.aload_n 2, 1) := by decide +kernel
theorem d_H_hasText_19 : decode b_H_hasText 19 = .ok (.getfield 42, 3) := by decide +kernel
theorem d_H_hasText_22 : decode b_H_hasText 22 = .ok (.if_icmp .ge 37, 3) := by decide +kernel
theorem d_H_hasText_25 : decode b_H_hasText 25 = .ok (.aload_n 0, 1) := by decide +kernel
theorem d_H_hasText_26 : decode b_H_hasText 26 = .ok (.getfield 19, 3) := by decide +kernel
theorem d_H_hasText_29 : decode b_H_hasText 29 = .ok (.iload_n 1, 1) := by decide +kernel
theorem d_H_hasText_30 : decode b_H_hasText 30 = .ok (.bipush 20, 2) := by decide +kernel
theorem d_H_hasText_32 : decode b_H_hasText 32 = .ok (.imul, 1) := by decide +kernel
theorem d_H_hasText_33 : decode b_H_hasText 33 = .ok (.iload_n 3, 1) := by decide +kernel
theorem d_H_hasText_34 : decode b_H_hasText 34 = .ok (.iadd, 1) := by decide +kernel
theorem d_H_hasText_35 : decode b_H_hasText 35 = .ok (.caload, 1) := by decide +kernel
theorem d_H_hasText_36 : decode b_H_hasText 36 = .ok (.invokestatic 52, 3) := by decide +kernel
theorem d_H_hasText_39 : decode b_H_hasText 39 = .ok (.aload_n 2, 1) := by decide +kernel
theorem d_H_hasText_40 : decode b_H_hasText 40 = .ok (.getfield 47, 3) := by decide +kernel
theorem d_H_hasText_43 : decode b_H_hasText 43 = .ok (.iload_n 3, 1) := by decide +kernel
theorem d_H_hasText_44 : decode b_H_hasText 44 = .ok (.caload, 1) := by decide +kernel
theorem d_H_hasText_45 : decode b_H_hasText 45 = .ok (.invokestatic 52, 3) := by decide +kernel
theorem d_H_hasText_48 : decode b_H_hasText 48 = .ok (.if_icmp .eq 5, 3) := by decide +kernel
theorem d_H_hasText_51 : decode b_H_hasText 51 = .ok (.iconst 0, 1) := by decide +kernel
theorem d_H_hasText_52 : decode b_H_hasText 52 = .ok (.ireturn, 1) := by decide +kernel
theorem d_H_hasText_53 : decode b_H_hasText 53 = .ok (.iinc 3 1, 3) := by decide +kernel
theorem d_H_hasText_56 : decode b_H_hasText 56 = .ok (.goto (-39), 3) := by decide +kernel
theorem d_H_hasText_59 : decode b_H_hasText 59 = .ok (.iconst 1, 1) := by decide +kernel
theorem d_H_hasText_60 : decode b_H_hasText 60 = .ok (.ireturn, 1) := by decide +kernel
theorem d_H_small_0 : decode b_H_small 0 = .ok (.iload_n 0, 1) := by decide +kernel
theorem d_H_small_1 : decode b_H_small 1 = .ok (.bipush 65, 2) := by decide +kernel
theorem d_H_small_3 : decode b_H_small 3 = .ok (.if_icmp .lt 19, 3) := by decide +kernel
theorem d_H_small_6 : decode b_H_small 6 = .ok (.iload_n 0, 1) := by decide +kernel
theorem d_H_small_7 : decode b_H_small 7 = .ok (.bipush 90, 2) := by decide +kernel
theorem d_H_small_9 : decode b_H_small 9 = .ok (.if_icmp .gt 13, 3) := by decide +kernel
theorem d_H_small_12 : decode b_H_small 12 = .ok (.iload_n 0, 1) := by decide +kernel
theorem d_H_small_13 : decode b_H_small 13 = .ok (.bipush 65, 2) := by decide +kernel
theorem d_H_small_15 : decode b_H_small 15 = .ok (.isub, 1) := by decide +kernel
theorem d_H_small_16 : decode b_H_small 16 = .ok (.bipush 97, 2) := by decide +kernel
theorem d_H_small_18 : decode b_H_small 18 = .ok (.iadd, 1) := by decide +kernel
theorem d_H_small_19 : decode b_H_small 19 = .ok (.goto 4, 3) := by decide +kernel
theorem d_H_small_22 : decode b_H_small 22 = .ok (.iload_n 0, 1) := by decide +kernel
theorem d_H_small_23 : decode b_H_small 23 = .ok (.ireturn, 1) := by decide +kernel
theorem d_K_init_0 : decode b_K_init 0 = .ok (.aload_n 0, 1) := by decide +kernel
theorem d_K_init_1 : decode b_K_init 1 = .ok (.invokespecial 3, 3) := by decide +kernel
theorem d_K_init_4 : decode b_K_init 4 = .ok (.aload_n 0, 1) := by decide +kernel
theorem d_K_init_5 : decode b_K_init 5 = .ok (.sipush 244, 3) := by decide +kernel
theorem d_K_init_8 : decode b_K_init 8 = .ok (.newarray .long, 2) := by decide +kernel
theorem d_K_init_10 : decode b_K_init 10 = .ok (.putfield 9, 3) := by decide +kernel
theorem d_K_init_13 : decode b_K_init 13 = .ok (.aload_n 0, 1) := by decide +kernel
theorem d_K_init_14 : decode b_K_init 14 = .ok (.sipush 512, 3) := by decide +kernel
theorem d_K_init_17 : decode b_K_init 17 = .ok (.newarray .int, 2) := by decide +kernel
theorem d_K_init_19 : decode b_K_init 19 = .ok (.putfield 15, 3) := by decide +kernel
theorem d_K_init_22 : decode b_K_init 22 = .ok (.aload_n 0, 1) := by decide +kernel
theorem d_K_init_23 : decode b_K_init 23 = .ok (.sipush 512, 3) := by decide +kernel
theorem d_K_init_26 : decode b_K_init 26 = .ok (.newarray .int, 2) := by decide +kernel
theorem d_K_init_28 : decode b_K_init 28 = .ok (.putfield 19, 3) := by decide +kernel
theorem d_K_init_31 : decode b_K_init 31 = .ok (.aload_n 0, 1) := by decide +kernel
theorem d_K_init_32 : decode b_K_init 32 = .ok (.sipush 512, 3) := by decide +kernel
theorem d_K_init_35 : decode b_K_init 35 = .ok (.newarray .long, 2) := by decide +kernel
theorem d_K_init_37 : decode b_K_init 37 = .ok (.putfield 22, 3) := by decide +kernel
theorem d_K_init_40 : decode b_K_init 40 = .ok (.aload_n 0, 1) := by decide +kernel
theorem d_K_init_41 : decode b_K_init 41 = .ok (.iconst 0, 1) := by decide +kernel
theorem d_K_init_42 : decode b_K_init 42 = .ok (.putfield 25, 3) := by decide +kernel
theorem d_K_init_45 : decode b_K_init 45 = .ok (.return_, 1) := by decide +kernel
theorem d_K_isFull_0 : decode b_K_isFull 0 = .ok (.aload_n 0, 1) := by decide +kernel
theorem d_K_isFull_1 : decode b_K_isFull 1 = .ok (.getfield 25, 3) := by decide +kernel
theorem d_K_isFull_4 : decode b_K_isFull 4 = .ok (.sipush 512, 3) := by decide +kernel
theorem d_K_isFull_7 : decode b_K_isFull 7 = .ok (.if_icmp .lt 7, 3) := by decide +kernel
theorem d_K_isFull_10 : decode b_K_isFull 10 = .ok (.iconst 1, 1) := by decide +kernel
theorem d_K_isFull_11 : decode b_K_isFull 11 = .ok (.goto 4, 3) := by decide +kernel
theorem d_K_isFull_14 : decode b_K_isFull 14 = .ok (.iconst 0, 1) := by decide +kernel
theorem d_K_isFull_15 : decode b_K_isFull 15 = .ok (.ireturn, 1) := by decide +kernel
theorem d_K_has_0 : decode b_K_has 0 = .ok (.aload_n 0, 1) := by decide +kernel
theorem d_K_has_1 : decode b_K_has 1 = .ok (.iload_n 1, 1) := by decide +kernel
theorem d_K_has_2 : decode b_K_has 2 = .ok (.iload_n 2, 1) := by decide +kernel
theorem d_K_has_3 : decode b_K_has 3 = .ok (.invokevirtual 29, 3) := by decide +kernel
theorem d_K_has_6 : decode b_K_has 6 = .ok (.iload_n 3, 1) := by decide +kernel
theorem d_K_has_7 : decode b_K_has 7 = .ok (.invokestatic 33, 3) := by decide +kernel
theorem d_K_has_10 : decode b_K_has 10 = .ok (.ireturn, 1) := by decide +kernel
theorem d_K_targetsOf_0 : decode b_K_targetsOf 0 = .ok (.iload_n 1, 1) := by decide +kernel
theorem d_K_targetsOf_1 : decode b_K_targetsOf 1 = .ok (.iload_n 2, 1) := by decide +kernel
theorem d_K_targetsOf_2 : decode b_K_targetsOf 2 = .ok (.invokestatic 37, 3) := by decide +kernel
theorem d_K_targetsOf_5 : decode b_K_targetsOf 5 = .ok (.ifCond .eq 17, 3) := by decide +kernel
theorem d_K_targetsOf_8 : decode b_K_targetsOf 8 = .ok (.aload_n 0, 1) := by decide +kernel
theorem d_K_targetsOf_9 : decode b_K_targetsOf 9 = .ok (.getfield 9, 3) := by decide +kernel
theorem d_K_targetsOf_12 : decode b_K_targetsOf 12 = .ok (.iload_n 1, 1) := by decide +kernel
theorem d_K_targetsOf_13 : decode b_K_targetsOf 13 = .ok (.bipush 61, 2) := by decide +kernel
theorem d_K_targetsOf_15 : decode b_K_targetsOf 15 = .ok (.imul, 1) := by decide +kernel
theorem d_K_targetsOf_16 : decode b_K_targetsOf 16 = .ok (.iload_n 2, 1) := by decide +kernel
theorem d_K_targetsOf_17 : decode b_K_targetsOf 17 = .ok (.iadd, 1) := by decide +kernel
theorem d_K_targetsOf_18 : decode b_K_targetsOf 18 = .ok (.laload, 1) := by decide +kernel
theorem d_K_targetsOf_19 : decode b_K_targetsOf 19 = .ok (.goto 4, 3) := by decide +kernel
theorem d_K_targetsOf_22 : decode b_K_targetsOf 22 = .ok (.lconst 0, 1) := by decide +kernel
theorem d_K_targetsOf_23 : decode b_K_targetsOf 23 = .ok (.lreturn, 1) := by decide +kernel
theorem d_K_targetsOfAll_0 : decode b_K_targetsOfAll 0 = .ok (.lconst 0, 1) := by decide +kernel
theorem d_K_targetsOfAll_1 : decode b_K_targetsOfAll 1 = .ok (.lstore 4, 2) := by decide +kernel
theorem d_K_targetsOfAll_3 : decode b_K_targetsOfAll 3 = .ok (.iconst 1, 1) := by decide +kernel
theorem d_K_targetsOfAll_4 : decode b_K_targetsOfAll 4 = .ok (.istore 6, 2) := by decide +kernel
theorem d_K_targetsOfAll_6 : decode b_K_targetsOfAll 6 = .ok (.iload 6, 2) := by decide +kernel
theorem d_K_targetsOfAll_8 : decode b_K_targetsOfAll 8 = .ok (.bipush 60, 2) := by decide +kernel
theorem d_K_targetsOfAll_10 : decode b_K_targetsOfAll 10 = .ok (.if_icmp .gt 30, 3) := by decide +kernel
theorem d_K_targetsOfAll_13 : decode b_K_targetsOfAll 13 = .ok (.lload_n 2, 1) := by decide +kernel
theorem d_K_targetsOfAll_14 : decode b_K_targetsOfAll 14 = .ok (.iload 6, 2) := by decide +kernel
theorem d_K_targetsOfAll_16 : decode b_K_targetsOfAll 16 = .ok (.invokestatic 33, 3) := by decide +kernel
theorem d_K_targetsOfAll_19 : decode b_K_targetsOfAll 19 = .ok (.ifCond .eq 15, 3) := by decide +kernel
theorem d_K_targetsOfAll_22 : decode b_K_targetsOfAll 22 = .ok (.lload 4, 2) := by decide +kernel
theorem d_K_targetsOfAll_24 : decode b_K_targetsOfAll 24 = .ok (.aload_n 0, 1) := by decide +kernel
theorem d_K_targetsOfAll_25 : decode b_K_targetsOfAll 25 = .ok (.iload_n 1, 1) := by decide +kernel
theorem d_K_targetsOfAll_26 : decode b_K_targetsOfAll 26 = .ok (.iload 6, 2) := by decide +kernel
theorem d_K_targetsOfAll_28 : decode b_K_targetsOfAll 28 = .ok (.invokevirtual 29, 3) := by decide +kernel
theorem d_K_targetsOfAll_31 : decode b_K_targetsOfAll 31 = .ok (.lor, 1) := by decide +kernel
theorem d_K_targetsOfAll_32 : decode b_K_targetsOfAll 32 = .ok (.lstore 4, 2) := by decide +kernel
theorem d_K_targetsOfAll_34 : decode b_K_targetsOfAll 34 = .ok (.iinc 6 1, 3) := by decide +kernel
theorem d_K_targetsOfAll_37 : decode b_K_targetsOfAll 37 = .ok (.goto (-31), 3) := by decide +kernel
theorem d_K_targetsOfAll_40 : decode b_K_targetsOfAll 40 = .ok (.lload 4, 2) := by decide +kernel
theorem d_K_targetsOfAll_42 : decode b_K_targetsOfAll 42 = .ok (.lreturn, 1) := by decide +kernel
theorem d_K_sourcesOf_0 : decode b_K_sourcesOf 0 = .ok (.lconst 0, 1) := by decide +kernel
theorem d_K_sourcesOf_1 : decode b_K_sourcesOf 1 = .ok (.lstore 4, 2) := by decide +kernel
theorem d_K_sourcesOf_3 : decode b_K_sourcesOf 3 = .ok (.iconst 1, 1) := by decide +kernel
theorem d_K_sourcesOf_4 : decode b_K_sourcesOf 4 = .ok (.istore 6, 2) := by decide +kernel
theorem d_K_sourcesOf_6 : decode b_K_sourcesOf 6 = .ok (.iload 6, 2) := by decide +kernel
theorem d_K_sourcesOf_8 : decode b_K_sourcesOf 8 = .ok (.bipush 60, 2) := by decide +kernel
theorem d_K_sourcesOf_10 : decode b_K_sourcesOf 10 = .ok (.if_icmp .gt 33, 3) := by decide +kernel
theorem d_K_sourcesOf_13 : decode b_K_sourcesOf 13 = .ok (.aload_n 0, 1) := by decide +kernel
theorem d_K_sourcesOf_14 : decode b_K_sourcesOf 14 = .ok (.iload_n 1, 1) := by decide +kernel
theorem d_K_sourcesOf_15 : decode b_K_sourcesOf 15 = .ok (.iload 6, 2) := by decide +kernel
theorem d_K_sourcesOf_17 : decode b_K_sourcesOf 17 = .ok (.invokevirtual 29, 3) := by decide +kernel
theorem d_K_sourcesOf_20 : decode b_K_sourcesOf 20 = .ok (.lload_n 2, 1) := by decide +kernel
theorem d_K_sourcesOf_21 : decode b_K_sourcesOf 21 = .ok (.land, 1) := by decide +kernel
theorem d_K_sourcesOf_22 : decode b_K_sourcesOf 22 = .ok (.lconst 0, 1) := by decide +kernel
theorem d_K_sourcesOf_23 : decode b_K_sourcesOf 23 = .ok (.lcmp, 1) := by decide +kernel
theorem d_K_sourcesOf_24 : decode b_K_sourcesOf 24 = .ok (.ifCond .eq 13, 3) := by decide +kernel
theorem d_K_sourcesOf_27 : decode b_K_sourcesOf 27 = .ok (.lload 4, 2) := by decide +kernel
theorem d_K_sourcesOf_29 : decode b_K_sourcesOf 29 = .ok (.iload 6, 2) := by decide +kernel
theorem d_K_sourcesOf_31 : decode b_K_sourcesOf 31 = .ok (.invokestatic 41, 3) := by decide +kernel
theorem d_K_sourcesOf_34 : decode b_K_sourcesOf 34 = .ok (.lor, 1) := by decide +kernel
theorem d_K_sourcesOf_35 : decode b_K_sourcesOf 35 = .ok (.lstore 4, 2) := by decide +kernel
theorem d_K_sourcesOf_37 : decode b_K_sourcesOf 37 = .ok (.iinc 6 1, 3) := by decide +kernel
theorem d_K_sourcesOf_40 : decode b_K_sourcesOf 40 = .ok (.goto (-34), 3) := by decide +kernel
theorem d_K_sourcesOf_43 : decode b_K_sourcesOf 43 = .ok (.lload 4, 2) := by decide +kernel
theorem d_K_sourcesOf_45 : decode b_K_sourcesOf 45 = .ok (.lreturn, 1) := by decide +kernel
theorem d_K_add_0 : decode b_K_add 0 = .ok (.aload_n 0, 1) := by decide +kernel
theorem d_K_add_1 : decode b_K_add 1 = .ok (.invokevirtual 45, 3) := by decide +kernel
theorem d_K_add_4 : decode b_K_add 4 = .ok (.ifCond .ne 19, 3) := by decide +kernel
theorem d_K_add_7 : decode b_K_add 7 = .ok (.iload_n 1, 1) := by decide +kernel
theorem d_K_add_8 : decode b_K_add 8 = .ok (.iload_n 2, 1) := by decide +kernel
theorem d_K_add_9 : decode b_K_add 9 = .ok (.invokestatic 37, 3) := by decide +kernel
theorem d_K_add_12 : decode b_K_add 12 = .ok (.ifCond .eq 11, 3) := by decide +kernel
theorem d_K_add_15 : decode b_K_add 15 = .ok (.iload_n 1, 1) := by decide +kernel
theorem d_K_add_16 : decode b_K_add 16 = .ok (.iload_n 3, 1) := by decide +kernel
theorem d_K_add_17 : decode b_K_add 17 = .ok (.invokestatic 37, 3) := by decide +kernel
theorem d_K_add_20 : decode b_K_add 20 = .ok (.ifCond .ne 4, 3) := by decide +kernel
theorem d_K_add_23 : decode b_K_add 23 = .ok (.return_, 1) := by decide +kernel
theorem d_K_add_24 : decode b_K_add 24 = .ok (.aload_n 0, 1) := by decide +kernel
theorem d_K_add_25 : decode b_K_add 25 = .ok (.getfield 9, 3) := by decide +kernel
theorem d_K_add_28 : decode b_K_add 28 = .ok (.iload_n 1, 1) := by decide +kernel
theorem d_K_add_29 : decode b_K_add 29 = .ok (.bipush 61, 2) := by decide +kernel
theorem d_K_add_31 : decode b_K_add 31 = .ok (.imul, 1) := by decide +kernel
theorem d_K_add_32 : decode b_K_add 32 = .ok (.iload_n 2, 1) := by decide +kernel
theorem d_K_add_33 : decode b_K_add 33 = .ok (.iadd, 1) := by decide +kernel
theorem d_K_add_34 : decode b_K_add 34 = .ok (.dup2, 1) := by decide +kernel
theorem d_K_add_35 : decode b_K_add 35 = .ok (.laload, 1) := by decide +kernel
theorem d_K_add_36 : decode b_K_add 36 = .ok (.iload_n 3, 1) := by decide +kernel
theorem d_K_add_37 : decode b_K_add 37 = .ok (.invokestatic 41, 3) := by decide +kernel
theorem d_K_add_40 : decode b_K_add 40 = .ok (.lor, 1) := by decide +kernel
theorem d_K_add_41 : decode b_K_add 41 = .ok (.lastore, 1) := by decide +kernel
theorem d_K_add_42 : decode b_K_add 42 = .ok (.iload_n 1, 1) := by decide +kernel
theorem d_K_add_43 : decode b_K_add 43 = .ok (.iconst 3, 1) := by decide +kernel
theorem d_K_add_44 : decode b_K_add 44 = .ok (.if_icmp .ne 25, 3) := by decide +kernel
theorem d_K_add_47 : decode b_K_add 47 = .ok (.aload_n 0, 1) := by decide +kernel
theorem d_K_add_48 : decode b_K_add 48 = .ok (.aload_n 0, 1) := by decide +kernel
theorem d_K_add_49 : decode b_K_add 49 = .ok (.getfield 25, 3) := by decide +kernel
theorem d_K_add_52 : decode b_K_add 52 = .ok (.iload_n 2, 1) := by decide +kernel
theorem d_K_add_53 : decode b_K_add 53 = .ok (.iload_n 3, 1) := by decide +kernel
theorem d_K_add_54 : decode b_K_add 54 = .ok (.lload 4, 2) := by decide +kernel
theorem d_K_add_56 : decode b_K_add 56 = .ok (.invokevirtual 49, 3) := by decide +kernel
theorem d_K_add_59 : decode b_K_add 59 = .ok (.aload_n 0, 1) := by decide +kernel
theorem d_K_add_60 : decode b_K_add 60 = .ok (.dup, 1) := by decide +kernel
theorem d_K_add_61 : decode b_K_add 61 = .ok (.getfield 25, 3) := by decide +kernel
theorem d_K_add_64 : decode b_K_add 64 = .ok (.iconst 1, 1) := by decide +kernel
theorem d_K_add_65 : decode b_K_add 65 = .ok (.iadd, 1) := by decide +kernel
theorem d_K_add_66 : decode b_K_add 66 = .ok (.putfield 25, 3) := by decide +kernel
theorem d_K_add_69 : decode b_K_add 69 = .ok (.return_, 1) := by decide +kernel
theorem d_K_removeAllOf_0 : decode b_K_removeAllOf 0 = .ok (.iconst 0, 1) := by decide +kernel
theorem d_K_removeAllOf_1 : decode b_K_removeAllOf 1 = .ok (.istore_n 2, 1) := by decide +kernel
theorem d_K_removeAllOf_2 : decode b_K_removeAllOf 2 = .ok (.iload_n 2, 1) := by decide +kernel
theorem d_K_removeAllOf_3 : decode b_K_removeAllOf 3 = .ok (.iconst 4, 1) := by decide +kernel
theorem d_K_removeAllOf_4 : decode b_K_removeAllOf 4 = .ok (.if_icmp .ge 65, 3) := by decide +kernel
theorem d_K_removeAllOf_7 : decode b_K_removeAllOf 7 = .ok (.iload_n 2, 1) := by decide +kernel
theorem d_K_removeAllOf_8 : decode b_K_removeAllOf 8 = .ok (.iload_n 1, 1) := by decide +kernel
theorem d_K_removeAllOf_9 : decode b_K_removeAllOf 9 = .ok (.invokestatic 37, 3) := by decide +kernel
theorem d_K_removeAllOf_12 : decode b_K_removeAllOf 12 = .ok (.ifCond .eq 57, 3) := by decide +kernel
theorem d_K_removeAllOf_15 : decode b_K_removeAllOf 15 = .ok (.aload_n 0, 1) := by decide +kernel
theorem d_K_removeAllOf_16 : decode b_K_removeAllOf 16 = .ok (.getfield 9, 3) := by decide +kernel
theorem d_K_removeAllOf_19 : decode b_K_removeAllOf 19 = .ok (.iload_n 2, 1) := by decide +kernel
theorem d_K_removeAllOf_20 : decode b_K_removeAllOf 20 = .ok (.bipush 61, 2) := by decide +kernel
theorem d_K_removeAllOf_22 : decode b_K_removeAllOf 22 = .ok (.imul, 1) := by decide +kernel
theorem d_K_removeAllOf_23 : decode b_K_removeAllOf 23 = .ok (.iload_n 1, 1) := by decide +kernel
theorem d_K_removeAllOf_24 : decode b_K_removeAllOf 24 = .ok (.iadd, 1) := by decide +kernel
theorem d_K_removeAllOf_25 : decode b_K_removeAllOf 25 = .ok (.lconst 0, 1) := by decide +kernel
theorem d_K_removeAllOf_26 : decode b_K_removeAllOf 26 = .ok (.lastore, 1) := by decide +kernel
theorem d_K_removeAllOf_27 : decode b_K_removeAllOf 27 = .ok (.iconst 1, 1) := by decide +kernel
theorem d_K_removeAllOf_28 : decode b_K_removeAllOf 28 = .ok (.istore_n 3, 1) := by decide +kernel
theorem d_K_removeAllOf_29 : decode b_K_removeAllOf 29 = .ok (.iload_n 3, 1) := by decide +kernel
theorem d_K_removeAllOf_30 : decode b_K_removeAllOf 30 = .ok (.bipush 60, 2) := by decide +kernel
theorem d_K_removeAllOf_32 : decode b_K_removeAllOf 32 = .ok (.if_icmp .gt 31, 3) := by decide +kernel
theorem d_K_removeAllOf_35 : decode b_K_removeAllOf 35 = .ok (.aload_n 0, 1) := by decide +kernel
theorem d_K_removeAllOf_36 : decode b_K_removeAllOf 36 = .ok (.getfield 9, 3) := by decide +kernel
theorem d_K_removeAllOf_39 : decode b_K_removeAllOf 39 = .ok (.iload_n 2, 1) := by decide +kernel
theorem d_K_removeAllOf_40 : decode b_K_removeAllOf 40 = .ok (.bipush 61, 2) := by decide +kernel
theorem d_K_removeAllOf_42 : decode b_K_removeAllOf 42 = .ok (.imul, 1) := by decide +kernel
theorem d_K_removeAllOf_43 : decode b_K_removeAllOf 43 = .ok (.iload_n 3, 1) := by decide +kernel
theorem d_K_removeAllOf_44 : decode b_K_removeAllOf 44 = .ok (.iadd, 1) := by decide +kernel
theorem d_K_removeAllOf_45 : decode b_K_removeAllOf 45 = .ok (.dup2, 1) := by decide +kernel
theorem d_K_removeAllOf_46 : decode b_K_removeAllOf 46 = .ok (.laload, 1) := by decide +kernel
theorem d_K_removeAllOf_47 : decode b_K_removeAllOf 47 = .ok (.iload_n 1, 1) := by decide +kernel
theorem d_K_removeAllOf_48 : decode b_K_removeAllOf 48 = .ok (.invokestatic 41, 3) := by decide +kernel
theorem d_K_removeAllOf_51 : decode b_K_removeAllOf 51 = .ok (.ldc2_w 53, 3) := by decide +kernel
theorem d_K_removeAllOf_54 : decode b_K_removeAllOf 54 = .ok (.lxor, 1) := by decide +kernel
theorem d_K_removeAllOf_55 : decode b_K_removeAllOf 55 = .ok (.land, 1) := by decide +kernel
theorem d_K_removeAllOf_56 : decode b_K_removeAllOf 56 = .ok (.lastore, 1) := by decide +kernel
theorem d_K_removeAllOf_57 : decode b_K_removeAllOf 57 = .ok (.iinc 3 1, 3) := by decide +kernel
theorem d_K_removeAllOf_60 : decode b_K_removeAllOf 60 = .ok (.goto (-31), 3) := by decide +kernel
theorem d_K_removeAllOf_63 : decode b_K_removeAllOf 63 = .ok (.iinc 2 1, 3) := by decide +kernel
theorem d_K_removeAllOf_66 : decode b_K_removeAllOf 66 = .ok (.goto (-64), 3) := by decide +kernel
theorem d_K_removeAllOf_69 : decode b_K_removeAllOf 69 = .ok (.aload_n 0, 1) := by decide +kernel
theorem d_K_removeAllOf_70 : decode b_K_removeAllOf 70 = .ok (.iload_n 1, 1) := by decide +kernel
theorem d_K_removeAllOf_71 : decode b_K_removeAllOf 71 = .ok (.invokevirtual 55, 3) := by decide +kernel
theorem d_K_removeAllOf_74 : decode b_K_removeAllOf 74 = .ok (.return_, 1) := by decide +kernel
theorem d_K_latestOn_0 : decode b_K_latestOn 0 = .ok (.iconst (-1), 1) := by decide +kernel
theorem d_K_latestOn_1 : decode b_K_latestOn 1 = .ok (.istore 4, 2) := by decide +kernel
theorem d_K_latestOn_3 : decode b_K_latestOn 3 = .ok (.iconst 0, 1) := by decide +kernel
theorem d_K_latestOn_4 : decode b_K_latestOn 4 = .ok (.istore 5, 2) := by decide +kernel
theorem d_K_latestOn_6 : decode b_K_latestOn 6 = .ok (.iload 5, 2) := by decide +kernel
theorem d_K_latestOn_8 : decode b_K_latestOn 8 = .ok (.aload_n 0, 1) := by decide +kernel
theorem d_K_latestOn_9 : decode b_K_latestOn 9 = .ok (.getfield 25, 3) := by decide +kernel
theorem d_K_latestOn_12 : decode b_K_latestOn 12 = .ok (.if_icmp .ge 72, 3) := by decide +kernel
theorem d_K_latestOn_15 : decode b_K_latestOn 15 = .ok (.aload_n 0, 1) := by decide +kernel
theorem d_K_latestOn_16 : decode b_K_latestOn 16 = .ok (.getfield 15, 3) := by decide +kernel
theorem d_K_latestOn_19 : decode b_K_latestOn 19 = .ok (.iload 5, 2) := by decide +kernel
theorem d_K_latestOn_21 : decode b_K_latestOn 21 = .ok (.iaload, 1) := by decide +kernel
theorem d_K_latestOn_22 : decode b_K_latestOn 22 = .ok (.iload_n 1, 1) := by decide +kernel
theorem d_K_latestOn_23 : decode b_K_latestOn 23 = .ok (.if_icmp .ne 19, 3) := by decide +kernel
theorem d_K_latestOn_26 : decode b_K_latestOn 26 = .ok (.aload_n 0, 1) := by decide +kernel
theorem d_K_latestOn_27 : decode b_K_latestOn 27 = .ok (.getfield 22, 3) := by decide +kernel
theorem d_K_latestOn_30 : decode b_K_latestOn 30 = .ok (.iload 5, 2) := by decide +kernel
theorem d_K_latestOn_32 : decode b_K_latestOn 32 = .ok (.laload, 1) := by decide +kernel
theorem d_K_latestOn_33 : decode b_K_latestOn 33 = .ok (.lload_n 2, 1) := by decide +kernel
theorem d_K_latestOn_34 : decode b_K_latestOn 34 = .ok (.lcmp, 1) := by decide +kernel
theorem d_K_latestOn_35 : decode b_K_latestOn 35 = .ok (.ifCond .gt 7, 3) := by decide +kernel
theorem d_K_latestOn_38 : decode b_K_latestOn 38 = .ok (.iconst 1, 1) := by decide +kernel
theorem d_K_latestOn_39 : decode b_K_latestOn 39 = .ok (.goto 4, 3) := by decide +kernel
theorem d_K_latestOn_42 : decode b_K_latestOn 42 = .ok (.iconst 0, 1) := by decide +kernel
theorem d_K_latestOn_43 : decode b_K_latestOn 43 = .ok (.istore 6, 2) := by decide +kernel
theorem d_K_latestOn_45 : decode b_K_latestOn 45 = .ok (.iload 6, 2) := by decide +kernel
theorem d_K_latestOn_47 : decode b_K_latestOn 47 = .ok (.ifCond .eq 31, 3) := by decide +kernel
theorem d_K_latestOn_50 : decode b_K_latestOn 50 = .ok (.iload 4, 2) := by decide +kernel
theorem d_K_latestOn_52 : decode b_K_latestOn 52 = .ok (.iconst (-1), 1) := by decide +kernel
theorem d_K_latestOn_53 : decode b_K_latestOn 53 = .ok (.if_icmp .eq 21, 3) := by decide +kernel
theorem d_K_latestOn_56 : decode b_K_latestOn 56 = .ok (.aload_n 0, 1) := by decide +kernel
theorem d_K_latestOn_57 : decode b_K_latestOn 57 = .ok (.getfield 22, 3) := by decide +kernel
theorem d_K_latestOn_60 : decode b_K_latestOn 60 = .ok (.iload 5, 2) := by decide +kernel
theorem d_K_latestOn_62 : decode b_K_latestOn 62 = .ok (.laload, 1) := by decide +kernel
theorem d_K_latestOn_63 : decode b_K_latestOn 63 = .ok (.aload_n 0, 1) := by decide +kernel
theorem d_K_latestOn_64 : decode b_K_latestOn 64 = .ok (.getfield 22, 3) := by decide +kernel
theorem d_K_latestOn_67 : decode b_K_latestOn 67 = .ok (.iload 4, 2) := by decide +kernel
theorem d_K_latestOn_69 : decode b_K_latestOn 69 = .ok (.laload, 1) := by decide +kernel
theorem d_K_latestOn_70 : decode b_K_latestOn 70 = .ok (.lcmp, 1) := by decide +kernel
theorem d_K_latestOn_71 : decode b_K_latestOn 71 = .ok (.ifCond .le 7, 3) := by decide +kernel
theorem d_K_latestOn_74 : decode b_K_latestOn 74 = .ok (.iload 5, 2) := by decide +kernel
theorem d_K_latestOn_76 : decode b_K_latestOn 76 = .ok (.istore 4, 2) := by decide +kernel
theorem d_K_latestOn_78 : decode b_K_latestOn 78 = .ok (.iinc 5 1, 3) := by decide +kernel
theorem d_K_latestOn_81 : decode b_K_latestOn 81 = .ok (.goto (-75), 3) := by decide +kernel
theorem d_K_latestOn_84 : decode b_K_latestOn 84 = .ok (.iload 4, 2) := by decide +kernel
theorem d_K_latestOn_86 : decode b_K_latestOn 86 = .ok (.iconst (-1), 1) := by decide +kernel
theorem d_K_latestOn_87 : decode b_K_latestOn 87 = .ok (.if_icmp .ne 7, 3) := by decide +kernel
theorem d_K_latestOn_90 : decode b_K_latestOn 90 = .ok (.iconst 0, 1) := by decide +kernel
theorem d_K_latestOn_91 : decode b_K_latestOn 91 = .ok (.goto 10, 3) := by decide +kernel
theorem d_K_latestOn_94 : decode b_K_latestOn 94 = .ok (.aload_n 0, 1) := by decide +kernel
theorem d_K_latestOn_95 : decode b_K_latestOn 95 = .ok (.getfield 19, 3) := by decide +kernel
theorem d_K_latestOn_98 : decode b_K_latestOn 98 = .ok (.iload 4, 2) := by decide +kernel
theorem d_K_latestOn_100 : decode b_K_latestOn 100 = .ok (.iaload, 1) := by decide +kernel
theorem d_K_latestOn_101 : decode b_K_latestOn 101 = .ok (.ireturn, 1) := by decide +kernel
theorem d_K_isPlace_0 : decode b_K_isPlace 0 = .ok (.iload_n 0, 1) := by decide +kernel
theorem d_K_isPlace_1 : decode b_K_isPlace 1 = .ok (.ifCond .lt 23, 3) := by decide +kernel
theorem d_K_isPlace_4 : decode b_K_isPlace 4 = .ok (.iload_n 0, 1) := by decide +kernel
theorem d_K_isPlace_5 : decode b_K_isPlace 5 = .ok (.iconst 4, 1) := by decide +kernel
theorem d_K_isPlace_6 : decode b_K_isPlace 6 = .ok (.if_icmp .ge 18, 3) := by decide +kernel
theorem d_K_isPlace_9 : decode b_K_isPlace 9 = .ok (.iload_n 1, 1) := by decide +kernel
theorem d_K_isPlace_10 : decode b_K_isPlace 10 = .ok (.iconst 1, 1) := by decide +kernel
theorem d_K_isPlace_11 : decode b_K_isPlace 11 = .ok (.if_icmp .lt 13, 3) := by decide +kernel
theorem d_K_isPlace_14 : decode b_K_isPlace 14 = .ok (.iload_n 1, 1) := by decide +kernel
theorem d_K_isPlace_15 : decode b_K_isPlace 15 = .ok (.bipush 60, 2) := by decide +kernel
theorem d_K_isPlace_17 : decode b_K_isPlace 17 = .ok (.if_icmp .gt 7, 3) := by decide +kernel
theorem d_K_isPlace_20 : decode b_K_isPlace 20 = .ok (.iconst 1, 1) := by decide +kernel
theorem d_K_isPlace_21 : decode b_K_isPlace 21 = .ok (.goto 4, 3) := by decide +kernel
theorem d_K_isPlace_24 : decode b_K_isPlace 24 = .ok (.iconst 0, 1) := by decide +kernel
theorem d_K_isPlace_25 : decode b_K_isPlace 25 = .ok (.ireturn, 1) := by decide +kernel
theorem d_K_removeLaterOf_0 : decode b_K_removeLaterOf 0 = .ok (.iconst 0, 1) := by decide +kernel
theorem d_K_removeLaterOf_1 : decode b_K_removeLaterOf 1 = .ok (.istore_n 2, 1) := by decide +kernel
theorem d_K_removeLaterOf_2 : decode b_K_removeLaterOf 2 = .ok (.iconst 0, 1) := by decide +kernel
theorem d_K_removeLaterOf_3 : decode b_K_removeLaterOf 3 = .ok (.istore_n 3, 1) := by decide +kernel
theorem d_K_removeLaterOf_4 : decode b_K_removeLaterOf 4 = .ok (.iload_n 3, 1) := by decide +kernel
theorem d_K_removeLaterOf_5 : decode b_K_removeLaterOf 5 = .ok (.aload_n 0, 1) := by decide +kernel
theorem d_K_removeLaterOf_6 : decode b_K_removeLaterOf 6 = .ok (.getfield 25, 3) := by decide +kernel
theorem d_K_removeLaterOf_9 : decode b_K_removeLaterOf 9 = .ok (.if_icmp .ge 55, 3) := by decide +kernel
theorem d_K_removeLaterOf_12 : decode b_K_removeLaterOf 12 = .ok (.aload_n 0, 1) := by decide +kernel
theorem d_K_removeLaterOf_13 : decode b_K_removeLaterOf 13 = .ok (.getfield 15, 3) := by decide +kernel
theorem d_K_removeLaterOf_16 : decode b_K_removeLaterOf 16 = .ok (.iload_n 3, 1) := by decide +kernel
theorem d_K_removeLaterOf_17 : decode b_K_removeLaterOf 17 = .ok (.iaload, 1) := by decide +kernel
theorem d_K_removeLaterOf_18 : decode b_K_removeLaterOf 18 = .ok (.iload_n 1, 1) := by decide +kernel
theorem d_K_removeLaterOf_19 : decode b_K_removeLaterOf 19 = .ok (.if_icmp .eq 39, 3) := by decide +kernel
theorem d_K_removeLaterOf_22 : decode b_K_removeLaterOf 22 = .ok (.aload_n 0, 1) := by decide +kernel
theorem d_K_removeLaterOf_23 : decode b_K_removeLaterOf 23 = .ok (.getfield 19, 3) := by decide +kernel
theorem d_K_removeLaterOf_26 : decode b_K_removeLaterOf 26 = .ok (.iload_n 3, 1) := by decide +kernel
theorem d_K_removeLaterOf_27 : decode b_K_removeLaterOf 27 = .ok (.iaload, 1) := by decide +kernel
theorem d_K_removeLaterOf_28 : decode b_K_removeLaterOf 28 = .ok (.iload_n 1, 1) := by decide +kernel
theorem d_K_removeLaterOf_29 : decode b_K_removeLaterOf 29 = .ok (.if_icmp .eq 29, 3) := by decide +kernel
theorem d_K_removeLaterOf_32 : decode b_K_removeLaterOf 32 = .ok (.aload_n 0, 1) := by decide +kernel
theorem d_K_removeLaterOf_33 : decode b_K_removeLaterOf 33 = .ok (.iload_n 2, 1) := by decide +kernel
theorem d_K_removeLaterOf_34 : decode b_K_removeLaterOf 34 = .ok (.aload_n 0, 1) := by decide +kernel
theorem d_K_removeLaterOf_35 : decode b_K_removeLaterOf 35 = .ok (.getfield 15, 3) := by decide +kernel
theorem d_K_removeLaterOf_38 : decode b_K_removeLaterOf 38 = .ok (.iload_n 3, 1) := by decide +kernel
theorem d_K_removeLaterOf_39 : decode b_K_removeLaterOf 39 = .ok (.iaload, 1) := by decide +kernel
theorem d_K_removeLaterOf_40 : decode b_K_removeLaterOf 40 = .ok (.aload_n 0, 1) := by decide +kernel
theorem d_K_removeLaterOf_41 : decode b_K_removeLaterOf 41 = .ok (.getfield 19, 3) := by decide +kernel
theorem d_K_removeLaterOf_44 : decode b_K_removeLaterOf 44 = .ok (.iload_n 3, 1) := by decide +kernel
theorem d_K_removeLaterOf_45 : decode b_K_removeLaterOf 45 = .ok (.iaload, 1) := by decide +kernel
theorem d_K_removeLaterOf_46 : decode b_K_removeLaterOf 46 = .ok (.aload_n 0, 1) := by decide +kernel
theorem d_K_removeLaterOf_47 : decode b_K_removeLaterOf 47 = .ok (.getfield 22, 3) := by decide +kernel
theorem d_K_removeLaterOf_50 : decode b_K_removeLaterOf 50 = .ok (.iload_n 3, 1) := by decide +kernel
theorem d_K_removeLaterOf_51 : decode b_K_removeLaterOf 51 = .ok (.laload, 1) := by decide +kernel
theorem d_K_removeLaterOf_52 : decode b_K_removeLaterOf 52 = .ok (.invokevirtual 49, 3) := by decide +kernel
theorem d_K_removeLaterOf_55 : decode b_K_removeLaterOf 55 = .ok (.iinc 2 1, 3) := by decide +kernel
theorem d_K_removeLaterOf_58 : decode b_K_removeLaterOf 58 = .ok (.iinc 3 1, 3) := by decide +kernel
theorem d_K_removeLaterOf_61 : decode b_K_removeLaterOf 61 = .ok (.goto (-57), 3) := by decide +kernel
theorem d_K_removeLaterOf_64 : decode b_K_removeLaterOf 64 = .ok (.aload_n 0, 1) := by decide +kernel
theorem d_K_removeLaterOf_65 : decode b_K_removeLaterOf 65 = .ok (.iload_n 2, 1) := by decide +kernel
theorem d_K_removeLaterOf_66 : decode b_K_removeLaterOf 66 = .ok (.putfield 25, 3) := by decide +kernel
theorem d_K_removeLaterOf_69 : decode b_K_removeLaterOf 69 = .ok (.return_, 1) := by decide +kernel
theorem d_K_putLater_0 : decode b_K_putLater 0 = .ok (.aload_n 0, 1) := by decide +kernel
theorem d_K_putLater_1 : decode b_K_putLater 1 = .ok (.getfield 15, 3) := by decide +kernel
theorem d_K_putLater_4 : decode b_K_putLater 4 = .ok (.iload_n 1, 1) := by decide +kernel
theorem d_K_putLater_5 : decode b_K_putLater 5 = .ok (.iload_n 2, 1) := by decide +kernel
theorem d_K_putLater_6 : decode b_K_putLater 6 = .ok (.iastore, 1) := by decide +kernel
theorem d_K_putLater_7 : decode b_K_putLater 7 = .ok (.aload_n 0, 1) := by decide +kernel
theorem d_K_putLater_8 : decode b_K_putLater 8 = .ok (.getfield 19, 3) := by decide +kernel
theorem d_K_putLater_11 : decode b_K_putLater 11 = .ok (.iload_n 1, 1) := by decide +kernel
theorem d_K_putLater_12 : decode b_K_putLater 12 = .ok (.iload_n 3, 1) := by decide +kernel
theorem d_K_putLater_13 : decode b_K_putLater 13 = .ok (.iastore, 1) := by decide +kernel
theorem d_K_putLater_14 : decode b_K_putLater 14 = .ok (.aload_n 0, 1) := by decide +kernel
theorem d_K_putLater_15 : decode b_K_putLater 15 = .ok (.getfield 22, 3) := by decide +kernel
theorem d_K_putLater_18 : decode b_K_putLater 18 = .ok (.iload_n 1, 1) := by decide +kernel
theorem d_K_putLater_19 : decode b_K_putLater 19 = .ok (.lload 4, 2) := by decide +kernel
theorem d_K_putLater_21 : decode b_K_putLater 21 = .ok (.lastore, 1) := by decide +kernel
theorem d_K_putLater_22 : decode b_K_putLater 22 = .ok (.return_, 1) := by decide +kernel
theorem d_R_init_0 : decode b_R_init 0 = .ok (.aload_n 0, 1) := by decide +kernel
theorem d_R_init_1 : decode b_R_init 1 = .ok (.invokespecial 3, 3) := by decide +kernel
theorem d_R_init_4 : decode b_R_init 4 = .ok (.aload_n 0, 1) := by decide +kernel
theorem d_R_init_5 : decode b_R_init 5 = .ok (.bipush 61, 2) := by decide +kernel
theorem d_R_init_7 : decode b_R_init 7 = .ok (.newarray .int, 2) := by decide +kernel
theorem d_R_init_9 : decode b_R_init 9 = .ok (.putfield 9, 3) := by decide +kernel
theorem d_R_init_12 : decode b_R_init 12 = .ok (.aload_n 0, 1) := by decide +kernel
theorem d_R_init_13 : decode b_R_init 13 = .ok (.bipush 61, 2) := by decide +kernel
theorem d_R_init_15 : decode b_R_init 15 = .ok (.newarray .long, 2) := by decide +kernel
theorem d_R_init_17 : decode b_R_init 17 = .ok (.putfield 15, 3) := by decide +kernel
theorem d_R_init_20 : decode b_R_init 20 = .ok (.aload_n 0, 1) := by decide +kernel
theorem d_R_init_21 : decode b_R_init 21 = .ok (.iconst 0, 1) := by decide +kernel
theorem d_R_init_22 : decode b_R_init 22 = .ok (.putfield 19, 3) := by decide +kernel
theorem d_R_init_25 : decode b_R_init 25 = .ok (.return_, 1) := by decide +kernel
theorem d_R_isFull_0 : decode b_R_isFull 0 = .ok (.aload_n 0, 1) := by decide +kernel
theorem d_R_isFull_1 : decode b_R_isFull 1 = .ok (.getfield 19, 3) := by decide +kernel
theorem d_R_isFull_4 : decode b_R_isFull 4 = .ok (.bipush 60, 2) := by decide +kernel
theorem d_R_isFull_6 : decode b_R_isFull 6 = .ok (.if_icmp .lt 7, 3) := by decide +kernel
theorem d_R_isFull_9 : decode b_R_isFull 9 = .ok (.iconst 1, 1) := by decide +kernel
theorem d_R_isFull_10 : decode b_R_isFull 10 = .ok (.goto 4, 3) := by decide +kernel
theorem d_R_isFull_13 : decode b_R_isFull 13 = .ok (.iconst 0, 1) := by decide +kernel
theorem d_R_isFull_14 : decode b_R_isFull 14 = .ok (.ireturn, 1) := by decide +kernel
theorem d_R_add_0 : decode b_R_add 0 = .ok (.aload_n 0, 1) := by decide +kernel
theorem d_R_add_1 : decode b_R_add 1 = .ok (.invokevirtual 23, 3) := by decide +kernel
theorem d_R_add_4 : decode b_R_add 4 = .ok (.ifCond .eq 5, 3) := by decide +kernel
theorem d_R_add_7 : decode b_R_add 7 = .ok (.iconst 0, 1) := by decide +kernel
theorem d_R_add_8 : decode b_R_add 8 = .ok (.ireturn, 1) := by decide +kernel
theorem d_R_add_9 : decode b_R_add 9 = .ok (.aload_n 0, 1) := by decide +kernel
theorem d_R_add_10 : decode b_R_add 10 = .ok (.dup, 1) := by decide +kernel
theorem d_R_add_11 : decode b_R_add 11 = .ok (.getfield 19, 3) := by decide +kernel
theorem d_R_add_14 : decode b_R_add 14 = .ok (.iconst 1, 1) := by decide +kernel
theorem d_R_add_15 : decode b_R_add 15 = .ok (.iadd, 1) := by decide +kernel
theorem d_R_add_16 : decode b_R_add 16 = .ok (.putfield 19, 3) := by decide +kernel
theorem d_R_add_19 : decode b_R_add 19 = .ok (.aload_n 0, 1) := by decide +kernel
theorem d_R_add_20 : decode b_R_add 20 = .ok (.getfield 9, 3) := by decide +kernel
