theorem d_M_link_27 : decode b_M_link 27 = .ok (.ifCond .lt 18, 3) := by decide +kernel
theorem d_M_link_30 : decode b_M_link 30 = .ok (.iload_n 1, 1) := by decide +kernel
theorem d_M_link_31 : decode b_M_link 31 = .ok (.iconst 3, 1) := by decide +kernel
theorem d_M_link_32 : decode b_M_link 32 = .ok (.if_icmp .gt 13, 3) := by decide +kernel
theorem d_M_link_35 : decode b_M_link 35 = .ok (.aload_n 0, 1) := by decide +kernel
theorem d_M_link_36 : decode b_M_link 36 = .ok (.iload_n 1, 1) := by decide +kernel
theorem d_M_link_37 : decode b_M_link 37 = .ok (.iload_n 2, 1) := by decide +kernel
theorem d_M_link_38 : decode b_M_link 38 = .ok (.iload_n 3, 1) := by decide +kernel
theorem d_M_link_39 : decode b_M_link 39 = .ok (.invokevirtual 111, 3) := by decide +kernel
theorem d_M_link_42 : decode b_M_link 42 = .ok (.ifCond .eq 5, 3) := by decide +kernel
theorem d_M_link_45 : decode b_M_link 45 = .ok (.iconst 0, 1) := by decide +kernel
theorem d_M_link_46 : decode b_M_link 46 = .ok (.ireturn, 1) := by decide +kernel
theorem d_M_link_47 : decode b_M_link 47 = .ok (.iload_n 1, 1) := by decide +kernel
theorem d_M_link_48 : decode b_M_link 48 = .ok (.ifCond .ne 35, 3) := by decide +kernel
theorem d_M_link_51 : decode b_M_link 51 = .ok (.aload_n 0, 1) := by decide +kernel
theorem d_M_link_52 : decode b_M_link 52 = .ok (.iconst 0, 1) := by decide +kernel
theorem d_M_link_53 : decode b_M_link 53 = .ok (.iload_n 2, 1) := by decide +kernel
theorem d_M_link_54 : decode b_M_link 54 = .ok (.iconst 0, 1) := by decide +kernel
theorem d_M_link_55 : decode b_M_link 55 = .ok (.invokevirtual 111, 3) := by decide +kernel
theorem d_M_link_58 : decode b_M_link 58 = .ok (.ifCond .ne 23, 3) := by decide +kernel
theorem d_M_link_61 : decode b_M_link 61 = .ok (.aload_n 0, 1) := by decide +kernel
theorem d_M_link_62 : decode b_M_link 62 = .ok (.iconst 0, 1) := by decide +kernel
theorem d_M_link_63 : decode b_M_link 63 = .ok (.iconst 0, 1) := by decide +kernel
theorem d_M_link_64 : decode b_M_link 64 = .ok (.iload_n 2, 1) := by decide +kernel
theorem d_M_link_65 : decode b_M_link 65 = .ok (.invokevirtual 111, 3) := by decide +kernel
theorem d_M_link_68 : decode b_M_link 68 = .ok (.ifCond .ne 13, 3) := by decide +kernel
theorem d_M_link_71 : decode b_M_link 71 = .ok (.aload_n 0, 1) := by decide +kernel
theorem d_M_link_72 : decode b_M_link 72 = .ok (.iconst 0, 1) := by decide +kernel
theorem d_M_link_73 : decode b_M_link 73 = .ok (.iload_n 3, 1) := by decide +kernel
theorem d_M_link_74 : decode b_M_link 74 = .ok (.iconst 0, 1) := by decide +kernel
theorem d_M_link_75 : decode b_M_link 75 = .ok (.invokevirtual 111, 3) := by decide +kernel
theorem d_M_link_78 : decode b_M_link 78 = .ok (.ifCond .eq 5, 3) := by decide +kernel
theorem d_M_link_81 : decode b_M_link 81 = .ok (.iconst 0, 1) := by decide +kernel
theorem d_M_link_82 : decode b_M_link 82 = .ok (.ireturn, 1) := by decide +kernel
theorem d_M_link_83 : decode b_M_link 83 = .ok (.iload_n 1, 1) := by decide +kernel
theorem d_M_link_84 : decode b_M_link 84 = .ok (.iconst 1, 1) := by decide +kernel
theorem d_M_link_85 : decode b_M_link 85 = .ok (.if_icmp .le 30, 3) := by decide +kernel
theorem d_M_link_88 : decode b_M_link 88 = .ok (.aload_n 0, 1) := by decide +kernel
theorem d_M_link_89 : decode b_M_link 89 = .ok (.iload_n 1, 1) := by decide +kernel
theorem d_M_link_90 : decode b_M_link 90 = .ok (.iload_n 3, 1) := by decide +kernel
theorem d_M_link_91 : decode b_M_link 91 = .ok (.iconst 0, 1) := by decide +kernel
theorem d_M_link_92 : decode b_M_link 92 = .ok (.invokevirtual 104, 3) := by decide +kernel
theorem d_M_link_95 : decode b_M_link 95 = .ok (.aload_n 0, 1) := by decide +kernel
theorem d_M_link_96 : decode b_M_link 96 = .ok (.getfield 49, 3) := by decide +kernel
theorem d_M_link_99 : decode b_M_link 99 = .ok (.iload_n 2, 1) := by decide +kernel
theorem d_M_link_100 : decode b_M_link 100 = .ok (.iaload, 1) := by decide +kernel
theorem d_M_link_101 : decode b_M_link 101 = .ok (.bipush 100, 2) := by decide +kernel
theorem d_M_link_103 : decode b_M_link 103 = .ok (.if_icmp .ge 12, 3) := by decide +kernel
theorem d_M_link_106 : decode b_M_link 106 = .ok (.aload_n 0, 1) := by decide +kernel
theorem d_M_link_107 : decode b_M_link 107 = .ok (.iload_n 1, 1) := by decide +kernel
theorem d_M_link_108 : decode b_M_link 108 = .ok (.iload_n 3, 1) := by decide +kernel
theorem d_M_link_109 : decode b_M_link 109 = .ok (.iload_n 2, 1) := by decide +kernel
theorem d_M_link_110 : decode b_M_link 110 = .ok (.invokevirtual 115, 3) := by decide +kernel
theorem d_M_link_113 : decode b_M_link 113 = .ok (.iconst 0, 1) := by decide +kernel
theorem d_M_link_114 : decode b_M_link 114 = .ok (.ireturn, 1) := by decide +kernel
theorem d_M_link_115 : decode b_M_link 115 = .ok (.aload_n 0, 1) := by decide +kernel
theorem d_M_link_116 : decode b_M_link 116 = .ok (.iload_n 1, 1) := by decide +kernel
theorem d_M_link_117 : decode b_M_link 117 = .ok (.iload_n 2, 1) := by decide +kernel
theorem d_M_link_118 : decode b_M_link 118 = .ok (.iload_n 3, 1) := by decide +kernel
theorem d_M_link_119 : decode b_M_link 119 = .ok (.lload 4, 2) := by decide +kernel
theorem d_M_link_121 : decode b_M_link 121 = .ok (.invokevirtual 119, 3) := by decide +kernel
theorem d_M_link_124 : decode b_M_link 124 = .ok (.iconst 1, 1) := by decide +kernel
theorem d_M_link_125 : decode b_M_link 125 = .ok (.ireturn, 1) := by decide +kernel
theorem d_M_ring_0 : decode b_M_ring 0 = .ok (.aload_n 0, 1) := by decide +kernel
theorem d_M_ring_1 : decode b_M_ring 1 = .ok (.iconst 0, 1) := by decide +kernel
theorem d_M_ring_2 : decode b_M_ring 2 = .ok (.putfield 52, 3) := by decide +kernel
theorem d_M_ring_5 : decode b_M_ring 5 = .ok (.iload_n 1, 1) := by decide +kernel
theorem d_M_ring_6 : decode b_M_ring 6 = .ok (.ifCond .lt 11, 3) := by decide +kernel
theorem d_M_ring_9 : decode b_M_ring 9 = .ok (.iload_n 1, 1) := by decide +kernel
theorem d_M_ring_10 : decode b_M_ring 10 = .ok (.aload_n 0, 1) := by decide +kernel
theorem d_M_ring_11 : decode b_M_ring 11 = .ok (.getfield 108, 3) := by decide +kernel
theorem d_M_ring_14 : decode b_M_ring 14 = .ok (.if_icmp .lt 7, 3) := by decide +kernel
theorem d_M_ring_17 : decode b_M_ring 17 = .ok (.iconst 0, 1) := by decide +kernel
theorem d_M_ring_18 : decode b_M_ring 18 = .ok (.goto 9, 3) := by decide +kernel
theorem d_M_ring_21 : decode b_M_ring 21 = .ok (.aload_n 0, 1) := by decide +kernel
theorem d_M_ring_22 : decode b_M_ring 22 = .ok (.getfield 46, 3) := by decide +kernel
theorem d_M_ring_25 : decode b_M_ring 25 = .ok (.iload_n 1, 1) := by decide +kernel
theorem d_M_ring_26 : decode b_M_ring 26 = .ok (.iaload, 1) := by decide +kernel
theorem d_M_ring_27 : decode b_M_ring 27 = .ok (.ireturn, 1) := by decide +kernel
theorem d_M_see_0 : decode b_M_see 0 = .ok (.aload_n 0, 1) := by decide +kernel
theorem d_M_see_1 : decode b_M_see 1 = .ok (.iconst 0, 1) := by decide +kernel
theorem d_M_see_2 : decode b_M_see 2 = .ok (.putfield 52, 3) := by decide +kernel
theorem d_M_see_5 : decode b_M_see 5 = .ok (.iconst 0, 1) := by decide +kernel
theorem d_M_see_6 : decode b_M_see 6 = .ok (.istore_n 3, 1) := by decide +kernel
theorem d_M_see_7 : decode b_M_see 7 = .ok (.iconst 1, 1) := by decide +kernel
theorem d_M_see_8 : decode b_M_see 8 = .ok (.istore 4, 2) := by decide +kernel
theorem d_M_see_10 : decode b_M_see 10 = .ok (.iload 4, 2) := by decide +kernel
theorem d_M_see_12 : decode b_M_see 12 = .ok (.aload_n 0, 1) := by decide +kernel
theorem d_M_see_13 : decode b_M_see 13 = .ok (.getfield 66, 3) := by decide +kernel
theorem d_M_see_16 : decode b_M_see 16 = .ok (.if_icmp .gt 43, 3) := by decide +kernel
theorem d_M_see_19 : decode b_M_see 19 = .ok (.iload_n 2, 1) := by decide +kernel
theorem d_M_see_20 : decode b_M_see 20 = .ok (.ifCond .lt 39, 3) := by decide +kernel
theorem d_M_see_23 : decode b_M_see 23 = .ok (.aload_n 0, 1) := by decide +kernel
theorem d_M_see_24 : decode b_M_see 24 = .ok (.iload_n 1, 1) := by decide +kernel
theorem d_M_see_25 : decode b_M_see 25 = .ok (.invokevirtual 91, 3) := by decide +kernel
theorem d_M_see_28 : decode b_M_see 28 = .ok (.ifCond .eq 31, 3) := by decide +kernel
theorem d_M_see_31 : decode b_M_see 31 = .ok (.aload_n 0, 1) := by decide +kernel
theorem d_M_see_32 : decode b_M_see 32 = .ok (.iconst 0, 1) := by decide +kernel
theorem d_M_see_33 : decode b_M_see 33 = .ok (.iload 4, 2) := by decide +kernel
theorem d_M_see_35 : decode b_M_see 35 = .ok (.iload_n 1, 1) := by decide +kernel
theorem d_M_see_36 : decode b_M_see 36 = .ok (.invokevirtual 111, 3) := by decide +kernel
theorem d_M_see_39 : decode b_M_see 39 = .ok (.ifCond .eq 14, 3) := by decide +kernel
theorem d_M_see_42 : decode b_M_see 42 = .ok (.iload_n 3, 1) := by decide +kernel
theorem d_M_see_43 : decode b_M_see 43 = .ok (.iload_n 2, 1) := by decide +kernel
theorem d_M_see_44 : decode b_M_see 44 = .ok (.if_icmp .ne 6, 3) := by decide +kernel
theorem d_M_see_47 : decode b_M_see 47 = .ok (.iload 4, 2) := by decide +kernel
theorem d_M_see_49 : decode b_M_see 49 = .ok (.ireturn, 1) := by decide +kernel
theorem d_M_see_50 : decode b_M_see 50 = .ok (.iinc 3 1, 3) := by decide +kernel
theorem d_M_see_53 : decode b_M_see 53 = .ok (.iinc 4 1, 3) := by decide +kernel
theorem d_M_see_56 : decode b_M_see 56 = .ok (.goto (-46), 3) := by decide +kernel
theorem d_M_see_59 : decode b_M_see 59 = .ok (.iconst 0, 1) := by decide +kernel
theorem d_M_see_60 : decode b_M_see 60 = .ok (.ireturn, 1) := by decide +kernel
theorem d_M_broader_0 : decode b_M_broader 0 = .ok (.aload_n 0, 1) := by decide +kernel
theorem d_M_broader_1 : decode b_M_broader 1 = .ok (.iconst 0, 1) := by decide +kernel
theorem d_M_broader_2 : decode b_M_broader 2 = .ok (.putfield 52, 3) := by decide +kernel
theorem d_M_broader_5 : decode b_M_broader 5 = .ok (.aload_n 0, 1) := by decide +kernel
theorem d_M_broader_6 : decode b_M_broader 6 = .ok (.iload_n 1, 1) := by decide +kernel
theorem d_M_broader_7 : decode b_M_broader 7 = .ok (.invokevirtual 91, 3) := by decide +kernel
theorem d_M_broader_10 : decode b_M_broader 10 = .ok (.ifCond .eq 7, 3) := by decide +kernel
theorem d_M_broader_13 : decode b_M_broader 13 = .ok (.iload_n 2, 1) := by decide +kernel
theorem d_M_broader_14 : decode b_M_broader 14 = .ok (.ifCond .ge 5, 3) := by decide +kernel
theorem d_M_broader_17 : decode b_M_broader 17 = .ok (.iconst 0, 1) := by decide +kernel
theorem d_M_broader_18 : decode b_M_broader 18 = .ok (.ireturn, 1) := by decide +kernel
theorem d_M_broader_19 : decode b_M_broader 19 = .ok (.aload_n 0, 1) := by decide +kernel
theorem d_M_broader_20 : decode b_M_broader 20 = .ok (.iconst 2, 1) := by decide +kernel
theorem d_M_broader_21 : decode b_M_broader 21 = .ok (.iload_n 1, 1) := by decide +kernel
theorem d_M_broader_22 : decode b_M_broader 22 = .ok (.iconst 0, 1) := by decide +kernel
theorem d_M_broader_23 : decode b_M_broader 23 = .ok (.invokevirtual 104, 3) := by decide +kernel
theorem d_M_broader_26 : decode b_M_broader 26 = .ok (.iconst 0, 1) := by decide +kernel
theorem d_M_broader_27 : decode b_M_broader 27 = .ok (.istore_n 3, 1) := by decide +kernel
theorem d_M_broader_28 : decode b_M_broader 28 = .ok (.iconst 1, 1) := by decide +kernel
theorem d_M_broader_29 : decode b_M_broader 29 = .ok (.istore 4, 2) := by decide +kernel
theorem d_M_broader_31 : decode b_M_broader 31 = .ok (.iload 4, 2) := by decide +kernel
theorem d_M_broader_33 : decode b_M_broader 33 = .ok (.bipush 61, 2) := by decide +kernel
theorem d_M_broader_35 : decode b_M_broader 35 = .ok (.if_icmp .ge 50, 3) := by decide +kernel
theorem d_M_broader_38 : decode b_M_broader 38 = .ok (.iconst 1, 1) := by decide +kernel
theorem d_M_broader_39 : decode b_M_broader 39 = .ok (.istore 5, 2) := by decide +kernel
theorem d_M_broader_41 : decode b_M_broader 41 = .ok (.iload 5, 2) := by decide +kernel
theorem d_M_broader_43 : decode b_M_broader 43 = .ok (.aload_n 0, 1) := by decide +kernel
theorem d_M_broader_44 : decode b_M_broader 44 = .ok (.getfield 66, 3) := by decide +kernel
theorem d_M_broader_47 : decode b_M_broader 47 = .ok (.if_icmp .gt 32, 3) := by decide +kernel
theorem d_M_broader_50 : decode b_M_broader 50 = .ok (.aload_n 0, 1) := by decide +kernel
theorem d_M_broader_51 : decode b_M_broader 51 = .ok (.getfield 49, 3) := by decide +kernel
theorem d_M_broader_54 : decode b_M_broader 54 = .ok (.iload 5, 2) := by decide +kernel
theorem d_M_broader_56 : decode b_M_broader 56 = .ok (.iaload, 1) := by decide +kernel
theorem d_M_broader_57 : decode b_M_broader 57 = .ok (.iload 4, 2) := by decide +kernel
theorem d_M_broader_59 : decode b_M_broader 59 = .ok (.if_icmp .ne 14, 3) := by decide +kernel
theorem d_M_broader_62 : decode b_M_broader 62 = .ok (.iload_n 3, 1) := by decide +kernel
theorem d_M_broader_63 : decode b_M_broader 63 = .ok (.iload_n 2, 1) := by decide +kernel
theorem d_M_broader_64 : decode b_M_broader 64 = .ok (.if_icmp .ne 6, 3) := by decide +kernel
theorem d_M_broader_67 : decode b_M_broader 67 = .ok (.iload 5, 2) := by decide +kernel
theorem d_M_broader_69 : decode b_M_broader 69 = .ok (.ireturn, 1) := by decide +kernel
theorem d_M_broader_70 : decode b_M_broader 70 = .ok (.iinc 3 1, 3) := by decide +kernel
theorem d_M_broader_73 : decode b_M_broader 73 = .ok (.iinc 5 1, 3) := by decide +kernel
theorem d_M_broader_76 : decode b_M_broader 76 = .ok (.goto (-35), 3) := by decide +kernel
theorem d_M_broader_79 : decode b_M_broader 79 = .ok (.iinc 4 1, 3) := by decide +kernel
theorem d_M_broader_82 : decode b_M_broader 82 = .ok (.goto (-51), 3) := by decide +kernel
theorem d_M_broader_85 : decode b_M_broader 85 = .ok (.iconst 0, 1) := by decide +kernel
theorem d_M_broader_86 : decode b_M_broader 86 = .ok (.ireturn, 1) := by decide +kernel
theorem d_M_delete_0 : decode b_M_delete 0 = .ok (.aload_n 0, 1) := by decide +kernel
theorem d_M_delete_1 : decode b_M_delete 1 = .ok (.iconst 0, 1) := by decide +kernel
theorem d_M_delete_2 : decode b_M_delete 2 = .ok (.putfield 52, 3) := by decide +kernel
theorem d_M_delete_5 : decode b_M_delete 5 = .ok (.aload_n 0, 1) := by decide +kernel
theorem d_M_delete_6 : decode b_M_delete 6 = .ok (.iload_n 1, 1) := by decide +kernel
theorem d_M_delete_7 : decode b_M_delete 7 = .ok (.invokevirtual 91, 3) := by decide +kernel
theorem d_M_delete_10 : decode b_M_delete 10 = .ok (.ifCond .ne 5, 3) := by decide +kernel
theorem d_M_delete_13 : decode b_M_delete 13 = .ok (.iconst 0, 1) := by decide +kernel
theorem d_M_delete_14 : decode b_M_delete 14 = .ok (.ireturn, 1) := by decide +kernel
theorem d_M_delete_15 : decode b_M_delete 15 = .ok (.aload_n 0, 1) := by decide +kernel
theorem d_M_delete_16 : decode b_M_delete 16 = .ok (.iload_n 1, 1) := by decide +kernel
theorem d_M_delete_17 : decode b_M_delete 17 = .ok (.invokevirtual 94, 3) := by decide +kernel
theorem d_M_delete_20 : decode b_M_delete 20 = .ok (.istore_n 2, 1) := by decide +kernel
theorem d_M_delete_21 : decode b_M_delete 21 = .ok (.iload_n 2, 1) := by decide +kernel
theorem d_M_delete_22 : decode b_M_delete 22 = .ok (.ifCond .le 6, 3) := by decide +kernel
theorem d_M_delete_25 : decode b_M_delete 25 = .ok (.iload_n 2, 1) := by decide +kernel
theorem d_M_delete_26 : decode b_M_delete 26 = .ok (.ineg, 1) := by decide +kernel
theorem d_M_delete_27 : decode b_M_delete 27 = .ok (.ireturn, 1) := by decide +kernel
theorem d_M_delete_28 : decode b_M_delete 28 = .ok (.aload_n 0, 1) := by decide +kernel
theorem d_M_delete_29 : decode b_M_delete 29 = .ok (.getfield 17, 3) := by decide +kernel
theorem d_M_delete_32 : decode b_M_delete 32 = .ok (.iload_n 1, 1) := by decide +kernel
theorem d_M_delete_33 : decode b_M_delete 33 = .ok (.iconst 0, 1) := by decide +kernel
theorem d_M_delete_34 : decode b_M_delete 34 = .ok (.bastore, 1) := by decide +kernel
theorem d_M_delete_35 : decode b_M_delete 35 = .ok (.iconst 0, 1) := by decide +kernel
theorem d_M_delete_36 : decode b_M_delete 36 = .ok (.istore_n 3, 1) := by decide +kernel
theorem d_M_delete_37 : decode b_M_delete 37 = .ok (.iload_n 3, 1) := by decide +kernel
theorem d_M_delete_38 : decode b_M_delete 38 = .ok (.aload_n 0, 1) := by decide +kernel
theorem d_M_delete_39 : decode b_M_delete 39 = .ok (.getfield 97, 3) := by decide +kernel
theorem d_M_delete_42 : decode b_M_delete 42 = .ok (.if_icmp .ge 45, 3) := by decide +kernel
theorem d_M_delete_45 : decode b_M_delete 45 = .ok (.aload_n 0, 1) := by decide +kernel
theorem d_M_delete_46 : decode b_M_delete 46 = .ok (.getfield 27, 3) := by decide +kernel
theorem d_M_delete_49 : decode b_M_delete 49 = .ok (.iload_n 3, 1) := by decide +kernel
theorem d_M_delete_50 : decode b_M_delete 50 = .ok (.aload_n 0, 1) := by decide +kernel
theorem d_M_delete_51 : decode b_M_delete 51 = .ok (.getfield 30, 3) := by decide +kernel
theorem d_M_delete_54 : decode b_M_delete 54 = .ok (.iload_n 3, 1) := by decide +kernel
theorem d_M_delete_55 : decode b_M_delete 55 = .ok (.iaload, 1) := by decide +kernel
theorem d_M_delete_56 : decode b_M_delete 56 = .ok (.iload_n 1, 1) := by decide +kernel
theorem d_M_delete_57 : decode b_M_delete 57 = .ok (.if_icmp .eq 13, 3) := by decide +kernel
theorem d_M_delete_60 : decode b_M_delete 60 = .ok (.aload_n 0, 1) := by decide +kernel
theorem d_M_delete_61 : decode b_M_delete 61 = .ok (.getfield 33, 3) := by decide +kernel
theorem d_M_delete_64 : decode b_M_delete 64 = .ok (.iload_n 3, 1) := by decide +kernel
theorem d_M_delete_65 : decode b_M_delete 65 = .ok (.iaload, 1) := by decide +kernel
theorem d_M_delete_66 : decode b_M_delete 66 = .ok (.iload_n 1, 1) := by decide +kernel
theorem d_M_delete_67 : decode b_M_delete 67 = .ok (.if_icmp .ne 7, 3) := by decide +kernel
theorem d_M_delete_70 : decode b_M_delete 70 = .ok (.iconst (-1), 1) := by decide +kernel
theorem d_M_delete_71 : decode b_M_delete 71 = .ok (.goto 9, 3) := by decide +kernel
theorem d_M_delete_74 : decode b_M_delete 74 = .ok (.aload_n 0, 1) := by decide +kernel
theorem d_M_delete_75 : decode b_M_delete 75 = .ok (.getfield 27, 3) := by decide +kernel
theorem d_M_delete_78 : decode b_M_delete 78 = .ok (.iload_n 3, 1) := by decide +kernel
theorem d_M_delete_79 : decode b_M_delete 79 = .ok (.iaload, 1) := by decide +kernel
theorem d_M_delete_80 : decode b_M_delete 80 = .ok (.iastore, 1) := by decide +kernel
theorem d_M_delete_81 : decode b_M_delete 81 = .ok (.iinc 3 1, 3) := by decide +kernel
theorem d_M_delete_84 : decode b_M_delete 84 = .ok (.goto (-47), 3) := by decide +kernel
theorem d_M_delete_87 : decode b_M_delete 87 = .ok (.iconst 0, 1) := by decide +kernel
theorem d_M_delete_88 : decode b_M_delete 88 = .ok (.istore_n 3, 1) := by decide +kernel
theorem d_M_delete_89 : decode b_M_delete 89 = .ok (.iconst 0, 1) := by decide +kernel
theorem d_M_delete_90 : decode b_M_delete 90 = .ok (.istore 4, 2) := by decide +kernel
theorem d_M_delete_92 : decode b_M_delete 92 = .ok (.iload 4, 2) := by decide +kernel
theorem d_M_delete_94 : decode b_M_delete 94 = .ok (.aload_n 0, 1) := by decide +kernel
theorem d_M_delete_95 : decode b_M_delete 95 = .ok (.getfield 97, 3) := by decide +kernel
theorem d_M_delete_98 : decode b_M_delete 98 = .ok (.if_icmp .ge 75, 3) := by decide +kernel
theorem d_M_delete_101 : decode b_M_delete 101 = .ok (.aload_n 0, 1) := by decide +kernel
theorem d_M_delete_102 : decode b_M_delete 102 = .ok (.getfield 27, 3) := by decide +kernel
theorem d_M_delete_105 : decode b_M_delete 105 = .ok (.iload 4, 2) := by decide +kernel
theorem d_M_delete_107 : decode b_M_delete 107 = .ok (.iaload, 1) := by decide +kernel
theorem d_M_delete_108 : decode b_M_delete 108 = .ok (.iconst (-1), 1) := by decide +kernel
theorem d_M_delete_109 : decode b_M_delete 109 = .ok (.if_icmp .eq 58, 3) := by decide +kernel
theorem d_M_delete_112 : decode b_M_delete 112 = .ok (.aload_n 0, 1) := by decide +kernel
theorem d_M_delete_113 : decode b_M_delete 113 = .ok (.getfield 27, 3) := by decide +kernel
theorem d_M_delete_116 : decode b_M_delete 116 = .ok (.iload_n 3, 1) := by decide +kernel
theorem d_M_delete_117 : decode b_M_delete 117 = .ok (.aload_n 0, 1) := by decide +kernel
theorem d_M_delete_118 : decode b_M_delete 118 = .ok (.getfield 27, 3) := by decide +kernel
theorem d_M_delete_121 : decode b_M_delete 121 = .ok (.iload 4, 2) := by decide +kernel
theorem d_M_delete_123 : decode b_M_delete 123 = .ok (.iaload, 1) := by decide +kernel
theorem d_M_delete_124 : decode b_M_delete 124 = .ok (.iastore, 1) := by decide +kernel
theorem d_M_delete_125 : decode b_M_delete 125 = .ok (.aload_n 0, 1) := by decide +kernel
theorem d_M_delete_126 : decode b_M_delete 126 = .ok (.getfield 30, 3) := by decide +kernel
theorem d_M_delete_129 : decode b_M_delete 129 = .ok (.iload_n 3, 1) := by decide +kernel
theorem d_M_delete_130 : decode b_M_delete 130 = .ok (.aload_n 0, 1) := by decide +kernel
theorem d_M_delete_131 : decode b_M_delete 131 = .ok (.getfield 30, 3) := by decide +kernel
theorem d_M_delete_134 : decode b_M_delete 134 = .ok (.iload 4, 2) := by decide +kernel
theorem d_M_delete_136 : decode b_M_delete 136 = .ok (.iaload, 1) := by decide +kernel
theorem d_M_delete_137 : decode b_M_delete 137 = .ok (.iastore, 1) := by decide +kernel
theorem d_M_delete_138 : decode b_M_delete 138 = .ok (.aload_n 0, 1) := by decide +kernel
theorem d_M_delete_139 : decode b_M_delete 139 = .ok (.getfield 33, 3) := by decide +kernel
theorem d_M_delete_142 : decode b_M_delete 142 = .ok (.iload_n 3, 1) := by decide +kernel
theorem d_M_delete_143 : decode b_M_delete 143 = .ok (.aload_n 0, 1) := by decide +kernel
theorem d_M_delete_144 : decode b_M_delete 144 = .ok (.getfield 33, 3) := by decide +kernel
theorem d_M_delete_147 : decode b_M_delete 147 = .ok (.iload 4, 2) := by decide +kernel
theorem d_M_delete_149 : decode b_M_delete 149 = .ok (.iaload, 1) := by decide +kernel
theorem d_M_delete_150 : decode b_M_delete 150 = .ok (.iastore, 1) := by decide +kernel
theorem d_M_delete_151 : decode b_M_delete 151 = .ok (.aload_n 0, 1) := by decide +kernel
theorem d_M_delete_152 : decode b_M_delete 152 = .ok (.getfield 36, 3) := by decide +kernel
theorem d_M_delete_155 : decode b_M_delete 155 = .ok (.iload_n 3, 1) := by decide +kernel
theorem d_M_delete_156 : decode b_M_delete 156 = .ok (.aload_n 0, 1) := by decide +kernel
theorem d_M_delete_157 : decode b_M_delete 157 = .ok (.getfield 36, 3) := by decide +kernel
theorem d_M_delete_160 : decode b_M_delete 160 = .ok (.iload 4, 2) := by decide +kernel
theorem d_M_delete_162 : decode b_M_delete 162 = .ok (.laload, 1) := by decide +kernel
theorem d_M_delete_163 : decode b_M_delete 163 = .ok (.lastore, 1) := by decide +kernel
theorem d_M_delete_164 : decode b_M_delete 164 = .ok (.iinc 3 1, 3) := by decide +kernel
theorem d_M_delete_167 : decode b_M_delete 167 = .ok (.iinc 4 1, 3) := by decide +kernel
theorem d_M_delete_170 : decode b_M_delete 170 = .ok (.goto (-78), 3) := by decide +kernel
theorem d_M_delete_173 : decode b_M_delete 173 = .ok (.aload_n 0, 1) := by decide +kernel
theorem d_M_delete_174 : decode b_M_delete 174 = .ok (.iload_n 3, 1) := by decide +kernel
theorem d_M_delete_175 : decode b_M_delete 175 = .ok (.putfield 97, 3) := by decide +kernel
theorem d_M_delete_178 : decode b_M_delete 178 = .ok (.iconst 1, 1) := by decide +kernel
theorem d_M_delete_179 : decode b_M_delete 179 = .ok (.ireturn, 1) := by decide +kernel
theorem d_M_split_0 : decode b_M_split 0 = .ok (.aload_n 0, 1) := by decide +kernel
theorem d_M_split_1 : decode b_M_split 1 = .ok (.iconst 0, 1) := by decide +kernel
theorem d_M_split_2 : decode b_M_split 2 = .ok (.putfield 52, 3) := by decide +kernel
theorem d_M_split_5 : decode b_M_split 5 = .ok (.aload_n 0, 1) := by decide +kernel
theorem d_M_split_6 : decode b_M_split 6 = .ok (.invokevirtual 81, 3) := by decide +kernel
theorem d_M_split_9 : decode b_M_split 9 = .ok (.ifCond .ne 6, 3) := by decide +kernel
theorem d_M_split_12 : decode b_M_split 12 = .ok (.bipush (-99), 2) := by decide +kernel
theorem d_M_split_14 : decode b_M_split 14 = .ok (.ireturn, 1) := by decide +kernel
theorem d_M_split_15 : decode b_M_split 15 = .ok (.aload_n 0, 1) := by decide +kernel
theorem d_M_split_16 : decode b_M_split 16 = .ok (.iload_n 1, 1) := by decide +kernel
theorem d_M_split_17 : decode b_M_split 17 = .ok (.invokevirtual 91, 3) := by decide +kernel
theorem d_M_split_20 : decode b_M_split 20 = .ok (.ifCond .ne 5, 3) := by decide +kernel
theorem d_M_split_23 : decode b_M_split 23 = .ok (.iconst 0, 1) := by decide +kernel
theorem d_M_split_24 : decode b_M_split 24 = .ok (.ireturn, 1) := by decide +kernel
theorem d_M_split_25 : decode b_M_split 25 = .ok (.aload_n 0, 1) := by decide +kernel
theorem d_M_split_26 : decode b_M_split 26 = .ok (.aload_n 0, 1) := by decide +kernel
theorem d_M_split_27 : decode b_M_split 27 = .ok (.getfield 13, 3) := by decide +kernel
theorem d_M_split_30 : decode b_M_split 30 = .ok (.iload_n 1, 1) := by decide +kernel
theorem d_M_split_31 : decode b_M_split 31 = .ok (.iaload, 1) := by decide +kernel
theorem d_M_split_32 : decode b_M_split 32 = .ok (.invokevirtual 85, 3) := by decide +kernel
theorem d_M_split_35 : decode b_M_split 35 = .ok (.istore 4, 2) := by decide +kernel
theorem d_M_split_37 : decode b_M_split 37 = .ok (.iload 4, 2) := by decide +kernel
theorem d_M_split_39 : decode b_M_split 39 = .ok (.iconst 1, 1) := by decide +kernel
theorem d_M_split_40 : decode b_M_split 40 = .ok (.if_icmp .ge 6, 3) := by decide +kernel
theorem d_M_split_43 : decode b_M_split 43 = .ok (.iload 4, 2) := by decide +kernel
theorem d_M_split_45 : decode b_M_split 45 = .ok (.ireturn, 1) := by decide +kernel
theorem d_M_split_46 : decode b_M_split 46 = .ok (.aload_n 0, 1) := by decide +kernel
theorem d_M_split_47 : decode b_M_split 47 = .ok (.iconst 3, 1) := by decide +kernel
theorem d_M_split_48 : decode b_M_split 48 = .ok (.iload_n 1, 1) := by decide +kernel
theorem d_M_split_49 : decode b_M_split 49 = .ok (.iload 4, 2) := by decide +kernel
theorem d_M_split_51 : decode b_M_split 51 = .ok (.lload_n 2, 1) := by decide +kernel
theorem d_M_split_52 : decode b_M_split 52 = .ok (.invokevirtual 119, 3) := by decide +kernel
theorem d_M_split_55 : decode b_M_split 55 = .ok (.iconst 1, 1) := by decide +kernel
theorem d_M_split_56 : decode b_M_split 56 = .ok (.istore 5, 2) := by decide +kernel
theorem d_M_split_58 : decode b_M_split 58 = .ok (.iload 5, 2) := by decide +kernel
theorem d_M_split_60 : decode b_M_split 60 = .ok (.aload_n 0, 1) := by decide +kernel
theorem d_M_split_61 : decode b_M_split 61 = .ok (.getfield 88, 3) := by decide +kernel
theorem d_M_split_64 : decode b_M_split 64 = .ok (.if_icmp .gt 51, 3) := by decide +kernel
theorem d_M_split_67 : decode b_M_split 67 = .ok (.aload_n 0, 1) := by decide +kernel
theorem d_M_split_68 : decode b_M_split 68 = .ok (.getfield 40, 3) := by decide +kernel
theorem d_M_split_71 : decode b_M_split 71 = .ok (.iload 5, 2) := by decide +kernel
theorem d_M_split_73 : decode b_M_split 73 = .ok (.aload_n 0, 1) := by decide +kernel
theorem d_M_split_74 : decode b_M_split 74 = .ok (.getfield 40, 3) := by decide +kernel
theorem d_M_split_77 : decode b_M_split 77 = .ok (.iload 5, 2) := by decide +kernel
theorem d_M_split_79 : decode b_M_split 79 = .ok (.iaload, 1) := by decide +kernel
theorem d_M_split_80 : decode b_M_split 80 = .ok (.iload_n 1, 1) := by decide +kernel
theorem d_M_split_81 : decode b_M_split 81 = .ok (.if_icmp .ne 20, 3) := by decide +kernel
theorem d_M_split_84 : decode b_M_split 84 = .ok (.aload_n 0, 1) := by decide +kernel
theorem d_M_split_85 : decode b_M_split 85 = .ok (.getfield 43, 3) := by decide +kernel
theorem d_M_split_88 : decode b_M_split 88 = .ok (.iload 5, 2) := by decide +kernel
theorem d_M_split_90 : decode b_M_split 90 = .ok (.laload, 1) := by decide +kernel
theorem d_M_split_91 : decode b_M_split 91 = .ok (.lload_n 2, 1) := by decide +kernel
theorem d_M_split_92 : decode b_M_split 92 = .ok (.lcmp, 1) := by decide +kernel
theorem d_M_split_93 : decode b_M_split 93 = .ok (.ifCond .lt 8, 3) := by decide +kernel
theorem d_M_split_96 : decode b_M_split 96 = .ok (.iload 4, 2) := by decide +kernel
theorem d_M_split_98 : decode b_M_split 98 = .ok (.goto 10, 3) := by decide +kernel
theorem d_M_split_101 : decode b_M_split 101 = .ok (.aload_n 0, 1) := by decide +kernel
theorem d_M_split_102 : decode b_M_split 102 = .ok (.getfield 40, 3) := by decide +kernel
theorem d_M_split_105 : decode b_M_split 105 = .ok (.iload 5, 2) := by decide +kernel
theorem d_M_split_107 : decode b_M_split 107 = .ok (.iaload, 1) := by decide +kernel
theorem d_M_split_108 : decode b_M_split 108 = .ok (.iastore, 1) := by decide +kernel
theorem d_M_split_109 : decode b_M_split 109 = .ok (.iinc 5 1, 3) := by decide +kernel
theorem d_M_split_112 : decode b_M_split 112 = .ok (.goto (-54), 3) := by decide +kernel
theorem d_M_split_115 : decode b_M_split 115 = .ok (.iload 4, 2) := by decide +kernel
theorem d_M_split_117 : decode b_M_split 117 = .ok (.ireturn, 1) := by decide +kernel
theorem d_M_used_0 : decode b_M_used 0 = .ok (.iconst 0, 1) := by decide +kernel
theorem d_M_used_1 : decode b_M_used 1 = .ok (.istore_n 2, 1) := by decide +kernel
theorem d_M_used_2 : decode b_M_used 2 = .ok (.iload_n 2, 1) := by decide +kernel
theorem d_M_used_3 : decode b_M_used 3 = .ok (.aload_n 0, 1) := by decide +kernel
theorem d_M_used_4 : decode b_M_used 4 = .ok (.getfield 97, 3) := by decide +kernel
theorem d_M_used_7 : decode b_M_used 7 = .ok (.if_icmp .ge 27, 3) := by decide +kernel
theorem d_M_used_10 : decode b_M_used 10 = .ok (.aload_n 0, 1) := by decide +kernel
theorem d_M_used_11 : decode b_M_used 11 = .ok (.iload_n 2, 1) := by decide +kernel
theorem d_M_used_12 : decode b_M_used 12 = .ok (.iconst 0, 1) := by decide +kernel
theorem d_M_used_13 : decode b_M_used 13 = .ok (.iload_n 1, 1) := by decide +kernel
theorem d_M_used_14 : decode b_M_used 14 = .ok (.iconst 0, 1) := by decide +kernel
theorem d_M_used_15 : decode b_M_used 15 = .ok (.invokevirtual 100, 3) := by decide +kernel
theorem d_M_used_18 : decode b_M_used 18 = .ok (.ifCond .eq 10, 3) := by decide +kernel
theorem d_M_used_21 : decode b_M_used 21 = .ok (.aload_n 0, 1) := by decide +kernel
theorem d_M_used_22 : decode b_M_used 22 = .ok (.getfield 33, 3) := by decide +kernel
theorem d_M_used_25 : decode b_M_used 25 = .ok (.iload_n 2, 1) := by decide +kernel
theorem d_M_used_26 : decode b_M_used 26 = .ok (.iaload, 1) := by decide +kernel
theorem d_M_used_27 : decode b_M_used 27 = .ok (.ireturn, 1) := by decide +kernel
theorem d_M_used_28 : decode b_M_used 28 = .ok (.iinc 2 1, 3) := by decide +kernel
theorem d_M_used_31 : decode b_M_used 31 = .ok (.goto (-29), 3) := by decide +kernel
theorem d_M_used_34 : decode b_M_used 34 = .ok (.iload_n 1, 1) := by decide +kernel
theorem d_M_used_35 : decode b_M_used 35 = .ok (.ireturn, 1) := by decide +kernel
theorem d_M_formOf_0 : decode b_M_formOf 0 = .ok (.iload_n 1, 1) := by decide +kernel
theorem d_M_formOf_1 : decode b_M_formOf 1 = .ok (.istore 4, 2) := by decide +kernel
theorem d_M_formOf_3 : decode b_M_formOf 3 = .ok (.iconst 1, 1) := by decide +kernel
theorem d_M_formOf_4 : decode b_M_formOf 4 = .ok (.istore 5, 2) := by decide +kernel
theorem d_M_formOf_6 : decode b_M_formOf 6 = .ok (.iload 5, 2) := by decide +kernel
theorem d_M_formOf_8 : decode b_M_formOf 8 = .ok (.ifCond .eq 112, 3) := by decide +kernel
theorem d_M_formOf_11 : decode b_M_formOf 11 = .ok (.iconst (-1), 1) := by decide +kernel
theorem d_M_formOf_12 : decode b_M_formOf 12 = .ok (.istore 6, 2) := by decide +kernel
theorem d_M_formOf_14 : decode b_M_formOf 14 = .ok (.iconst 0, 1) := by decide +kernel
theorem d_M_formOf_15 : decode b_M_formOf 15 = .ok (.istore 7, 2) := by decide +kernel
theorem d_M_formOf_17 : decode b_M_formOf 17 = .ok (.iload 7, 2) := by decide +kernel
theorem d_M_formOf_19 : decode b_M_formOf 19 = .ok (.aload_n 0, 1) := by decide +kernel
theorem d_M_formOf_20 : decode b_M_formOf 20 = .ok (.getfield 97, 3) := by decide +kernel
theorem d_M_formOf_23 : decode b_M_formOf 23 = .ok (.if_icmp .ge 62, 3) := by decide +kernel
theorem d_M_formOf_26 : decode b_M_formOf 26 = .ok (.aload_n 0, 1) := by decide +kernel
theorem d_M_formOf_27 : decode b_M_formOf 27 = .ok (.iload 7, 2) := by decide +kernel
theorem d_M_formOf_29 : decode b_M_formOf 29 = .ok (.iconst 3, 1) := by decide +kernel
theorem d_M_formOf_30 : decode b_M_formOf 30 = .ok (.iload 4, 2) := by decide +kernel
theorem d_M_formOf_32 : decode b_M_formOf 32 = .ok (.iconst 0, 1) := by decide +kernel
theorem d_M_formOf_33 : decode b_M_formOf 33 = .ok (.invokevirtual 100, 3) := by decide +kernel
theorem d_M_formOf_36 : decode b_M_formOf 36 = .ok (.ifCond .eq 43, 3) := by decide +kernel
theorem d_M_formOf_39 : decode b_M_formOf 39 = .ok (.aload_n 0, 1) := by decide +kernel
theorem d_M_formOf_40 : decode b_M_formOf 40 = .ok (.getfield 36, 3) := by decide +kernel
theorem d_M_formOf_43 : decode b_M_formOf 43 = .ok (.iload 7, 2) := by decide +kernel
theorem d_M_formOf_45 : decode b_M_formOf 45 = .ok (.laload, 1) := by decide +kernel
theorem d_M_formOf_46 : decode b_M_formOf 46 = .ok (.lload_n 2, 1) := by decide +kernel
theorem d_M_formOf_47 : decode b_M_formOf 47 = .ok (.lcmp, 1) := by decide +kernel
theorem d_M_formOf_48 : decode b_M_formOf 48 = .ok (.ifCond .gt 31, 3) := by decide +kernel
theorem d_M_formOf_51 : decode b_M_formOf 51 = .ok (.iload 6, 2) := by decide +kernel
theorem d_M_formOf_53 : decode b_M_formOf 53 = .ok (.iconst (-1), 1) := by decide +kernel
theorem d_M_formOf_54 : decode b_M_formOf 54 = .ok (.if_icmp .eq 21, 3) := by decide +kernel
theorem d_M_formOf_57 : decode b_M_formOf 57 = .ok (.aload_n 0, 1) := by decide +kernel
theorem d_M_formOf_58 : decode b_M_formOf 58 = .ok (.getfield 36, 3) := by decide +kernel
theorem d_M_formOf_61 : decode b_M_formOf 61 = .ok (.iload 7, 2) := by decide +kernel
theorem d_M_formOf_63 : decode b_M_formOf 63 = .ok (.laload, 1) := by decide +kernel
theorem d_M_formOf_64 : decode b_M_formOf 64 = .ok (.aload_n 0, 1) := by decide +kernel
theorem d_M_formOf_65 : decode b_M_formOf 65 = .ok (.getfield 36, 3) := by decide +kernel
theorem d_M_formOf_68 : decode b_M_formOf 68 = .ok (.iload 6, 2) := by decide +kernel
theorem d_M_formOf_70 : decode b_M_formOf 70 = .ok (.laload, 1) := by decide +kernel
theorem d_M_formOf_71 : decode b_M_formOf 71 = .ok (.lcmp, 1) := by decide +kernel
theorem d_M_formOf_72 : decode b_M_formOf 72 = .ok (.ifCond .le 7, 3) := by decide +kernel
theorem d_M_formOf_75 : decode b_M_formOf 75 = .ok (.iload 7, 2) := by decide +kernel
theorem d_M_formOf_77 : decode b_M_formOf 77 = .ok (.istore 6, 2) := by decide +kernel
theorem d_M_formOf_79 : decode b_M_formOf 79 = .ok (.iinc 7 1, 3) := by decide +kernel
theorem d_M_formOf_82 : decode b_M_formOf 82 = .ok (.goto (-65), 3) := by decide +kernel
theorem d_M_formOf_85 : decode b_M_formOf 85 = .ok (.iload 6, 2) := by decide +kernel
theorem d_M_formOf_87 : decode b_M_formOf 87 = .ok (.iconst (-1), 1) := by decide +kernel
