theorem dM_isProcess_0 : decode cM_isProcess 0 = .ok (.iload_n 0, 1) := by decide +kernel
theorem dM_isProcess_1 : decode cM_isProcess 1 = .ok (.ifCond .lt 13, 3) := by decide +kernel
theorem dM_isProcess_4 : decode cM_isProcess 4 = .ok (.iload_n 0, 1) := by decide +kernel
theorem dM_isProcess_5 : decode cM_isProcess 5 = .ok (.bipush 32, 2) := by decide +kernel
theorem dM_isProcess_7 : decode cM_isProcess 7 = .ok (.if_icmp .ge 7, 3) := by decide +kernel
theorem dM_isProcess_10 : decode cM_isProcess 10 = .ok (.iconst 1, 1) := by decide +kernel
theorem dM_isProcess_11 : decode cM_isProcess 11 = .ok (.goto 4, 3) := by decide +kernel
theorem dM_isProcess_14 : decode cM_isProcess 14 = .ok (.iconst 0, 1) := by decide +kernel
theorem dM_isProcess_15 : decode cM_isProcess 15 = .ok (.ireturn, 1) := by decide +kernel
theorem dM_isSemaphore_0 : decode cM_isSemaphore 0 = .ok (.iload_n 0, 1) := by decide +kernel
theorem dM_isSemaphore_1 : decode cM_isSemaphore 1 = .ok (.ifCond .lt 13, 3) := by decide +kernel
theorem dM_isSemaphore_4 : decode cM_isSemaphore 4 = .ok (.iload_n 0, 1) := by decide +kernel
theorem dM_isSemaphore_5 : decode cM_isSemaphore 5 = .ok (.bipush 16, 2) := by decide +kernel
theorem dM_isSemaphore_7 : decode cM_isSemaphore 7 = .ok (.if_icmp .ge 7, 3) := by decide +kernel
theorem dM_isSemaphore_10 : decode cM_isSemaphore 10 = .ok (.iconst 1, 1) := by decide +kernel
theorem dM_isSemaphore_11 : decode cM_isSemaphore 11 = .ok (.goto 4, 3) := by decide +kernel
theorem dM_isSemaphore_14 : decode cM_isSemaphore 14 = .ok (.iconst 0, 1) := by decide +kernel
theorem dM_isSemaphore_15 : decode cM_isSemaphore 15 = .ok (.ireturn, 1) := by decide +kernel
theorem dM_isPriority_0 : decode cM_isPriority 0 = .ok (.iload_n 0, 1) := by decide +kernel
theorem dM_isPriority_1 : decode cM_isPriority 1 = .ok (.iconst 1, 1) := by decide +kernel
theorem dM_isPriority_2 : decode cM_isPriority 2 = .ok (.if_icmp .lt 13, 3) := by decide +kernel
theorem dM_isPriority_5 : decode cM_isPriority 5 = .ok (.iload_n 0, 1) := by decide +kernel
theorem dM_isPriority_6 : decode cM_isPriority 6 = .ok (.bipush 8, 2) := by decide +kernel
theorem dM_isPriority_8 : decode cM_isPriority 8 = .ok (.if_icmp .gt 7, 3) := by decide +kernel
theorem dM_isPriority_11 : decode cM_isPriority 11 = .ok (.iconst 1, 1) := by decide +kernel
theorem dM_isPriority_12 : decode cM_isPriority 12 = .ok (.goto 4, 3) := by decide +kernel
theorem dM_isPriority_15 : decode cM_isPriority 15 = .ok (.iconst 0, 1) := by decide +kernel
theorem dM_isPriority_16 : decode cM_isPriority 16 = .ok (.ireturn, 1) := by decide +kernel
theorem dM_isMade_0 : decode cM_isMade 0 = .ok (.iload_n 1, 1) := by decide +kernel
theorem dM_isMade_1 : decode cM_isMade 1 = .ok (.invokestatic 40, 3) := by decide +kernel
theorem dM_isMade_4 : decode cM_isMade 4 = .ok (.ifCond .eq 16, 3) := by decide +kernel
theorem dM_isMade_7 : decode cM_isMade 7 = .ok (.aload_n 0, 1) := by decide +kernel
theorem dM_isMade_8 : decode cM_isMade 8 = .ok (.getfield 7, 3) := by decide +kernel
theorem dM_isMade_11 : decode cM_isMade 11 = .ok (.iload_n 1, 1) := by decide +kernel
theorem dM_isMade_12 : decode cM_isMade 12 = .ok (.baload, 1) := by decide +kernel
theorem dM_isMade_13 : decode cM_isMade 13 = .ok (.ifCond .eq 7, 3) := by decide +kernel
theorem dM_isMade_16 : decode cM_isMade 16 = .ok (.iconst 1, 1) := by decide +kernel
theorem dM_isMade_17 : decode cM_isMade 17 = .ok (.goto 4, 3) := by decide +kernel
theorem dM_isMade_20 : decode cM_isMade 20 = .ok (.iconst 0, 1) := by decide +kernel
theorem dM_isMade_21 : decode cM_isMade 21 = .ok (.ireturn, 1) := by decide +kernel
theorem dM_presentOne_0 : decode cM_presentOne 0 = .ok (.aload_n 0, 1) := by decide +kernel
theorem dM_presentOne_1 : decode cM_presentOne 1 = .ok (.getfield 48, 3) := by decide +kernel
theorem dM_presentOne_4 : decode cM_presentOne 4 = .ok (.ifCond .eq 10, 3) := by decide +kernel
theorem dM_presentOne_7 : decode cM_presentOne 7 = .ok (.aload_n 0, 1) := by decide +kernel
theorem dM_presentOne_8 : decode cM_presentOne 8 = .ok (.getfield 37, 3) := by decide +kernel
theorem dM_presentOne_11 : decode cM_presentOne 11 = .ok (.goto 7, 3) := by decide +kernel
theorem dM_presentOne_14 : decode cM_presentOne 14 = .ok (.aload_n 0, 1) := by decide +kernel
theorem dM_presentOne_15 : decode cM_presentOne 15 = .ok (.getfield 33, 3) := by decide +kernel
theorem dM_presentOne_18 : decode cM_presentOne 18 = .ok (.ireturn, 1) := by decide +kernel
theorem dM_present_0 : decode cM_present 0 = .ok (.aload_n 0, 1) := by decide +kernel
theorem dM_present_1 : decode cM_present 1 = .ok (.invokevirtual 52, 3) := by decide +kernel
theorem dM_present_4 : decode cM_present 4 = .ok (.ireturn, 1) := by decide +kernel
theorem dM_active_0 : decode cM_active 0 = .ok (.aload_n 0, 1) := by decide +kernel
theorem dM_active_1 : decode cM_active 1 = .ok (.getfield 33, 3) := by decide +kernel
theorem dM_active_4 : decode cM_active 4 = .ok (.ireturn, 1) := by decide +kernel
theorem dM_wanted_0 : decode cM_wanted 0 = .ok (.aload_n 0, 1) := by decide +kernel
theorem dM_wanted_1 : decode cM_wanted 1 = .ok (.getfield 48, 3) := by decide +kernel
theorem dM_wanted_4 : decode cM_wanted 4 = .ok (.ireturn, 1) := by decide +kernel
theorem dM_here_0 : decode cM_here 0 = .ok (.aload_n 0, 1) := by decide +kernel
theorem dM_here_1 : decode cM_here 1 = .ok (.getfield 89, 3) := by decide +kernel
theorem dM_here_4 : decode cM_here 4 = .ok (.ireturn, 1) := by decide +kernel
theorem dM_place_0 : decode cM_place 0 = .ok (.aload_n 0, 1) := by decide +kernel
theorem dM_place_1 : decode cM_place 1 = .ok (.iload_n 1, 1) := by decide +kernel
theorem dM_place_2 : decode cM_place 2 = .ok (.invokevirtual 74, 3) := by decide +kernel
theorem dM_place_5 : decode cM_place 5 = .ok (.ifCond .eq 12, 3) := by decide +kernel
theorem dM_place_8 : decode cM_place 8 = .ok (.aload_n 0, 1) := by decide +kernel
theorem dM_place_9 : decode cM_place 9 = .ok (.getfield 17, 3) := by decide +kernel
theorem dM_place_12 : decode cM_place 12 = .ok (.iload_n 1, 1) := by decide +kernel
theorem dM_place_13 : decode cM_place 13 = .ok (.iaload, 1) := by decide +kernel
theorem dM_place_14 : decode cM_place 14 = .ok (.goto 4, 3) := by decide +kernel
theorem dM_place_17 : decode cM_place 17 = .ok (.iconst 0, 1) := by decide +kernel
theorem dM_place_18 : decode cM_place 18 = .ok (.ireturn, 1) := by decide +kernel
theorem dM_priority_0 : decode cM_priority 0 = .ok (.aload_n 0, 1) := by decide +kernel
theorem dM_priority_1 : decode cM_priority 1 = .ok (.iload_n 1, 1) := by decide +kernel
theorem dM_priority_2 : decode cM_priority 2 = .ok (.invokevirtual 74, 3) := by decide +kernel
theorem dM_priority_5 : decode cM_priority 5 = .ok (.ifCond .eq 12, 3) := by decide +kernel
theorem dM_priority_8 : decode cM_priority 8 = .ok (.aload_n 0, 1) := by decide +kernel
theorem dM_priority_9 : decode cM_priority 9 = .ok (.getfield 13, 3) := by decide +kernel
theorem dM_priority_12 : decode cM_priority 12 = .ok (.iload_n 1, 1) := by decide +kernel
theorem dM_priority_13 : decode cM_priority 13 = .ok (.iaload, 1) := by decide +kernel
theorem dM_priority_14 : decode cM_priority 14 = .ok (.goto 4, 3) := by decide +kernel
theorem dM_priority_17 : decode cM_priority 17 = .ok (.iconst (-1), 1) := by decide +kernel
theorem dM_priority_18 : decode cM_priority 18 = .ok (.ireturn, 1) := by decide +kernel
theorem dM_row_0 : decode cM_row 0 = .ok (.aload_n 0, 1) := by decide +kernel
theorem dM_row_1 : decode cM_row 1 = .ok (.iload_n 1, 1) := by decide +kernel
theorem dM_row_2 : decode cM_row 2 = .ok (.invokevirtual 74, 3) := by decide +kernel
theorem dM_row_5 : decode cM_row 5 = .ok (.ifCond .eq 12, 3) := by decide +kernel
theorem dM_row_8 : decode cM_row 8 = .ok (.aload_n 0, 1) := by decide +kernel
theorem dM_row_9 : decode cM_row 9 = .ok (.getfield 20, 3) := by decide +kernel
theorem dM_row_12 : decode cM_row 12 = .ok (.iload_n 1, 1) := by decide +kernel
theorem dM_row_13 : decode cM_row 13 = .ok (.iaload, 1) := by decide +kernel
theorem dM_row_14 : decode cM_row 14 = .ok (.goto 4, 3) := by decide +kernel
theorem dM_row_17 : decode cM_row 17 = .ok (.iconst (-1), 1) := by decide +kernel
theorem dM_row_18 : decode cM_row 18 = .ok (.ireturn, 1) := by decide +kernel
theorem dM_find_0 : decode cM_find 0 = .ok (.iload_n 2, 1) := by decide +kernel
theorem dM_find_1 : decode cM_find 1 = .ok (.istore_n 3, 1) := by decide +kernel
theorem dM_find_2 : decode cM_find 2 = .ok (.iconst (-1), 1) := by decide +kernel
theorem dM_find_3 : decode cM_find 3 = .ok (.istore 4, 2) := by decide +kernel
theorem dM_find_5 : decode cM_find 5 = .ok (.iload_n 3, 1) := by decide +kernel
theorem dM_find_6 : decode cM_find 6 = .ok (.ifCond .lt 128, 3) := by decide +kernel
theorem dM_find_9 : decode cM_find 9 = .ok (.iconst (-1), 1) := by decide +kernel
theorem dM_find_10 : decode cM_find 10 = .ok (.istore 5, 2) := by decide +kernel
theorem dM_find_12 : decode cM_find 12 = .ok (.iconst 0, 1) := by decide +kernel
theorem dM_find_13 : decode cM_find 13 = .ok (.istore 6, 2) := by decide +kernel
theorem dM_find_15 : decode cM_find 15 = .ok (.iload 6, 2) := by decide +kernel
theorem dM_find_17 : decode cM_find 17 = .ok (.bipush 32, 2) := by decide +kernel
theorem dM_find_19 : decode cM_find 19 = .ok (.if_icmp .ge 97, 3) := by decide +kernel
theorem dM_find_22 : decode cM_find 22 = .ok (.iload 4, 2) := by decide +kernel
theorem dM_find_24 : decode cM_find 24 = .ok (.ifCond .lt 21, 3) := by decide +kernel
theorem dM_find_27 : decode cM_find 27 = .ok (.aload_n 0, 1) := by decide +kernel
theorem dM_find_28 : decode cM_find 28 = .ok (.getfield 23, 3) := by decide +kernel
theorem dM_find_31 : decode cM_find 31 = .ok (.iload 6, 2) := by decide +kernel
theorem dM_find_33 : decode cM_find 33 = .ok (.laload, 1) := by decide +kernel
theorem dM_find_34 : decode cM_find 34 = .ok (.aload_n 0, 1) := by decide +kernel
theorem dM_find_35 : decode cM_find 35 = .ok (.getfield 23, 3) := by decide +kernel
theorem dM_find_38 : decode cM_find 38 = .ok (.iload 4, 2) := by decide +kernel
theorem dM_find_40 : decode cM_find 40 = .ok (.laload, 1) := by decide +kernel
theorem dM_find_41 : decode cM_find 41 = .ok (.lcmp, 1) := by decide +kernel
theorem dM_find_42 : decode cM_find 42 = .ok (.ifCond .le 7, 3) := by decide +kernel
theorem dM_find_45 : decode cM_find 45 = .ok (.iconst 1, 1) := by decide +kernel
theorem dM_find_46 : decode cM_find 46 = .ok (.goto 4, 3) := by decide +kernel
theorem dM_find_49 : decode cM_find 49 = .ok (.iconst 0, 1) := by decide +kernel
theorem dM_find_50 : decode cM_find 50 = .ok (.istore 7, 2) := by decide +kernel
theorem dM_find_52 : decode cM_find 52 = .ok (.aload_n 0, 1) := by decide +kernel
theorem dM_find_53 : decode cM_find 53 = .ok (.getfield 7, 3) := by decide +kernel
theorem dM_find_56 : decode cM_find 56 = .ok (.iload 6, 2) := by decide +kernel
theorem dM_find_58 : decode cM_find 58 = .ok (.baload, 1) := by decide +kernel
theorem dM_find_59 : decode cM_find 59 = .ok (.ifCond .eq 47, 3) := by decide +kernel
theorem dM_find_62 : decode cM_find 62 = .ok (.aload_n 0, 1) := by decide +kernel
theorem dM_find_63 : decode cM_find 63 = .ok (.getfield 20, 3) := by decide +kernel
theorem dM_find_66 : decode cM_find 66 = .ok (.iload 6, 2) := by decide +kernel
theorem dM_find_68 : decode cM_find 68 = .ok (.iaload, 1) := by decide +kernel
theorem dM_find_69 : decode cM_find 69 = .ok (.iload_n 1, 1) := by decide +kernel
theorem dM_find_70 : decode cM_find 70 = .ok (.if_icmp .ne 36, 3) := by decide +kernel
theorem dM_find_73 : decode cM_find 73 = .ok (.iload 7, 2) := by decide +kernel
theorem dM_find_75 : decode cM_find 75 = .ok (.ifCond .eq 31, 3) := by decide +kernel
theorem dM_find_78 : decode cM_find 78 = .ok (.iload 5, 2) := by decide +kernel
theorem dM_find_80 : decode cM_find 80 = .ok (.ifCond .lt 21, 3) := by decide +kernel
theorem dM_find_83 : decode cM_find 83 = .ok (.aload_n 0, 1) := by decide +kernel
theorem dM_find_84 : decode cM_find 84 = .ok (.getfield 23, 3) := by decide +kernel
theorem dM_find_87 : decode cM_find 87 = .ok (.iload 6, 2) := by decide +kernel
theorem dM_find_89 : decode cM_find 89 = .ok (.laload, 1) := by decide +kernel
theorem dM_find_90 : decode cM_find 90 = .ok (.aload_n 0, 1) := by decide +kernel
theorem dM_find_91 : decode cM_find 91 = .ok (.getfield 23, 3) := by decide +kernel
theorem dM_find_94 : decode cM_find 94 = .ok (.iload 5, 2) := by decide +kernel
theorem dM_find_96 : decode cM_find 96 = .ok (.laload, 1) := by decide +kernel
theorem dM_find_97 : decode cM_find 97 = .ok (.lcmp, 1) := by decide +kernel
theorem dM_find_98 : decode cM_find 98 = .ok (.ifCond .ge 8, 3) := by decide +kernel
theorem dM_find_101 : decode cM_find 101 = .ok (.iload 6, 2) := by decide +kernel
theorem dM_find_103 : decode cM_find 103 = .ok (.goto 5, 3) := by decide +kernel
theorem dM_find_106 : decode cM_find 106 = .ok (.iload 5, 2) := by decide +kernel
theorem dM_find_108 : decode cM_find 108 = .ok (.istore 5, 2) := by decide +kernel
theorem dM_find_110 : decode cM_find 110 = .ok (.iinc 6 1, 3) := by decide +kernel
theorem dM_find_113 : decode cM_find 113 = .ok (.goto (-98), 3) := by decide +kernel
theorem dM_find_116 : decode cM_find 116 = .ok (.iload 5, 2) := by decide +kernel
theorem dM_find_118 : decode cM_find 118 = .ok (.ifCond .ge 5, 3) := by decide +kernel
theorem dM_find_121 : decode cM_find 121 = .ok (.iconst (-1), 1) := by decide +kernel
theorem dM_find_122 : decode cM_find 122 = .ok (.ireturn, 1) := by decide +kernel
theorem dM_find_123 : decode cM_find 123 = .ok (.iload 5, 2) := by decide +kernel
theorem dM_find_125 : decode cM_find 125 = .ok (.istore 4, 2) := by decide +kernel
theorem dM_find_127 : decode cM_find 127 = .ok (.iload_n 3, 1) := by decide +kernel
theorem dM_find_128 : decode cM_find 128 = .ok (.iconst 1, 1) := by decide +kernel
theorem dM_find_129 : decode cM_find 129 = .ok (.isub, 1) := by decide +kernel
theorem dM_find_130 : decode cM_find 130 = .ok (.istore_n 3, 1) := by decide +kernel
theorem dM_find_131 : decode cM_find 131 = .ok (.goto (-126), 3) := by decide +kernel
theorem dM_find_134 : decode cM_find 134 = .ok (.iload 4, 2) := by decide +kernel
theorem dM_find_136 : decode cM_find 136 = .ok (.ireturn, 1) := by decide +kernel
theorem dM_at_0 : decode cM_at 0 = .ok (.iload_n 1, 1) := by decide +kernel
theorem dM_at_1 : decode cM_at 1 = .ok (.invokestatic 71, 3) := by decide +kernel
theorem dM_at_4 : decode cM_at 4 = .ok (.ifCond .ne 15, 3) := by decide +kernel
theorem dM_at_7 : decode cM_at 7 = .ok (.iload_n 1, 1) := by decide +kernel
theorem dM_at_8 : decode cM_at 8 = .ok (.bipush 16, 2) := by decide +kernel
theorem dM_at_10 : decode cM_at 10 = .ok (.if_icmp .lt 13, 3) := by decide +kernel
theorem dM_at_13 : decode cM_at 13 = .ok (.iload_n 1, 1) := by decide +kernel
theorem dM_at_14 : decode cM_at 14 = .ok (.bipush 32, 2) := by decide +kernel
theorem dM_at_16 : decode cM_at 16 = .ok (.if_icmp .ge 7, 3) := by decide +kernel
theorem dM_at_19 : decode cM_at 19 = .ok (.iconst 1, 1) := by decide +kernel
theorem dM_at_20 : decode cM_at 20 = .ok (.goto 4, 3) := by decide +kernel
theorem dM_at_23 : decode cM_at 23 = .ok (.iconst 0, 1) := by decide +kernel
theorem dM_at_24 : decode cM_at 24 = .ok (.istore_n 3, 1) := by decide +kernel
theorem dM_at_25 : decode cM_at 25 = .ok (.iload_n 3, 1) := by decide +kernel
theorem dM_at_26 : decode cM_at 26 = .ok (.ifCond .eq 22, 3) := by decide +kernel
theorem dM_at_29 : decode cM_at 29 = .ok (.iload_n 2, 1) := by decide +kernel
theorem dM_at_30 : decode cM_at 30 = .ok (.ifCond .lt 18, 3) := by decide +kernel
theorem dM_at_33 : decode cM_at 33 = .ok (.iload_n 2, 1) := by decide +kernel
theorem dM_at_34 : decode cM_at 34 = .ok (.bipush 32, 2) := by decide +kernel
theorem dM_at_36 : decode cM_at 36 = .ok (.if_icmp .ge 12, 3) := by decide +kernel
theorem dM_at_39 : decode cM_at 39 = .ok (.aload_n 0, 1) := by decide +kernel
theorem dM_at_40 : decode cM_at 40 = .ok (.iload_n 1, 1) := by decide +kernel
theorem dM_at_41 : decode cM_at 41 = .ok (.iload_n 2, 1) := by decide +kernel
theorem dM_at_42 : decode cM_at 42 = .ok (.invokevirtual 64, 3) := by decide +kernel
theorem dM_at_45 : decode cM_at 45 = .ok (.goto 4, 3) := by decide +kernel
theorem dM_at_48 : decode cM_at 48 = .ok (.iconst (-1), 1) := by decide +kernel
theorem dM_at_49 : decode cM_at 49 = .ok (.ireturn, 1) := by decide +kernel
theorem dM_extra_0 : decode cM_extra 0 = .ok (.iload_n 1, 1) := by decide +kernel
theorem dM_extra_1 : decode cM_extra 1 = .ok (.invokestatic 80, 3) := by decide +kernel
theorem dM_extra_4 : decode cM_extra 4 = .ok (.ifCond .eq 12, 3) := by decide +kernel
theorem dM_extra_7 : decode cM_extra 7 = .ok (.aload_n 0, 1) := by decide +kernel
theorem dM_extra_8 : decode cM_extra 8 = .ok (.getfield 27, 3) := by decide +kernel
theorem dM_extra_11 : decode cM_extra 11 = .ok (.iload_n 1, 1) := by decide +kernel
theorem dM_extra_12 : decode cM_extra 12 = .ok (.iaload, 1) := by decide +kernel
theorem dM_extra_13 : decode cM_extra 13 = .ok (.goto 4, 3) := by decide +kernel
theorem dM_extra_16 : decode cM_extra 16 = .ok (.iconst (-1), 1) := by decide +kernel
theorem dM_extra_17 : decode cM_extra 17 = .ok (.ireturn, 1) := by decide +kernel
theorem dM_posted_0 : decode cM_posted 0 = .ok (.iload_n 1, 1) := by decide +kernel
theorem dM_posted_1 : decode cM_posted 1 = .ok (.ifCond .lt 20, 3) := by decide +kernel
theorem dM_posted_4 : decode cM_posted 4 = .ok (.iload_n 1, 1) := by decide +kernel
theorem dM_posted_5 : decode cM_posted 5 = .ok (.aload_n 0, 1) := by decide +kernel
theorem dM_posted_6 : decode cM_posted 6 = .ok (.getfield 86, 3) := by decide +kernel
theorem dM_posted_9 : decode cM_posted 9 = .ok (.if_icmp .ge 12, 3) := by decide +kernel
theorem dM_posted_12 : decode cM_posted 12 = .ok (.aload_n 0, 1) := by decide +kernel
theorem dM_posted_13 : decode cM_posted 13 = .ok (.getfield 30, 3) := by decide +kernel
theorem dM_posted_16 : decode cM_posted 16 = .ok (.iload_n 1, 1) := by decide +kernel
theorem dM_posted_17 : decode cM_posted 17 = .ok (.iaload, 1) := by decide +kernel
theorem dM_posted_18 : decode cM_posted 18 = .ok (.goto 4, 3) := by decide +kernel
theorem dM_posted_21 : decode cM_posted 21 = .ok (.iconst (-1), 1) := by decide +kernel
theorem dM_posted_22 : decode cM_posted 22 = .ok (.ireturn, 1) := by decide +kernel
theorem dM_want_0 : decode cM_want 0 = .ok (.aload_n 0, 1) := by decide +kernel
theorem dM_want_1 : decode cM_want 1 = .ok (.iconst 1, 1) := by decide +kernel
theorem dM_want_2 : decode cM_want 2 = .ok (.putfield 48, 3) := by decide +kernel
theorem dM_want_5 : decode cM_want 5 = .ok (.aload_n 0, 1) := by decide +kernel
theorem dM_want_6 : decode cM_want 6 = .ok (.iload_n 1, 1) := by decide +kernel
theorem dM_want_7 : decode cM_want 7 = .ok (.putfield 37, 3) := by decide +kernel
theorem dM_want_10 : decode cM_want 10 = .ok (.return_, 1) := by decide +kernel
theorem dM_enter_0 : decode cM_enter 0 = .ok (.aload_n 0, 1) := by decide +kernel
theorem dM_enter_1 : decode cM_enter 1 = .ok (.getfield 20, 3) := by decide +kernel
theorem dM_enter_4 : decode cM_enter 4 = .ok (.iload_n 1, 1) := by decide +kernel
theorem dM_enter_5 : decode cM_enter 5 = .ok (.iload_n 2, 1) := by decide +kernel
theorem dM_enter_6 : decode cM_enter 6 = .ok (.iastore, 1) := by decide +kernel
theorem dM_enter_7 : decode cM_enter 7 = .ok (.aload_n 0, 1) := by decide +kernel
theorem dM_enter_8 : decode cM_enter 8 = .ok (.getfield 23, 3) := by decide +kernel
theorem dM_enter_11 : decode cM_enter 11 = .ok (.iload_n 1, 1) := by decide +kernel
theorem dM_enter_12 : decode cM_enter 12 = .ok (.aload_n 0, 1) := by decide +kernel
theorem dM_enter_13 : decode cM_enter 13 = .ok (.getfield 44, 3) := by decide +kernel
theorem dM_enter_16 : decode cM_enter 16 = .ok (.lastore, 1) := by decide +kernel
theorem dM_enter_17 : decode cM_enter 17 = .ok (.aload_n 0, 1) := by decide +kernel
theorem dM_enter_18 : decode cM_enter 18 = .ok (.aload_n 0, 1) := by decide +kernel
theorem dM_enter_19 : decode cM_enter 19 = .ok (.getfield 44, 3) := by decide +kernel
theorem dM_enter_22 : decode cM_enter 22 = .ok (.lconst 1, 1) := by decide +kernel
theorem dM_enter_23 : decode cM_enter 23 = .ok (.ladd, 1) := by decide +kernel
theorem dM_enter_24 : decode cM_enter 24 = .ok (.putfield 44, 3) := by decide +kernel
theorem dM_enter_27 : decode cM_enter 27 = .ok (.return_, 1) := by decide +kernel
theorem dM_wake_0 : decode cM_wake 0 = .ok (.aload_n 0, 1) := by decide +kernel
theorem dM_wake_1 : decode cM_wake 1 = .ok (.invokevirtual 52, 3) := by decide +kernel
theorem dM_wake_4 : decode cM_wake 4 = .ok (.istore_n 2, 1) := by decide +kernel
theorem dM_wake_5 : decode cM_wake 5 = .ok (.iload_n 2, 1) := by decide +kernel
theorem dM_wake_6 : decode cM_wake 6 = .ok (.ifCond .lt 30, 3) := by decide +kernel
theorem dM_wake_9 : decode cM_wake 9 = .ok (.aload_n 0, 1) := by decide +kernel
theorem dM_wake_10 : decode cM_wake 10 = .ok (.getfield 13, 3) := by decide +kernel
theorem dM_wake_13 : decode cM_wake 13 = .ok (.iload_n 2, 1) := by decide +kernel
theorem dM_wake_14 : decode cM_wake 14 = .ok (.iaload, 1) := by decide +kernel
theorem dM_wake_15 : decode cM_wake 15 = .ok (.aload_n 0, 1) := by decide +kernel
theorem dM_wake_16 : decode cM_wake 16 = .ok (.getfield 13, 3) := by decide +kernel
theorem dM_wake_19 : decode cM_wake 19 = .ok (.iload_n 1, 1) := by decide +kernel
theorem dM_wake_20 : decode cM_wake 20 = .ok (.iaload, 1) := by decide +kernel
theorem dM_wake_21 : decode cM_wake 21 = .ok (.if_icmp .lt 15, 3) := by decide +kernel
theorem dM_wake_24 : decode cM_wake 24 = .ok (.aload_n 0, 1) := by decide +kernel
theorem dM_wake_25 : decode cM_wake 25 = .ok (.iload_n 1, 1) := by decide +kernel
theorem dM_wake_26 : decode cM_wake 26 = .ok (.aload_n 0, 1) := by decide +kernel
theorem dM_wake_27 : decode cM_wake 27 = .ok (.getfield 13, 3) := by decide +kernel
theorem dM_wake_30 : decode cM_wake 30 = .ok (.iload_n 1, 1) := by decide +kernel
theorem dM_wake_31 : decode cM_wake 31 = .ok (.iaload, 1) := by decide +kernel
theorem dM_wake_32 : decode cM_wake 32 = .ok (.invokevirtual 56, 3) := by decide +kernel
theorem dM_wake_35 : decode cM_wake 35 = .ok (.return_, 1) := by decide +kernel
theorem dM_wake_36 : decode cM_wake 36 = .ok (.iload_n 2, 1) := by decide +kernel
theorem dM_wake_37 : decode cM_wake 37 = .ok (.ifCond .lt 14, 3) := by decide +kernel
theorem dM_wake_40 : decode cM_wake 40 = .ok (.aload_n 0, 1) := by decide +kernel
theorem dM_wake_41 : decode cM_wake 41 = .ok (.iload_n 2, 1) := by decide +kernel
theorem dM_wake_42 : decode cM_wake 42 = .ok (.aload_n 0, 1) := by decide +kernel
theorem dM_wake_43 : decode cM_wake 43 = .ok (.getfield 13, 3) := by decide +kernel
theorem dM_wake_46 : decode cM_wake 46 = .ok (.iload_n 2, 1) := by decide +kernel
theorem dM_wake_47 : decode cM_wake 47 = .ok (.iaload, 1) := by decide +kernel
theorem dM_wake_48 : decode cM_wake 48 = .ok (.invokevirtual 56, 3) := by decide +kernel
theorem dM_wake_51 : decode cM_wake 51 = .ok (.aload_n 0, 1) := by decide +kernel
theorem dM_wake_52 : decode cM_wake 52 = .ok (.getfield 20, 3) := by decide +kernel
theorem dM_wake_55 : decode cM_wake 55 = .ok (.iload_n 1, 1) := by decide +kernel
theorem dM_wake_56 : decode cM_wake 56 = .ok (.iconst 0, 1) := by decide +kernel
theorem dM_wake_57 : decode cM_wake 57 = .ok (.iastore, 1) := by decide +kernel
theorem dM_wake_58 : decode cM_wake 58 = .ok (.aload_n 0, 1) := by decide +kernel
theorem dM_wake_59 : decode cM_wake 59 = .ok (.iload_n 1, 1) := by decide +kernel
theorem dM_wake_60 : decode cM_wake 60 = .ok (.invokevirtual 60, 3) := by decide +kernel
theorem dM_wake_63 : decode cM_wake 63 = .ok (.return_, 1) := by decide +kernel
theorem dM_putAside_0 : decode cM_putAside 0 = .ok (.iconst (-1), 1) := by decide +kernel
theorem dM_putAside_1 : decode cM_putAside 1 = .ok (.istore_n 1, 1) := by decide +kernel
theorem dM_putAside_2 : decode cM_putAside 2 = .ok (.iconst 1, 1) := by decide +kernel
theorem dM_putAside_3 : decode cM_putAside 3 = .ok (.istore_n 2, 1) := by decide +kernel
theorem dM_putAside_4 : decode cM_putAside 4 = .ok (.iload_n 2, 1) := by decide +kernel
theorem dM_putAside_5 : decode cM_putAside 5 = .ok (.bipush 8, 2) := by decide +kernel
theorem dM_putAside_7 : decode cM_putAside 7 = .ok (.if_icmp .gt 26, 3) := by decide +kernel
theorem dM_putAside_10 : decode cM_putAside 10 = .ok (.aload_n 0, 1) := by decide +kernel
theorem dM_putAside_11 : decode cM_putAside 11 = .ok (.iload_n 2, 1) := by decide +kernel
theorem dM_putAside_12 : decode cM_putAside 12 = .ok (.iconst 0, 1) := by decide +kernel
theorem dM_putAside_13 : decode cM_putAside 13 = .ok (.invokevirtual 64, 3) := by decide +kernel
theorem dM_putAside_16 : decode cM_putAside 16 = .ok (.istore_n 3, 1) := by decide +kernel
theorem dM_putAside_17 : decode cM_putAside 17 = .ok (.iload_n 3, 1) := by decide +kernel
theorem dM_putAside_18 : decode cM_putAside 18 = .ok (.ifCond .lt 7, 3) := by decide +kernel
theorem dM_putAside_21 : decode cM_putAside 21 = .ok (.iload_n 3, 1) := by decide +kernel
theorem dM_putAside_22 : decode cM_putAside 22 = .ok (.goto 4, 3) := by decide +kernel
theorem dM_putAside_25 : decode cM_putAside 25 = .ok (.iload_n 1, 1) := by decide +kernel
theorem dM_putAside_26 : decode cM_putAside 26 = .ok (.istore_n 1, 1) := by decide +kernel
theorem dM_putAside_27 : decode cM_putAside 27 = .ok (.iinc 2 1, 3) := by decide +kernel
theorem dM_putAside_30 : decode cM_putAside 30 = .ok (.goto (-26), 3) := by decide +kernel
theorem dM_putAside_33 : decode cM_putAside 33 = .ok (.iload_n 1, 1) := by decide +kernel
theorem dM_putAside_34 : decode cM_putAside 34 = .ok (.ifCond .lt 10, 3) := by decide +kernel
theorem dM_putAside_37 : decode cM_putAside 37 = .ok (.aload_n 0, 1) := by decide +kernel
theorem dM_putAside_38 : decode cM_putAside 38 = .ok (.getfield 20, 3) := by decide +kernel
theorem dM_putAside_41 : decode cM_putAside 41 = .ok (.iload_n 1, 1) := by decide +kernel
theorem dM_putAside_42 : decode cM_putAside 42 = .ok (.iconst 0, 1) := by decide +kernel
theorem dM_putAside_43 : decode cM_putAside 43 = .ok (.iastore, 1) := by decide +kernel
theorem dM_putAside_44 : decode cM_putAside 44 = .ok (.aload_n 0, 1) := by decide +kernel
theorem dM_putAside_45 : decode cM_putAside 45 = .ok (.iload_n 1, 1) := by decide +kernel
theorem dM_putAside_46 : decode cM_putAside 46 = .ok (.invokevirtual 60, 3) := by decide +kernel
theorem dM_putAside_49 : decode cM_putAside 49 = .ok (.return_, 1) := by decide +kernel
theorem dM_give_0 : decode cM_give 0 = .ok (.aload_n 0, 1) := by decide +kernel
theorem dM_give_1 : decode cM_give 1 = .ok (.bipush 16, 2) := by decide +kernel
theorem dM_give_3 : decode cM_give 3 = .ok (.iload_n 1, 1) := by decide +kernel
theorem dM_give_4 : decode cM_give 4 = .ok (.iadd, 1) := by decide +kernel
theorem dM_give_5 : decode cM_give 5 = .ok (.iconst 0, 1) := by decide +kernel
theorem dM_give_6 : decode cM_give 6 = .ok (.invokevirtual 64, 3) := by decide +kernel
theorem dM_give_9 : decode cM_give 9 = .ok (.istore_n 2, 1) := by decide +kernel
theorem dM_give_10 : decode cM_give 10 = .ok (.iload_n 2, 1) := by decide +kernel
theorem dM_give_11 : decode cM_give 11 = .ok (.ifCond .ge 20, 3) := by decide +kernel
theorem dM_give_14 : decode cM_give 14 = .ok (.aload_n 0, 1) := by decide +kernel
theorem dM_give_15 : decode cM_give 15 = .ok (.getfield 27, 3) := by decide +kernel
theorem dM_give_18 : decode cM_give 18 = .ok (.iload_n 1, 1) := by decide +kernel
theorem dM_give_19 : decode cM_give 19 = .ok (.aload_n 0, 1) := by decide +kernel
theorem dM_give_20 : decode cM_give 20 = .ok (.getfield 27, 3) := by decide +kernel
theorem dM_give_23 : decode cM_give 23 = .ok (.iload_n 1, 1) := by decide +kernel
theorem dM_give_24 : decode cM_give 24 = .ok (.iaload, 1) := by decide +kernel
theorem dM_give_25 : decode cM_give 25 = .ok (.iconst 1, 1) := by decide +kernel
theorem dM_give_26 : decode cM_give 26 = .ok (.iadd, 1) := by decide +kernel
theorem dM_give_27 : decode cM_give 27 = .ok (.iastore, 1) := by decide +kernel
theorem dM_give_28 : decode cM_give 28 = .ok (.goto 15, 3) := by decide +kernel
theorem dM_give_31 : decode cM_give 31 = .ok (.aload_n 0, 1) := by decide +kernel
theorem dM_give_32 : decode cM_give 32 = .ok (.getfield 20, 3) := by decide +kernel
theorem dM_give_35 : decode cM_give 35 = .ok (.iload_n 2, 1) := by decide +kernel
theorem dM_give_36 : decode cM_give 36 = .ok (.iconst 0, 1) := by decide +kernel
theorem dM_give_37 : decode cM_give 37 = .ok (.iastore, 1) := by decide +kernel
theorem dM_give_38 : decode cM_give 38 = .ok (.aload_n 0, 1) := by decide +kernel
theorem dM_give_39 : decode cM_give 39 = .ok (.iload_n 2, 1) := by decide +kernel
theorem dM_give_40 : decode cM_give 40 = .ok (.invokevirtual 68, 3) := by decide +kernel
theorem dM_give_43 : decode cM_give 43 = .ok (.return_, 1) := by decide +kernel
theorem dM_signal_0 : decode cM_signal 0 = .ok (.iload_n 1, 1) := by decide +kernel
theorem dM_signal_1 : decode cM_signal 1 = .ok (.invokestatic 80, 3) := by decide +kernel
theorem dM_signal_4 : decode cM_signal 4 = .ok (.ifCond .ne 5, 3) := by decide +kernel
theorem dM_signal_7 : decode cM_signal 7 = .ok (.iconst 0, 1) := by decide +kernel
theorem dM_signal_8 : decode cM_signal 8 = .ok (.ireturn, 1) := by decide +kernel
theorem dM_signal_9 : decode cM_signal 9 = .ok (.aload_n 0, 1) := by decide +kernel
theorem dM_signal_10 : decode cM_signal 10 = .ok (.iload_n 1, 1) := by decide +kernel
theorem dM_signal_11 : decode cM_signal 11 = .ok (.invokevirtual 83, 3) := by decide +kernel
theorem dM_signal_14 : decode cM_signal 14 = .ok (.iconst 1, 1) := by decide +kernel
theorem dM_signal_15 : decode cM_signal 15 = .ok (.ireturn, 1) := by decide +kernel
theorem dM_make_0 : decode cM_make 0 = .ok (.iload_n 1, 1) := by decide +kernel
theorem dM_make_1 : decode cM_make 1 = .ok (.invokestatic 40, 3) := by decide +kernel
theorem dM_make_4 : decode cM_make 4 = .ok (.ifCond .eq 19, 3) := by decide +kernel
theorem dM_make_7 : decode cM_make 7 = .ok (.aload_n 0, 1) := by decide +kernel
theorem dM_make_8 : decode cM_make 8 = .ok (.getfield 7, 3) := by decide +kernel
theorem dM_make_11 : decode cM_make 11 = .ok (.iload_n 1, 1) := by decide +kernel
theorem dM_make_12 : decode cM_make 12 = .ok (.baload, 1) := by decide +kernel
theorem dM_make_13 : decode cM_make 13 = .ok (.ifCond .ne 10, 3) := by decide +kernel
theorem dM_make_16 : decode cM_make 16 = .ok (.iload_n 2, 1) := by decide +kernel
theorem dM_make_17 : decode cM_make 17 = .ok (.invokestatic 71, 3) := by decide +kernel
theorem dM_make_20 : decode cM_make 20 = .ok (.ifCond .ne 5, 3) := by decide +kernel
theorem dM_make_23 : decode cM_make 23 = .ok (.iconst 0, 1) := by decide +kernel
theorem dM_make_24 : decode cM_make 24 = .ok (.ireturn, 1) := by decide +kernel
theorem dM_make_25 : decode cM_make 25 = .ok (.aload_n 0, 1) := by decide +kernel
theorem dM_make_26 : decode cM_make 26 = .ok (.getfield 7, 3) := by decide +kernel
theorem dM_make_29 : decode cM_make 29 = .ok (.iload_n 1, 1) := by decide +kernel
theorem dM_make_30 : decode cM_make 30 = .ok (.iconst 1, 1) := by decide +kernel
theorem dM_make_31 : decode cM_make 31 = .ok (.bastore, 1) := by decide +kernel
theorem dM_make_32 : decode cM_make 32 = .ok (.aload_n 0, 1) := by decide +kernel
theorem dM_make_33 : decode cM_make 33 = .ok (.getfield 13, 3) := by decide +kernel
theorem dM_make_36 : decode cM_make 36 = .ok (.iload_n 1, 1) := by decide +kernel
theorem dM_make_37 : decode cM_make 37 = .ok (.iload_n 2, 1) := by decide +kernel
theorem dM_make_38 : decode cM_make 38 = .ok (.iastore, 1) := by decide +kernel
theorem dM_make_39 : decode cM_make 39 = .ok (.aload_n 0, 1) := by decide +kernel
theorem dM_make_40 : decode cM_make 40 = .ok (.getfield 17, 3) := by decide +kernel
theorem dM_make_43 : decode cM_make 43 = .ok (.iload_n 1, 1) := by decide +kernel
theorem dM_make_44 : decode cM_make 44 = .ok (.iload_n 3, 1) := by decide +kernel
theorem dM_make_45 : decode cM_make 45 = .ok (.iastore, 1) := by decide +kernel
theorem dM_make_46 : decode cM_make 46 = .ok (.aload_n 0, 1) := by decide +kernel
theorem dM_make_47 : decode cM_make 47 = .ok (.getfield 20, 3) := by decide +kernel
theorem dM_make_50 : decode cM_make 50 = .ok (.iload_n 1, 1) := by decide +kernel
theorem dM_make_51 : decode cM_make 51 = .ok (.iconst 0, 1) := by decide +kernel
theorem dM_make_52 : decode cM_make 52 = .ok (.iastore, 1) := by decide +kernel
theorem dM_make_53 : decode cM_make 53 = .ok (.iconst 1, 1) := by decide +kernel
theorem dM_make_54 : decode cM_make 54 = .ok (.ireturn, 1) := by decide +kernel
theorem dM_resume_0 : decode cM_resume 0 = .ok (.aload_n 0, 1) := by decide +kernel
theorem dM_resume_1 : decode cM_resume 1 = .ok (.iload_n 1, 1) := by decide +kernel
theorem dM_resume_2 : decode cM_resume 2 = .ok (.invokevirtual 74, 3) := by decide +kernel
theorem dM_resume_5 : decode cM_resume 5 = .ok (.ifCond .eq 28, 3) := by decide +kernel
theorem dM_resume_8 : decode cM_resume 8 = .ok (.aload_n 0, 1) := by decide +kernel
theorem dM_resume_9 : decode cM_resume 9 = .ok (.getfield 20, 3) := by decide +kernel
theorem dM_resume_12 : decode cM_resume 12 = .ok (.iload_n 1, 1) := by decide +kernel
theorem dM_resume_13 : decode cM_resume 13 = .ok (.iaload, 1) := by decide +kernel
theorem dM_resume_14 : decode cM_resume 14 = .ok (.ifCond .ne 19, 3) := by decide +kernel
theorem dM_resume_17 : decode cM_resume 17 = .ok (.iload_n 1, 1) := by decide +kernel
theorem dM_resume_18 : decode cM_resume 18 = .ok (.aload_n 0, 1) := by decide +kernel
theorem dM_resume_19 : decode cM_resume 19 = .ok (.invokevirtual 52, 3) := by decide +kernel
theorem dM_resume_22 : decode cM_resume 22 = .ok (.if_icmp .eq 11, 3) := by decide +kernel
theorem dM_resume_25 : decode cM_resume 25 = .ok (.iload_n 1, 1) := by decide +kernel
theorem dM_resume_26 : decode cM_resume 26 = .ok (.aload_n 0, 1) := by decide +kernel
theorem dM_resume_27 : decode cM_resume 27 = .ok (.getfield 33, 3) := by decide +kernel
theorem dM_resume_30 : decode cM_resume 30 = .ok (.if_icmp .ne 5, 3) := by decide +kernel
theorem dM_resume_33 : decode cM_resume 33 = .ok (.iconst 0, 1) := by decide +kernel
theorem dM_resume_34 : decode cM_resume 34 = .ok (.ireturn, 1) := by decide +kernel
theorem dM_resume_35 : decode cM_resume 35 = .ok (.aload_n 0, 1) := by decide +kernel
theorem dM_resume_36 : decode cM_resume 36 = .ok (.iload_n 1, 1) := by decide +kernel
theorem dM_resume_37 : decode cM_resume 37 = .ok (.invokevirtual 68, 3) := by decide +kernel
theorem dM_resume_40 : decode cM_resume 40 = .ok (.iconst 1, 1) := by decide +kernel
theorem dM_resume_41 : decode cM_resume 41 = .ok (.ireturn, 1) := by decide +kernel
theorem dM_suspend_0 : decode cM_suspend 0 = .ok (.aload_n 0, 1) := by decide +kernel
theorem dM_suspend_1 : decode cM_suspend 1 = .ok (.invokevirtual 52, 3) := by decide +kernel
theorem dM_suspend_4 : decode cM_suspend 4 = .ok (.istore_n 1, 1) := by decide +kernel
theorem dM_suspend_5 : decode cM_suspend 5 = .ok (.iload_n 1, 1) := by decide +kernel
theorem dM_suspend_6 : decode cM_suspend 6 = .ok (.ifCond .lt 7, 3) := by decide +kernel
theorem dM_suspend_9 : decode cM_suspend 9 = .ok (.aload_n 0, 1) := by decide +kernel
theorem dM_suspend_10 : decode cM_suspend 10 = .ok (.invokevirtual 77, 3) := by decide +kernel
theorem dM_suspend_13 : decode cM_suspend 13 = .ok (.iload_n 1, 1) := by decide +kernel
theorem dM_suspend_14 : decode cM_suspend 14 = .ok (.ireturn, 1) := by decide +kernel
theorem dM_end_0 : decode cM_end 0 = .ok (.aload_n 0, 1) := by decide +kernel
theorem dM_end_1 : decode cM_end 1 = .ok (.invokevirtual 52, 3) := by decide +kernel
theorem dM_end_4 : decode cM_end 4 = .ok (.istore_n 1, 1) := by decide +kernel
theorem dM_end_5 : decode cM_end 5 = .ok (.iload_n 1, 1) := by decide +kernel
theorem dM_end_6 : decode cM_end 6 = .ok (.ifCond .lt 34, 3) := by decide +kernel
theorem dM_end_9 : decode cM_end 9 = .ok (.aload_n 0, 1) := by decide +kernel
theorem dM_end_10 : decode cM_end 10 = .ok (.getfield 7, 3) := by decide +kernel
theorem dM_end_13 : decode cM_end 13 = .ok (.iload_n 1, 1) := by decide +kernel
theorem dM_end_14 : decode cM_end 14 = .ok (.iconst 0, 1) := by decide +kernel
theorem dM_end_15 : decode cM_end 15 = .ok (.bastore, 1) := by decide +kernel
theorem dM_end_16 : decode cM_end 16 = .ok (.aload_n 0, 1) := by decide +kernel
theorem dM_end_17 : decode cM_end 17 = .ok (.invokevirtual 77, 3) := by decide +kernel
theorem dM_end_20 : decode cM_end 20 = .ok (.aload_n 0, 1) := by decide +kernel
theorem dM_end_21 : decode cM_end 21 = .ok (.iload_n 1, 1) := by decide +kernel
theorem dM_end_22 : decode cM_end 22 = .ok (.aload_n 0, 1) := by decide +kernel
theorem dM_end_23 : decode cM_end 23 = .ok (.getfield 33, 3) := by decide +kernel
theorem dM_end_26 : decode cM_end 26 = .ok (.if_icmp .ne 7, 3) := by decide +kernel
theorem dM_end_29 : decode cM_end 29 = .ok (.iconst (-1), 1) := by decide +kernel
theorem dM_end_30 : decode cM_end 30 = .ok (.goto 7, 3) := by decide +kernel
theorem dM_end_33 : decode cM_end 33 = .ok (.aload_n 0, 1) := by decide +kernel
theorem dM_end_34 : decode cM_end 34 = .ok (.getfield 33, 3) := by decide +kernel
theorem dM_end_37 : decode cM_end 37 = .ok (.putfield 33, 3) := by decide +kernel
theorem dM_end_40 : decode cM_end 40 = .ok (.iload_n 1, 1) := by decide +kernel
theorem dM_end_41 : decode cM_end 41 = .ok (.ireturn, 1) := by decide +kernel
theorem dM_await_0 : decode cM_await 0 = .ok (.aload_n 0, 1) := by decide +kernel
theorem dM_await_1 : decode cM_await 1 = .ok (.invokevirtual 52, 3) := by decide +kernel
theorem dM_await_4 : decode cM_await 4 = .ok (.istore_n 2, 1) := by decide +kernel
theorem dM_await_5 : decode cM_await 5 = .ok (.iload_n 1, 1) := by decide +kernel
theorem dM_await_6 : decode cM_await 6 = .ok (.invokestatic 80, 3) := by decide +kernel
theorem dM_await_9 : decode cM_await 9 = .ok (.ifCond .eq 7, 3) := by decide +kernel
theorem dM_await_12 : decode cM_await 12 = .ok (.iload_n 2, 1) := by decide +kernel
theorem dM_await_13 : decode cM_await 13 = .ok (.ifCond .ge 5, 3) := by decide +kernel
theorem dM_await_16 : decode cM_await 16 = .ok (.iconst (-1), 1) := by decide +kernel
theorem dM_await_17 : decode cM_await 17 = .ok (.ireturn, 1) := by decide +kernel
theorem dM_await_18 : decode cM_await 18 = .ok (.aload_n 0, 1) := by decide +kernel
theorem dM_await_19 : decode cM_await 19 = .ok (.getfield 27, 3) := by decide +kernel
theorem dM_await_22 : decode cM_await 22 = .ok (.iload_n 1, 1) := by decide +kernel
theorem dM_await_23 : decode cM_await 23 = .ok (.iaload, 1) := by decide +kernel
theorem dM_await_24 : decode cM_await 24 = .ok (.ifCond .le 19, 3) := by decide +kernel
theorem dM_await_27 : decode cM_await 27 = .ok (.aload_n 0, 1) := by decide +kernel
theorem dM_await_28 : decode cM_await 28 = .ok (.getfield 27, 3) := by decide +kernel
theorem dM_await_31 : decode cM_await 31 = .ok (.iload_n 1, 1) := by decide +kernel
theorem dM_await_32 : decode cM_await 32 = .ok (.aload_n 0, 1) := by decide +kernel
theorem dM_await_33 : decode cM_await 33 = .ok (.getfield 27, 3) := by decide +kernel
theorem dM_await_36 : decode cM_await 36 = .ok (.iload_n 1, 1) := by decide +kernel
theorem dM_await_37 : decode cM_await 37 = .ok (.iaload, 1) := by decide +kernel
theorem dM_await_38 : decode cM_await 38 = .ok (.iconst 1, 1) := by decide +kernel
theorem dM_await_39 : decode cM_await 39 = .ok (.isub, 1) := by decide +kernel
theorem dM_await_40 : decode cM_await 40 = .ok (.iastore, 1) := by decide +kernel
theorem dM_await_41 : decode cM_await 41 = .ok (.iconst 1, 1) := by decide +kernel
theorem dM_await_42 : decode cM_await 42 = .ok (.ireturn, 1) := by decide +kernel
theorem dM_await_43 : decode cM_await 43 = .ok (.aload_n 0, 1) := by decide +kernel
theorem dM_await_44 : decode cM_await 44 = .ok (.iload_n 2, 1) := by decide +kernel
theorem dM_await_45 : decode cM_await 45 = .ok (.bipush 16, 2) := by decide +kernel
theorem dM_await_47 : decode cM_await 47 = .ok (.iload_n 1, 1) := by decide +kernel
theorem dM_await_48 : decode cM_await 48 = .ok (.iadd, 1) := by decide +kernel
theorem dM_await_49 : decode cM_await 49 = .ok (.invokevirtual 56, 3) := by decide +kernel
theorem dM_await_52 : decode cM_await 52 = .ok (.aload_n 0, 1) := by decide +kernel
theorem dM_await_53 : decode cM_await 53 = .ok (.invokevirtual 77, 3) := by decide +kernel
theorem dM_await_56 : decode cM_await 56 = .ok (.iconst 0, 1) := by decide +kernel
theorem dM_await_57 : decode cM_await 57 = .ok (.ireturn, 1) := by decide +kernel
theorem dM_post_0 : decode cM_post 0 = .ok (.iload_n 1, 1) := by decide +kernel
theorem dM_post_1 : decode cM_post 1 = .ok (.invokestatic 80, 3) := by decide +kernel
theorem dM_post_4 : decode cM_post 4 = .ok (.ifCond .eq 12, 3) := by decide +kernel
theorem dM_post_7 : decode cM_post 7 = .ok (.aload_n 0, 1) := by decide +kernel
theorem dM_post_8 : decode cM_post 8 = .ok (.getfield 86, 3) := by decide +kernel
theorem dM_post_11 : decode cM_post 11 = .ok (.bipush 40, 2) := by decide +kernel
theorem dM_post_13 : decode cM_post 13 = .ok (.if_icmp .ne 5, 3) := by decide +kernel
theorem dM_post_16 : decode cM_post 16 = .ok (.iconst (-1), 1) := by decide +kernel
theorem dM_post_17 : decode cM_post 17 = .ok (.ireturn, 1) := by decide +kernel
theorem dM_post_18 : decode cM_post 18 = .ok (.aload_n 0, 1) := by decide +kernel
theorem dM_post_19 : decode cM_post 19 = .ok (.getfield 30, 3) := by decide +kernel
theorem dM_post_22 : decode cM_post 22 = .ok (.aload_n 0, 1) := by decide +kernel
theorem dM_post_23 : decode cM_post 23 = .ok (.getfield 86, 3) := by decide +kernel
theorem dM_post_26 : decode cM_post 26 = .ok (.iload_n 1, 1) := by decide +kernel
theorem dM_post_27 : decode cM_post 27 = .ok (.iastore, 1) := by decide +kernel
theorem dM_post_28 : decode cM_post 28 = .ok (.aload_n 0, 1) := by decide +kernel
theorem dM_post_29 : decode cM_post 29 = .ok (.aload_n 0, 1) := by decide +kernel
theorem dM_post_30 : decode cM_post 30 = .ok (.getfield 86, 3) := by decide +kernel
theorem dM_post_33 : decode cM_post 33 = .ok (.iconst 1, 1) := by decide +kernel
theorem dM_post_34 : decode cM_post 34 = .ok (.iadd, 1) := by decide +kernel
theorem dM_post_35 : decode cM_post 35 = .ok (.putfield 86, 3) := by decide +kernel
theorem dM_post_38 : decode cM_post 38 = .ok (.aload_n 0, 1) := by decide +kernel
theorem dM_post_39 : decode cM_post 39 = .ok (.getfield 86, 3) := by decide +kernel
theorem dM_post_42 : decode cM_post 42 = .ok (.ireturn, 1) := by decide +kernel
theorem dM_step_0 : decode cM_step 0 = .ok (.iconst 0, 1) := by decide +kernel
theorem dM_step_1 : decode cM_step 1 = .ok (.istore_n 1, 1) := by decide +kernel
theorem dM_step_2 : decode cM_step 2 = .ok (.iload_n 1, 1) := by decide +kernel
theorem dM_step_3 : decode cM_step 3 = .ok (.aload_n 0, 1) := by decide +kernel
theorem dM_step_4 : decode cM_step 4 = .ok (.getfield 86, 3) := by decide +kernel
theorem dM_step_7 : decode cM_step 7 = .ok (.if_icmp .ge 19, 3) := by decide +kernel
theorem dM_step_10 : decode cM_step 10 = .ok (.aload_n 0, 1) := by decide +kernel
theorem dM_step_11 : decode cM_step 11 = .ok (.aload_n 0, 1) := by decide +kernel
theorem dM_step_12 : decode cM_step 12 = .ok (.getfield 30, 3) := by decide +kernel
theorem dM_step_15 : decode cM_step 15 = .ok (.iload_n 1, 1) := by decide +kernel
theorem dM_step_16 : decode cM_step 16 = .ok (.iaload, 1) := by decide +kernel
theorem dM_step_17 : decode cM_step 17 = .ok (.invokevirtual 83, 3) := by decide +kernel
theorem dM_step_20 : decode cM_step 20 = .ok (.iinc 1 1, 3) := by decide +kernel
theorem dM_step_23 : decode cM_step 23 = .ok (.goto (-21), 3) := by decide +kernel
theorem dM_step_26 : decode cM_step 26 = .ok (.aload_n 0, 1) := by decide +kernel
theorem dM_step_27 : decode cM_step 27 = .ok (.iconst 0, 1) := by decide +kernel
theorem dM_step_28 : decode cM_step 28 = .ok (.putfield 86, 3) := by decide +kernel
theorem dM_step_31 : decode cM_step 31 = .ok (.aload_n 0, 1) := by decide +kernel
theorem dM_step_32 : decode cM_step 32 = .ok (.getfield 48, 3) := by decide +kernel
theorem dM_step_35 : decode cM_step 35 = .ok (.ifCond .eq 60, 3) := by decide +kernel
theorem dM_step_38 : decode cM_step 38 = .ok (.aload_n 0, 1) := by decide +kernel
theorem dM_step_39 : decode cM_step 39 = .ok (.getfield 33, 3) := by decide +kernel
theorem dM_step_42 : decode cM_step 42 = .ok (.ifCond .lt 16, 3) := by decide +kernel
theorem dM_step_45 : decode cM_step 45 = .ok (.aload_n 0, 1) := by decide +kernel
theorem dM_step_46 : decode cM_step 46 = .ok (.getfield 17, 3) := by decide +kernel
theorem dM_step_49 : decode cM_step 49 = .ok (.aload_n 0, 1) := by decide +kernel
theorem dM_step_50 : decode cM_step 50 = .ok (.getfield 33, 3) := by decide +kernel
theorem dM_step_53 : decode cM_step 53 = .ok (.aload_n 0, 1) := by decide +kernel
theorem dM_step_54 : decode cM_step 54 = .ok (.getfield 89, 3) := by decide +kernel
theorem dM_step_57 : decode cM_step 57 = .ok (.iastore, 1) := by decide +kernel
theorem dM_step_58 : decode cM_step 58 = .ok (.aload_n 0, 1) := by decide +kernel
theorem dM_step_59 : decode cM_step 59 = .ok (.aload_n 0, 1) := by decide +kernel
theorem dM_step_60 : decode cM_step 60 = .ok (.getfield 37, 3) := by decide +kernel
theorem dM_step_63 : decode cM_step 63 = .ok (.putfield 33, 3) := by decide +kernel
theorem dM_step_66 : decode cM_step 66 = .ok (.aload_n 0, 1) := by decide +kernel
theorem dM_step_67 : decode cM_step 67 = .ok (.aload_n 0, 1) := by decide +kernel
theorem dM_step_68 : decode cM_step 68 = .ok (.getfield 33, 3) := by decide +kernel
theorem dM_step_71 : decode cM_step 71 = .ok (.ifCond .lt 15, 3) := by decide +kernel
theorem dM_step_74 : decode cM_step 74 = .ok (.aload_n 0, 1) := by decide +kernel
theorem dM_step_75 : decode cM_step 75 = .ok (.getfield 17, 3) := by decide +kernel
theorem dM_step_78 : decode cM_step 78 = .ok (.aload_n 0, 1) := by decide +kernel
theorem dM_step_79 : decode cM_step 79 = .ok (.getfield 33, 3) := by decide +kernel
theorem dM_step_82 : decode cM_step 82 = .ok (.iaload, 1) := by decide +kernel
theorem dM_step_83 : decode cM_step 83 = .ok (.goto 4, 3) := by decide +kernel
theorem dM_step_86 : decode cM_step 86 = .ok (.iconst 0, 1) := by decide +kernel
theorem dM_step_87 : decode cM_step 87 = .ok (.putfield 89, 3) := by decide +kernel
theorem dM_step_90 : decode cM_step 90 = .ok (.aload_n 0, 1) := by decide +kernel
theorem dM_step_91 : decode cM_step 91 = .ok (.iconst 0, 1) := by decide +kernel
theorem dM_step_92 : decode cM_step 92 = .ok (.putfield 48, 3) := by decide +kernel
theorem dM_step_95 : decode cM_step 95 = .ok (.aload_n 0, 1) := by decide +kernel
theorem dM_step_96 : decode cM_step 96 = .ok (.getfield 33, 3) := by decide +kernel
theorem dM_step_99 : decode cM_step 99 = .ok (.ireturn, 1) := by decide +kernel
theorem dM_work_0 : decode cM_work 0 = .ok (.iload_n 1, 1) := by decide +kernel
theorem dM_work_1 : decode cM_work 1 = .ok (.iconst 1, 1) := by decide +kernel
theorem dM_work_2 : decode cM_work 2 = .ok (.if_icmp .lt 24, 3) := by decide +kernel
theorem dM_work_5 : decode cM_work 5 = .ok (.iload_n 1, 1) := by decide +kernel
theorem dM_work_6 : decode cM_work 6 = .ok (.sipush 1000, 3) := by decide +kernel
theorem dM_work_9 : decode cM_work 9 = .ok (.if_icmp .gt 17, 3) := by decide +kernel
theorem dM_work_12 : decode cM_work 12 = .ok (.aload_n 0, 1) := by decide +kernel
theorem dM_work_13 : decode cM_work 13 = .ok (.getfield 33, 3) := by decide +kernel
theorem dM_work_16 : decode cM_work 16 = .ok (.ifCond .lt 10, 3) := by decide +kernel
theorem dM_work_19 : decode cM_work 19 = .ok (.aload_n 0, 1) := by decide +kernel
theorem dM_work_20 : decode cM_work 20 = .ok (.getfield 48, 3) := by decide +kernel
theorem dM_work_23 : decode cM_work 23 = .ok (.ifCond .eq 5, 3) := by decide +kernel
theorem dM_work_26 : decode cM_work 26 = .ok (.iconst 0, 1) := by decide +kernel
theorem dM_work_27 : decode cM_work 27 = .ok (.ireturn, 1) := by decide +kernel
theorem dM_work_28 : decode cM_work 28 = .ok (.aload_n 0, 1) := by decide +kernel
theorem dM_work_29 : decode cM_work 29 = .ok (.aload_n 0, 1) := by decide +kernel
theorem dM_work_30 : decode cM_work 30 = .ok (.getfield 89, 3) := by decide +kernel
theorem dM_work_33 : decode cM_work 33 = .ok (.iload_n 1, 1) := by decide +kernel
theorem dM_work_34 : decode cM_work 34 = .ok (.iadd, 1) := by decide +kernel
theorem dM_work_35 : decode cM_work 35 = .ok (.putfield 89, 3) := by decide +kernel
theorem dM_work_38 : decode cM_work 38 = .ok (.iconst 1, 1) := by decide +kernel
theorem dM_work_39 : decode cM_work 39 = .ok (.ireturn, 1) := by decide +kernel
theorem dM_take_0 : decode cM_take 0 = .ok (.aload_n 0, 1) := by decide +kernel
theorem dM_take_1 : decode cM_take 1 = .ok (.iload_n 1, 1) := by decide +kernel
theorem dM_take_2 : decode cM_take 2 = .ok (.invokevirtual 74, 3) := by decide +kernel
theorem dM_take_5 : decode cM_take 5 = .ok (.ifCond .eq 12, 3) := by decide +kernel
theorem dM_take_8 : decode cM_take 8 = .ok (.aload_n 0, 1) := by decide +kernel
theorem dM_take_9 : decode cM_take 9 = .ok (.getfield 20, 3) := by decide +kernel
theorem dM_take_12 : decode cM_take 12 = .ok (.iload_n 1, 1) := by decide +kernel
theorem dM_take_13 : decode cM_take 13 = .ok (.iaload, 1) := by decide +kernel
theorem dM_take_14 : decode cM_take 14 = .ok (.ifCond .ne 5, 3) := by decide +kernel
theorem dM_take_17 : decode cM_take 17 = .ok (.iconst 0, 1) := by decide +kernel
theorem dM_take_18 : decode cM_take 18 = .ok (.ireturn, 1) := by decide +kernel
theorem dM_take_19 : decode cM_take 19 = .ok (.aload_n 0, 1) := by decide +kernel
theorem dM_take_20 : decode cM_take 20 = .ok (.getfield 20, 3) := by decide +kernel
theorem dM_take_23 : decode cM_take 23 = .ok (.iload_n 1, 1) := by decide +kernel
theorem dM_take_24 : decode cM_take 24 = .ok (.iconst 0, 1) := by decide +kernel
theorem dM_take_25 : decode cM_take 25 = .ok (.iastore, 1) := by decide +kernel
theorem dM_take_26 : decode cM_take 26 = .ok (.iconst 1, 1) := by decide +kernel
theorem dM_take_27 : decode cM_take 27 = .ok (.ireturn, 1) := by decide +kernel
theorem dM_rate_0 : decode cM_rate 0 = .ok (.aload_n 0, 1) := by decide +kernel
theorem dM_rate_1 : decode cM_rate 1 = .ok (.iload_n 1, 1) := by decide +kernel
theorem dM_rate_2 : decode cM_rate 2 = .ok (.invokevirtual 74, 3) := by decide +kernel
theorem dM_rate_5 : decode cM_rate 5 = .ok (.ifCond .eq 10, 3) := by decide +kernel
theorem dM_rate_8 : decode cM_rate 8 = .ok (.iload_n 2, 1) := by decide +kernel
theorem dM_rate_9 : decode cM_rate 9 = .ok (.invokestatic 71, 3) := by decide +kernel
theorem dM_rate_12 : decode cM_rate 12 = .ok (.ifCond .ne 5, 3) := by decide +kernel
theorem dM_rate_15 : decode cM_rate 15 = .ok (.iconst (-1), 1) := by decide +kernel
theorem dM_rate_16 : decode cM_rate 16 = .ok (.ireturn, 1) := by decide +kernel
theorem dM_rate_17 : decode cM_rate 17 = .ok (.aload_n 0, 1) := by decide +kernel
theorem dM_rate_18 : decode cM_rate 18 = .ok (.getfield 13, 3) := by decide +kernel
theorem dM_rate_21 : decode cM_rate 21 = .ok (.iload_n 1, 1) := by decide +kernel
theorem dM_rate_22 : decode cM_rate 22 = .ok (.iaload, 1) := by decide +kernel
theorem dM_rate_23 : decode cM_rate 23 = .ok (.istore_n 3, 1) := by decide +kernel
theorem dM_rate_24 : decode cM_rate 24 = .ok (.aload_n 0, 1) := by decide +kernel
theorem dM_rate_25 : decode cM_rate 25 = .ok (.getfield 13, 3) := by decide +kernel
theorem dM_rate_28 : decode cM_rate 28 = .ok (.iload_n 1, 1) := by decide +kernel
theorem dM_rate_29 : decode cM_rate 29 = .ok (.iload_n 2, 1) := by decide +kernel
theorem dM_rate_30 : decode cM_rate 30 = .ok (.iastore, 1) := by decide +kernel
theorem dM_rate_31 : decode cM_rate 31 = .ok (.iload_n 3, 1) := by decide +kernel
theorem dM_rate_32 : decode cM_rate 32 = .ok (.ireturn, 1) := by decide +kernel
theorem dM_yield_0 : decode cM_yield 0 = .ok (.aload_n 0, 1) := by decide +kernel
theorem dM_yield_1 : decode cM_yield 1 = .ok (.invokevirtual 52, 3) := by decide +kernel
theorem dM_yield_4 : decode cM_yield 4 = .ok (.istore_n 1, 1) := by decide +kernel
theorem dM_yield_5 : decode cM_yield 5 = .ok (.iload_n 1, 1) := by decide +kernel
theorem dM_yield_6 : decode cM_yield 6 = .ok (.ifCond .lt 17, 3) := by decide +kernel
theorem dM_yield_9 : decode cM_yield 9 = .ok (.aload_n 0, 1) := by decide +kernel
theorem dM_yield_10 : decode cM_yield 10 = .ok (.aload_n 0, 1) := by decide +kernel
theorem dM_yield_11 : decode cM_yield 11 = .ok (.getfield 13, 3) := by decide +kernel
theorem dM_yield_14 : decode cM_yield 14 = .ok (.iload_n 1, 1) := by decide +kernel
theorem dM_yield_15 : decode cM_yield 15 = .ok (.iaload, 1) := by decide +kernel
theorem dM_yield_16 : decode cM_yield 16 = .ok (.iconst 0, 1) := by decide +kernel
theorem dM_yield_17 : decode cM_yield 17 = .ok (.invokevirtual 64, 3) := by decide +kernel
theorem dM_yield_20 : decode cM_yield 20 = .ok (.ifCond .ge 5, 3) := by decide +kernel
theorem dM_yield_23 : decode cM_yield 23 = .ok (.iconst 0, 1) := by decide +kernel
theorem dM_yield_24 : decode cM_yield 24 = .ok (.ireturn, 1) := by decide +kernel
theorem dM_yield_25 : decode cM_yield 25 = .ok (.aload_n 0, 1) := by decide +kernel
theorem dM_yield_26 : decode cM_yield 26 = .ok (.iload_n 1, 1) := by decide +kernel
theorem dM_yield_27 : decode cM_yield 27 = .ok (.aload_n 0, 1) := by decide +kernel
theorem dM_yield_28 : decode cM_yield 28 = .ok (.getfield 13, 3) := by decide +kernel
theorem dM_yield_31 : decode cM_yield 31 = .ok (.iload_n 1, 1) := by decide +kernel
theorem dM_yield_32 : decode cM_yield 32 = .ok (.iaload, 1) := by decide +kernel
theorem dM_yield_33 : decode cM_yield 33 = .ok (.invokevirtual 56, 3) := by decide +kernel
theorem dM_yield_36 : decode cM_yield 36 = .ok (.aload_n 0, 1) := by decide +kernel
theorem dM_yield_37 : decode cM_yield 37 = .ok (.invokevirtual 77, 3) := by decide +kernel
theorem dM_yield_40 : decode cM_yield 40 = .ok (.iconst 1, 1) := by decide +kernel
theorem dM_yield_41 : decode cM_yield 41 = .ok (.ireturn, 1) := by decide +kernel
