theorem dX7_isIn_0 : decode cX7_isIn 0 = .ok (.lload_n 0, 1) := by decide +kernel
theorem dX7_isIn_1 : decode cX7_isIn 1 = .ok (.lload_n 2, 1) := by decide +kernel
theorem dX7_isIn_2 : decode cX7_isIn 2 = .ok (.lcmp, 1) := by decide +kernel
theorem dX7_isIn_3 : decode cX7_isIn 3 = .ok (.ifCond .lt 14, 3) := by decide +kernel
theorem dX7_isIn_6 : decode cX7_isIn 6 = .ok (.lload_n 0, 1) := by decide +kernel
theorem dX7_isIn_7 : decode cX7_isIn 7 = .ok (.lload 4, 2) := by decide +kernel
theorem dX7_isIn_9 : decode cX7_isIn 9 = .ok (.lcmp, 1) := by decide +kernel
theorem dX7_isIn_10 : decode cX7_isIn 10 = .ok (.ifCond .gt 7, 3) := by decide +kernel
theorem dX7_isIn_13 : decode cX7_isIn 13 = .ok (.iconst 1, 1) := by decide +kernel
theorem dX7_isIn_14 : decode cX7_isIn 14 = .ok (.goto 4, 3) := by decide +kernel
theorem dX7_isIn_17 : decode cX7_isIn 17 = .ok (.iconst 0, 1) := by decide +kernel
theorem dX7_isIn_18 : decode cX7_isIn 18 = .ok (.ireturn, 1) := by decide +kernel
theorem dX7_flag_0 : decode cX7_flag 0 = .ok (.iload_n 0, 1) := by decide +kernel
theorem dX7_flag_1 : decode cX7_flag 1 = .ok (.ifCond .eq 7, 3) := by decide +kernel
theorem dX7_flag_4 : decode cX7_flag 4 = .ok (.iconst 1, 1) := by decide +kernel
theorem dX7_flag_5 : decode cX7_flag 5 = .ok (.goto 4, 3) := by decide +kernel
theorem dX7_flag_8 : decode cX7_flag 8 = .ok (.iconst 0, 1) := by decide +kernel
theorem dX7_flag_9 : decode cX7_flag 9 = .ok (.ireturn, 1) := by decide +kernel
theorem dX7_refuses_0 : decode cX7_refuses 0 = .ok (.aload_n 0, 1) := by decide +kernel
theorem dX7_refuses_1 : decode cX7_refuses 1 = .ok (.getfield 17, 3) := by decide +kernel
theorem dX7_refuses_4 : decode cX7_refuses 4 = .ok (.iload_n 1, 1) := by decide +kernel
theorem dX7_refuses_5 : decode cX7_refuses 5 = .ok (.dup2, 1) := by decide +kernel
theorem dX7_refuses_6 : decode cX7_refuses 6 = .ok (.iaload, 1) := by decide +kernel
theorem dX7_refuses_7 : decode cX7_refuses 7 = .ok (.iconst 1, 1) := by decide +kernel
theorem dX7_refuses_8 : decode cX7_refuses 8 = .ok (.iadd, 1) := by decide +kernel
theorem dX7_refuses_9 : decode cX7_refuses 9 = .ok (.iastore, 1) := by decide +kernel
theorem dX7_refuses_10 : decode cX7_refuses 10 = .ok (.iconst (-1), 1) := by decide +kernel
theorem dX7_refuses_11 : decode cX7_refuses 11 = .ok (.ireturn, 1) := by decide +kernel
theorem dX7_isRefused_0 : decode cX7_isRefused 0 = .ok (.aload_n 0, 1) := by decide +kernel
theorem dX7_isRefused_1 : decode cX7_isRefused 1 = .ok (.getfield 17, 3) := by decide +kernel
theorem dX7_isRefused_4 : decode cX7_isRefused 4 = .ok (.iload_n 1, 1) := by decide +kernel
theorem dX7_isRefused_5 : decode cX7_isRefused 5 = .ok (.dup2, 1) := by decide +kernel
theorem dX7_isRefused_6 : decode cX7_isRefused 6 = .ok (.iaload, 1) := by decide +kernel
theorem dX7_isRefused_7 : decode cX7_isRefused 7 = .ok (.iconst 1, 1) := by decide +kernel
theorem dX7_isRefused_8 : decode cX7_isRefused 8 = .ok (.iadd, 1) := by decide +kernel
theorem dX7_isRefused_9 : decode cX7_isRefused 9 = .ok (.iastore, 1) := by decide +kernel
theorem dX7_isRefused_10 : decode cX7_isRefused 10 = .ok (.iconst 0, 1) := by decide +kernel
theorem dX7_isRefused_11 : decode cX7_isRefused 11 = .ok (.ireturn, 1) := by decide +kernel
theorem dX7_feed_0 : decode cX7_feed 0 = .ok (.aload_n 0, 1) := by decide +kernel
theorem dX7_feed_1 : decode cX7_feed 1 = .ok (.getfield 69, 3) := by decide +kernel
theorem dX7_feed_4 : decode cX7_feed 4 = .ok (.bipush 20, 2) := by decide +kernel
theorem dX7_feed_6 : decode cX7_feed 6 = .ok (.iadd, 1) := by decide +kernel
theorem dX7_feed_7 : decode cX7_feed 7 = .ok (.sipush 1600, 3) := by decide +kernel
theorem dX7_feed_10 : decode cX7_feed 10 = .ok (.if_icmp .le 9, 3) := by decide +kernel
theorem dX7_feed_13 : decode cX7_feed 13 = .ok (.aload_n 0, 1) := by decide +kernel
theorem dX7_feed_14 : decode cX7_feed 14 = .ok (.iconst 0, 1) := by decide +kernel
theorem dX7_feed_15 : decode cX7_feed 15 = .ok (.invokevirtual 72, 3) := by decide +kernel
theorem dX7_feed_18 : decode cX7_feed 18 = .ok (.ireturn, 1) := by decide +kernel
theorem dX7_feed_19 : decode cX7_feed 19 = .ok (.iconst 0, 1) := by decide +kernel
theorem dX7_feed_20 : decode cX7_feed 20 = .ok (.istore 6, 2) := by decide +kernel
theorem dX7_feed_22 : decode cX7_feed 22 = .ok (.iload 6, 2) := by decide +kernel
theorem dX7_feed_24 : decode cX7_feed 24 = .ok (.bipush 20, 2) := by decide +kernel
theorem dX7_feed_26 : decode cX7_feed 26 = .ok (.if_icmp .ge 92, 3) := by decide +kernel
theorem dX7_feed_29 : decode cX7_feed 29 = .ok (.iload 6, 2) := by decide +kernel
theorem dX7_feed_31 : decode cX7_feed 31 = .ok (.iconst 4, 1) := by decide +kernel
theorem dX7_feed_32 : decode cX7_feed 32 = .ok (.if_icmp .ge 7, 3) := by decide +kernel
theorem dX7_feed_35 : decode cX7_feed 35 = .ok (.iload_n 1, 1) := by decide +kernel
theorem dX7_feed_36 : decode cX7_feed 36 = .ok (.goto 39, 3) := by decide +kernel
theorem dX7_feed_39 : decode cX7_feed 39 = .ok (.iload 6, 2) := by decide +kernel
theorem dX7_feed_41 : decode cX7_feed 41 = .ok (.bipush 8, 2) := by decide +kernel
theorem dX7_feed_43 : decode cX7_feed 43 = .ok (.if_icmp .ge 7, 3) := by decide +kernel
theorem dX7_feed_46 : decode cX7_feed 46 = .ok (.iload_n 2, 1) := by decide +kernel
theorem dX7_feed_47 : decode cX7_feed 47 = .ok (.goto 28, 3) := by decide +kernel
theorem dX7_feed_50 : decode cX7_feed 50 = .ok (.iload 6, 2) := by decide +kernel
theorem dX7_feed_52 : decode cX7_feed 52 = .ok (.bipush 12, 2) := by decide +kernel
theorem dX7_feed_54 : decode cX7_feed 54 = .ok (.if_icmp .ge 7, 3) := by decide +kernel
theorem dX7_feed_57 : decode cX7_feed 57 = .ok (.iload_n 3, 1) := by decide +kernel
theorem dX7_feed_58 : decode cX7_feed 58 = .ok (.goto 17, 3) := by decide +kernel
theorem dX7_feed_61 : decode cX7_feed 61 = .ok (.iload 6, 2) := by decide +kernel
theorem dX7_feed_63 : decode cX7_feed 63 = .ok (.bipush 16, 2) := by decide +kernel
theorem dX7_feed_65 : decode cX7_feed 65 = .ok (.if_icmp .ge 8, 3) := by decide +kernel
theorem dX7_feed_68 : decode cX7_feed 68 = .ok (.iload 4, 2) := by decide +kernel
theorem dX7_feed_70 : decode cX7_feed 70 = .ok (.goto 5, 3) := by decide +kernel
theorem dX7_feed_73 : decode cX7_feed 73 = .ok (.iload 5, 2) := by decide +kernel
theorem dX7_feed_75 : decode cX7_feed 75 = .ok (.istore 7, 2) := by decide +kernel
theorem dX7_feed_77 : decode cX7_feed 77 = .ok (.aload_n 0, 1) := by decide +kernel
theorem dX7_feed_78 : decode cX7_feed 78 = .ok (.getfield 7, 3) := by decide +kernel
theorem dX7_feed_81 : decode cX7_feed 81 = .ok (.aload_n 0, 1) := by decide +kernel
theorem dX7_feed_82 : decode cX7_feed 82 = .ok (.getfield 69, 3) := by decide +kernel
theorem dX7_feed_85 : decode cX7_feed 85 = .ok (.iload 7, 2) := by decide +kernel
theorem dX7_feed_87 : decode cX7_feed 87 = .ok (.bipush 8, 2) := by decide +kernel
theorem dX7_feed_89 : decode cX7_feed 89 = .ok (.iconst 3, 1) := by decide +kernel
theorem dX7_feed_90 : decode cX7_feed 90 = .ok (.iload 6, 2) := by decide +kernel
theorem dX7_feed_92 : decode cX7_feed 92 = .ok (.iconst 4, 1) := by decide +kernel
theorem dX7_feed_93 : decode cX7_feed 93 = .ok (.irem, 1) := by decide +kernel
theorem dX7_feed_94 : decode cX7_feed 94 = .ok (.isub, 1) := by decide +kernel
theorem dX7_feed_95 : decode cX7_feed 95 = .ok (.imul, 1) := by decide +kernel
theorem dX7_feed_96 : decode cX7_feed 96 = .ok (.ishr, 1) := by decide +kernel
theorem dX7_feed_97 : decode cX7_feed 97 = .ok (.sipush 255, 3) := by decide +kernel
theorem dX7_feed_100 : decode cX7_feed 100 = .ok (.iand, 1) := by decide +kernel
theorem dX7_feed_101 : decode cX7_feed 101 = .ok (.iastore, 1) := by decide +kernel
theorem dX7_feed_102 : decode cX7_feed 102 = .ok (.aload_n 0, 1) := by decide +kernel
theorem dX7_feed_103 : decode cX7_feed 103 = .ok (.dup, 1) := by decide +kernel
theorem dX7_feed_104 : decode cX7_feed 104 = .ok (.getfield 69, 3) := by decide +kernel
theorem dX7_feed_107 : decode cX7_feed 107 = .ok (.iconst 1, 1) := by decide +kernel
theorem dX7_feed_108 : decode cX7_feed 108 = .ok (.iadd, 1) := by decide +kernel
theorem dX7_feed_109 : decode cX7_feed 109 = .ok (.putfield 69, 3) := by decide +kernel
theorem dX7_feed_112 : decode cX7_feed 112 = .ok (.iinc 6 1, 3) := by decide +kernel
theorem dX7_feed_115 : decode cX7_feed 115 = .ok (.goto (-93), 3) := by decide +kernel
theorem dX7_feed_118 : decode cX7_feed 118 = .ok (.aload_n 0, 1) := by decide +kernel
theorem dX7_feed_119 : decode cX7_feed 119 = .ok (.getfield 69, 3) := by decide +kernel
theorem dX7_feed_122 : decode cX7_feed 122 = .ok (.ireturn, 1) := by decide +kernel
theorem dX7_end_0 : decode cX7_end 0 = .ok (.iload_n 1, 1) := by decide +kernel
theorem dX7_end_1 : decode cX7_end 1 = .ok (.ifCond .lt 11, 3) := by decide +kernel
theorem dX7_end_4 : decode cX7_end 4 = .ok (.iload_n 1, 1) := by decide +kernel
theorem dX7_end_5 : decode cX7_end 5 = .ok (.aload_n 0, 1) := by decide +kernel
theorem dX7_end_6 : decode cX7_end 6 = .ok (.getfield 69, 3) := by decide +kernel
theorem dX7_end_9 : decode cX7_end 9 = .ok (.if_icmp .le 9, 3) := by decide +kernel
theorem dX7_end_12 : decode cX7_end 12 = .ok (.aload_n 0, 1) := by decide +kernel
theorem dX7_end_13 : decode cX7_end 13 = .ok (.iconst 0, 1) := by decide +kernel
theorem dX7_end_14 : decode cX7_end 14 = .ok (.invokevirtual 76, 3) := by decide +kernel
theorem dX7_end_17 : decode cX7_end 17 = .ok (.ireturn, 1) := by decide +kernel
theorem dX7_end_18 : decode cX7_end 18 = .ok (.aload_n 0, 1) := by decide +kernel
theorem dX7_end_19 : decode cX7_end 19 = .ok (.iload_n 1, 1) := by decide +kernel
theorem dX7_end_20 : decode cX7_end 20 = .ok (.putfield 69, 3) := by decide +kernel
theorem dX7_end_23 : decode cX7_end 23 = .ok (.iconst 1, 1) := by decide +kernel
theorem dX7_end_24 : decode cX7_end 24 = .ok (.ireturn, 1) := by decide +kernel
theorem dX7_status_0 : decode cX7_status 0 = .ok (.iload_n 1, 1) := by decide +kernel
theorem dX7_status_1 : decode cX7_status 1 = .ok (.i2l, 1) := by decide +kernel
theorem dX7_status_2 : decode cX7_status 2 = .ok (.lconst 0, 1) := by decide +kernel
theorem dX7_status_3 : decode cX7_status 3 = .ok (.ldc2_w 80, 3) := by decide +kernel
theorem dX7_status_6 : decode cX7_status 6 = .ok (.invokestatic 82, 3) := by decide +kernel
theorem dX7_status_9 : decode cX7_status 9 = .ok (.ifCond .eq 12, 3) := by decide +kernel
theorem dX7_status_12 : decode cX7_status 12 = .ok (.aload_n 0, 1) := by decide +kernel
theorem dX7_status_13 : decode cX7_status 13 = .ok (.getfield 17, 3) := by decide +kernel
theorem dX7_status_16 : decode cX7_status 16 = .ok (.iload_n 1, 1) := by decide +kernel
theorem dX7_status_17 : decode cX7_status 17 = .ok (.iaload, 1) := by decide +kernel
theorem dX7_status_18 : decode cX7_status 18 = .ok (.goto 4, 3) := by decide +kernel
theorem dX7_status_21 : decode cX7_status 21 = .ok (.iconst (-1), 1) := by decide +kernel
theorem dX7_status_22 : decode cX7_status 22 = .ok (.ireturn, 1) := by decide +kernel
theorem dX7_fault_0 : decode cX7_fault 0 = .ok (.iload_n 1, 1) := by decide +kernel
theorem dX7_fault_1 : decode cX7_fault 1 = .ok (.ifCond .ne 10, 3) := by decide +kernel
theorem dX7_fault_4 : decode cX7_fault 4 = .ok (.aload_n 0, 1) := by decide +kernel
theorem dX7_fault_5 : decode cX7_fault 5 = .ok (.getfield 86, 3) := by decide +kernel
theorem dX7_fault_8 : decode cX7_fault 8 = .ok (.goto 16, 3) := by decide +kernel
theorem dX7_fault_11 : decode cX7_fault 11 = .ok (.iload_n 1, 1) := by decide +kernel
theorem dX7_fault_12 : decode cX7_fault 12 = .ok (.iconst 1, 1) := by decide +kernel
theorem dX7_fault_13 : decode cX7_fault 13 = .ok (.if_icmp .ne 10, 3) := by decide +kernel
theorem dX7_fault_16 : decode cX7_fault 16 = .ok (.aload_n 0, 1) := by decide +kernel
theorem dX7_fault_17 : decode cX7_fault 17 = .ok (.getfield 13, 3) := by decide +kernel
theorem dX7_fault_20 : decode cX7_fault 20 = .ok (.goto 4, 3) := by decide +kernel
theorem dX7_fault_23 : decode cX7_fault 23 = .ok (.iconst (-1), 1) := by decide +kernel
theorem dX7_fault_24 : decode cX7_fault 24 = .ok (.ireturn, 1) := by decide +kernel
theorem dX7_fail_0 : decode cX7_fail 0 = .ok (.aload_n 0, 1) := by decide +kernel
theorem dX7_fail_1 : decode cX7_fail 1 = .ok (.getfield 89, 3) := by decide +kernel
theorem dX7_fail_4 : decode cX7_fail 4 = .ok (.ifCond .eq 4, 3) := by decide +kernel
theorem dX7_fail_7 : decode cX7_fail 7 = .ok (.return_, 1) := by decide +kernel
theorem dX7_fail_8 : decode cX7_fail 8 = .ok (.aload_n 0, 1) := by decide +kernel
theorem dX7_fail_9 : decode cX7_fail 9 = .ok (.iload_n 1, 1) := by decide +kernel
theorem dX7_fail_10 : decode cX7_fail 10 = .ok (.putfield 89, 3) := by decide +kernel
theorem dX7_fail_13 : decode cX7_fail 13 = .ok (.aload_n 0, 1) := by decide +kernel
theorem dX7_fail_14 : decode cX7_fail 14 = .ok (.iload_n 2, 1) := by decide +kernel
theorem dX7_fail_15 : decode cX7_fail 15 = .ok (.putfield 92, 3) := by decide +kernel
theorem dX7_fail_18 : decode cX7_fail 18 = .ok (.return_, 1) := by decide +kernel
theorem dX7_isLetter_0 : decode cX7_isLetter 0 = .ok (.iload_n 0, 1) := by decide +kernel
theorem dX7_isLetter_1 : decode cX7_isLetter 1 = .ok (.bipush 97, 2) := by decide +kernel
theorem dX7_isLetter_3 : decode cX7_isLetter 3 = .ok (.if_icmp .lt 13, 3) := by decide +kernel
theorem dX7_isLetter_6 : decode cX7_isLetter 6 = .ok (.iload_n 0, 1) := by decide +kernel
theorem dX7_isLetter_7 : decode cX7_isLetter 7 = .ok (.bipush 122, 2) := by decide +kernel
theorem dX7_isLetter_9 : decode cX7_isLetter 9 = .ok (.if_icmp .gt 7, 3) := by decide +kernel
theorem dX7_isLetter_12 : decode cX7_isLetter 12 = .ok (.iconst 1, 1) := by decide +kernel
theorem dX7_isLetter_13 : decode cX7_isLetter 13 = .ok (.goto 4, 3) := by decide +kernel
theorem dX7_isLetter_16 : decode cX7_isLetter 16 = .ok (.iconst 0, 1) := by decide +kernel
theorem dX7_isLetter_17 : decode cX7_isLetter 17 = .ok (.ireturn, 1) := by decide +kernel
theorem dX7_isDigit_0 : decode cX7_isDigit 0 = .ok (.iload_n 0, 1) := by decide +kernel
theorem dX7_isDigit_1 : decode cX7_isDigit 1 = .ok (.bipush 48, 2) := by decide +kernel
theorem dX7_isDigit_3 : decode cX7_isDigit 3 = .ok (.if_icmp .lt 13, 3) := by decide +kernel
theorem dX7_isDigit_6 : decode cX7_isDigit 6 = .ok (.iload_n 0, 1) := by decide +kernel
theorem dX7_isDigit_7 : decode cX7_isDigit 7 = .ok (.bipush 57, 2) := by decide +kernel
theorem dX7_isDigit_9 : decode cX7_isDigit 9 = .ok (.if_icmp .gt 7, 3) := by decide +kernel
theorem dX7_isDigit_12 : decode cX7_isDigit 12 = .ok (.iconst 1, 1) := by decide +kernel
theorem dX7_isDigit_13 : decode cX7_isDigit 13 = .ok (.goto 4, 3) := by decide +kernel
theorem dX7_isDigit_16 : decode cX7_isDigit 16 = .ok (.iconst 0, 1) := by decide +kernel
theorem dX7_isDigit_17 : decode cX7_isDigit 17 = .ok (.ireturn, 1) := by decide +kernel
theorem dX7_look_0 : decode cX7_look 0 = .ok (.aload_n 0, 1) := by decide +kernel
theorem dX7_look_1 : decode cX7_look 1 = .ok (.getfield 95, 3) := by decide +kernel
theorem dX7_look_4 : decode cX7_look 4 = .ok (.aload_n 0, 1) := by decide +kernel
theorem dX7_look_5 : decode cX7_look 5 = .ok (.getfield 98, 3) := by decide +kernel
theorem dX7_look_8 : decode cX7_look 8 = .ok (.if_icmp .ge 44, 3) := by decide +kernel
theorem dX7_look_11 : decode cX7_look 11 = .ok (.aload_n 0, 1) := by decide +kernel
theorem dX7_look_12 : decode cX7_look 12 = .ok (.getfield 7, 3) := by decide +kernel
theorem dX7_look_15 : decode cX7_look 15 = .ok (.aload_n 0, 1) := by decide +kernel
theorem dX7_look_16 : decode cX7_look 16 = .ok (.getfield 95, 3) := by decide +kernel
theorem dX7_look_19 : decode cX7_look 19 = .ok (.iaload, 1) := by decide +kernel
theorem dX7_look_20 : decode cX7_look 20 = .ok (.bipush 10, 2) := by decide +kernel
theorem dX7_look_22 : decode cX7_look 22 = .ok (.if_icmp .eq 17, 3) := by decide +kernel
theorem dX7_look_25 : decode cX7_look 25 = .ok (.aload_n 0, 1) := by decide +kernel
theorem dX7_look_26 : decode cX7_look 26 = .ok (.getfield 7, 3) := by decide +kernel
theorem dX7_look_29 : decode cX7_look 29 = .ok (.aload_n 0, 1) := by decide +kernel
theorem dX7_look_30 : decode cX7_look 30 = .ok (.getfield 95, 3) := by decide +kernel
theorem dX7_look_33 : decode cX7_look 33 = .ok (.iaload, 1) := by decide +kernel
theorem dX7_look_34 : decode cX7_look 34 = .ok (.bipush 32, 2) := by decide +kernel
theorem dX7_look_36 : decode cX7_look 36 = .ok (.if_icmp .ne 16, 3) := by decide +kernel
theorem dX7_look_39 : decode cX7_look 39 = .ok (.aload_n 0, 1) := by decide +kernel
theorem dX7_look_40 : decode cX7_look 40 = .ok (.dup, 1) := by decide +kernel
theorem dX7_look_41 : decode cX7_look 41 = .ok (.getfield 95, 3) := by decide +kernel
theorem dX7_look_44 : decode cX7_look 44 = .ok (.iconst 1, 1) := by decide +kernel
theorem dX7_look_45 : decode cX7_look 45 = .ok (.iadd, 1) := by decide +kernel
theorem dX7_look_46 : decode cX7_look 46 = .ok (.putfield 95, 3) := by decide +kernel
theorem dX7_look_49 : decode cX7_look 49 = .ok (.goto (-49), 3) := by decide +kernel
theorem dX7_look_52 : decode cX7_look 52 = .ok (.aload_n 0, 1) := by decide +kernel
theorem dX7_look_53 : decode cX7_look 53 = .ok (.getfield 95, 3) := by decide +kernel
theorem dX7_look_56 : decode cX7_look 56 = .ok (.aload_n 0, 1) := by decide +kernel
theorem dX7_look_57 : decode cX7_look 57 = .ok (.getfield 98, 3) := by decide +kernel
theorem dX7_look_60 : decode cX7_look 60 = .ok (.if_icmp .ge 15, 3) := by decide +kernel
theorem dX7_look_63 : decode cX7_look 63 = .ok (.aload_n 0, 1) := by decide +kernel
theorem dX7_look_64 : decode cX7_look 64 = .ok (.getfield 7, 3) := by decide +kernel
theorem dX7_look_67 : decode cX7_look 67 = .ok (.aload_n 0, 1) := by decide +kernel
theorem dX7_look_68 : decode cX7_look 68 = .ok (.getfield 95, 3) := by decide +kernel
theorem dX7_look_71 : decode cX7_look 71 = .ok (.iaload, 1) := by decide +kernel
theorem dX7_look_72 : decode cX7_look 72 = .ok (.goto 4, 3) := by decide +kernel
theorem dX7_look_75 : decode cX7_look 75 = .ok (.iconst (-1), 1) := by decide +kernel
theorem dX7_look_76 : decode cX7_look 76 = .ok (.ireturn, 1) := by decide +kernel
theorem dX7_isWordHere_0 : decode cX7_isWordHere 0 = .ok (.aload_n 0, 1) := by decide +kernel
theorem dX7_isWordHere_1 : decode cX7_isWordHere 1 = .ok (.getfield 89, 3) := by decide +kernel
theorem dX7_isWordHere_4 : decode cX7_isWordHere 4 = .ok (.ifCond .ne 28, 3) := by decide +kernel
theorem dX7_isWordHere_7 : decode cX7_isWordHere 7 = .ok (.aload_n 0, 1) := by decide +kernel
theorem dX7_isWordHere_8 : decode cX7_isWordHere 8 = .ok (.invokevirtual 101, 3) := by decide +kernel
theorem dX7_isWordHere_11 : decode cX7_isWordHere 11 = .ok (.invokestatic 105, 3) := by decide +kernel
theorem dX7_isWordHere_14 : decode cX7_isWordHere 14 = .ok (.ifCond .eq 18, 3) := by decide +kernel
theorem dX7_isWordHere_17 : decode cX7_isWordHere 17 = .ok (.aload_n 0, 1) := by decide +kernel
theorem dX7_isWordHere_18 : decode cX7_isWordHere 18 = .ok (.getfield 95, 3) := by decide +kernel
theorem dX7_isWordHere_21 : decode cX7_isWordHere 21 = .ok (.aload_n 0, 1) := by decide +kernel
theorem dX7_isWordHere_22 : decode cX7_isWordHere 22 = .ok (.getfield 108, 3) := by decide +kernel
theorem dX7_isWordHere_25 : decode cX7_isWordHere 25 = .ok (.if_icmp .eq 7, 3) := by decide +kernel
theorem dX7_isWordHere_28 : decode cX7_isWordHere 28 = .ok (.iconst 1, 1) := by decide +kernel
theorem dX7_isWordHere_29 : decode cX7_isWordHere 29 = .ok (.goto 4, 3) := by decide +kernel
theorem dX7_isWordHere_32 : decode cX7_isWordHere 32 = .ok (.iconst 0, 1) := by decide +kernel
theorem dX7_isWordHere_33 : decode cX7_isWordHere 33 = .ok (.ireturn, 1) := by decide +kernel
theorem dX7_takesSign_0 : decode cX7_takesSign 0 = .ok (.aload_n 0, 1) := by decide +kernel
theorem dX7_takesSign_1 : decode cX7_takesSign 1 = .ok (.getfield 89, 3) := by decide +kernel
theorem dX7_takesSign_4 : decode cX7_takesSign 4 = .ok (.ifCond .ne 11, 3) := by decide +kernel
theorem dX7_takesSign_7 : decode cX7_takesSign 7 = .ok (.aload_n 0, 1) := by decide +kernel
theorem dX7_takesSign_8 : decode cX7_takesSign 8 = .ok (.invokevirtual 101, 3) := by decide +kernel
theorem dX7_takesSign_11 : decode cX7_takesSign 11 = .ok (.iload_n 1, 1) := by decide +kernel
theorem dX7_takesSign_12 : decode cX7_takesSign 12 = .ok (.if_icmp .eq 5, 3) := by decide +kernel
theorem dX7_takesSign_15 : decode cX7_takesSign 15 = .ok (.iconst 0, 1) := by decide +kernel
theorem dX7_takesSign_16 : decode cX7_takesSign 16 = .ok (.ireturn, 1) := by decide +kernel
theorem dX7_takesSign_17 : decode cX7_takesSign 17 = .ok (.aload_n 0, 1) := by decide +kernel
theorem dX7_takesSign_18 : decode cX7_takesSign 18 = .ok (.dup, 1) := by decide +kernel
theorem dX7_takesSign_19 : decode cX7_takesSign 19 = .ok (.getfield 95, 3) := by decide +kernel
theorem dX7_takesSign_22 : decode cX7_takesSign 22 = .ok (.iconst 1, 1) := by decide +kernel
theorem dX7_takesSign_23 : decode cX7_takesSign 23 = .ok (.iadd, 1) := by decide +kernel
theorem dX7_takesSign_24 : decode cX7_takesSign 24 = .ok (.putfield 95, 3) := by decide +kernel
theorem dX7_takesSign_27 : decode cX7_takesSign 27 = .ok (.iconst 1, 1) := by decide +kernel
theorem dX7_takesSign_28 : decode cX7_takesSign 28 = .ok (.ireturn, 1) := by decide +kernel
theorem dX7_asksSign_0 : decode cX7_asksSign 0 = .ok (.aload_n 0, 1) := by decide +kernel
theorem dX7_asksSign_1 : decode cX7_asksSign 1 = .ok (.getfield 89, 3) := by decide +kernel
theorem dX7_asksSign_4 : decode cX7_asksSign 4 = .ok (.ifCond .ne 20, 3) := by decide +kernel
theorem dX7_asksSign_7 : decode cX7_asksSign 7 = .ok (.aload_n 0, 1) := by decide +kernel
theorem dX7_asksSign_8 : decode cX7_asksSign 8 = .ok (.iload_n 1, 1) := by decide +kernel
theorem dX7_asksSign_9 : decode cX7_asksSign 9 = .ok (.invokevirtual 111, 3) := by decide +kernel
theorem dX7_asksSign_12 : decode cX7_asksSign 12 = .ok (.ifCond .ne 12, 3) := by decide +kernel
theorem dX7_asksSign_15 : decode cX7_asksSign 15 = .ok (.aload_n 0, 1) := by decide +kernel
theorem dX7_asksSign_16 : decode cX7_asksSign 16 = .ok (.iconst 1, 1) := by decide +kernel
theorem dX7_asksSign_17 : decode cX7_asksSign 17 = .ok (.aload_n 0, 1) := by decide +kernel
theorem dX7_asksSign_18 : decode cX7_asksSign 18 = .ok (.getfield 95, 3) := by decide +kernel
theorem dX7_asksSign_21 : decode cX7_asksSign 21 = .ok (.invokevirtual 114, 3) := by decide +kernel
theorem dX7_asksSign_24 : decode cX7_asksSign 24 = .ok (.return_, 1) := by decide +kernel
theorem dX7_number_0 : decode cX7_number 0 = .ok (.aload_n 0, 1) := by decide +kernel
theorem dX7_number_1 : decode cX7_number 1 = .ok (.getfield 89, 3) := by decide +kernel
theorem dX7_number_4 : decode cX7_number 4 = .ok (.ifCond .eq 5, 3) := by decide +kernel
theorem dX7_number_7 : decode cX7_number 7 = .ok (.iconst 0, 1) := by decide +kernel
theorem dX7_number_8 : decode cX7_number 8 = .ok (.ireturn, 1) := by decide +kernel
theorem dX7_number_9 : decode cX7_number 9 = .ok (.aload_n 0, 1) := by decide +kernel
theorem dX7_number_10 : decode cX7_number 10 = .ok (.invokevirtual 101, 3) := by decide +kernel
theorem dX7_number_13 : decode cX7_number 13 = .ok (.invokestatic 118, 3) := by decide +kernel
theorem dX7_number_16 : decode cX7_number 16 = .ok (.ifCond .eq 14, 3) := by decide +kernel
theorem dX7_number_19 : decode cX7_number 19 = .ok (.aload_n 0, 1) := by decide +kernel
theorem dX7_number_20 : decode cX7_number 20 = .ok (.getfield 95, 3) := by decide +kernel
theorem dX7_number_23 : decode cX7_number 23 = .ok (.aload_n 0, 1) := by decide +kernel
theorem dX7_number_24 : decode cX7_number 24 = .ok (.getfield 108, 3) := by decide +kernel
theorem dX7_number_27 : decode cX7_number 27 = .ok (.if_icmp .ne 14, 3) := by decide +kernel
theorem dX7_number_30 : decode cX7_number 30 = .ok (.aload_n 0, 1) := by decide +kernel
theorem dX7_number_31 : decode cX7_number 31 = .ok (.iconst 1, 1) := by decide +kernel
theorem dX7_number_32 : decode cX7_number 32 = .ok (.aload_n 0, 1) := by decide +kernel
theorem dX7_number_33 : decode cX7_number 33 = .ok (.getfield 95, 3) := by decide +kernel
theorem dX7_number_36 : decode cX7_number 36 = .ok (.invokevirtual 114, 3) := by decide +kernel
theorem dX7_number_39 : decode cX7_number 39 = .ok (.iconst 0, 1) := by decide +kernel
theorem dX7_number_40 : decode cX7_number 40 = .ok (.ireturn, 1) := by decide +kernel
theorem dX7_number_41 : decode cX7_number 41 = .ok (.aload_n 0, 1) := by decide +kernel
theorem dX7_number_42 : decode cX7_number 42 = .ok (.getfield 95, 3) := by decide +kernel
theorem dX7_number_45 : decode cX7_number 45 = .ok (.istore_n 3, 1) := by decide +kernel
theorem dX7_number_46 : decode cX7_number 46 = .ok (.iconst 0, 1) := by decide +kernel
theorem dX7_number_47 : decode cX7_number 47 = .ok (.istore 4, 2) := by decide +kernel
theorem dX7_number_49 : decode cX7_number 49 = .ok (.aload_n 0, 1) := by decide +kernel
theorem dX7_number_50 : decode cX7_number 50 = .ok (.getfield 95, 3) := by decide +kernel
theorem dX7_number_53 : decode cX7_number 53 = .ok (.aload_n 0, 1) := by decide +kernel
theorem dX7_number_54 : decode cX7_number 54 = .ok (.getfield 98, 3) := by decide +kernel
theorem dX7_number_57 : decode cX7_number 57 = .ok (.if_icmp .ge 72, 3) := by decide +kernel
theorem dX7_number_60 : decode cX7_number 60 = .ok (.aload_n 0, 1) := by decide +kernel
theorem dX7_number_61 : decode cX7_number 61 = .ok (.getfield 7, 3) := by decide +kernel
theorem dX7_number_64 : decode cX7_number 64 = .ok (.aload_n 0, 1) := by decide +kernel
theorem dX7_number_65 : decode cX7_number 65 = .ok (.getfield 95, 3) := by decide +kernel
theorem dX7_number_68 : decode cX7_number 68 = .ok (.iaload, 1) := by decide +kernel
theorem dX7_number_69 : decode cX7_number 69 = .ok (.invokestatic 118, 3) := by decide +kernel
theorem dX7_number_72 : decode cX7_number 72 = .ok (.ifCond .eq 57, 3) := by decide +kernel
theorem dX7_number_75 : decode cX7_number 75 = .ok (.aload_n 0, 1) := by decide +kernel
theorem dX7_number_76 : decode cX7_number 76 = .ok (.getfield 95, 3) := by decide +kernel
theorem dX7_number_79 : decode cX7_number 79 = .ok (.iload_n 3, 1) := by decide +kernel
theorem dX7_number_80 : decode cX7_number 80 = .ok (.isub, 1) := by decide +kernel
theorem dX7_number_81 : decode cX7_number 81 = .ok (.iconst 3, 1) := by decide +kernel
theorem dX7_number_82 : decode cX7_number 82 = .ok (.if_icmp .ne 14, 3) := by decide +kernel
theorem dX7_number_85 : decode cX7_number 85 = .ok (.aload_n 0, 1) := by decide +kernel
theorem dX7_number_86 : decode cX7_number 86 = .ok (.iconst 1, 1) := by decide +kernel
theorem dX7_number_87 : decode cX7_number 87 = .ok (.aload_n 0, 1) := by decide +kernel
theorem dX7_number_88 : decode cX7_number 88 = .ok (.getfield 95, 3) := by decide +kernel
theorem dX7_number_91 : decode cX7_number 91 = .ok (.invokevirtual 114, 3) := by decide +kernel
theorem dX7_number_94 : decode cX7_number 94 = .ok (.iconst 0, 1) := by decide +kernel
theorem dX7_number_95 : decode cX7_number 95 = .ok (.ireturn, 1) := by decide +kernel
theorem dX7_number_96 : decode cX7_number 96 = .ok (.bipush 10, 2) := by decide +kernel
theorem dX7_number_98 : decode cX7_number 98 = .ok (.iload 4, 2) := by decide +kernel
theorem dX7_number_100 : decode cX7_number 100 = .ok (.imul, 1) := by decide +kernel
theorem dX7_number_101 : decode cX7_number 101 = .ok (.aload_n 0, 1) := by decide +kernel
theorem dX7_number_102 : decode cX7_number 102 = .ok (.getfield 7, 3) := by decide +kernel
theorem dX7_number_105 : decode cX7_number 105 = .ok (.aload_n 0, 1) := by decide +kernel
theorem dX7_number_106 : decode cX7_number 106 = .ok (.getfield 95, 3) := by decide +kernel
theorem dX7_number_109 : decode cX7_number 109 = .ok (.iaload, 1) := by decide +kernel
theorem dX7_number_110 : decode cX7_number 110 = .ok (.iadd, 1) := by decide +kernel
theorem dX7_number_111 : decode cX7_number 111 = .ok (.bipush 48, 2) := by decide +kernel
theorem dX7_number_113 : decode cX7_number 113 = .ok (.isub, 1) := by decide +kernel
theorem dX7_number_114 : decode cX7_number 114 = .ok (.istore 4, 2) := by decide +kernel
theorem dX7_number_116 : decode cX7_number 116 = .ok (.aload_n 0, 1) := by decide +kernel
theorem dX7_number_117 : decode cX7_number 117 = .ok (.dup, 1) := by decide +kernel
theorem dX7_number_118 : decode cX7_number 118 = .ok (.getfield 95, 3) := by decide +kernel
theorem dX7_number_121 : decode cX7_number 121 = .ok (.iconst 1, 1) := by decide +kernel
theorem dX7_number_122 : decode cX7_number 122 = .ok (.iadd, 1) := by decide +kernel
theorem dX7_number_123 : decode cX7_number 123 = .ok (.putfield 95, 3) := by decide +kernel
theorem dX7_number_126 : decode cX7_number 126 = .ok (.goto (-77), 3) := by decide +kernel
theorem dX7_number_129 : decode cX7_number 129 = .ok (.aload_n 0, 1) := by decide +kernel
theorem dX7_number_130 : decode cX7_number 130 = .ok (.aload_n 0, 1) := by decide +kernel
theorem dX7_number_131 : decode cX7_number 131 = .ok (.getfield 95, 3) := by decide +kernel
theorem dX7_number_134 : decode cX7_number 134 = .ok (.putfield 108, 3) := by decide +kernel
theorem dX7_number_137 : decode cX7_number 137 = .ok (.iload 4, 2) := by decide +kernel
theorem dX7_number_139 : decode cX7_number 139 = .ok (.i2l, 1) := by decide +kernel
theorem dX7_number_140 : decode cX7_number 140 = .ok (.iload_n 1, 1) := by decide +kernel
theorem dX7_number_141 : decode cX7_number 141 = .ok (.i2l, 1) := by decide +kernel
theorem dX7_number_142 : decode cX7_number 142 = .ok (.iload_n 2, 1) := by decide +kernel
theorem dX7_number_143 : decode cX7_number 143 = .ok (.i2l, 1) := by decide +kernel
theorem dX7_number_144 : decode cX7_number 144 = .ok (.invokestatic 82, 3) := by decide +kernel
theorem dX7_number_147 : decode cX7_number 147 = .ok (.ifCond .ne 9, 3) := by decide +kernel
theorem dX7_number_150 : decode cX7_number 150 = .ok (.aload_n 0, 1) := by decide +kernel
theorem dX7_number_151 : decode cX7_number 151 = .ok (.iconst 2, 1) := by decide +kernel
theorem dX7_number_152 : decode cX7_number 152 = .ok (.iload_n 3, 1) := by decide +kernel
theorem dX7_number_153 : decode cX7_number 153 = .ok (.invokevirtual 114, 3) := by decide +kernel
theorem dX7_number_156 : decode cX7_number 156 = .ok (.iload 4, 2) := by decide +kernel
theorem dX7_number_158 : decode cX7_number 158 = .ok (.ireturn, 1) := by decide +kernel
theorem dX7_ownHere_0 : decode cX7_ownHere 0 = .ok (.aload_n 0, 1) := by decide +kernel
theorem dX7_ownHere_1 : decode cX7_ownHere 1 = .ok (.invokevirtual 121, 3) := by decide +kernel
theorem dX7_ownHere_4 : decode cX7_ownHere 4 = .ok (.ifCond .ne 5, 3) := by decide +kernel
theorem dX7_ownHere_7 : decode cX7_ownHere 7 = .ok (.iconst (-1), 1) := by decide +kernel
theorem dX7_ownHere_8 : decode cX7_ownHere 8 = .ok (.ireturn, 1) := by decide +kernel
theorem dX7_ownHere_9 : decode cX7_ownHere 9 = .ok (.iconst 0, 1) := by decide +kernel
theorem dX7_ownHere_10 : decode cX7_ownHere 10 = .ok (.istore_n 1, 1) := by decide +kernel
theorem dX7_ownHere_11 : decode cX7_ownHere 11 = .ok (.aload_n 0, 1) := by decide +kernel
theorem dX7_ownHere_12 : decode cX7_ownHere 12 = .ok (.getfield 95, 3) := by decide +kernel
theorem dX7_ownHere_15 : decode cX7_ownHere 15 = .ok (.iload_n 1, 1) := by decide +kernel
theorem dX7_ownHere_16 : decode cX7_ownHere 16 = .ok (.iadd, 1) := by decide +kernel
theorem dX7_ownHere_17 : decode cX7_ownHere 17 = .ok (.aload_n 0, 1) := by decide +kernel
theorem dX7_ownHere_18 : decode cX7_ownHere 18 = .ok (.getfield 98, 3) := by decide +kernel
theorem dX7_ownHere_21 : decode cX7_ownHere 21 = .ok (.if_icmp .ge 26, 3) := by decide +kernel
theorem dX7_ownHere_24 : decode cX7_ownHere 24 = .ok (.aload_n 0, 1) := by decide +kernel
theorem dX7_ownHere_25 : decode cX7_ownHere 25 = .ok (.getfield 7, 3) := by decide +kernel
theorem dX7_ownHere_28 : decode cX7_ownHere 28 = .ok (.aload_n 0, 1) := by decide +kernel
theorem dX7_ownHere_29 : decode cX7_ownHere 29 = .ok (.getfield 95, 3) := by decide +kernel
theorem dX7_ownHere_32 : decode cX7_ownHere 32 = .ok (.iload_n 1, 1) := by decide +kernel
theorem dX7_ownHere_33 : decode cX7_ownHere 33 = .ok (.iadd, 1) := by decide +kernel
theorem dX7_ownHere_34 : decode cX7_ownHere 34 = .ok (.iaload, 1) := by decide +kernel
theorem dX7_ownHere_35 : decode cX7_ownHere 35 = .ok (.invokestatic 105, 3) := by decide +kernel
theorem dX7_ownHere_38 : decode cX7_ownHere 38 = .ok (.ifCond .eq 9, 3) := by decide +kernel
theorem dX7_ownHere_41 : decode cX7_ownHere 41 = .ok (.iinc 1 1, 3) := by decide +kernel
theorem dX7_ownHere_44 : decode cX7_ownHere 44 = .ok (.goto (-33), 3) := by decide +kernel
theorem dX7_ownHere_47 : decode cX7_ownHere 47 = .ok (.iconst 0, 1) := by decide +kernel
theorem dX7_ownHere_48 : decode cX7_ownHere 48 = .ok (.istore_n 2, 1) := by decide +kernel
theorem dX7_ownHere_49 : decode cX7_ownHere 49 = .ok (.iconst 0, 1) := by decide +kernel
theorem dX7_ownHere_50 : decode cX7_ownHere 50 = .ok (.istore_n 3, 1) := by decide +kernel
theorem dX7_ownHere_51 : decode cX7_ownHere 51 = .ok (.iconst 0, 1) := by decide +kernel
theorem dX7_ownHere_52 : decode cX7_ownHere 52 = .ok (.istore 4, 2) := by decide +kernel
theorem dX7_ownHere_54 : decode cX7_ownHere 54 = .ok (.iload 4, 2) := by decide +kernel
theorem dX7_ownHere_56 : decode cX7_ownHere 56 = .ok (.aload_n 0, 1) := by decide +kernel
theorem dX7_ownHere_57 : decode cX7_ownHere 57 = .ok (.getfield 20, 3) := by decide +kernel
theorem dX7_ownHere_60 : decode cX7_ownHere 60 = .ok (.arraylength, 1) := by decide +kernel
theorem dX7_ownHere_61 : decode cX7_ownHere 61 = .ok (.if_icmp .ge 48, 3) := by decide +kernel
theorem dX7_ownHere_64 : decode cX7_ownHere 64 = .ok (.aload_n 0, 1) := by decide +kernel
theorem dX7_ownHere_65 : decode cX7_ownHere 65 = .ok (.getfield 20, 3) := by decide +kernel
theorem dX7_ownHere_68 : decode cX7_ownHere 68 = .ok (.iload 4, 2) := by decide +kernel
theorem dX7_ownHere_70 : decode cX7_ownHere 70 = .ok (.caload, 1) := by decide +kernel
theorem dX7_ownHere_71 : decode cX7_ownHere 71 = .ok (.bipush 32, 2) := by decide +kernel
theorem dX7_ownHere_73 : decode cX7_ownHere 73 = .ok (.if_icmp .ne 30, 3) := by decide +kernel
theorem dX7_ownHere_76 : decode cX7_ownHere 76 = .ok (.iload 4, 2) := by decide +kernel
theorem dX7_ownHere_78 : decode cX7_ownHere 78 = .ok (.iload_n 3, 1) := by decide +kernel
theorem dX7_ownHere_79 : decode cX7_ownHere 79 = .ok (.isub, 1) := by decide +kernel
theorem dX7_ownHere_80 : decode cX7_ownHere 80 = .ok (.iload_n 1, 1) := by decide +kernel
theorem dX7_ownHere_81 : decode cX7_ownHere 81 = .ok (.if_icmp .ne 14, 3) := by decide +kernel
theorem dX7_ownHere_84 : decode cX7_ownHere 84 = .ok (.aload_n 0, 1) := by decide +kernel
theorem dX7_ownHere_85 : decode cX7_ownHere 85 = .ok (.iload_n 3, 1) := by decide +kernel
theorem dX7_ownHere_86 : decode cX7_ownHere 86 = .ok (.iload_n 1, 1) := by decide +kernel
theorem dX7_ownHere_87 : decode cX7_ownHere 87 = .ok (.invokevirtual 125, 3) := by decide +kernel
theorem dX7_ownHere_90 : decode cX7_ownHere 90 = .ok (.ifCond .eq 5, 3) := by decide +kernel
theorem dX7_ownHere_93 : decode cX7_ownHere 93 = .ok (.iload_n 2, 1) := by decide +kernel
theorem dX7_ownHere_94 : decode cX7_ownHere 94 = .ok (.ireturn, 1) := by decide +kernel
theorem dX7_ownHere_95 : decode cX7_ownHere 95 = .ok (.iinc 2 1, 3) := by decide +kernel
theorem dX7_ownHere_98 : decode cX7_ownHere 98 = .ok (.iload 4, 2) := by decide +kernel
theorem dX7_ownHere_100 : decode cX7_ownHere 100 = .ok (.iconst 1, 1) := by decide +kernel
theorem dX7_ownHere_101 : decode cX7_ownHere 101 = .ok (.iadd, 1) := by decide +kernel
theorem dX7_ownHere_102 : decode cX7_ownHere 102 = .ok (.istore_n 3, 1) := by decide +kernel
theorem dX7_ownHere_103 : decode cX7_ownHere 103 = .ok (.iinc 4 1, 3) := by decide +kernel
theorem dX7_ownHere_106 : decode cX7_ownHere 106 = .ok (.goto (-52), 3) := by decide +kernel
theorem dX7_ownHere_109 : decode cX7_ownHere 109 = .ok (.iconst (-1), 1) := by decide +kernel
theorem dX7_ownHere_110 : decode cX7_ownHere 110 = .ok (.ireturn, 1) := by decide +kernel
theorem dX7_isLike_0 : decode cX7_isLike 0 = .ok (.iconst 0, 1) := by decide +kernel
theorem dX7_isLike_1 : decode cX7_isLike 1 = .ok (.istore_n 3, 1) := by decide +kernel
theorem dX7_isLike_2 : decode cX7_isLike 2 = .ok (.iload_n 3, 1) := by decide +kernel
theorem dX7_isLike_3 : decode cX7_isLike 3 = .ok (.iload_n 2, 1) := by decide +kernel
theorem dX7_isLike_4 : decode cX7_isLike 4 = .ok (.if_icmp .ge 33, 3) := by decide +kernel
theorem dX7_isLike_7 : decode cX7_isLike 7 = .ok (.aload_n 0, 1) := by decide +kernel
theorem dX7_isLike_8 : decode cX7_isLike 8 = .ok (.getfield 20, 3) := by decide +kernel
theorem dX7_isLike_11 : decode cX7_isLike 11 = .ok (.iload_n 1, 1) := by decide +kernel
theorem dX7_isLike_12 : decode cX7_isLike 12 = .ok (.iload_n 3, 1) := by decide +kernel
theorem dX7_isLike_13 : decode cX7_isLike 13 = .ok (.iadd, 1) := by decide +kernel
theorem dX7_isLike_14 : decode cX7_isLike 14 = .ok (.caload, 1) := by decide +kernel
theorem dX7_isLike_15 : decode cX7_isLike 15 = .ok (.aload_n 0, 1) := by decide +kernel
theorem dX7_isLike_16 : decode cX7_isLike 16 = .ok (.getfield 7, 3) := by decide +kernel
theorem dX7_isLike_19 : decode cX7_isLike 19 = .ok (.aload_n 0, 1) := by decide +kernel
theorem dX7_isLike_20 : decode cX7_isLike 20 = .ok (.getfield 95, 3) := by decide +kernel
theorem dX7_isLike_23 : decode cX7_isLike 23 = .ok (.iload_n 3, 1) := by decide +kernel
theorem dX7_isLike_24 : decode cX7_isLike 24 = .ok (.iadd, 1) := by decide +kernel
theorem dX7_isLike_25 : decode cX7_isLike 25 = .ok (.iaload, 1) := by decide +kernel
theorem dX7_isLike_26 : decode cX7_isLike 26 = .ok (.if_icmp .eq 5, 3) := by decide +kernel
theorem dX7_isLike_29 : decode cX7_isLike 29 = .ok (.iconst 0, 1) := by decide +kernel
theorem dX7_isLike_30 : decode cX7_isLike 30 = .ok (.ireturn, 1) := by decide +kernel
theorem dX7_isLike_31 : decode cX7_isLike 31 = .ok (.iinc 3 1, 3) := by decide +kernel
theorem dX7_isLike_34 : decode cX7_isLike 34 = .ok (.goto (-32), 3) := by decide +kernel
theorem dX7_isLike_37 : decode cX7_isLike 37 = .ok (.iconst 1, 1) := by decide +kernel
theorem dX7_isLike_38 : decode cX7_isLike 38 = .ok (.ireturn, 1) := by decide +kernel
theorem dX7_passes_0 : decode cX7_passes 0 = .ok (.aload_n 0, 1) := by decide +kernel
theorem dX7_passes_1 : decode cX7_passes 1 = .ok (.getfield 95, 3) := by decide +kernel
theorem dX7_passes_4 : decode cX7_passes 4 = .ok (.aload_n 0, 1) := by decide +kernel
theorem dX7_passes_5 : decode cX7_passes 5 = .ok (.getfield 98, 3) := by decide +kernel
theorem dX7_passes_8 : decode cX7_passes 8 = .ok (.if_icmp .ge 31, 3) := by decide +kernel
theorem dX7_passes_11 : decode cX7_passes 11 = .ok (.aload_n 0, 1) := by decide +kernel
theorem dX7_passes_12 : decode cX7_passes 12 = .ok (.getfield 7, 3) := by decide +kernel
theorem dX7_passes_15 : decode cX7_passes 15 = .ok (.aload_n 0, 1) := by decide +kernel
theorem dX7_passes_16 : decode cX7_passes 16 = .ok (.getfield 95, 3) := by decide +kernel
theorem dX7_passes_19 : decode cX7_passes 19 = .ok (.iaload, 1) := by decide +kernel
theorem dX7_passes_20 : decode cX7_passes 20 = .ok (.invokestatic 105, 3) := by decide +kernel
theorem dX7_passes_23 : decode cX7_passes 23 = .ok (.ifCond .eq 16, 3) := by decide +kernel
theorem dX7_passes_26 : decode cX7_passes 26 = .ok (.aload_n 0, 1) := by decide +kernel
theorem dX7_passes_27 : decode cX7_passes 27 = .ok (.dup, 1) := by decide +kernel
theorem dX7_passes_28 : decode cX7_passes 28 = .ok (.getfield 95, 3) := by decide +kernel
theorem dX7_passes_31 : decode cX7_passes 31 = .ok (.iconst 1, 1) := by decide +kernel
theorem dX7_passes_32 : decode cX7_passes 32 = .ok (.iadd, 1) := by decide +kernel
theorem dX7_passes_33 : decode cX7_passes 33 = .ok (.putfield 95, 3) := by decide +kernel
theorem dX7_passes_36 : decode cX7_passes 36 = .ok (.goto (-36), 3) := by decide +kernel
theorem dX7_passes_39 : decode cX7_passes 39 = .ok (.aload_n 0, 1) := by decide +kernel
theorem dX7_passes_40 : decode cX7_passes 40 = .ok (.aload_n 0, 1) := by decide +kernel
theorem dX7_passes_41 : decode cX7_passes 41 = .ok (.getfield 95, 3) := by decide +kernel
theorem dX7_passes_44 : decode cX7_passes 44 = .ok (.putfield 108, 3) := by decide +kernel
theorem dX7_passes_47 : decode cX7_passes 47 = .ok (.return_, 1) := by decide +kernel
theorem dX7_takes_0 : decode cX7_takes 0 = .ok (.aload_n 0, 1) := by decide +kernel
theorem dX7_takes_1 : decode cX7_takes 1 = .ok (.invokevirtual 129, 3) := by decide +kernel
theorem dX7_takes_4 : decode cX7_takes 4 = .ok (.iload_n 1, 1) := by decide +kernel
theorem dX7_takes_5 : decode cX7_takes 5 = .ok (.if_icmp .eq 5, 3) := by decide +kernel
theorem dX7_takes_8 : decode cX7_takes 8 = .ok (.iconst 0, 1) := by decide +kernel
theorem dX7_takes_9 : decode cX7_takes 9 = .ok (.ireturn, 1) := by decide +kernel
theorem dX7_takes_10 : decode cX7_takes 10 = .ok (.aload_n 0, 1) := by decide +kernel
theorem dX7_takes_11 : decode cX7_takes 11 = .ok (.invokevirtual 132, 3) := by decide +kernel
theorem dX7_takes_14 : decode cX7_takes 14 = .ok (.iconst 1, 1) := by decide +kernel
theorem dX7_takes_15 : decode cX7_takes 15 = .ok (.ireturn, 1) := by decide +kernel
theorem dX7_asks_0 : decode cX7_asks 0 = .ok (.aload_n 0, 1) := by decide +kernel
theorem dX7_asks_1 : decode cX7_asks 1 = .ok (.getfield 89, 3) := by decide +kernel
theorem dX7_asks_4 : decode cX7_asks 4 = .ok (.ifCond .ne 20, 3) := by decide +kernel
theorem dX7_asks_7 : decode cX7_asks 7 = .ok (.aload_n 0, 1) := by decide +kernel
theorem dX7_asks_8 : decode cX7_asks 8 = .ok (.iload_n 1, 1) := by decide +kernel
theorem dX7_asks_9 : decode cX7_asks 9 = .ok (.invokevirtual 135, 3) := by decide +kernel
theorem dX7_asks_12 : decode cX7_asks 12 = .ok (.ifCond .ne 12, 3) := by decide +kernel
theorem dX7_asks_15 : decode cX7_asks 15 = .ok (.aload_n 0, 1) := by decide +kernel
theorem dX7_asks_16 : decode cX7_asks 16 = .ok (.iconst 1, 1) := by decide +kernel
theorem dX7_asks_17 : decode cX7_asks 17 = .ok (.aload_n 0, 1) := by decide +kernel
theorem dX7_asks_18 : decode cX7_asks 18 = .ok (.getfield 95, 3) := by decide +kernel
theorem dX7_asks_21 : decode cX7_asks 21 = .ok (.invokevirtual 114, 3) := by decide +kernel
theorem dX7_asks_24 : decode cX7_asks 24 = .ok (.return_, 1) := by decide +kernel
theorem dX7_name_0 : decode cX7_name 0 = .ok (.aload_n 0, 1) := by decide +kernel
theorem dX7_name_1 : decode cX7_name 1 = .ok (.getfield 89, 3) := by decide +kernel
theorem dX7_name_4 : decode cX7_name 4 = .ok (.ifCond .eq 5, 3) := by decide +kernel
theorem dX7_name_7 : decode cX7_name 7 = .ok (.iconst 0, 1) := by decide +kernel
theorem dX7_name_8 : decode cX7_name 8 = .ok (.ireturn, 1) := by decide +kernel
theorem dX7_name_9 : decode cX7_name 9 = .ok (.aload_n 0, 1) := by decide +kernel
theorem dX7_name_10 : decode cX7_name 10 = .ok (.invokevirtual 121, 3) := by decide +kernel
theorem dX7_name_13 : decode cX7_name 13 = .ok (.ifCond .eq 11, 3) := by decide +kernel
theorem dX7_name_16 : decode cX7_name 16 = .ok (.aload_n 0, 1) := by decide +kernel
theorem dX7_name_17 : decode cX7_name 17 = .ok (.invokevirtual 129, 3) := by decide +kernel
theorem dX7_name_20 : decode cX7_name 20 = .ok (.iconst (-1), 1) := by decide +kernel
theorem dX7_name_21 : decode cX7_name 21 = .ok (.if_icmp .eq 14, 3) := by decide +kernel
theorem dX7_name_24 : decode cX7_name 24 = .ok (.aload_n 0, 1) := by decide +kernel
theorem dX7_name_25 : decode cX7_name 25 = .ok (.iconst 1, 1) := by decide +kernel
theorem dX7_name_26 : decode cX7_name 26 = .ok (.aload_n 0, 1) := by decide +kernel
theorem dX7_name_27 : decode cX7_name 27 = .ok (.getfield 95, 3) := by decide +kernel
theorem dX7_name_30 : decode cX7_name 30 = .ok (.invokevirtual 114, 3) := by decide +kernel
theorem dX7_name_33 : decode cX7_name 33 = .ok (.iconst 0, 1) := by decide +kernel
theorem dX7_name_34 : decode cX7_name 34 = .ok (.ireturn, 1) := by decide +kernel
theorem dX7_name_35 : decode cX7_name 35 = .ok (.aload_n 0, 1) := by decide +kernel
theorem dX7_name_36 : decode cX7_name 36 = .ok (.aload_n 0, 1) := by decide +kernel
theorem dX7_name_37 : decode cX7_name 37 = .ok (.getfield 95, 3) := by decide +kernel
theorem dX7_name_40 : decode cX7_name 40 = .ok (.putfield 138, 3) := by decide +kernel
theorem dX7_name_43 : decode cX7_name 43 = .ok (.iconst 0, 1) := by decide +kernel
theorem dX7_name_44 : decode cX7_name 44 = .ok (.istore_n 1, 1) := by decide +kernel
theorem dX7_name_45 : decode cX7_name 45 = .ok (.aload_n 0, 1) := by decide +kernel
theorem dX7_name_46 : decode cX7_name 46 = .ok (.getfield 95, 3) := by decide +kernel
theorem dX7_name_49 : decode cX7_name 49 = .ok (.aload_n 0, 1) := by decide +kernel
theorem dX7_name_50 : decode cX7_name 50 = .ok (.getfield 98, 3) := by decide +kernel
theorem dX7_name_53 : decode cX7_name 53 = .ok (.if_icmp .ge 76, 3) := by decide +kernel
theorem dX7_name_56 : decode cX7_name 56 = .ok (.aload_n 0, 1) := by decide +kernel
theorem dX7_name_57 : decode cX7_name 57 = .ok (.getfield 7, 3) := by decide +kernel
theorem dX7_name_60 : decode cX7_name 60 = .ok (.aload_n 0, 1) := by decide +kernel
theorem dX7_name_61 : decode cX7_name 61 = .ok (.getfield 95, 3) := by decide +kernel
theorem dX7_name_64 : decode cX7_name 64 = .ok (.iaload, 1) := by decide +kernel
theorem dX7_name_65 : decode cX7_name 65 = .ok (.invokestatic 105, 3) := by decide +kernel
theorem dX7_name_68 : decode cX7_name 68 = .ok (.ifCond .eq 61, 3) := by decide +kernel
theorem dX7_name_71 : decode cX7_name 71 = .ok (.aload_n 0, 1) := by decide +kernel
theorem dX7_name_72 : decode cX7_name 72 = .ok (.getfield 95, 3) := by decide +kernel
theorem dX7_name_75 : decode cX7_name 75 = .ok (.aload_n 0, 1) := by decide +kernel
theorem dX7_name_76 : decode cX7_name 76 = .ok (.getfield 138, 3) := by decide +kernel
theorem dX7_name_79 : decode cX7_name 79 = .ok (.isub, 1) := by decide +kernel
theorem dX7_name_80 : decode cX7_name 80 = .ok (.bipush 6, 2) := by decide +kernel
theorem dX7_name_82 : decode cX7_name 82 = .ok (.if_icmp .ne 14, 3) := by decide +kernel
theorem dX7_name_85 : decode cX7_name 85 = .ok (.aload_n 0, 1) := by decide +kernel
theorem dX7_name_86 : decode cX7_name 86 = .ok (.iconst 1, 1) := by decide +kernel
theorem dX7_name_87 : decode cX7_name 87 = .ok (.aload_n 0, 1) := by decide +kernel
theorem dX7_name_88 : decode cX7_name 88 = .ok (.getfield 95, 3) := by decide +kernel
theorem dX7_name_91 : decode cX7_name 91 = .ok (.invokevirtual 114, 3) := by decide +kernel
theorem dX7_name_94 : decode cX7_name 94 = .ok (.iconst 0, 1) := by decide +kernel
theorem dX7_name_95 : decode cX7_name 95 = .ok (.ireturn, 1) := by decide +kernel
theorem dX7_name_96 : decode cX7_name 96 = .ok (.bipush 27, 2) := by decide +kernel
theorem dX7_name_98 : decode cX7_name 98 = .ok (.iload_n 1, 1) := by decide +kernel
theorem dX7_name_99 : decode cX7_name 99 = .ok (.imul, 1) := by decide +kernel
theorem dX7_name_100 : decode cX7_name 100 = .ok (.aload_n 0, 1) := by decide +kernel
theorem dX7_name_101 : decode cX7_name 101 = .ok (.getfield 7, 3) := by decide +kernel
theorem dX7_name_104 : decode cX7_name 104 = .ok (.aload_n 0, 1) := by decide +kernel
theorem dX7_name_105 : decode cX7_name 105 = .ok (.getfield 95, 3) := by decide +kernel
theorem dX7_name_108 : decode cX7_name 108 = .ok (.iaload, 1) := by decide +kernel
theorem dX7_name_109 : decode cX7_name 109 = .ok (.iadd, 1) := by decide +kernel
theorem dX7_name_110 : decode cX7_name 110 = .ok (.bipush 97, 2) := by decide +kernel
theorem dX7_name_112 : decode cX7_name 112 = .ok (.isub, 1) := by decide +kernel
theorem dX7_name_113 : decode cX7_name 113 = .ok (.iconst 1, 1) := by decide +kernel
theorem dX7_name_114 : decode cX7_name 114 = .ok (.iadd, 1) := by decide +kernel
theorem dX7_name_115 : decode cX7_name 115 = .ok (.istore_n 1, 1) := by decide +kernel
theorem dX7_name_116 : decode cX7_name 116 = .ok (.aload_n 0, 1) := by decide +kernel
theorem dX7_name_117 : decode cX7_name 117 = .ok (.dup, 1) := by decide +kernel
theorem dX7_name_118 : decode cX7_name 118 = .ok (.getfield 95, 3) := by decide +kernel
theorem dX7_name_121 : decode cX7_name 121 = .ok (.iconst 1, 1) := by decide +kernel
theorem dX7_name_122 : decode cX7_name 122 = .ok (.iadd, 1) := by decide +kernel
theorem dX7_name_123 : decode cX7_name 123 = .ok (.putfield 95, 3) := by decide +kernel
theorem dX7_name_126 : decode cX7_name 126 = .ok (.goto (-81), 3) := by decide +kernel
theorem dX7_name_129 : decode cX7_name 129 = .ok (.aload_n 0, 1) := by decide +kernel
theorem dX7_name_130 : decode cX7_name 130 = .ok (.aload_n 0, 1) := by decide +kernel
theorem dX7_name_131 : decode cX7_name 131 = .ok (.getfield 95, 3) := by decide +kernel
theorem dX7_name_134 : decode cX7_name 134 = .ok (.putfield 108, 3) := by decide +kernel
theorem dX7_name_137 : decode cX7_name 137 = .ok (.iload_n 1, 1) := by decide +kernel
theorem dX7_name_138 : decode cX7_name 138 = .ok (.ireturn, 1) := by decide +kernel
theorem dX7_lineAt_0 : decode cX7_lineAt 0 = .ok (.bipush 8, 2) := by decide +kernel
theorem dX7_lineAt_2 : decode cX7_lineAt 2 = .ok (.iload_n 0, 1) := by decide +kernel
theorem dX7_lineAt_3 : decode cX7_lineAt 3 = .ok (.imul, 1) := by decide +kernel
theorem dX7_lineAt_4 : decode cX7_lineAt 4 = .ok (.iload_n 1, 1) := by decide +kernel
theorem dX7_lineAt_5 : decode cX7_lineAt 5 = .ok (.iadd, 1) := by decide +kernel
theorem dX7_lineAt_6 : decode cX7_lineAt 6 = .ok (.ireturn, 1) := by decide +kernel
theorem dX7_drafted_0 : decode cX7_drafted 0 = .ok (.aload_n 0, 1) := by decide +kernel
theorem dX7_drafted_1 : decode cX7_drafted 1 = .ok (.getfield 24, 3) := by decide +kernel
theorem dX7_drafted_4 : decode cX7_drafted 4 = .ok (.sipush 387, 3) := by decide +kernel
theorem dX7_drafted_7 : decode cX7_drafted 7 = .ok (.iaload, 1) := by decide +kernel
theorem dX7_drafted_8 : decode cX7_drafted 8 = .ok (.ireturn, 1) := by decide +kernel
theorem dX7_lays_0 : decode cX7_lays 0 = .ok (.aload_n 0, 1) := by decide +kernel
theorem dX7_lays_1 : decode cX7_lays 1 = .ok (.getfield 89, 3) := by decide +kernel
theorem dX7_lays_4 : decode cX7_lays 4 = .ok (.ifCond .ne 17, 3) := by decide +kernel
theorem dX7_lays_7 : decode cX7_lays 7 = .ok (.aload_n 0, 1) := by decide +kernel
theorem dX7_lays_8 : decode cX7_lays 8 = .ok (.getfield 24, 3) := by decide +kernel
theorem dX7_lays_11 : decode cX7_lays 11 = .ok (.aload_n 0, 1) := by decide +kernel
theorem dX7_lays_12 : decode cX7_lays 12 = .ok (.invokevirtual 141, 3) := by decide +kernel
theorem dX7_lays_15 : decode cX7_lays 15 = .ok (.iload_n 1, 1) := by decide +kernel
theorem dX7_lays_16 : decode cX7_lays 16 = .ok (.invokestatic 144, 3) := by decide +kernel
theorem dX7_lays_19 : decode cX7_lays 19 = .ok (.iload_n 2, 1) := by decide +kernel
theorem dX7_lays_20 : decode cX7_lays 20 = .ok (.iastore, 1) := by decide +kernel
theorem dX7_lays_21 : decode cX7_lays 21 = .ok (.return_, 1) := by decide +kernel
theorem dX7_registerTold_0 : decode cX7_registerTold 0 = .ok (.aload_n 0, 1) := by decide +kernel
theorem dX7_registerTold_1 : decode cX7_registerTold 1 = .ok (.invokevirtual 129, 3) := by decide +kernel
theorem dX7_registerTold_4 : decode cX7_registerTold 4 = .ok (.istore_n 1, 1) := by decide +kernel
theorem dX7_registerTold_5 : decode cX7_registerTold 5 = .ok (.aload_n 0, 1) := by decide +kernel
theorem dX7_registerTold_6 : decode cX7_registerTold 6 = .ok (.getfield 89, 3) := by decide +kernel
theorem dX7_registerTold_9 : decode cX7_registerTold 9 = .ok (.ifCond .ne 41, 3) := by decide +kernel
theorem dX7_registerTold_12 : decode cX7_registerTold 12 = .ok (.iload_n 1, 1) := by decide +kernel
theorem dX7_registerTold_13 : decode cX7_registerTold 13 = .ok (.i2l, 1) := by decide +kernel
theorem dX7_registerTold_14 : decode cX7_registerTold 14 = .ok (.ldc2_w 148, 3) := by decide +kernel
theorem dX7_registerTold_17 : decode cX7_registerTold 17 = .ok (.ldc2_w 150, 3) := by decide +kernel
theorem dX7_registerTold_20 : decode cX7_registerTold 20 = .ok (.invokestatic 82, 3) := by decide +kernel
theorem dX7_registerTold_23 : decode cX7_registerTold 23 = .ok (.ifCond .ne 27, 3) := by decide +kernel
theorem dX7_registerTold_26 : decode cX7_registerTold 26 = .ok (.aload_n 0, 1) := by decide +kernel
theorem dX7_registerTold_27 : decode cX7_registerTold 27 = .ok (.iconst 1, 1) := by decide +kernel
theorem dX7_registerTold_28 : decode cX7_registerTold 28 = .ok (.aload_n 0, 1) := by decide +kernel
theorem dX7_registerTold_29 : decode cX7_registerTold 29 = .ok (.invokevirtual 101, 3) := by decide +kernel
theorem dX7_registerTold_32 : decode cX7_registerTold 32 = .ok (.iconst (-1), 1) := by decide +kernel
theorem dX7_registerTold_33 : decode cX7_registerTold 33 = .ok (.if_icmp .ne 10, 3) := by decide +kernel
theorem dX7_registerTold_36 : decode cX7_registerTold 36 = .ok (.aload_n 0, 1) := by decide +kernel
theorem dX7_registerTold_37 : decode cX7_registerTold 37 = .ok (.getfield 98, 3) := by decide +kernel
theorem dX7_registerTold_40 : decode cX7_registerTold 40 = .ok (.goto 7, 3) := by decide +kernel
theorem dX7_registerTold_43 : decode cX7_registerTold 43 = .ok (.aload_n 0, 1) := by decide +kernel
theorem dX7_registerTold_44 : decode cX7_registerTold 44 = .ok (.getfield 95, 3) := by decide +kernel
theorem dX7_registerTold_47 : decode cX7_registerTold 47 = .ok (.invokevirtual 114, 3) := by decide +kernel
theorem dX7_registerTold_50 : decode cX7_registerTold 50 = .ok (.aload_n 0, 1) := by decide +kernel
theorem dX7_registerTold_51 : decode cX7_registerTold 51 = .ok (.getfield 89, 3) := by decide +kernel
theorem dX7_registerTold_54 : decode cX7_registerTold 54 = .ok (.ifCond .eq 5, 3) := by decide +kernel
theorem dX7_registerTold_57 : decode cX7_registerTold 57 = .ok (.iconst 0, 1) := by decide +kernel
theorem dX7_registerTold_58 : decode cX7_registerTold 58 = .ok (.ireturn, 1) := by decide +kernel
theorem dX7_registerTold_59 : decode cX7_registerTold 59 = .ok (.aload_n 0, 1) := by decide +kernel
theorem dX7_registerTold_60 : decode cX7_registerTold 60 = .ok (.invokevirtual 132, 3) := by decide +kernel
theorem dX7_registerTold_63 : decode cX7_registerTold 63 = .ok (.iload_n 1, 1) := by decide +kernel
theorem dX7_registerTold_64 : decode cX7_registerTold 64 = .ok (.bipush 16, 2) := by decide +kernel
theorem dX7_registerTold_66 : decode cX7_registerTold 66 = .ok (.isub, 1) := by decide +kernel
theorem dX7_registerTold_67 : decode cX7_registerTold 67 = .ok (.ireturn, 1) := by decide +kernel
theorem dX7_partTold_0 : decode cX7_partTold 0 = .ok (.aload_n 0, 1) := by decide +kernel
theorem dX7_partTold_1 : decode cX7_partTold 1 = .ok (.invokevirtual 101, 3) := by decide +kernel
theorem dX7_partTold_4 : decode cX7_partTold 4 = .ok (.istore_n 1, 1) := by decide +kernel
theorem dX7_partTold_5 : decode cX7_partTold 5 = .ok (.aload_n 0, 1) := by decide +kernel
theorem dX7_partTold_6 : decode cX7_partTold 6 = .ok (.getfield 89, 3) := by decide +kernel
theorem dX7_partTold_9 : decode cX7_partTold 9 = .ok (.ifCond .ne 30, 3) := by decide +kernel
theorem dX7_partTold_12 : decode cX7_partTold 12 = .ok (.iload_n 1, 1) := by decide +kernel
theorem dX7_partTold_13 : decode cX7_partTold 13 = .ok (.invokestatic 118, 3) := by decide +kernel
theorem dX7_partTold_16 : decode cX7_partTold 16 = .ok (.ifCond .eq 23, 3) := by decide +kernel
theorem dX7_partTold_19 : decode cX7_partTold 19 = .ok (.aload_n 0, 1) := by decide +kernel
theorem dX7_partTold_20 : decode cX7_partTold 20 = .ok (.getfield 95, 3) := by decide +kernel
theorem dX7_partTold_23 : decode cX7_partTold 23 = .ok (.aload_n 0, 1) := by decide +kernel
theorem dX7_partTold_24 : decode cX7_partTold 24 = .ok (.getfield 108, 3) := by decide +kernel
theorem dX7_partTold_27 : decode cX7_partTold 27 = .ok (.if_icmp .eq 12, 3) := by decide +kernel
theorem dX7_partTold_30 : decode cX7_partTold 30 = .ok (.aload_n 0, 1) := by decide +kernel
theorem dX7_partTold_31 : decode cX7_partTold 31 = .ok (.iconst 0, 1) := by decide +kernel
theorem dX7_partTold_32 : decode cX7_partTold 32 = .ok (.sipush 999, 3) := by decide +kernel
theorem dX7_partTold_35 : decode cX7_partTold 35 = .ok (.invokevirtual 152, 3) := by decide +kernel
theorem dX7_partTold_38 : decode cX7_partTold 38 = .ok (.ireturn, 1) := by decide +kernel
theorem dX7_partTold_39 : decode cX7_partTold 39 = .ok (.iconst (-1), 1) := by decide +kernel
theorem dX7_partTold_40 : decode cX7_partTold 40 = .ok (.aload_n 0, 1) := by decide +kernel
theorem dX7_partTold_41 : decode cX7_partTold 41 = .ok (.invokevirtual 155, 3) := by decide +kernel
theorem dX7_partTold_44 : decode cX7_partTold 44 = .ok (.isub, 1) := by decide +kernel
theorem dX7_partTold_45 : decode cX7_partTold 45 = .ok (.ireturn, 1) := by decide +kernel
theorem dX7_goTold_0 : decode cX7_goTold 0 = .ok (.aload_n 0, 1) := by decide +kernel
theorem dX7_goTold_1 : decode cX7_goTold 1 = .ok (.getfield 30, 3) := by decide +kernel
theorem dX7_goTold_4 : decode cX7_goTold 4 = .ok (.aload_n 0, 1) := by decide +kernel
theorem dX7_goTold_5 : decode cX7_goTold 5 = .ok (.invokevirtual 141, 3) := by decide +kernel
theorem dX7_goTold_8 : decode cX7_goTold 8 = .ok (.iconst (-1), 1) := by decide +kernel
theorem dX7_goTold_9 : decode cX7_goTold 9 = .ok (.iastore, 1) := by decide +kernel
theorem dX7_goTold_10 : decode cX7_goTold 10 = .ok (.aload_n 0, 1) := by decide +kernel
theorem dX7_goTold_11 : decode cX7_goTold 11 = .ok (.invokevirtual 158, 3) := by decide +kernel
theorem dX7_goTold_14 : decode cX7_goTold 14 = .ok (.istore_n 1, 1) := by decide +kernel
theorem dX7_goTold_15 : decode cX7_goTold 15 = .ok (.aload_n 0, 1) := by decide +kernel
theorem dX7_goTold_16 : decode cX7_goTold 16 = .ok (.getfield 89, 3) := by decide +kernel
theorem dX7_goTold_19 : decode cX7_goTold 19 = .ok (.ifCond .ne 16, 3) := by decide +kernel
theorem dX7_goTold_22 : decode cX7_goTold 22 = .ok (.aload_n 0, 1) := by decide +kernel
theorem dX7_goTold_23 : decode cX7_goTold 23 = .ok (.getfield 30, 3) := by decide +kernel
theorem dX7_goTold_26 : decode cX7_goTold 26 = .ok (.aload_n 0, 1) := by decide +kernel
theorem dX7_goTold_27 : decode cX7_goTold 27 = .ok (.invokevirtual 141, 3) := by decide +kernel
theorem dX7_goTold_30 : decode cX7_goTold 30 = .ok (.aload_n 0, 1) := by decide +kernel
theorem dX7_goTold_31 : decode cX7_goTold 31 = .ok (.getfield 138, 3) := by decide +kernel
theorem dX7_goTold_34 : decode cX7_goTold 34 = .ok (.iastore, 1) := by decide +kernel
theorem dX7_goTold_35 : decode cX7_goTold 35 = .ok (.aload_n 0, 1) := by decide +kernel
theorem dX7_goTold_36 : decode cX7_goTold 36 = .ok (.iconst 4, 1) := by decide +kernel
theorem dX7_goTold_37 : decode cX7_goTold 37 = .ok (.iload_n 1, 1) := by decide +kernel
theorem dX7_goTold_38 : decode cX7_goTold 38 = .ok (.invokevirtual 161, 3) := by decide +kernel
theorem dX7_goTold_41 : decode cX7_goTold 41 = .ok (.aload_n 0, 1) := by decide +kernel
theorem dX7_goTold_42 : decode cX7_goTold 42 = .ok (.bipush 28, 2) := by decide +kernel
theorem dX7_goTold_44 : decode cX7_goTold 44 = .ok (.invokevirtual 135, 3) := by decide +kernel
theorem dX7_goTold_47 : decode cX7_goTold 47 = .ok (.ifCond .ne 4, 3) := by decide +kernel
theorem dX7_goTold_50 : decode cX7_goTold 50 = .ok (.return_, 1) := by decide +kernel
theorem dX7_goTold_51 : decode cX7_goTold 51 = .ok (.aload_n 0, 1) := by decide +kernel
theorem dX7_goTold_52 : decode cX7_goTold 52 = .ok (.iconst 2, 1) := by decide +kernel
theorem dX7_goTold_53 : decode cX7_goTold 53 = .ok (.aload_n 0, 1) := by decide +kernel
theorem dX7_goTold_54 : decode cX7_goTold 54 = .ok (.invokevirtual 164, 3) := by decide +kernel
theorem dX7_goTold_57 : decode cX7_goTold 57 = .ok (.invokevirtual 161, 3) := by decide +kernel
theorem dX7_goTold_60 : decode cX7_goTold 60 = .ok (.aload_n 0, 1) := by decide +kernel
theorem dX7_goTold_61 : decode cX7_goTold 61 = .ok (.invokevirtual 101, 3) := by decide +kernel
theorem dX7_goTold_64 : decode cX7_goTold 64 = .ok (.istore_n 2, 1) := by decide +kernel
theorem dX7_goTold_65 : decode cX7_goTold 65 = .ok (.aload_n 0, 1) := by decide +kernel
theorem dX7_goTold_66 : decode cX7_goTold 66 = .ok (.getfield 89, 3) := by decide +kernel
theorem dX7_goTold_69 : decode cX7_goTold 69 = .ok (.ifCond .ne 30, 3) := by decide +kernel
theorem dX7_goTold_72 : decode cX7_goTold 72 = .ok (.iload_n 2, 1) := by decide +kernel
theorem dX7_goTold_73 : decode cX7_goTold 73 = .ok (.bipush 60, 2) := by decide +kernel
theorem dX7_goTold_75 : decode cX7_goTold 75 = .ok (.if_icmp .eq 24, 3) := by decide +kernel
theorem dX7_goTold_78 : decode cX7_goTold 78 = .ok (.iload_n 2, 1) := by decide +kernel
theorem dX7_goTold_79 : decode cX7_goTold 79 = .ok (.bipush 61, 2) := by decide +kernel
theorem dX7_goTold_81 : decode cX7_goTold 81 = .ok (.if_icmp .eq 18, 3) := by decide +kernel
theorem dX7_goTold_84 : decode cX7_goTold 84 = .ok (.iload_n 2, 1) := by decide +kernel
theorem dX7_goTold_85 : decode cX7_goTold 85 = .ok (.bipush 62, 2) := by decide +kernel
theorem dX7_goTold_87 : decode cX7_goTold 87 = .ok (.if_icmp .eq 12, 3) := by decide +kernel
theorem dX7_goTold_90 : decode cX7_goTold 90 = .ok (.aload_n 0, 1) := by decide +kernel
theorem dX7_goTold_91 : decode cX7_goTold 91 = .ok (.iconst 1, 1) := by decide +kernel
theorem dX7_goTold_92 : decode cX7_goTold 92 = .ok (.aload_n 0, 1) := by decide +kernel
theorem dX7_goTold_93 : decode cX7_goTold 93 = .ok (.getfield 95, 3) := by decide +kernel
theorem dX7_goTold_96 : decode cX7_goTold 96 = .ok (.invokevirtual 114, 3) := by decide +kernel
theorem dX7_goTold_99 : decode cX7_goTold 99 = .ok (.aload_n 0, 1) := by decide +kernel
theorem dX7_goTold_100 : decode cX7_goTold 100 = .ok (.getfield 89, 3) := by decide +kernel
theorem dX7_goTold_103 : decode cX7_goTold 103 = .ok (.ifCond .eq 4, 3) := by decide +kernel
theorem dX7_goTold_106 : decode cX7_goTold 106 = .ok (.return_, 1) := by decide +kernel
theorem dX7_goTold_107 : decode cX7_goTold 107 = .ok (.aload_n 0, 1) := by decide +kernel
theorem dX7_goTold_108 : decode cX7_goTold 108 = .ok (.dup, 1) := by decide +kernel
theorem dX7_goTold_109 : decode cX7_goTold 109 = .ok (.getfield 95, 3) := by decide +kernel
theorem dX7_goTold_112 : decode cX7_goTold 112 = .ok (.iconst 1, 1) := by decide +kernel
theorem dX7_goTold_113 : decode cX7_goTold 113 = .ok (.iadd, 1) := by decide +kernel
theorem dX7_goTold_114 : decode cX7_goTold 114 = .ok (.putfield 95, 3) := by decide +kernel
theorem dX7_goTold_117 : decode cX7_goTold 117 = .ok (.aload_n 0, 1) := by decide +kernel
theorem dX7_goTold_118 : decode cX7_goTold 118 = .ok (.iconst 5, 1) := by decide +kernel
theorem dX7_goTold_119 : decode cX7_goTold 119 = .ok (.iload_n 2, 1) := by decide +kernel
theorem dX7_goTold_120 : decode cX7_goTold 120 = .ok (.bipush 60, 2) := by decide +kernel
theorem dX7_goTold_122 : decode cX7_goTold 122 = .ok (.if_icmp .ne 7, 3) := by decide +kernel
theorem dX7_goTold_125 : decode cX7_goTold 125 = .ok (.iconst 0, 1) := by decide +kernel
theorem dX7_goTold_126 : decode cX7_goTold 126 = .ok (.goto 14, 3) := by decide +kernel
theorem dX7_goTold_129 : decode cX7_goTold 129 = .ok (.iload_n 2, 1) := by decide +kernel
theorem dX7_goTold_130 : decode cX7_goTold 130 = .ok (.bipush 61, 2) := by decide +kernel
theorem dX7_goTold_132 : decode cX7_goTold 132 = .ok (.if_icmp .ne 7, 3) := by decide +kernel
theorem dX7_goTold_135 : decode cX7_goTold 135 = .ok (.iconst 1, 1) := by decide +kernel
theorem dX7_goTold_136 : decode cX7_goTold 136 = .ok (.goto 4, 3) := by decide +kernel
theorem dX7_goTold_139 : decode cX7_goTold 139 = .ok (.iconst 2, 1) := by decide +kernel
theorem dX7_goTold_140 : decode cX7_goTold 140 = .ok (.invokevirtual 161, 3) := by decide +kernel
theorem dX7_goTold_143 : decode cX7_goTold 143 = .ok (.aload_n 0, 1) := by decide +kernel
theorem dX7_goTold_144 : decode cX7_goTold 144 = .ok (.iconst 3, 1) := by decide +kernel
theorem dX7_goTold_145 : decode cX7_goTold 145 = .ok (.aload_n 0, 1) := by decide +kernel
theorem dX7_goTold_146 : decode cX7_goTold 146 = .ok (.invokevirtual 164, 3) := by decide +kernel
theorem dX7_goTold_149 : decode cX7_goTold 149 = .ok (.invokevirtual 161, 3) := by decide +kernel
theorem dX7_goTold_152 : decode cX7_goTold 152 = .ok (.return_, 1) := by decide +kernel
theorem dX7_hasRegister_0 : decode cX7_hasRegister 0 = .ok (.iload_n 0, 1) := by decide +kernel
theorem dX7_hasRegister_1 : decode cX7_hasRegister 1 = .ok (.bipush 7, 2) := by decide +kernel
theorem dX7_hasRegister_3 : decode cX7_hasRegister 3 = .ok (.if_icmp .le 15, 3) := by decide +kernel
theorem dX7_hasRegister_6 : decode cX7_hasRegister 6 = .ok (.iload_n 0, 1) := by decide +kernel
theorem dX7_hasRegister_7 : decode cX7_hasRegister 7 = .ok (.bipush 9, 2) := by decide +kernel
theorem dX7_hasRegister_9 : decode cX7_hasRegister 9 = .ok (.if_icmp .eq 9, 3) := by decide +kernel
theorem dX7_hasRegister_12 : decode cX7_hasRegister 12 = .ok (.iload_n 0, 1) := by decide +kernel
theorem dX7_hasRegister_13 : decode cX7_hasRegister 13 = .ok (.bipush 11, 2) := by decide +kernel
theorem dX7_hasRegister_15 : decode cX7_hasRegister 15 = .ok (.if_icmp .ne 7, 3) := by decide +kernel
theorem dX7_hasRegister_18 : decode cX7_hasRegister 18 = .ok (.iconst 1, 1) := by decide +kernel
theorem dX7_hasRegister_19 : decode cX7_hasRegister 19 = .ok (.goto 4, 3) := by decide +kernel
theorem dX7_hasRegister_22 : decode cX7_hasRegister 22 = .ok (.iconst 0, 1) := by decide +kernel
theorem dX7_hasRegister_23 : decode cX7_hasRegister 23 = .ok (.ireturn, 1) := by decide +kernel
theorem dX7_partsOf_0 : decode cX7_partsOf 0 = .ok (.iload_n 0, 1) := by decide +kernel
theorem dX7_partsOf_1 : decode cX7_partsOf 1 = .ok (.iconst 5, 1) := by decide +kernel
theorem dX7_partsOf_2 : decode cX7_partsOf 2 = .ok (.if_icmp .eq 15, 3) := by decide +kernel
theorem dX7_partsOf_5 : decode cX7_partsOf 5 = .ok (.iload_n 0, 1) := by decide +kernel
theorem dX7_partsOf_6 : decode cX7_partsOf 6 = .ok (.bipush 6, 2) := by decide +kernel
theorem dX7_partsOf_8 : decode cX7_partsOf 8 = .ok (.if_icmp .eq 9, 3) := by decide +kernel
theorem dX7_partsOf_11 : decode cX7_partsOf 11 = .ok (.iload_n 0, 1) := by decide +kernel
theorem dX7_partsOf_12 : decode cX7_partsOf 12 = .ok (.bipush 11, 2) := by decide +kernel
theorem dX7_partsOf_14 : decode cX7_partsOf 14 = .ok (.if_icmp .le 7, 3) := by decide +kernel
theorem dX7_partsOf_17 : decode cX7_partsOf 17 = .ok (.iconst 0, 1) := by decide +kernel
theorem dX7_partsOf_18 : decode cX7_partsOf 18 = .ok (.goto 30, 3) := by decide +kernel
theorem dX7_partsOf_21 : decode cX7_partsOf 21 = .ok (.iload_n 0, 1) := by decide +kernel
theorem dX7_partsOf_22 : decode cX7_partsOf 22 = .ok (.ifCond .eq 21, 3) := by decide +kernel
theorem dX7_partsOf_25 : decode cX7_partsOf 25 = .ok (.iload_n 0, 1) := by decide +kernel
theorem dX7_partsOf_26 : decode cX7_partsOf 26 = .ok (.bipush 7, 2) := by decide +kernel
theorem dX7_partsOf_28 : decode cX7_partsOf 28 = .ok (.if_icmp .eq 15, 3) := by decide +kernel
theorem dX7_partsOf_31 : decode cX7_partsOf 31 = .ok (.iload_n 0, 1) := by decide +kernel
theorem dX7_partsOf_32 : decode cX7_partsOf 32 = .ok (.bipush 9, 2) := by decide +kernel
theorem dX7_partsOf_34 : decode cX7_partsOf 34 = .ok (.if_icmp .eq 9, 3) := by decide +kernel
theorem dX7_partsOf_37 : decode cX7_partsOf 37 = .ok (.iload_n 0, 1) := by decide +kernel
theorem dX7_partsOf_38 : decode cX7_partsOf 38 = .ok (.bipush 11, 2) := by decide +kernel
theorem dX7_partsOf_40 : decode cX7_partsOf 40 = .ok (.if_icmp .ne 7, 3) := by decide +kernel
theorem dX7_partsOf_43 : decode cX7_partsOf 43 = .ok (.iconst 1, 1) := by decide +kernel
theorem dX7_partsOf_44 : decode cX7_partsOf 44 = .ok (.goto 4, 3) := by decide +kernel
theorem dX7_partsOf_47 : decode cX7_partsOf 47 = .ok (.iconst 2, 1) := by decide +kernel
theorem dX7_partsOf_48 : decode cX7_partsOf 48 = .ok (.ireturn, 1) := by decide +kernel
theorem dX7_lineTold_0 : decode cX7_lineTold 0 = .ok (.iconst 1, 1) := by decide +kernel
theorem dX7_lineTold_1 : decode cX7_lineTold 1 = .ok (.istore_n 2, 1) := by decide +kernel
theorem dX7_lineTold_2 : decode cX7_lineTold 2 = .ok (.iload_n 2, 1) := by decide +kernel
theorem dX7_lineTold_3 : decode cX7_lineTold 3 = .ok (.bipush 7, 2) := by decide +kernel
theorem dX7_lineTold_5 : decode cX7_lineTold 5 = .ok (.if_icmp .ge 16, 3) := by decide +kernel
theorem dX7_lineTold_8 : decode cX7_lineTold 8 = .ok (.aload_n 0, 1) := by decide +kernel
theorem dX7_lineTold_9 : decode cX7_lineTold 9 = .ok (.iload_n 2, 1) := by decide +kernel
theorem dX7_lineTold_10 : decode cX7_lineTold 10 = .ok (.ldc 167, 2) := by decide +kernel
theorem dX7_lineTold_12 : decode cX7_lineTold 12 = .ok (.invokevirtual 161, 3) := by decide +kernel
theorem dX7_lineTold_15 : decode cX7_lineTold 15 = .ok (.iinc 2 1, 3) := by decide +kernel
theorem dX7_lineTold_18 : decode cX7_lineTold 18 = .ok (.goto (-16), 3) := by decide +kernel
theorem dX7_lineTold_21 : decode cX7_lineTold 21 = .ok (.aload_n 0, 1) := by decide +kernel
theorem dX7_lineTold_22 : decode cX7_lineTold 22 = .ok (.bipush 7, 2) := by decide +kernel
theorem dX7_lineTold_24 : decode cX7_lineTold 24 = .ok (.iload_n 1, 1) := by decide +kernel
theorem dX7_lineTold_25 : decode cX7_lineTold 25 = .ok (.invokevirtual 161, 3) := by decide +kernel
theorem dX7_lineTold_28 : decode cX7_lineTold 28 = .ok (.aload_n 0, 1) := by decide +kernel
theorem dX7_lineTold_29 : decode cX7_lineTold 29 = .ok (.invokevirtual 129, 3) := by decide +kernel
theorem dX7_lineTold_32 : decode cX7_lineTold 32 = .ok (.istore_n 2, 1) := by decide +kernel
theorem dX7_lineTold_33 : decode cX7_lineTold 33 = .ok (.aload_n 0, 1) := by decide +kernel
theorem dX7_lineTold_34 : decode cX7_lineTold 34 = .ok (.getfield 89, 3) := by decide +kernel
theorem dX7_lineTold_37 : decode cX7_lineTold 37 = .ok (.ifCond .ne 39, 3) := by decide +kernel
theorem dX7_lineTold_40 : decode cX7_lineTold 40 = .ok (.iload_n 2, 1) := by decide +kernel
theorem dX7_lineTold_41 : decode cX7_lineTold 41 = .ok (.i2l, 1) := by decide +kernel
theorem dX7_lineTold_42 : decode cX7_lineTold 42 = .ok (.lconst 0, 1) := by decide +kernel
theorem dX7_lineTold_43 : decode cX7_lineTold 43 = .ok (.ldc2_w 168, 3) := by decide +kernel
theorem dX7_lineTold_46 : decode cX7_lineTold 46 = .ok (.invokestatic 82, 3) := by decide +kernel
theorem dX7_lineTold_49 : decode cX7_lineTold 49 = .ok (.ifCond .ne 27, 3) := by decide +kernel
theorem dX7_lineTold_52 : decode cX7_lineTold 52 = .ok (.aload_n 0, 1) := by decide +kernel
theorem dX7_lineTold_53 : decode cX7_lineTold 53 = .ok (.iconst 1, 1) := by decide +kernel
theorem dX7_lineTold_54 : decode cX7_lineTold 54 = .ok (.aload_n 0, 1) := by decide +kernel
theorem dX7_lineTold_55 : decode cX7_lineTold 55 = .ok (.invokevirtual 101, 3) := by decide +kernel
theorem dX7_lineTold_58 : decode cX7_lineTold 58 = .ok (.iconst (-1), 1) := by decide +kernel
theorem dX7_lineTold_59 : decode cX7_lineTold 59 = .ok (.if_icmp .ne 10, 3) := by decide +kernel
theorem dX7_lineTold_62 : decode cX7_lineTold 62 = .ok (.aload_n 0, 1) := by decide +kernel
theorem dX7_lineTold_63 : decode cX7_lineTold 63 = .ok (.getfield 98, 3) := by decide +kernel
theorem dX7_lineTold_66 : decode cX7_lineTold 66 = .ok (.goto 7, 3) := by decide +kernel
theorem dX7_lineTold_69 : decode cX7_lineTold 69 = .ok (.aload_n 0, 1) := by decide +kernel
theorem dX7_lineTold_70 : decode cX7_lineTold 70 = .ok (.getfield 95, 3) := by decide +kernel
theorem dX7_lineTold_73 : decode cX7_lineTold 73 = .ok (.invokevirtual 114, 3) := by decide +kernel
theorem dX7_lineTold_76 : decode cX7_lineTold 76 = .ok (.aload_n 0, 1) := by decide +kernel
theorem dX7_lineTold_77 : decode cX7_lineTold 77 = .ok (.getfield 89, 3) := by decide +kernel
theorem dX7_lineTold_80 : decode cX7_lineTold 80 = .ok (.ifCond .eq 4, 3) := by decide +kernel
theorem dX7_lineTold_83 : decode cX7_lineTold 83 = .ok (.return_, 1) := by decide +kernel
theorem dX7_lineTold_84 : decode cX7_lineTold 84 = .ok (.aload_n 0, 1) := by decide +kernel
theorem dX7_lineTold_85 : decode cX7_lineTold 85 = .ok (.invokevirtual 132, 3) := by decide +kernel
theorem dX7_lineTold_88 : decode cX7_lineTold 88 = .ok (.aload_n 0, 1) := by decide +kernel
theorem dX7_lineTold_89 : decode cX7_lineTold 89 = .ok (.iconst 0, 1) := by decide +kernel
theorem dX7_lineTold_90 : decode cX7_lineTold 90 = .ok (.iload_n 2, 1) := by decide +kernel
theorem dX7_lineTold_91 : decode cX7_lineTold 91 = .ok (.invokevirtual 161, 3) := by decide +kernel
theorem dX7_lineTold_94 : decode cX7_lineTold 94 = .ok (.iload_n 2, 1) := by decide +kernel
theorem dX7_lineTold_95 : decode cX7_lineTold 95 = .ok (.invokestatic 170, 3) := by decide +kernel
theorem dX7_lineTold_98 : decode cX7_lineTold 98 = .ok (.ifCond .eq 12, 3) := by decide +kernel
theorem dX7_lineTold_101 : decode cX7_lineTold 101 = .ok (.aload_n 0, 1) := by decide +kernel
theorem dX7_lineTold_102 : decode cX7_lineTold 102 = .ok (.iconst 1, 1) := by decide +kernel
theorem dX7_lineTold_103 : decode cX7_lineTold 103 = .ok (.aload_n 0, 1) := by decide +kernel
theorem dX7_lineTold_104 : decode cX7_lineTold 104 = .ok (.invokevirtual 155, 3) := by decide +kernel
theorem dX7_lineTold_107 : decode cX7_lineTold 107 = .ok (.invokevirtual 161, 3) := by decide +kernel
theorem dX7_lineTold_110 : decode cX7_lineTold 110 = .ok (.iconst 0, 1) := by decide +kernel
theorem dX7_lineTold_111 : decode cX7_lineTold 111 = .ok (.istore_n 3, 1) := by decide +kernel
theorem dX7_lineTold_112 : decode cX7_lineTold 112 = .ok (.iload_n 3, 1) := by decide +kernel
theorem dX7_lineTold_113 : decode cX7_lineTold 113 = .ok (.iload_n 2, 1) := by decide +kernel
theorem dX7_lineTold_114 : decode cX7_lineTold 114 = .ok (.invokestatic 173, 3) := by decide +kernel
theorem dX7_lineTold_117 : decode cX7_lineTold 117 = .ok (.if_icmp .ge 20, 3) := by decide +kernel
theorem dX7_lineTold_120 : decode cX7_lineTold 120 = .ok (.aload_n 0, 1) := by decide +kernel
theorem dX7_lineTold_121 : decode cX7_lineTold 121 = .ok (.iconst 2, 1) := by decide +kernel
theorem dX7_lineTold_122 : decode cX7_lineTold 122 = .ok (.iload_n 3, 1) := by decide +kernel
theorem dX7_lineTold_123 : decode cX7_lineTold 123 = .ok (.iadd, 1) := by decide +kernel
theorem dX7_lineTold_124 : decode cX7_lineTold 124 = .ok (.aload_n 0, 1) := by decide +kernel
theorem dX7_lineTold_125 : decode cX7_lineTold 125 = .ok (.invokevirtual 164, 3) := by decide +kernel
theorem dX7_lineTold_128 : decode cX7_lineTold 128 = .ok (.invokevirtual 161, 3) := by decide +kernel
theorem dX7_lineTold_131 : decode cX7_lineTold 131 = .ok (.iinc 3 1, 3) := by decide +kernel
theorem dX7_lineTold_134 : decode cX7_lineTold 134 = .ok (.goto (-22), 3) := by decide +kernel
theorem dX7_lineTold_137 : decode cX7_lineTold 137 = .ok (.iload_n 2, 1) := by decide +kernel
theorem dX7_lineTold_138 : decode cX7_lineTold 138 = .ok (.bipush 12, 2) := by decide +kernel
theorem dX7_lineTold_140 : decode cX7_lineTold 140 = .ok (.if_icmp .ne 7, 3) := by decide +kernel
theorem dX7_lineTold_143 : decode cX7_lineTold 143 = .ok (.aload_n 0, 1) := by decide +kernel
theorem dX7_lineTold_144 : decode cX7_lineTold 144 = .ok (.invokevirtual 176, 3) := by decide +kernel
theorem dX7_lineTold_147 : decode cX7_lineTold 147 = .ok (.aload_n 0, 1) := by decide +kernel
theorem dX7_lineTold_148 : decode cX7_lineTold 148 = .ok (.getfield 24, 3) := by decide +kernel
theorem dX7_lineTold_151 : decode cX7_lineTold 151 = .ok (.sipush 387, 3) := by decide +kernel
theorem dX7_lineTold_154 : decode cX7_lineTold 154 = .ok (.dup2, 1) := by decide +kernel
theorem dX7_lineTold_155 : decode cX7_lineTold 155 = .ok (.iaload, 1) := by decide +kernel
theorem dX7_lineTold_156 : decode cX7_lineTold 156 = .ok (.iconst 1, 1) := by decide +kernel
theorem dX7_lineTold_157 : decode cX7_lineTold 157 = .ok (.iadd, 1) := by decide +kernel
theorem dX7_lineTold_158 : decode cX7_lineTold 158 = .ok (.iastore, 1) := by decide +kernel
theorem dX7_lineTold_159 : decode cX7_lineTold 159 = .ok (.return_, 1) := by decide +kernel
theorem dX7_isNamed_0 : decode cX7_isNamed 0 = .ok (.iconst 0, 1) := by decide +kernel
theorem dX7_isNamed_1 : decode cX7_isNamed 1 = .ok (.istore_n 2, 1) := by decide +kernel
theorem dX7_isNamed_2 : decode cX7_isNamed 2 = .ok (.iload_n 2, 1) := by decide +kernel
theorem dX7_isNamed_3 : decode cX7_isNamed 3 = .ok (.aload_n 0, 1) := by decide +kernel
theorem dX7_isNamed_4 : decode cX7_isNamed 4 = .ok (.invokevirtual 141, 3) := by decide +kernel
theorem dX7_isNamed_7 : decode cX7_isNamed 7 = .ok (.if_icmp .ge 26, 3) := by decide +kernel
theorem dX7_isNamed_10 : decode cX7_isNamed 10 = .ok (.aload_n 0, 1) := by decide +kernel
theorem dX7_isNamed_11 : decode cX7_isNamed 11 = .ok (.getfield 24, 3) := by decide +kernel
theorem dX7_isNamed_14 : decode cX7_isNamed 14 = .ok (.iload_n 2, 1) := by decide +kernel
theorem dX7_isNamed_15 : decode cX7_isNamed 15 = .ok (.bipush 7, 2) := by decide +kernel
theorem dX7_isNamed_17 : decode cX7_isNamed 17 = .ok (.invokestatic 144, 3) := by decide +kernel
theorem dX7_isNamed_20 : decode cX7_isNamed 20 = .ok (.iaload, 1) := by decide +kernel
theorem dX7_isNamed_21 : decode cX7_isNamed 21 = .ok (.iload_n 1, 1) := by decide +kernel
theorem dX7_isNamed_22 : decode cX7_isNamed 22 = .ok (.if_icmp .ne 5, 3) := by decide +kernel
theorem dX7_isNamed_25 : decode cX7_isNamed 25 = .ok (.iconst 1, 1) := by decide +kernel
theorem dX7_isNamed_26 : decode cX7_isNamed 26 = .ok (.ireturn, 1) := by decide +kernel
theorem dX7_isNamed_27 : decode cX7_isNamed 27 = .ok (.iinc 2 1, 3) := by decide +kernel
theorem dX7_isNamed_30 : decode cX7_isNamed 30 = .ok (.goto (-28), 3) := by decide +kernel
theorem dX7_isNamed_33 : decode cX7_isNamed 33 = .ok (.iconst 0, 1) := by decide +kernel
theorem dX7_isNamed_34 : decode cX7_isNamed 34 = .ok (.ireturn, 1) := by decide +kernel
theorem dX7_lineBegins_0 : decode cX7_lineBegins 0 = .ok (.iconst 0, 1) := by decide +kernel
theorem dX7_lineBegins_1 : decode cX7_lineBegins 1 = .ok (.istore_n 3, 1) := by decide +kernel
theorem dX7_lineBegins_2 : decode cX7_lineBegins 2 = .ok (.aload_n 0, 1) := by decide +kernel
theorem dX7_lineBegins_3 : decode cX7_lineBegins 3 = .ok (.invokevirtual 141, 3) := by decide +kernel
theorem dX7_lineBegins_6 : decode cX7_lineBegins 6 = .ok (.bipush 40, 2) := by decide +kernel
theorem dX7_lineBegins_8 : decode cX7_lineBegins 8 = .ok (.if_icmp .ne 9, 3) := by decide +kernel
theorem dX7_lineBegins_11 : decode cX7_lineBegins 11 = .ok (.aload_n 0, 1) := by decide +kernel
theorem dX7_lineBegins_12 : decode cX7_lineBegins 12 = .ok (.iconst 5, 1) := by decide +kernel
theorem dX7_lineBegins_13 : decode cX7_lineBegins 13 = .ok (.iload_n 1, 1) := by decide +kernel
theorem dX7_lineBegins_14 : decode cX7_lineBegins 14 = .ok (.invokevirtual 114, 3) := by decide +kernel
theorem dX7_lineBegins_17 : decode cX7_lineBegins 17 = .ok (.iload_n 2, 1) := by decide +kernel
theorem dX7_lineBegins_18 : decode cX7_lineBegins 18 = .ok (.ifCond .eq 38, 3) := by decide +kernel
theorem dX7_lineBegins_21 : decode cX7_lineBegins 21 = .ok (.aload_n 0, 1) := by decide +kernel
theorem dX7_lineBegins_22 : decode cX7_lineBegins 22 = .ok (.invokevirtual 158, 3) := by decide +kernel
theorem dX7_lineBegins_25 : decode cX7_lineBegins 25 = .ok (.istore_n 3, 1) := by decide +kernel
theorem dX7_lineBegins_26 : decode cX7_lineBegins 26 = .ok (.aload_n 0, 1) := by decide +kernel
theorem dX7_lineBegins_27 : decode cX7_lineBegins 27 = .ok (.getfield 89, 3) := by decide +kernel
theorem dX7_lineBegins_30 : decode cX7_lineBegins 30 = .ok (.ifCond .ne 20, 3) := by decide +kernel
theorem dX7_lineBegins_33 : decode cX7_lineBegins 33 = .ok (.aload_n 0, 1) := by decide +kernel
theorem dX7_lineBegins_34 : decode cX7_lineBegins 34 = .ok (.iload_n 3, 1) := by decide +kernel
theorem dX7_lineBegins_35 : decode cX7_lineBegins 35 = .ok (.invokevirtual 179, 3) := by decide +kernel
theorem dX7_lineBegins_38 : decode cX7_lineBegins 38 = .ok (.ifCond .eq 12, 3) := by decide +kernel
theorem dX7_lineBegins_41 : decode cX7_lineBegins 41 = .ok (.aload_n 0, 1) := by decide +kernel
theorem dX7_lineBegins_42 : decode cX7_lineBegins 42 = .ok (.iconst 3, 1) := by decide +kernel
theorem dX7_lineBegins_43 : decode cX7_lineBegins 43 = .ok (.aload_n 0, 1) := by decide +kernel
theorem dX7_lineBegins_44 : decode cX7_lineBegins 44 = .ok (.getfield 138, 3) := by decide +kernel
theorem dX7_lineBegins_47 : decode cX7_lineBegins 47 = .ok (.invokevirtual 114, 3) := by decide +kernel
theorem dX7_lineBegins_50 : decode cX7_lineBegins 50 = .ok (.aload_n 0, 1) := by decide +kernel
theorem dX7_lineBegins_51 : decode cX7_lineBegins 51 = .ok (.bipush 58, 2) := by decide +kernel
theorem dX7_lineBegins_53 : decode cX7_lineBegins 53 = .ok (.invokevirtual 182, 3) := by decide +kernel
theorem dX7_lineBegins_56 : decode cX7_lineBegins 56 = .ok (.aload_n 0, 1) := by decide +kernel
theorem dX7_lineBegins_57 : decode cX7_lineBegins 57 = .ok (.getfield 89, 3) := by decide +kernel
theorem dX7_lineBegins_60 : decode cX7_lineBegins 60 = .ok (.ifCond .ne 8, 3) := by decide +kernel
theorem dX7_lineBegins_63 : decode cX7_lineBegins 63 = .ok (.aload_n 0, 1) := by decide +kernel
theorem dX7_lineBegins_64 : decode cX7_lineBegins 64 = .ok (.iload_n 3, 1) := by decide +kernel
theorem dX7_lineBegins_65 : decode cX7_lineBegins 65 = .ok (.invokevirtual 186, 3) := by decide +kernel
theorem dX7_lineBegins_68 : decode cX7_lineBegins 68 = .ok (.return_, 1) := by decide +kernel
theorem dX7_statementTold_0 : decode cX7_statementTold 0 = .ok (.aload_n 0, 1) := by decide +kernel
theorem dX7_statementTold_1 : decode cX7_statementTold 1 = .ok (.getfield 95, 3) := by decide +kernel
theorem dX7_statementTold_4 : decode cX7_statementTold 4 = .ok (.istore_n 1, 1) := by decide +kernel
theorem dX7_statementTold_5 : decode cX7_statementTold 5 = .ok (.aload_n 0, 1) := by decide +kernel
theorem dX7_statementTold_6 : decode cX7_statementTold 6 = .ok (.getfield 189, 3) := by decide +kernel
theorem dX7_statementTold_9 : decode cX7_statementTold 9 = .ok (.bipush 80, 2) := by decide +kernel
theorem dX7_statementTold_11 : decode cX7_statementTold 11 = .ok (.if_icmp .ne 9, 3) := by decide +kernel
theorem dX7_statementTold_14 : decode cX7_statementTold 14 = .ok (.aload_n 0, 1) := by decide +kernel
theorem dX7_statementTold_15 : decode cX7_statementTold 15 = .ok (.iconst 5, 1) := by decide +kernel
theorem dX7_statementTold_16 : decode cX7_statementTold 16 = .ok (.iload_n 1, 1) := by decide +kernel
theorem dX7_statementTold_17 : decode cX7_statementTold 17 = .ok (.invokevirtual 114, 3) := by decide +kernel
theorem dX7_statementTold_20 : decode cX7_statementTold 20 = .ok (.aload_n 0, 1) := by decide +kernel
theorem dX7_statementTold_21 : decode cX7_statementTold 21 = .ok (.invokevirtual 129, 3) := by decide +kernel
theorem dX7_statementTold_24 : decode cX7_statementTold 24 = .ok (.istore_n 2, 1) := by decide +kernel
theorem dX7_statementTold_25 : decode cX7_statementTold 25 = .ok (.aload_n 0, 1) := by decide +kernel
theorem dX7_statementTold_26 : decode cX7_statementTold 26 = .ok (.bipush 21, 2) := by decide +kernel
theorem dX7_statementTold_28 : decode cX7_statementTold 28 = .ok (.invokevirtual 135, 3) := by decide +kernel
theorem dX7_statementTold_31 : decode cX7_statementTold 31 = .ok (.ifCond .eq 43, 3) := by decide +kernel
theorem dX7_statementTold_34 : decode cX7_statementTold 34 = .ok (.aload_n 0, 1) := by decide +kernel
theorem dX7_statementTold_35 : decode cX7_statementTold 35 = .ok (.iconst 0, 1) := by decide +kernel
theorem dX7_statementTold_36 : decode cX7_statementTold 36 = .ok (.bipush 63, 2) := by decide +kernel
theorem dX7_statementTold_38 : decode cX7_statementTold 38 = .ok (.invokevirtual 152, 3) := by decide +kernel
theorem dX7_statementTold_41 : decode cX7_statementTold 41 = .ok (.istore_n 3, 1) := by decide +kernel
theorem dX7_statementTold_42 : decode cX7_statementTold 42 = .ok (.aload_n 0, 1) := by decide +kernel
theorem dX7_statementTold_43 : decode cX7_statementTold 43 = .ok (.iconst 0, 1) := by decide +kernel
theorem dX7_statementTold_44 : decode cX7_statementTold 44 = .ok (.sipush 999, 3) := by decide +kernel
theorem dX7_statementTold_47 : decode cX7_statementTold 47 = .ok (.invokevirtual 152, 3) := by decide +kernel
theorem dX7_statementTold_50 : decode cX7_statementTold 50 = .ok (.istore 4, 2) := by decide +kernel
theorem dX7_statementTold_52 : decode cX7_statementTold 52 = .ok (.aload_n 0, 1) := by decide +kernel
theorem dX7_statementTold_53 : decode cX7_statementTold 53 = .ok (.getfield 89, 3) := by decide +kernel
theorem dX7_statementTold_56 : decode cX7_statementTold 56 = .ok (.ifCond .ne 15, 3) := by decide +kernel
theorem dX7_statementTold_59 : decode cX7_statementTold 59 = .ok (.aload_n 0, 1) := by decide +kernel
theorem dX7_statementTold_60 : decode cX7_statementTold 60 = .ok (.getfield 24, 3) := by decide +kernel
theorem dX7_statementTold_63 : decode cX7_statementTold 63 = .ok (.sipush 320, 3) := by decide +kernel
theorem dX7_statementTold_66 : decode cX7_statementTold 66 = .ok (.iload_n 3, 1) := by decide +kernel
theorem dX7_statementTold_67 : decode cX7_statementTold 67 = .ok (.iadd, 1) := by decide +kernel
theorem dX7_statementTold_68 : decode cX7_statementTold 68 = .ok (.iload 4, 2) := by decide +kernel
theorem dX7_statementTold_70 : decode cX7_statementTold 70 = .ok (.iastore, 1) := by decide +kernel
theorem dX7_statementTold_71 : decode cX7_statementTold 71 = .ok (.goto 143, 3) := by decide +kernel
theorem dX7_statementTold_74 : decode cX7_statementTold 74 = .ok (.aload_n 0, 1) := by decide +kernel
theorem dX7_statementTold_75 : decode cX7_statementTold 75 = .ok (.bipush 22, 2) := by decide +kernel
theorem dX7_statementTold_77 : decode cX7_statementTold 77 = .ok (.invokevirtual 135, 3) := by decide +kernel
theorem dX7_statementTold_80 : decode cX7_statementTold 80 = .ok (.ifCond .eq 40, 3) := by decide +kernel
theorem dX7_statementTold_83 : decode cX7_statementTold 83 = .ok (.aload_n 0, 1) := by decide +kernel
theorem dX7_statementTold_84 : decode cX7_statementTold 84 = .ok (.getfield 24, 3) := by decide +kernel
theorem dX7_statementTold_87 : decode cX7_statementTold 87 = .ok (.sipush 385, 3) := by decide +kernel
theorem dX7_statementTold_90 : decode cX7_statementTold 90 = .ok (.aload_n 0, 1) := by decide +kernel
theorem dX7_statementTold_91 : decode cX7_statementTold 91 = .ok (.bipush 24, 2) := by decide +kernel
theorem dX7_statementTold_93 : decode cX7_statementTold 93 = .ok (.invokevirtual 135, 3) := by decide +kernel
theorem dX7_statementTold_96 : decode cX7_statementTold 96 = .ok (.invokestatic 192, 3) := by decide +kernel
theorem dX7_statementTold_99 : decode cX7_statementTold 99 = .ok (.iastore, 1) := by decide +kernel
theorem dX7_statementTold_100 : decode cX7_statementTold 100 = .ok (.aload_n 0, 1) := by decide +kernel
theorem dX7_statementTold_101 : decode cX7_statementTold 101 = .ok (.getfield 24, 3) := by decide +kernel
theorem dX7_statementTold_104 : decode cX7_statementTold 104 = .ok (.sipush 385, 3) := by decide +kernel
theorem dX7_statementTold_107 : decode cX7_statementTold 107 = .ok (.iaload, 1) := by decide +kernel
theorem dX7_statementTold_108 : decode cX7_statementTold 108 = .ok (.ifCond .ne 106, 3) := by decide +kernel
theorem dX7_statementTold_111 : decode cX7_statementTold 111 = .ok (.aload_n 0, 1) := by decide +kernel
theorem dX7_statementTold_112 : decode cX7_statementTold 112 = .ok (.bipush 23, 2) := by decide +kernel
theorem dX7_statementTold_114 : decode cX7_statementTold 114 = .ok (.invokevirtual 196, 3) := by decide +kernel
theorem dX7_statementTold_117 : decode cX7_statementTold 117 = .ok (.goto 97, 3) := by decide +kernel
theorem dX7_statementTold_120 : decode cX7_statementTold 120 = .ok (.aload_n 0, 1) := by decide +kernel
theorem dX7_statementTold_121 : decode cX7_statementTold 121 = .ok (.bipush 25, 2) := by decide +kernel
theorem dX7_statementTold_123 : decode cX7_statementTold 123 = .ok (.invokevirtual 135, 3) := by decide +kernel
theorem dX7_statementTold_126 : decode cX7_statementTold 126 = .ok (.ifCond .eq 40, 3) := by decide +kernel
theorem dX7_statementTold_129 : decode cX7_statementTold 129 = .ok (.aload_n 0, 1) := by decide +kernel
theorem dX7_statementTold_130 : decode cX7_statementTold 130 = .ok (.getfield 24, 3) := by decide +kernel
theorem dX7_statementTold_133 : decode cX7_statementTold 133 = .ok (.sipush 386, 3) := by decide +kernel
theorem dX7_statementTold_136 : decode cX7_statementTold 136 = .ok (.aload_n 0, 1) := by decide +kernel
theorem dX7_statementTold_137 : decode cX7_statementTold 137 = .ok (.bipush 27, 2) := by decide +kernel
theorem dX7_statementTold_139 : decode cX7_statementTold 139 = .ok (.invokevirtual 135, 3) := by decide +kernel
theorem dX7_statementTold_142 : decode cX7_statementTold 142 = .ok (.invokestatic 192, 3) := by decide +kernel
theorem dX7_statementTold_145 : decode cX7_statementTold 145 = .ok (.iastore, 1) := by decide +kernel
theorem dX7_statementTold_146 : decode cX7_statementTold 146 = .ok (.aload_n 0, 1) := by decide +kernel
theorem dX7_statementTold_147 : decode cX7_statementTold 147 = .ok (.getfield 24, 3) := by decide +kernel
theorem dX7_statementTold_150 : decode cX7_statementTold 150 = .ok (.sipush 386, 3) := by decide +kernel
theorem dX7_statementTold_153 : decode cX7_statementTold 153 = .ok (.iaload, 1) := by decide +kernel
theorem dX7_statementTold_154 : decode cX7_statementTold 154 = .ok (.ifCond .ne 60, 3) := by decide +kernel
theorem dX7_statementTold_157 : decode cX7_statementTold 157 = .ok (.aload_n 0, 1) := by decide +kernel
theorem dX7_statementTold_158 : decode cX7_statementTold 158 = .ok (.bipush 26, 2) := by decide +kernel
theorem dX7_statementTold_160 : decode cX7_statementTold 160 = .ok (.invokevirtual 196, 3) := by decide +kernel
theorem dX7_statementTold_163 : decode cX7_statementTold 163 = .ok (.goto 51, 3) := by decide +kernel
theorem dX7_statementTold_166 : decode cX7_statementTold 166 = .ok (.iload_n 2, 1) := by decide +kernel
theorem dX7_statementTold_167 : decode cX7_statementTold 167 = .ok (.i2l, 1) := by decide +kernel
theorem dX7_statementTold_168 : decode cX7_statementTold 168 = .ok (.lconst 0, 1) := by decide +kernel
theorem dX7_statementTold_169 : decode cX7_statementTold 169 = .ok (.ldc2_w 168, 3) := by decide +kernel
theorem dX7_statementTold_172 : decode cX7_statementTold 172 = .ok (.invokestatic 82, 3) := by decide +kernel
theorem dX7_statementTold_175 : decode cX7_statementTold 175 = .ok (.ifCond .ne 15, 3) := by decide +kernel
theorem dX7_statementTold_178 : decode cX7_statementTold 178 = .ok (.aload_n 0, 1) := by decide +kernel
theorem dX7_statementTold_179 : decode cX7_statementTold 179 = .ok (.invokevirtual 121, 3) := by decide +kernel
theorem dX7_statementTold_182 : decode cX7_statementTold 182 = .ok (.ifCond .eq 26, 3) := by decide +kernel
theorem dX7_statementTold_185 : decode cX7_statementTold 185 = .ok (.iload_n 2, 1) := by decide +kernel
theorem dX7_statementTold_186 : decode cX7_statementTold 186 = .ok (.iconst (-1), 1) := by decide +kernel
theorem dX7_statementTold_187 : decode cX7_statementTold 187 = .ok (.if_icmp .ne 21, 3) := by decide +kernel
theorem dX7_statementTold_190 : decode cX7_statementTold 190 = .ok (.aload_n 0, 1) := by decide +kernel
theorem dX7_statementTold_191 : decode cX7_statementTold 191 = .ok (.iload_n 1, 1) := by decide +kernel
theorem dX7_statementTold_192 : decode cX7_statementTold 192 = .ok (.iload_n 2, 1) := by decide +kernel
theorem dX7_statementTold_193 : decode cX7_statementTold 193 = .ok (.iconst (-1), 1) := by decide +kernel
theorem dX7_statementTold_194 : decode cX7_statementTold 194 = .ok (.if_icmp .ne 7, 3) := by decide +kernel
theorem dX7_statementTold_197 : decode cX7_statementTold 197 = .ok (.iconst 1, 1) := by decide +kernel
theorem dX7_statementTold_198 : decode cX7_statementTold 198 = .ok (.goto 4, 3) := by decide +kernel
theorem dX7_statementTold_201 : decode cX7_statementTold 201 = .ok (.iconst 0, 1) := by decide +kernel
theorem dX7_statementTold_202 : decode cX7_statementTold 202 = .ok (.invokevirtual 199, 3) := by decide +kernel
theorem dX7_statementTold_205 : decode cX7_statementTold 205 = .ok (.goto 9, 3) := by decide +kernel
theorem dX7_statementTold_208 : decode cX7_statementTold 208 = .ok (.aload_n 0, 1) := by decide +kernel
theorem dX7_statementTold_209 : decode cX7_statementTold 209 = .ok (.iconst 1, 1) := by decide +kernel
theorem dX7_statementTold_210 : decode cX7_statementTold 210 = .ok (.iload_n 1, 1) := by decide +kernel
theorem dX7_statementTold_211 : decode cX7_statementTold 211 = .ok (.invokevirtual 114, 3) := by decide +kernel
theorem dX7_statementTold_214 : decode cX7_statementTold 214 = .ok (.aload_n 0, 1) := by decide +kernel
theorem dX7_statementTold_215 : decode cX7_statementTold 215 = .ok (.bipush 59, 2) := by decide +kernel
theorem dX7_statementTold_217 : decode cX7_statementTold 217 = .ok (.invokevirtual 182, 3) := by decide +kernel
theorem dX7_statementTold_220 : decode cX7_statementTold 220 = .ok (.aload_n 0, 1) := by decide +kernel
theorem dX7_statementTold_221 : decode cX7_statementTold 221 = .ok (.dup, 1) := by decide +kernel
theorem dX7_statementTold_222 : decode cX7_statementTold 222 = .ok (.getfield 189, 3) := by decide +kernel
theorem dX7_statementTold_225 : decode cX7_statementTold 225 = .ok (.iconst 1, 1) := by decide +kernel
theorem dX7_statementTold_226 : decode cX7_statementTold 226 = .ok (.iadd, 1) := by decide +kernel
theorem dX7_statementTold_227 : decode cX7_statementTold 227 = .ok (.putfield 189, 3) := by decide +kernel
theorem dX7_statementTold_230 : decode cX7_statementTold 230 = .ok (.return_, 1) := by decide +kernel
theorem dX7_joins_0 : decode cX7_joins 0 = .ok (.iconst 0, 1) := by decide +kernel
theorem dX7_joins_1 : decode cX7_joins 1 = .ok (.istore_n 1, 1) := by decide +kernel
theorem dX7_joins_2 : decode cX7_joins 2 = .ok (.iload_n 1, 1) := by decide +kernel
theorem dX7_joins_3 : decode cX7_joins 3 = .ok (.aload_n 0, 1) := by decide +kernel
theorem dX7_joins_4 : decode cX7_joins 4 = .ok (.invokevirtual 141, 3) := by decide +kernel
theorem dX7_joins_7 : decode cX7_joins 7 = .ok (.if_icmp .ge 105, 3) := by decide +kernel
theorem dX7_joins_10 : decode cX7_joins 10 = .ok (.aload_n 0, 1) := by decide +kernel
theorem dX7_joins_11 : decode cX7_joins 11 = .ok (.getfield 89, 3) := by decide +kernel
theorem dX7_joins_14 : decode cX7_joins 14 = .ok (.ifCond .ne 98, 3) := by decide +kernel
theorem dX7_joins_17 : decode cX7_joins 17 = .ok (.aload_n 0, 1) := by decide +kernel
theorem dX7_joins_18 : decode cX7_joins 18 = .ok (.getfield 24, 3) := by decide +kernel
theorem dX7_joins_21 : decode cX7_joins 21 = .ok (.iload_n 1, 1) := by decide +kernel
theorem dX7_joins_22 : decode cX7_joins 22 = .ok (.iconst 0, 1) := by decide +kernel
theorem dX7_joins_23 : decode cX7_joins 23 = .ok (.invokestatic 144, 3) := by decide +kernel
theorem dX7_joins_26 : decode cX7_joins 26 = .ok (.iaload, 1) := by decide +kernel
theorem dX7_joins_27 : decode cX7_joins 27 = .ok (.bipush 12, 2) := by decide +kernel
theorem dX7_joins_29 : decode cX7_joins 29 = .ok (.if_icmp .eq 6, 3) := by decide +kernel
theorem dX7_joins_32 : decode cX7_joins 32 = .ok (.goto 74, 3) := by decide +kernel
theorem dX7_joins_35 : decode cX7_joins 35 = .ok (.iconst (-1), 1) := by decide +kernel
theorem dX7_joins_36 : decode cX7_joins 36 = .ok (.istore_n 2, 1) := by decide +kernel
theorem dX7_joins_37 : decode cX7_joins 37 = .ok (.iconst 0, 1) := by decide +kernel
theorem dX7_joins_38 : decode cX7_joins 38 = .ok (.istore_n 3, 1) := by decide +kernel
theorem dX7_joins_39 : decode cX7_joins 39 = .ok (.iload_n 3, 1) := by decide +kernel
theorem dX7_joins_40 : decode cX7_joins 40 = .ok (.aload_n 0, 1) := by decide +kernel
theorem dX7_joins_41 : decode cX7_joins 41 = .ok (.invokevirtual 141, 3) := by decide +kernel
theorem dX7_joins_44 : decode cX7_joins 44 = .ok (.if_icmp .ge 35, 3) := by decide +kernel
theorem dX7_joins_47 : decode cX7_joins 47 = .ok (.aload_n 0, 1) := by decide +kernel
theorem dX7_joins_48 : decode cX7_joins 48 = .ok (.getfield 24, 3) := by decide +kernel
theorem dX7_joins_51 : decode cX7_joins 51 = .ok (.iload_n 3, 1) := by decide +kernel
theorem dX7_joins_52 : decode cX7_joins 52 = .ok (.bipush 7, 2) := by decide +kernel
theorem dX7_joins_54 : decode cX7_joins 54 = .ok (.invokestatic 144, 3) := by decide +kernel
theorem dX7_joins_57 : decode cX7_joins 57 = .ok (.iaload, 1) := by decide +kernel
theorem dX7_joins_58 : decode cX7_joins 58 = .ok (.aload_n 0, 1) := by decide +kernel
theorem dX7_joins_59 : decode cX7_joins 59 = .ok (.getfield 24, 3) := by decide +kernel
theorem dX7_joins_62 : decode cX7_joins 62 = .ok (.iload_n 1, 1) := by decide +kernel
theorem dX7_joins_63 : decode cX7_joins 63 = .ok (.iconst 4, 1) := by decide +kernel
theorem dX7_joins_64 : decode cX7_joins 64 = .ok (.invokestatic 144, 3) := by decide +kernel
theorem dX7_joins_67 : decode cX7_joins 67 = .ok (.iaload, 1) := by decide +kernel
theorem dX7_joins_68 : decode cX7_joins 68 = .ok (.if_icmp .ne 5, 3) := by decide +kernel
theorem dX7_joins_71 : decode cX7_joins 71 = .ok (.iload_n 3, 1) := by decide +kernel
theorem dX7_joins_72 : decode cX7_joins 72 = .ok (.istore_n 2, 1) := by decide +kernel
theorem dX7_joins_73 : decode cX7_joins 73 = .ok (.iinc 3 1, 3) := by decide +kernel
theorem dX7_joins_76 : decode cX7_joins 76 = .ok (.goto (-37), 3) := by decide +kernel
theorem dX7_joins_79 : decode cX7_joins 79 = .ok (.iload_n 2, 1) := by decide +kernel
theorem dX7_joins_80 : decode cX7_joins 80 = .ok (.iconst (-1), 1) := by decide +kernel
theorem dX7_joins_81 : decode cX7_joins 81 = .ok (.if_icmp .ne 14, 3) := by decide +kernel
theorem dX7_joins_84 : decode cX7_joins 84 = .ok (.aload_n 0, 1) := by decide +kernel
theorem dX7_joins_85 : decode cX7_joins 85 = .ok (.iconst 3, 1) := by decide +kernel
theorem dX7_joins_86 : decode cX7_joins 86 = .ok (.aload_n 0, 1) := by decide +kernel
theorem dX7_joins_87 : decode cX7_joins 87 = .ok (.getfield 30, 3) := by decide +kernel
theorem dX7_joins_90 : decode cX7_joins 90 = .ok (.iload_n 1, 1) := by decide +kernel
theorem dX7_joins_91 : decode cX7_joins 91 = .ok (.iaload, 1) := by decide +kernel
theorem dX7_joins_92 : decode cX7_joins 92 = .ok (.invokevirtual 114, 3) := by decide +kernel
theorem dX7_joins_95 : decode cX7_joins 95 = .ok (.aload_n 0, 1) := by decide +kernel
theorem dX7_joins_96 : decode cX7_joins 96 = .ok (.getfield 24, 3) := by decide +kernel
theorem dX7_joins_99 : decode cX7_joins 99 = .ok (.iload_n 1, 1) := by decide +kernel
theorem dX7_joins_100 : decode cX7_joins 100 = .ok (.iconst 4, 1) := by decide +kernel
theorem dX7_joins_101 : decode cX7_joins 101 = .ok (.invokestatic 144, 3) := by decide +kernel
theorem dX7_joins_104 : decode cX7_joins 104 = .ok (.iload_n 2, 1) := by decide +kernel
theorem dX7_joins_105 : decode cX7_joins 105 = .ok (.iastore, 1) := by decide +kernel
theorem dX7_joins_106 : decode cX7_joins 106 = .ok (.iinc 1 1, 3) := by decide +kernel
theorem dX7_joins_109 : decode cX7_joins 109 = .ok (.goto (-107), 3) := by decide +kernel
theorem dX7_joins_112 : decode cX7_joins 112 = .ok (.return_, 1) := by decide +kernel
theorem dX7_program_0 : decode cX7_program 0 = .ok (.aload_n 0, 1) := by decide +kernel
theorem dX7_program_1 : decode cX7_program 1 = .ok (.aload_n 0, 1) := by decide +kernel
theorem dX7_program_2 : decode cX7_program 2 = .ok (.getfield 69, 3) := by decide +kernel
theorem dX7_program_5 : decode cX7_program 5 = .ok (.putfield 98, 3) := by decide +kernel
theorem dX7_program_8 : decode cX7_program 8 = .ok (.aload_n 0, 1) := by decide +kernel
theorem dX7_program_9 : decode cX7_program 9 = .ok (.iconst 0, 1) := by decide +kernel
theorem dX7_program_10 : decode cX7_program 10 = .ok (.putfield 69, 3) := by decide +kernel
theorem dX7_program_13 : decode cX7_program 13 = .ok (.aload_n 0, 1) := by decide +kernel
theorem dX7_program_14 : decode cX7_program 14 = .ok (.iconst 0, 1) := by decide +kernel
theorem dX7_program_15 : decode cX7_program 15 = .ok (.putfield 95, 3) := by decide +kernel
theorem dX7_program_18 : decode cX7_program 18 = .ok (.aload_n 0, 1) := by decide +kernel
theorem dX7_program_19 : decode cX7_program 19 = .ok (.iconst (-1), 1) := by decide +kernel
theorem dX7_program_20 : decode cX7_program 20 = .ok (.putfield 108, 3) := by decide +kernel
theorem dX7_program_23 : decode cX7_program 23 = .ok (.aload_n 0, 1) := by decide +kernel
theorem dX7_program_24 : decode cX7_program 24 = .ok (.iconst 0, 1) := by decide +kernel
theorem dX7_program_25 : decode cX7_program 25 = .ok (.putfield 89, 3) := by decide +kernel
theorem dX7_program_28 : decode cX7_program 28 = .ok (.aload_n 0, 1) := by decide +kernel
theorem dX7_program_29 : decode cX7_program 29 = .ok (.iconst (-1), 1) := by decide +kernel
theorem dX7_program_30 : decode cX7_program 30 = .ok (.putfield 92, 3) := by decide +kernel
theorem dX7_program_33 : decode cX7_program 33 = .ok (.iconst 0, 1) := by decide +kernel
theorem dX7_program_34 : decode cX7_program 34 = .ok (.istore_n 1, 1) := by decide +kernel
theorem dX7_program_35 : decode cX7_program 35 = .ok (.iload_n 1, 1) := by decide +kernel
theorem dX7_program_36 : decode cX7_program 36 = .ok (.sipush 400, 3) := by decide +kernel
theorem dX7_program_39 : decode cX7_program 39 = .ok (.if_icmp .ge 16, 3) := by decide +kernel
theorem dX7_program_42 : decode cX7_program 42 = .ok (.aload_n 0, 1) := by decide +kernel
theorem dX7_program_43 : decode cX7_program 43 = .ok (.getfield 24, 3) := by decide +kernel
theorem dX7_program_46 : decode cX7_program 46 = .ok (.iload_n 1, 1) := by decide +kernel
theorem dX7_program_47 : decode cX7_program 47 = .ok (.iconst 0, 1) := by decide +kernel
theorem dX7_program_48 : decode cX7_program 48 = .ok (.iastore, 1) := by decide +kernel
theorem dX7_program_49 : decode cX7_program 49 = .ok (.iinc 1 1, 3) := by decide +kernel
theorem dX7_program_52 : decode cX7_program 52 = .ok (.goto (-17), 3) := by decide +kernel
theorem dX7_program_55 : decode cX7_program 55 = .ok (.aload_n 0, 1) := by decide +kernel
theorem dX7_program_56 : decode cX7_program 56 = .ok (.bipush 20, 2) := by decide +kernel
theorem dX7_program_58 : decode cX7_program 58 = .ok (.invokevirtual 196, 3) := by decide +kernel
theorem dX7_program_61 : decode cX7_program 61 = .ok (.aload_n 0, 1) := by decide +kernel
theorem dX7_program_62 : decode cX7_program 62 = .ok (.getfield 24, 3) := by decide +kernel
theorem dX7_program_65 : decode cX7_program 65 = .ok (.sipush 384, 3) := by decide +kernel
theorem dX7_program_68 : decode cX7_program 68 = .ok (.aload_n 0, 1) := by decide +kernel
theorem dX7_program_69 : decode cX7_program 69 = .ok (.iconst 1, 1) := by decide +kernel
theorem dX7_program_70 : decode cX7_program 70 = .ok (.iconst 4, 1) := by decide +kernel
theorem dX7_program_71 : decode cX7_program 71 = .ok (.invokevirtual 152, 3) := by decide +kernel
theorem dX7_program_74 : decode cX7_program 74 = .ok (.iastore, 1) := by decide +kernel
theorem dX7_program_75 : decode cX7_program 75 = .ok (.aload_n 0, 1) := by decide +kernel
theorem dX7_program_76 : decode cX7_program 76 = .ok (.bipush 59, 2) := by decide +kernel
theorem dX7_program_78 : decode cX7_program 78 = .ok (.invokevirtual 182, 3) := by decide +kernel
theorem dX7_program_81 : decode cX7_program 81 = .ok (.aload_n 0, 1) := by decide +kernel
theorem dX7_program_82 : decode cX7_program 82 = .ok (.iconst 1, 1) := by decide +kernel
theorem dX7_program_83 : decode cX7_program 83 = .ok (.putfield 189, 3) := by decide +kernel
theorem dX7_program_86 : decode cX7_program 86 = .ok (.aload_n 0, 1) := by decide +kernel
theorem dX7_program_87 : decode cX7_program 87 = .ok (.getfield 89, 3) := by decide +kernel
theorem dX7_program_90 : decode cX7_program 90 = .ok (.ifCond .ne 18, 3) := by decide +kernel
theorem dX7_program_93 : decode cX7_program 93 = .ok (.aload_n 0, 1) := by decide +kernel
theorem dX7_program_94 : decode cX7_program 94 = .ok (.invokevirtual 101, 3) := by decide +kernel
theorem dX7_program_97 : decode cX7_program 97 = .ok (.iconst (-1), 1) := by decide +kernel
theorem dX7_program_98 : decode cX7_program 98 = .ok (.if_icmp .eq 10, 3) := by decide +kernel
theorem dX7_program_101 : decode cX7_program 101 = .ok (.aload_n 0, 1) := by decide +kernel
theorem dX7_program_102 : decode cX7_program 102 = .ok (.invokevirtual 203, 3) := by decide +kernel
theorem dX7_program_105 : decode cX7_program 105 = .ok (.goto (-19), 3) := by decide +kernel
theorem dX7_program_108 : decode cX7_program 108 = .ok (.aload_n 0, 1) := by decide +kernel
theorem dX7_program_109 : decode cX7_program 109 = .ok (.getfield 89, 3) := by decide +kernel
theorem dX7_program_112 : decode cX7_program 112 = .ok (.ifCond .ne 19, 3) := by decide +kernel
theorem dX7_program_115 : decode cX7_program 115 = .ok (.aload_n 0, 1) := by decide +kernel
theorem dX7_program_116 : decode cX7_program 116 = .ok (.invokevirtual 141, 3) := by decide +kernel
theorem dX7_program_119 : decode cX7_program 119 = .ok (.ifCond .ne 12, 3) := by decide +kernel
theorem dX7_program_122 : decode cX7_program 122 = .ok (.aload_n 0, 1) := by decide +kernel
theorem dX7_program_123 : decode cX7_program 123 = .ok (.iconst 1, 1) := by decide +kernel
theorem dX7_program_124 : decode cX7_program 124 = .ok (.aload_n 0, 1) := by decide +kernel
theorem dX7_program_125 : decode cX7_program 125 = .ok (.getfield 98, 3) := by decide +kernel
theorem dX7_program_128 : decode cX7_program 128 = .ok (.invokevirtual 114, 3) := by decide +kernel
theorem dX7_program_131 : decode cX7_program 131 = .ok (.aload_n 0, 1) := by decide +kernel
theorem dX7_program_132 : decode cX7_program 132 = .ok (.invokevirtual 206, 3) := by decide +kernel
theorem dX7_program_135 : decode cX7_program 135 = .ok (.aload_n 0, 1) := by decide +kernel
theorem dX7_program_136 : decode cX7_program 136 = .ok (.aload_n 0, 1) := by decide +kernel
theorem dX7_program_137 : decode cX7_program 137 = .ok (.getfield 89, 3) := by decide +kernel
theorem dX7_program_140 : decode cX7_program 140 = .ok (.putfield 86, 3) := by decide +kernel
theorem dX7_program_143 : decode cX7_program 143 = .ok (.aload_n 0, 1) := by decide +kernel
theorem dX7_program_144 : decode cX7_program 144 = .ok (.aload_n 0, 1) := by decide +kernel
theorem dX7_program_145 : decode cX7_program 145 = .ok (.getfield 92, 3) := by decide +kernel
theorem dX7_program_148 : decode cX7_program 148 = .ok (.putfield 13, 3) := by decide +kernel
theorem dX7_program_151 : decode cX7_program 151 = .ok (.aload_n 0, 1) := by decide +kernel
theorem dX7_program_152 : decode cX7_program 152 = .ok (.getfield 89, 3) := by decide +kernel
theorem dX7_program_155 : decode cX7_program 155 = .ok (.ifCond .eq 9, 3) := by decide +kernel
theorem dX7_program_158 : decode cX7_program 158 = .ok (.aload_n 0, 1) := by decide +kernel
theorem dX7_program_159 : decode cX7_program 159 = .ok (.iconst 1, 1) := by decide +kernel
theorem dX7_program_160 : decode cX7_program 160 = .ok (.invokevirtual 72, 3) := by decide +kernel
theorem dX7_program_163 : decode cX7_program 163 = .ok (.ireturn, 1) := by decide +kernel
theorem dX7_program_164 : decode cX7_program 164 = .ok (.aload_n 0, 1) := by decide +kernel
theorem dX7_program_165 : decode cX7_program 165 = .ok (.invokevirtual 209, 3) := by decide +kernel
theorem dX7_program_168 : decode cX7_program 168 = .ok (.aload_n 0, 1) := by decide +kernel
theorem dX7_program_169 : decode cX7_program 169 = .ok (.invokevirtual 212, 3) := by decide +kernel
theorem dX7_program_172 : decode cX7_program 172 = .ok (.ireturn, 1) := by decide +kernel
theorem dX7_stands_0 : decode cX7_stands 0 = .ok (.iconst 0, 1) := by decide +kernel
theorem dX7_stands_1 : decode cX7_stands 1 = .ok (.istore_n 1, 1) := by decide +kernel
theorem dX7_stands_2 : decode cX7_stands 2 = .ok (.iload_n 1, 1) := by decide +kernel
theorem dX7_stands_3 : decode cX7_stands 3 = .ok (.sipush 400, 3) := by decide +kernel
theorem dX7_stands_6 : decode cX7_stands 6 = .ok (.if_icmp .ge 21, 3) := by decide +kernel
theorem dX7_stands_9 : decode cX7_stands 9 = .ok (.aload_n 0, 1) := by decide +kernel
theorem dX7_stands_10 : decode cX7_stands 10 = .ok (.getfield 27, 3) := by decide +kernel
theorem dX7_stands_13 : decode cX7_stands 13 = .ok (.iload_n 1, 1) := by decide +kernel
theorem dX7_stands_14 : decode cX7_stands 14 = .ok (.aload_n 0, 1) := by decide +kernel
theorem dX7_stands_15 : decode cX7_stands 15 = .ok (.getfield 24, 3) := by decide +kernel
theorem dX7_stands_18 : decode cX7_stands 18 = .ok (.iload_n 1, 1) := by decide +kernel
theorem dX7_stands_19 : decode cX7_stands 19 = .ok (.iaload, 1) := by decide +kernel
theorem dX7_stands_20 : decode cX7_stands 20 = .ok (.iastore, 1) := by decide +kernel
theorem dX7_stands_21 : decode cX7_stands 21 = .ok (.iinc 1 1, 3) := by decide +kernel
theorem dX7_stands_24 : decode cX7_stands 24 = .ok (.goto (-22), 3) := by decide +kernel
theorem dX7_stands_27 : decode cX7_stands 27 = .ok (.aload_n 0, 1) := by decide +kernel
theorem dX7_stands_28 : decode cX7_stands 28 = .ok (.iconst 1, 1) := by decide +kernel
theorem dX7_stands_29 : decode cX7_stands 29 = .ok (.putfield 215, 3) := by decide +kernel
theorem dX7_stands_32 : decode cX7_stands 32 = .ok (.iconst 0, 1) := by decide +kernel
theorem dX7_stands_33 : decode cX7_stands 33 = .ok (.istore_n 1, 1) := by decide +kernel
theorem dX7_stands_34 : decode cX7_stands 34 = .ok (.iload_n 1, 1) := by decide +kernel
theorem dX7_stands_35 : decode cX7_stands 35 = .ok (.aload_n 0, 1) := by decide +kernel
theorem dX7_stands_36 : decode cX7_stands 36 = .ok (.invokevirtual 212, 3) := by decide +kernel
theorem dX7_stands_39 : decode cX7_stands 39 = .ok (.if_icmp .ge 33, 3) := by decide +kernel
theorem dX7_stands_42 : decode cX7_stands 42 = .ok (.aload_n 0, 1) := by decide +kernel
theorem dX7_stands_43 : decode cX7_stands 43 = .ok (.iload_n 1, 1) := by decide +kernel
theorem dX7_stands_44 : decode cX7_stands 44 = .ok (.invokevirtual 219, 3) := by decide +kernel
theorem dX7_stands_47 : decode cX7_stands 47 = .ok (.ifCond .eq 19, 3) := by decide +kernel
theorem dX7_stands_50 : decode cX7_stands 50 = .ok (.aload_n 0, 1) := by decide +kernel
theorem dX7_stands_51 : decode cX7_stands 51 = .ok (.getfield 27, 3) := by decide +kernel
theorem dX7_stands_54 : decode cX7_stands 54 = .ok (.iload_n 1, 1) := by decide +kernel
theorem dX7_stands_55 : decode cX7_stands 55 = .ok (.bipush 6, 2) := by decide +kernel
theorem dX7_stands_57 : decode cX7_stands 57 = .ok (.invokestatic 144, 3) := by decide +kernel
theorem dX7_stands_60 : decode cX7_stands 60 = .ok (.aload_n 0, 1) := by decide +kernel
theorem dX7_stands_61 : decode cX7_stands 61 = .ok (.iload_n 1, 1) := by decide +kernel
theorem dX7_stands_62 : decode cX7_stands 62 = .ok (.invokevirtual 222, 3) := by decide +kernel
theorem dX7_stands_65 : decode cX7_stands 65 = .ok (.iastore, 1) := by decide +kernel
theorem dX7_stands_66 : decode cX7_stands 66 = .ok (.iinc 1 1, 3) := by decide +kernel
theorem dX7_stands_69 : decode cX7_stands 69 = .ok (.goto (-35), 3) := by decide +kernel
theorem dX7_stands_72 : decode cX7_stands 72 = .ok (.aload_n 0, 1) := by decide +kernel
theorem dX7_stands_73 : decode cX7_stands 73 = .ok (.getfield 40, 3) := by decide +kernel
theorem dX7_stands_76 : decode cX7_stands 76 = .ok (.iconst 3, 1) := by decide +kernel
theorem dX7_stands_77 : decode cX7_stands 77 = .ok (.aload_n 0, 1) := by decide +kernel
theorem dX7_stands_78 : decode cX7_stands 78 = .ok (.getfield 27, 3) := by decide +kernel
theorem dX7_stands_81 : decode cX7_stands 81 = .ok (.sipush 385, 3) := by decide +kernel
theorem dX7_stands_84 : decode cX7_stands 84 = .ok (.iaload, 1) := by decide +kernel
theorem dX7_stands_85 : decode cX7_stands 85 = .ok (.iastore, 1) := by decide +kernel
theorem dX7_stands_86 : decode cX7_stands 86 = .ok (.aload_n 0, 1) := by decide +kernel
theorem dX7_stands_87 : decode cX7_stands 87 = .ok (.getfield 40, 3) := by decide +kernel
theorem dX7_stands_90 : decode cX7_stands 90 = .ok (.iconst 4, 1) := by decide +kernel
theorem dX7_stands_91 : decode cX7_stands 91 = .ok (.aload_n 0, 1) := by decide +kernel
theorem dX7_stands_92 : decode cX7_stands 92 = .ok (.getfield 27, 3) := by decide +kernel
theorem dX7_stands_95 : decode cX7_stands 95 = .ok (.sipush 386, 3) := by decide +kernel
theorem dX7_stands_98 : decode cX7_stands 98 = .ok (.iaload, 1) := by decide +kernel
theorem dX7_stands_99 : decode cX7_stands 99 = .ok (.iastore, 1) := by decide +kernel
theorem dX7_stands_100 : decode cX7_stands 100 = .ok (.aload_n 0, 1) := by decide +kernel
theorem dX7_stands_101 : decode cX7_stands 101 = .ok (.getfield 40, 3) := by decide +kernel
theorem dX7_stands_104 : decode cX7_stands 104 = .ok (.iconst 5, 1) := by decide +kernel
theorem dX7_stands_105 : decode cX7_stands 105 = .ok (.iconst 0, 1) := by decide +kernel
theorem dX7_stands_106 : decode cX7_stands 106 = .ok (.iastore, 1) := by decide +kernel
theorem dX7_stands_107 : decode cX7_stands 107 = .ok (.aload_n 0, 1) := by decide +kernel
theorem dX7_stands_108 : decode cX7_stands 108 = .ok (.iconst (-1), 1) := by decide +kernel
theorem dX7_stands_109 : decode cX7_stands 109 = .ok (.invokevirtual 225, 3) := by decide +kernel
theorem dX7_stands_112 : decode cX7_stands 112 = .ok (.aload_n 0, 1) := by decide +kernel
theorem dX7_stands_113 : decode cX7_stands 113 = .ok (.iconst 0, 1) := by decide +kernel
theorem dX7_stands_114 : decode cX7_stands 114 = .ok (.putfield 228, 3) := by decide +kernel
theorem dX7_stands_117 : decode cX7_stands 117 = .ok (.return_, 1) := by decide +kernel
theorem dX7_lines_0 : decode cX7_lines 0 = .ok (.aload_n 0, 1) := by decide +kernel
theorem dX7_lines_1 : decode cX7_lines 1 = .ok (.getfield 27, 3) := by decide +kernel
theorem dX7_lines_4 : decode cX7_lines 4 = .ok (.sipush 387, 3) := by decide +kernel
theorem dX7_lines_7 : decode cX7_lines 7 = .ok (.iaload, 1) := by decide +kernel
theorem dX7_lines_8 : decode cX7_lines 8 = .ok (.ireturn, 1) := by decide +kernel
theorem dX7_warps_0 : decode cX7_warps 0 = .ok (.aload_n 0, 1) := by decide +kernel
theorem dX7_warps_1 : decode cX7_warps 1 = .ok (.getfield 27, 3) := by decide +kernel
theorem dX7_warps_4 : decode cX7_warps 4 = .ok (.sipush 384, 3) := by decide +kernel
theorem dX7_warps_7 : decode cX7_warps 7 = .ok (.iaload, 1) := by decide +kernel
theorem dX7_warps_8 : decode cX7_warps 8 = .ok (.ireturn, 1) := by decide +kernel
theorem dX7_of_0 : decode cX7_of 0 = .ok (.aload_n 0, 1) := by decide +kernel
theorem dX7_of_1 : decode cX7_of 1 = .ok (.getfield 27, 3) := by decide +kernel
theorem dX7_of_4 : decode cX7_of 4 = .ok (.iload_n 1, 1) := by decide +kernel
theorem dX7_of_5 : decode cX7_of 5 = .ok (.iload_n 2, 1) := by decide +kernel
theorem dX7_of_6 : decode cX7_of 6 = .ok (.invokestatic 144, 3) := by decide +kernel
theorem dX7_of_9 : decode cX7_of 9 = .ok (.iaload, 1) := by decide +kernel
theorem dX7_of_10 : decode cX7_of 10 = .ok (.ireturn, 1) := by decide +kernel
theorem dX7_isFork_0 : decode cX7_isFork 0 = .ok (.aload_n 0, 1) := by decide +kernel
theorem dX7_isFork_1 : decode cX7_isFork 1 = .ok (.iload_n 1, 1) := by decide +kernel
theorem dX7_isFork_2 : decode cX7_isFork 2 = .ok (.iconst 0, 1) := by decide +kernel
theorem dX7_isFork_3 : decode cX7_isFork 3 = .ok (.invokevirtual 231, 3) := by decide +kernel
theorem dX7_isFork_6 : decode cX7_isFork 6 = .ok (.bipush 12, 2) := by decide +kernel
theorem dX7_isFork_8 : decode cX7_isFork 8 = .ok (.if_icmp .ne 18, 3) := by decide +kernel
theorem dX7_isFork_11 : decode cX7_isFork 11 = .ok (.aload_n 0, 1) := by decide +kernel
theorem dX7_isFork_12 : decode cX7_isFork 12 = .ok (.iload_n 1, 1) := by decide +kernel
theorem dX7_isFork_13 : decode cX7_isFork 13 = .ok (.iconst 5, 1) := by decide +kernel
theorem dX7_isFork_14 : decode cX7_isFork 14 = .ok (.invokevirtual 231, 3) := by decide +kernel
theorem dX7_isFork_17 : decode cX7_isFork 17 = .ok (.ldc 167, 2) := by decide +kernel
theorem dX7_isFork_19 : decode cX7_isFork 19 = .ok (.if_icmp .eq 7, 3) := by decide +kernel
theorem dX7_isFork_22 : decode cX7_isFork 22 = .ok (.iconst 1, 1) := by decide +kernel
theorem dX7_isFork_23 : decode cX7_isFork 23 = .ok (.goto 4, 3) := by decide +kernel
theorem dX7_isFork_26 : decode cX7_isFork 26 = .ok (.iconst 0, 1) := by decide +kernel
theorem dX7_isFork_27 : decode cX7_isFork 27 = .ok (.ireturn, 1) := by decide +kernel
theorem dX7_comesTo_0 : decode cX7_comesTo 0 = .ok (.iload_n 1, 1) := by decide +kernel
theorem dX7_comesTo_1 : decode cX7_comesTo 1 = .ok (.iload_n 2, 1) := by decide +kernel
theorem dX7_comesTo_2 : decode cX7_comesTo 2 = .ok (.if_icmp .eq 12, 3) := by decide +kernel
theorem dX7_comesTo_5 : decode cX7_comesTo 5 = .ok (.aload_n 0, 1) := by decide +kernel
theorem dX7_comesTo_6 : decode cX7_comesTo 6 = .ok (.getfield 33, 3) := by decide +kernel
theorem dX7_comesTo_9 : decode cX7_comesTo 9 = .ok (.iload_n 1, 1) := by decide +kernel
theorem dX7_comesTo_10 : decode cX7_comesTo 10 = .ok (.baload, 1) := by decide +kernel
theorem dX7_comesTo_11 : decode cX7_comesTo 11 = .ok (.ifCond .eq 4, 3) := by decide +kernel
theorem dX7_comesTo_14 : decode cX7_comesTo 14 = .ok (.return_, 1) := by decide +kernel
theorem dX7_comesTo_15 : decode cX7_comesTo 15 = .ok (.aload_n 0, 1) := by decide +kernel
theorem dX7_comesTo_16 : decode cX7_comesTo 16 = .ok (.getfield 33, 3) := by decide +kernel
theorem dX7_comesTo_19 : decode cX7_comesTo 19 = .ok (.iload_n 1, 1) := by decide +kernel
theorem dX7_comesTo_20 : decode cX7_comesTo 20 = .ok (.iconst 1, 1) := by decide +kernel
theorem dX7_comesTo_21 : decode cX7_comesTo 21 = .ok (.bastore, 1) := by decide +kernel
theorem dX7_comesTo_22 : decode cX7_comesTo 22 = .ok (.aload_n 0, 1) := by decide +kernel
theorem dX7_comesTo_23 : decode cX7_comesTo 23 = .ok (.getfield 37, 3) := by decide +kernel
theorem dX7_comesTo_26 : decode cX7_comesTo 26 = .ok (.aload_n 0, 1) := by decide +kernel
theorem dX7_comesTo_27 : decode cX7_comesTo 27 = .ok (.getfield 234, 3) := by decide +kernel
theorem dX7_comesTo_30 : decode cX7_comesTo 30 = .ok (.iload_n 1, 1) := by decide +kernel
theorem dX7_comesTo_31 : decode cX7_comesTo 31 = .ok (.iastore, 1) := by decide +kernel
theorem dX7_comesTo_32 : decode cX7_comesTo 32 = .ok (.aload_n 0, 1) := by decide +kernel
theorem dX7_comesTo_33 : decode cX7_comesTo 33 = .ok (.dup, 1) := by decide +kernel
theorem dX7_comesTo_34 : decode cX7_comesTo 34 = .ok (.getfield 234, 3) := by decide +kernel
theorem dX7_comesTo_37 : decode cX7_comesTo 37 = .ok (.iconst 1, 1) := by decide +kernel
theorem dX7_comesTo_38 : decode cX7_comesTo 38 = .ok (.iadd, 1) := by decide +kernel
theorem dX7_comesTo_39 : decode cX7_comesTo 39 = .ok (.putfield 234, 3) := by decide +kernel
theorem dX7_comesTo_42 : decode cX7_comesTo 42 = .ok (.return_, 1) := by decide +kernel
theorem dX7_goesFrom_0 : decode cX7_goesFrom 0 = .ok (.iload_n 1, 1) := by decide +kernel
theorem dX7_goesFrom_1 : decode cX7_goesFrom 1 = .ok (.aload_n 0, 1) := by decide +kernel
theorem dX7_goesFrom_2 : decode cX7_goesFrom 2 = .ok (.invokevirtual 212, 3) := by decide +kernel
theorem dX7_goesFrom_5 : decode cX7_goesFrom 5 = .ok (.if_icmp .ne 4, 3) := by decide +kernel
theorem dX7_goesFrom_8 : decode cX7_goesFrom 8 = .ok (.return_, 1) := by decide +kernel
theorem dX7_goesFrom_9 : decode cX7_goesFrom 9 = .ok (.aload_n 0, 1) := by decide +kernel
theorem dX7_goesFrom_10 : decode cX7_goesFrom 10 = .ok (.iload_n 1, 1) := by decide +kernel
theorem dX7_goesFrom_11 : decode cX7_goesFrom 11 = .ok (.iconst 0, 1) := by decide +kernel
theorem dX7_goesFrom_12 : decode cX7_goesFrom 12 = .ok (.invokevirtual 231, 3) := by decide +kernel
theorem dX7_goesFrom_15 : decode cX7_goesFrom 15 = .ok (.istore_n 3, 1) := by decide +kernel
theorem dX7_goesFrom_16 : decode cX7_goesFrom 16 = .ok (.iload_n 3, 1) := by decide +kernel
theorem dX7_goesFrom_17 : decode cX7_goesFrom 17 = .ok (.bipush 15, 2) := by decide +kernel
theorem dX7_goesFrom_19 : decode cX7_goesFrom 19 = .ok (.if_icmp .ne 12, 3) := by decide +kernel
theorem dX7_goesFrom_22 : decode cX7_goesFrom 22 = .ok (.aload_n 0, 1) := by decide +kernel
theorem dX7_goesFrom_23 : decode cX7_goesFrom 23 = .ok (.aload_n 0, 1) := by decide +kernel
theorem dX7_goesFrom_24 : decode cX7_goesFrom 24 = .ok (.invokevirtual 212, 3) := by decide +kernel
theorem dX7_goesFrom_27 : decode cX7_goesFrom 27 = .ok (.iload_n 2, 1) := by decide +kernel
theorem dX7_goesFrom_28 : decode cX7_goesFrom 28 = .ok (.invokevirtual 237, 3) := by decide +kernel
theorem dX7_goesFrom_31 : decode cX7_goesFrom 31 = .ok (.iload_n 3, 1) := by decide +kernel
theorem dX7_goesFrom_32 : decode cX7_goesFrom 32 = .ok (.bipush 12, 2) := by decide +kernel
theorem dX7_goesFrom_34 : decode cX7_goesFrom 34 = .ok (.if_icmp .ne 14, 3) := by decide +kernel
theorem dX7_goesFrom_37 : decode cX7_goesFrom 37 = .ok (.aload_n 0, 1) := by decide +kernel
theorem dX7_goesFrom_38 : decode cX7_goesFrom 38 = .ok (.aload_n 0, 1) := by decide +kernel
theorem dX7_goesFrom_39 : decode cX7_goesFrom 39 = .ok (.iload_n 1, 1) := by decide +kernel
theorem dX7_goesFrom_40 : decode cX7_goesFrom 40 = .ok (.iconst 4, 1) := by decide +kernel
theorem dX7_goesFrom_41 : decode cX7_goesFrom 41 = .ok (.invokevirtual 231, 3) := by decide +kernel
theorem dX7_goesFrom_44 : decode cX7_goesFrom 44 = .ok (.iload_n 2, 1) := by decide +kernel
theorem dX7_goesFrom_45 : decode cX7_goesFrom 45 = .ok (.invokevirtual 237, 3) := by decide +kernel
theorem dX7_goesFrom_48 : decode cX7_goesFrom 48 = .ok (.iload_n 3, 1) := by decide +kernel
theorem dX7_goesFrom_49 : decode cX7_goesFrom 49 = .ok (.bipush 15, 2) := by decide +kernel
theorem dX7_goesFrom_51 : decode cX7_goesFrom 51 = .ok (.if_icmp .eq 25, 3) := by decide +kernel
theorem dX7_goesFrom_54 : decode cX7_goesFrom 54 = .ok (.iload_n 3, 1) := by decide +kernel
theorem dX7_goesFrom_55 : decode cX7_goesFrom 55 = .ok (.bipush 12, 2) := by decide +kernel
theorem dX7_goesFrom_57 : decode cX7_goesFrom 57 = .ok (.if_icmp .ne 11, 3) := by decide +kernel
theorem dX7_goesFrom_60 : decode cX7_goesFrom 60 = .ok (.aload_n 0, 1) := by decide +kernel
theorem dX7_goesFrom_61 : decode cX7_goesFrom 61 = .ok (.iload_n 1, 1) := by decide +kernel
theorem dX7_goesFrom_62 : decode cX7_goesFrom 62 = .ok (.invokevirtual 219, 3) := by decide +kernel
theorem dX7_goesFrom_65 : decode cX7_goesFrom 65 = .ok (.ifCond .eq 11, 3) := by decide +kernel
theorem dX7_goesFrom_68 : decode cX7_goesFrom 68 = .ok (.aload_n 0, 1) := by decide +kernel
theorem dX7_goesFrom_69 : decode cX7_goesFrom 69 = .ok (.iload_n 1, 1) := by decide +kernel
theorem dX7_goesFrom_70 : decode cX7_goesFrom 70 = .ok (.iconst 1, 1) := by decide +kernel
theorem dX7_goesFrom_71 : decode cX7_goesFrom 71 = .ok (.iadd, 1) := by decide +kernel
theorem dX7_goesFrom_72 : decode cX7_goesFrom 72 = .ok (.iload_n 2, 1) := by decide +kernel
theorem dX7_goesFrom_73 : decode cX7_goesFrom 73 = .ok (.invokevirtual 237, 3) := by decide +kernel
theorem dX7_goesFrom_76 : decode cX7_goesFrom 76 = .ok (.return_, 1) := by decide +kernel
theorem dX7_isEndReached_0 : decode cX7_isEndReached 0 = .ok (.iconst 0, 1) := by decide +kernel
theorem dX7_isEndReached_1 : decode cX7_isEndReached 1 = .ok (.istore_n 3, 1) := by decide +kernel
theorem dX7_isEndReached_2 : decode cX7_isEndReached 2 = .ok (.iload_n 3, 1) := by decide +kernel
theorem dX7_isEndReached_3 : decode cX7_isEndReached 3 = .ok (.bipush 40, 2) := by decide +kernel
theorem dX7_isEndReached_5 : decode cX7_isEndReached 5 = .ok (.if_icmp .gt 16, 3) := by decide +kernel
theorem dX7_isEndReached_8 : decode cX7_isEndReached 8 = .ok (.aload_n 0, 1) := by decide +kernel
theorem dX7_isEndReached_9 : decode cX7_isEndReached 9 = .ok (.getfield 33, 3) := by decide +kernel
theorem dX7_isEndReached_12 : decode cX7_isEndReached 12 = .ok (.iload_n 3, 1) := by decide +kernel
theorem dX7_isEndReached_13 : decode cX7_isEndReached 13 = .ok (.iconst 0, 1) := by decide +kernel
theorem dX7_isEndReached_14 : decode cX7_isEndReached 14 = .ok (.bastore, 1) := by decide +kernel
theorem dX7_isEndReached_15 : decode cX7_isEndReached 15 = .ok (.iinc 3 1, 3) := by decide +kernel
theorem dX7_isEndReached_18 : decode cX7_isEndReached 18 = .ok (.goto (-16), 3) := by decide +kernel
theorem dX7_isEndReached_21 : decode cX7_isEndReached 21 = .ok (.aload_n 0, 1) := by decide +kernel
theorem dX7_isEndReached_22 : decode cX7_isEndReached 22 = .ok (.iconst 0, 1) := by decide +kernel
theorem dX7_isEndReached_23 : decode cX7_isEndReached 23 = .ok (.putfield 234, 3) := by decide +kernel
theorem dX7_isEndReached_26 : decode cX7_isEndReached 26 = .ok (.aload_n 0, 1) := by decide +kernel
theorem dX7_isEndReached_27 : decode cX7_isEndReached 27 = .ok (.iload_n 1, 1) := by decide +kernel
theorem dX7_isEndReached_28 : decode cX7_isEndReached 28 = .ok (.iload_n 2, 1) := by decide +kernel
theorem dX7_isEndReached_29 : decode cX7_isEndReached 29 = .ok (.invokevirtual 240, 3) := by decide +kernel
theorem dX7_isEndReached_32 : decode cX7_isEndReached 32 = .ok (.iconst 0, 1) := by decide +kernel
theorem dX7_isEndReached_33 : decode cX7_isEndReached 33 = .ok (.istore_n 3, 1) := by decide +kernel
theorem dX7_isEndReached_34 : decode cX7_isEndReached 34 = .ok (.iload_n 3, 1) := by decide +kernel
theorem dX7_isEndReached_35 : decode cX7_isEndReached 35 = .ok (.aload_n 0, 1) := by decide +kernel
theorem dX7_isEndReached_36 : decode cX7_isEndReached 36 = .ok (.getfield 234, 3) := by decide +kernel
theorem dX7_isEndReached_39 : decode cX7_isEndReached 39 = .ok (.if_icmp .ge 20, 3) := by decide +kernel
theorem dX7_isEndReached_42 : decode cX7_isEndReached 42 = .ok (.aload_n 0, 1) := by decide +kernel
theorem dX7_isEndReached_43 : decode cX7_isEndReached 43 = .ok (.aload_n 0, 1) := by decide +kernel
theorem dX7_isEndReached_44 : decode cX7_isEndReached 44 = .ok (.getfield 37, 3) := by decide +kernel
theorem dX7_isEndReached_47 : decode cX7_isEndReached 47 = .ok (.iload_n 3, 1) := by decide +kernel
theorem dX7_isEndReached_48 : decode cX7_isEndReached 48 = .ok (.iaload, 1) := by decide +kernel
theorem dX7_isEndReached_49 : decode cX7_isEndReached 49 = .ok (.iload_n 2, 1) := by decide +kernel
theorem dX7_isEndReached_50 : decode cX7_isEndReached 50 = .ok (.invokevirtual 240, 3) := by decide +kernel
theorem dX7_isEndReached_53 : decode cX7_isEndReached 53 = .ok (.iinc 3 1, 3) := by decide +kernel
theorem dX7_isEndReached_56 : decode cX7_isEndReached 56 = .ok (.goto (-22), 3) := by decide +kernel
theorem dX7_isEndReached_59 : decode cX7_isEndReached 59 = .ok (.aload_n 0, 1) := by decide +kernel
theorem dX7_isEndReached_60 : decode cX7_isEndReached 60 = .ok (.getfield 33, 3) := by decide +kernel
theorem dX7_isEndReached_63 : decode cX7_isEndReached 63 = .ok (.aload_n 0, 1) := by decide +kernel
theorem dX7_isEndReached_64 : decode cX7_isEndReached 64 = .ok (.invokevirtual 212, 3) := by decide +kernel
theorem dX7_isEndReached_67 : decode cX7_isEndReached 67 = .ok (.baload, 1) := by decide +kernel
theorem dX7_isEndReached_68 : decode cX7_isEndReached 68 = .ok (.ireturn, 1) := by decide +kernel
theorem dX7_meetOf_0 : decode cX7_meetOf 0 = .ok (.aload_n 0, 1) := by decide +kernel
theorem dX7_meetOf_1 : decode cX7_meetOf 1 = .ok (.iload_n 1, 1) := by decide +kernel
theorem dX7_meetOf_2 : decode cX7_meetOf 2 = .ok (.iconst (-1), 1) := by decide +kernel
theorem dX7_meetOf_3 : decode cX7_meetOf 3 = .ok (.invokevirtual 243, 3) := by decide +kernel
theorem dX7_meetOf_6 : decode cX7_meetOf 6 = .ok (.ifCond .ne 8, 3) := by decide +kernel
theorem dX7_meetOf_9 : decode cX7_meetOf 9 = .ok (.aload_n 0, 1) := by decide +kernel
theorem dX7_meetOf_10 : decode cX7_meetOf 10 = .ok (.invokevirtual 212, 3) := by decide +kernel
theorem dX7_meetOf_13 : decode cX7_meetOf 13 = .ok (.ireturn, 1) := by decide +kernel
theorem dX7_meetOf_14 : decode cX7_meetOf 14 = .ok (.iconst 0, 1) := by decide +kernel
theorem dX7_meetOf_15 : decode cX7_meetOf 15 = .ok (.istore_n 2, 1) := by decide +kernel
theorem dX7_meetOf_16 : decode cX7_meetOf 16 = .ok (.iload_n 2, 1) := by decide +kernel
theorem dX7_meetOf_17 : decode cX7_meetOf 17 = .ok (.aload_n 0, 1) := by decide +kernel
theorem dX7_meetOf_18 : decode cX7_meetOf 18 = .ok (.invokevirtual 212, 3) := by decide +kernel
theorem dX7_meetOf_21 : decode cX7_meetOf 21 = .ok (.if_icmp .ge 34, 3) := by decide +kernel
theorem dX7_meetOf_24 : decode cX7_meetOf 24 = .ok (.iload_n 2, 1) := by decide +kernel
theorem dX7_meetOf_25 : decode cX7_meetOf 25 = .ok (.iload_n 1, 1) := by decide +kernel
theorem dX7_meetOf_26 : decode cX7_meetOf 26 = .ok (.if_icmp .eq 23, 3) := by decide +kernel
theorem dX7_meetOf_29 : decode cX7_meetOf 29 = .ok (.aload_n 0, 1) := by decide +kernel
theorem dX7_meetOf_30 : decode cX7_meetOf 30 = .ok (.iload_n 1, 1) := by decide +kernel
theorem dX7_meetOf_31 : decode cX7_meetOf 31 = .ok (.iload_n 2, 1) := by decide +kernel
theorem dX7_meetOf_32 : decode cX7_meetOf 32 = .ok (.invokevirtual 243, 3) := by decide +kernel
theorem dX7_meetOf_35 : decode cX7_meetOf 35 = .ok (.ifCond .ne 14, 3) := by decide +kernel
theorem dX7_meetOf_38 : decode cX7_meetOf 38 = .ok (.aload_n 0, 1) := by decide +kernel
theorem dX7_meetOf_39 : decode cX7_meetOf 39 = .ok (.iload_n 1, 1) := by decide +kernel
theorem dX7_meetOf_40 : decode cX7_meetOf 40 = .ok (.iload_n 2, 1) := by decide +kernel
theorem dX7_meetOf_41 : decode cX7_meetOf 41 = .ok (.invokevirtual 246, 3) := by decide +kernel
theorem dX7_meetOf_44 : decode cX7_meetOf 44 = .ok (.ifCond .eq 5, 3) := by decide +kernel
theorem dX7_meetOf_47 : decode cX7_meetOf 47 = .ok (.iload_n 2, 1) := by decide +kernel
theorem dX7_meetOf_48 : decode cX7_meetOf 48 = .ok (.ireturn, 1) := by decide +kernel
theorem dX7_meetOf_49 : decode cX7_meetOf 49 = .ok (.iinc 2 1, 3) := by decide +kernel
theorem dX7_meetOf_52 : decode cX7_meetOf 52 = .ok (.goto (-36), 3) := by decide +kernel
theorem dX7_meetOf_55 : decode cX7_meetOf 55 = .ok (.aload_n 0, 1) := by decide +kernel
theorem dX7_meetOf_56 : decode cX7_meetOf 56 = .ok (.invokevirtual 212, 3) := by decide +kernel
theorem dX7_meetOf_59 : decode cX7_meetOf 59 = .ok (.ireturn, 1) := by decide +kernel
theorem dX7_isFirst_0 : decode cX7_isFirst 0 = .ok (.iconst 0, 1) := by decide +kernel
theorem dX7_isFirst_1 : decode cX7_isFirst 1 = .ok (.istore_n 3, 1) := by decide +kernel
theorem dX7_isFirst_2 : decode cX7_isFirst 2 = .ok (.iload_n 3, 1) := by decide +kernel
theorem dX7_isFirst_3 : decode cX7_isFirst 3 = .ok (.aload_n 0, 1) := by decide +kernel
theorem dX7_isFirst_4 : decode cX7_isFirst 4 = .ok (.invokevirtual 212, 3) := by decide +kernel
theorem dX7_isFirst_7 : decode cX7_isFirst 7 = .ok (.if_icmp .ge 49, 3) := by decide +kernel
theorem dX7_isFirst_10 : decode cX7_isFirst 10 = .ok (.iload_n 3, 1) := by decide +kernel
theorem dX7_isFirst_11 : decode cX7_isFirst 11 = .ok (.iload_n 1, 1) := by decide +kernel
theorem dX7_isFirst_12 : decode cX7_isFirst 12 = .ok (.if_icmp .eq 38, 3) := by decide +kernel
theorem dX7_isFirst_15 : decode cX7_isFirst 15 = .ok (.iload_n 3, 1) := by decide +kernel
theorem dX7_isFirst_16 : decode cX7_isFirst 16 = .ok (.iload_n 2, 1) := by decide +kernel
theorem dX7_isFirst_17 : decode cX7_isFirst 17 = .ok (.if_icmp .eq 33, 3) := by decide +kernel
theorem dX7_isFirst_20 : decode cX7_isFirst 20 = .ok (.aload_n 0, 1) := by decide +kernel
theorem dX7_isFirst_21 : decode cX7_isFirst 21 = .ok (.iload_n 1, 1) := by decide +kernel
theorem dX7_isFirst_22 : decode cX7_isFirst 22 = .ok (.iload_n 3, 1) := by decide +kernel
theorem dX7_isFirst_23 : decode cX7_isFirst 23 = .ok (.invokevirtual 243, 3) := by decide +kernel
theorem dX7_isFirst_26 : decode cX7_isFirst 26 = .ok (.ifCond .eq 6, 3) := by decide +kernel
theorem dX7_isFirst_29 : decode cX7_isFirst 29 = .ok (.goto 21, 3) := by decide +kernel
theorem dX7_isFirst_32 : decode cX7_isFirst 32 = .ok (.aload_n 0, 1) := by decide +kernel
theorem dX7_isFirst_33 : decode cX7_isFirst 33 = .ok (.iload_n 1, 1) := by decide +kernel
theorem dX7_isFirst_34 : decode cX7_isFirst 34 = .ok (.iload_n 2, 1) := by decide +kernel
theorem dX7_isFirst_35 : decode cX7_isFirst 35 = .ok (.invokevirtual 243, 3) := by decide +kernel
theorem dX7_isFirst_38 : decode cX7_isFirst 38 = .ok (.pop, 1) := by decide +kernel
theorem dX7_isFirst_39 : decode cX7_isFirst 39 = .ok (.aload_n 0, 1) := by decide +kernel
theorem dX7_isFirst_40 : decode cX7_isFirst 40 = .ok (.getfield 33, 3) := by decide +kernel
theorem dX7_isFirst_43 : decode cX7_isFirst 43 = .ok (.iload_n 3, 1) := by decide +kernel
theorem dX7_isFirst_44 : decode cX7_isFirst 44 = .ok (.baload, 1) := by decide +kernel
theorem dX7_isFirst_45 : decode cX7_isFirst 45 = .ok (.ifCond .eq 5, 3) := by decide +kernel
theorem dX7_isFirst_48 : decode cX7_isFirst 48 = .ok (.iconst 0, 1) := by decide +kernel
theorem dX7_isFirst_49 : decode cX7_isFirst 49 = .ok (.ireturn, 1) := by decide +kernel
theorem dX7_isFirst_50 : decode cX7_isFirst 50 = .ok (.iinc 3 1, 3) := by decide +kernel
theorem dX7_isFirst_53 : decode cX7_isFirst 53 = .ok (.goto (-51), 3) := by decide +kernel
theorem dX7_isFirst_56 : decode cX7_isFirst 56 = .ok (.iconst 1, 1) := by decide +kernel
theorem dX7_isFirst_57 : decode cX7_isFirst 57 = .ok (.ireturn, 1) := by decide +kernel
theorem dX7_warpAt_0 : decode cX7_warpAt 0 = .ok (.bipush 104, 2) := by decide +kernel
theorem dX7_warpAt_2 : decode cX7_warpAt 2 = .ok (.bipush 6, 2) := by decide +kernel
theorem dX7_warpAt_4 : decode cX7_warpAt 4 = .ok (.iload_n 0, 1) := by decide +kernel
theorem dX7_warpAt_5 : decode cX7_warpAt 5 = .ok (.imul, 1) := by decide +kernel
theorem dX7_warpAt_6 : decode cX7_warpAt 6 = .ok (.iadd, 1) := by decide +kernel
theorem dX7_warpAt_7 : decode cX7_warpAt 7 = .ok (.iload_n 1, 1) := by decide +kernel
theorem dX7_warpAt_8 : decode cX7_warpAt 8 = .ok (.iadd, 1) := by decide +kernel
theorem dX7_warpAt_9 : decode cX7_warpAt 9 = .ok (.ireturn, 1) := by decide +kernel
theorem dX7_its_0 : decode cX7_its 0 = .ok (.aload_n 0, 1) := by decide +kernel
theorem dX7_its_1 : decode cX7_its 1 = .ok (.getfield 40, 3) := by decide +kernel
theorem dX7_its_4 : decode cX7_its 4 = .ok (.iload_n 1, 1) := by decide +kernel
theorem dX7_its_5 : decode cX7_its 5 = .ok (.iload_n 2, 1) := by decide +kernel
theorem dX7_its_6 : decode cX7_its 6 = .ok (.invokestatic 249, 3) := by decide +kernel
theorem dX7_its_9 : decode cX7_its 9 = .ok (.iaload, 1) := by decide +kernel
theorem dX7_its_10 : decode cX7_its 10 = .ok (.ireturn, 1) := by decide +kernel
theorem dX7_registerAt_0 : decode cX7_registerAt 0 = .ok (.sipush 128, 3) := by decide +kernel
theorem dX7_registerAt_3 : decode cX7_registerAt 3 = .ok (.bipush 32, 2) := by decide +kernel
theorem dX7_registerAt_5 : decode cX7_registerAt 5 = .ok (.iload_n 0, 1) := by decide +kernel
theorem dX7_registerAt_6 : decode cX7_registerAt 6 = .ok (.imul, 1) := by decide +kernel
theorem dX7_registerAt_7 : decode cX7_registerAt 7 = .ok (.iadd, 1) := by decide +kernel
theorem dX7_registerAt_8 : decode cX7_registerAt 8 = .ok (.iconst 4, 1) := by decide +kernel
theorem dX7_registerAt_9 : decode cX7_registerAt 9 = .ok (.iload_n 1, 1) := by decide +kernel
theorem dX7_registerAt_10 : decode cX7_registerAt 10 = .ok (.imul, 1) := by decide +kernel
theorem dX7_registerAt_11 : decode cX7_registerAt 11 = .ok (.iadd, 1) := by decide +kernel
theorem dX7_registerAt_12 : decode cX7_registerAt 12 = .ok (.iload_n 2, 1) := by decide +kernel
theorem dX7_registerAt_13 : decode cX7_registerAt 13 = .ok (.iadd, 1) := by decide +kernel
theorem dX7_registerAt_14 : decode cX7_registerAt 14 = .ok (.ireturn, 1) := by decide +kernel
theorem dX7_nextAt_0 : decode cX7_nextAt 0 = .ok (.sipush 256, 3) := by decide +kernel
theorem dX7_nextAt_3 : decode cX7_nextAt 3 = .ok (.bipush 8, 2) := by decide +kernel
theorem dX7_nextAt_5 : decode cX7_nextAt 5 = .ok (.iload_n 0, 1) := by decide +kernel
theorem dX7_nextAt_6 : decode cX7_nextAt 6 = .ok (.imul, 1) := by decide +kernel
theorem dX7_nextAt_7 : decode cX7_nextAt 7 = .ok (.iadd, 1) := by decide +kernel
theorem dX7_nextAt_8 : decode cX7_nextAt 8 = .ok (.iload_n 1, 1) := by decide +kernel
theorem dX7_nextAt_9 : decode cX7_nextAt 9 = .ok (.iadd, 1) := by decide +kernel
theorem dX7_nextAt_10 : decode cX7_nextAt 10 = .ok (.ireturn, 1) := by decide +kernel
theorem dX7_partAt_0 : decode cX7_partAt 0 = .ok (.sipush 288, 3) := by decide +kernel
theorem dX7_partAt_3 : decode cX7_partAt 3 = .ok (.iconst 3, 1) := by decide +kernel
theorem dX7_partAt_4 : decode cX7_partAt 4 = .ok (.bipush 16, 2) := by decide +kernel
theorem dX7_partAt_6 : decode cX7_partAt 6 = .ok (.iload_n 0, 1) := by decide +kernel
theorem dX7_partAt_7 : decode cX7_partAt 7 = .ok (.imul, 1) := by decide +kernel
theorem dX7_partAt_8 : decode cX7_partAt 8 = .ok (.iload_n 1, 1) := by decide +kernel
theorem dX7_partAt_9 : decode cX7_partAt 9 = .ok (.iadd, 1) := by decide +kernel
theorem dX7_partAt_10 : decode cX7_partAt 10 = .ok (.imul, 1) := by decide +kernel
theorem dX7_partAt_11 : decode cX7_partAt 11 = .ok (.iadd, 1) := by decide +kernel
theorem dX7_partAt_12 : decode cX7_partAt 12 = .ok (.iload_n 2, 1) := by decide +kernel
theorem dX7_partAt_13 : decode cX7_partAt 13 = .ok (.iadd, 1) := by decide +kernel
theorem dX7_partAt_14 : decode cX7_partAt 14 = .ok (.ireturn, 1) := by decide +kernel
theorem dX7_top_0 : decode cX7_top 0 = .ok (.aload_n 0, 1) := by decide +kernel
theorem dX7_top_1 : decode cX7_top 1 = .ok (.iload_n 1, 1) := by decide +kernel
theorem dX7_top_2 : decode cX7_top 2 = .ok (.iconst 5, 1) := by decide +kernel
theorem dX7_top_3 : decode cX7_top 3 = .ok (.invokevirtual 252, 3) := by decide +kernel
theorem dX7_top_6 : decode cX7_top 6 = .ok (.iconst 1, 1) := by decide +kernel
theorem dX7_top_7 : decode cX7_top 7 = .ok (.isub, 1) := by decide +kernel
theorem dX7_top_8 : decode cX7_top 8 = .ok (.ireturn, 1) := by decide +kernel
theorem dX7_isOf_0 : decode cX7_isOf 0 = .ok (.iload_n 0, 1) := by decide +kernel
theorem dX7_isOf_1 : decode cX7_isOf 1 = .ok (.iload_n 1, 1) := by decide +kernel
theorem dX7_isOf_2 : decode cX7_isOf 2 = .ok (.ishr, 1) := by decide +kernel
theorem dX7_isOf_3 : decode cX7_isOf 3 = .ok (.iconst 1, 1) := by decide +kernel
theorem dX7_isOf_4 : decode cX7_isOf 4 = .ok (.iand, 1) := by decide +kernel
theorem dX7_isOf_5 : decode cX7_isOf 5 = .ok (.iconst 1, 1) := by decide +kernel
theorem dX7_isOf_6 : decode cX7_isOf 6 = .ok (.if_icmp .ne 7, 3) := by decide +kernel
theorem dX7_isOf_9 : decode cX7_isOf 9 = .ok (.iconst 1, 1) := by decide +kernel
theorem dX7_isOf_10 : decode cX7_isOf 10 = .ok (.goto 4, 3) := by decide +kernel
theorem dX7_isOf_13 : decode cX7_isOf 13 = .ok (.iconst 0, 1) := by decide +kernel
theorem dX7_isOf_14 : decode cX7_isOf 14 = .ok (.ireturn, 1) := by decide +kernel
theorem dX7_begins_0 : decode cX7_begins 0 = .ok (.iconst 0, 1) := by decide +kernel
theorem dX7_begins_1 : decode cX7_begins 1 = .ok (.istore_n 2, 1) := by decide +kernel
theorem dX7_begins_2 : decode cX7_begins 2 = .ok (.iload_n 2, 1) := by decide +kernel
theorem dX7_begins_3 : decode cX7_begins 3 = .ok (.sipush 918, 3) := by decide +kernel
theorem dX7_begins_6 : decode cX7_begins 6 = .ok (.if_icmp .ge 26, 3) := by decide +kernel
theorem dX7_begins_9 : decode cX7_begins 9 = .ok (.iload_n 2, 1) := by decide +kernel
theorem dX7_begins_10 : decode cX7_begins 10 = .ok (.iconst 3, 1) := by decide +kernel
theorem dX7_begins_11 : decode cX7_begins 11 = .ok (.if_icmp .lt 8, 3) := by decide +kernel
theorem dX7_begins_14 : decode cX7_begins 14 = .ok (.iload_n 2, 1) := by decide +kernel
theorem dX7_begins_15 : decode cX7_begins 15 = .ok (.iconst 5, 1) := by decide +kernel
theorem dX7_begins_16 : decode cX7_begins 16 = .ok (.if_icmp .le 10, 3) := by decide +kernel
theorem dX7_begins_19 : decode cX7_begins 19 = .ok (.aload_n 0, 1) := by decide +kernel
theorem dX7_begins_20 : decode cX7_begins 20 = .ok (.getfield 40, 3) := by decide +kernel
theorem dX7_begins_23 : decode cX7_begins 23 = .ok (.iload_n 2, 1) := by decide +kernel
theorem dX7_begins_24 : decode cX7_begins 24 = .ok (.iconst 0, 1) := by decide +kernel
theorem dX7_begins_25 : decode cX7_begins 25 = .ok (.iastore, 1) := by decide +kernel
theorem dX7_begins_26 : decode cX7_begins 26 = .ok (.iinc 2 1, 3) := by decide +kernel
theorem dX7_begins_29 : decode cX7_begins 29 = .ok (.goto (-27), 3) := by decide +kernel
theorem dX7_begins_32 : decode cX7_begins 32 = .ok (.aload_n 0, 1) := by decide +kernel
theorem dX7_begins_33 : decode cX7_begins 33 = .ok (.getfield 40, 3) := by decide +kernel
theorem dX7_begins_36 : decode cX7_begins 36 = .ok (.bipush 6, 2) := by decide +kernel
theorem dX7_begins_38 : decode cX7_begins 38 = .ok (.iconst (-1), 1) := by decide +kernel
theorem dX7_begins_39 : decode cX7_begins 39 = .ok (.iastore, 1) := by decide +kernel
theorem dX7_begins_40 : decode cX7_begins 40 = .ok (.iconst 0, 1) := by decide +kernel
theorem dX7_begins_41 : decode cX7_begins 41 = .ok (.istore_n 2, 1) := by decide +kernel
theorem dX7_begins_42 : decode cX7_begins 42 = .ok (.iload_n 2, 1) := by decide +kernel
theorem dX7_begins_43 : decode cX7_begins 43 = .ok (.bipush 64, 2) := by decide +kernel
theorem dX7_begins_45 : decode cX7_begins 45 = .ok (.if_icmp .ge 28, 3) := by decide +kernel
theorem dX7_begins_48 : decode cX7_begins 48 = .ok (.aload_n 0, 1) := by decide +kernel
theorem dX7_begins_49 : decode cX7_begins 49 = .ok (.getfield 40, 3) := by decide +kernel
theorem dX7_begins_52 : decode cX7_begins 52 = .ok (.bipush 8, 2) := by decide +kernel
theorem dX7_begins_54 : decode cX7_begins 54 = .ok (.iload_n 2, 1) := by decide +kernel
theorem dX7_begins_55 : decode cX7_begins 55 = .ok (.iadd, 1) := by decide +kernel
theorem dX7_begins_56 : decode cX7_begins 56 = .ok (.aload_n 0, 1) := by decide +kernel
theorem dX7_begins_57 : decode cX7_begins 57 = .ok (.getfield 27, 3) := by decide +kernel
theorem dX7_begins_60 : decode cX7_begins 60 = .ok (.sipush 320, 3) := by decide +kernel
theorem dX7_begins_63 : decode cX7_begins 63 = .ok (.iload_n 2, 1) := by decide +kernel
theorem dX7_begins_64 : decode cX7_begins 64 = .ok (.iadd, 1) := by decide +kernel
theorem dX7_begins_65 : decode cX7_begins 65 = .ok (.iaload, 1) := by decide +kernel
theorem dX7_begins_66 : decode cX7_begins 66 = .ok (.iastore, 1) := by decide +kernel
theorem dX7_begins_67 : decode cX7_begins 67 = .ok (.iinc 2 1, 3) := by decide +kernel
theorem dX7_begins_70 : decode cX7_begins 70 = .ok (.goto (-28), 3) := by decide +kernel
theorem dX7_begins_73 : decode cX7_begins 73 = .ok (.iconst 0, 1) := by decide +kernel
theorem dX7_begins_74 : decode cX7_begins 74 = .ok (.istore_n 2, 1) := by decide +kernel
theorem dX7_begins_75 : decode cX7_begins 75 = .ok (.iload_n 2, 1) := by decide +kernel
theorem dX7_begins_76 : decode cX7_begins 76 = .ok (.aload_n 0, 1) := by decide +kernel
theorem dX7_begins_77 : decode cX7_begins 77 = .ok (.invokevirtual 255, 3) := by decide +kernel
theorem dX7_begins_80 : decode cX7_begins 80 = .ok (.if_icmp .ge 118, 3) := by decide +kernel
theorem dX7_begins_83 : decode cX7_begins 83 = .ok (.iload_n 1, 1) := by decide +kernel
theorem dX7_begins_84 : decode cX7_begins 84 = .ok (.iconst (-1), 1) := by decide +kernel
theorem dX7_begins_85 : decode cX7_begins 85 = .ok (.if_icmp .ne 9, 3) := by decide +kernel
theorem dX7_begins_88 : decode cX7_begins 88 = .ok (.sipush 255, 3) := by decide +kernel
theorem dX7_begins_91 : decode cX7_begins 91 = .ok (.goto 21, 3) := by decide +kernel
theorem dX7_begins_94 : decode cX7_begins 94 = .ok (.iload_n 1, 1) := by decide +kernel
theorem dX7_begins_95 : decode cX7_begins 95 = .ok (.bipush 8, 2) := by decide +kernel
theorem dX7_begins_97 : decode cX7_begins 97 = .ok (.idiv, 1) := by decide +kernel
theorem dX7_begins_98 : decode cX7_begins 98 = .ok (.iload_n 2, 1) := by decide +kernel
theorem dX7_begins_99 : decode cX7_begins 99 = .ok (.if_icmp .ne 12, 3) := by decide +kernel
theorem dX7_begins_102 : decode cX7_begins 102 = .ok (.iconst 1, 1) := by decide +kernel
theorem dX7_begins_103 : decode cX7_begins 103 = .ok (.iload_n 1, 1) := by decide +kernel
theorem dX7_begins_104 : decode cX7_begins 104 = .ok (.bipush 8, 2) := by decide +kernel
theorem dX7_begins_106 : decode cX7_begins 106 = .ok (.irem, 1) := by decide +kernel
theorem dX7_begins_107 : decode cX7_begins 107 = .ok (.ishl, 1) := by decide +kernel
theorem dX7_begins_108 : decode cX7_begins 108 = .ok (.goto 4, 3) := by decide +kernel
theorem dX7_begins_111 : decode cX7_begins 111 = .ok (.iconst 0, 1) := by decide +kernel
theorem dX7_begins_112 : decode cX7_begins 112 = .ok (.istore_n 3, 1) := by decide +kernel
theorem dX7_begins_113 : decode cX7_begins 113 = .ok (.aload_n 0, 1) := by decide +kernel
theorem dX7_begins_114 : decode cX7_begins 114 = .ok (.getfield 40, 3) := by decide +kernel
theorem dX7_begins_117 : decode cX7_begins 117 = .ok (.iload_n 2, 1) := by decide +kernel
theorem dX7_begins_118 : decode cX7_begins 118 = .ok (.iconst 3, 1) := by decide +kernel
theorem dX7_begins_119 : decode cX7_begins 119 = .ok (.invokestatic 249, 3) := by decide +kernel
theorem dX7_begins_122 : decode cX7_begins 122 = .ok (.iload_n 3, 1) := by decide +kernel
theorem dX7_begins_123 : decode cX7_begins 123 = .ok (.iastore, 1) := by decide +kernel
theorem dX7_begins_124 : decode cX7_begins 124 = .ok (.iconst 0, 1) := by decide +kernel
theorem dX7_begins_125 : decode cX7_begins 125 = .ok (.istore 4, 2) := by decide +kernel
theorem dX7_begins_127 : decode cX7_begins 127 = .ok (.iload 4, 2) := by decide +kernel
theorem dX7_begins_129 : decode cX7_begins 129 = .ok (.bipush 8, 2) := by decide +kernel
theorem dX7_begins_131 : decode cX7_begins 131 = .ok (.if_icmp .ge 37, 3) := by decide +kernel
theorem dX7_begins_134 : decode cX7_begins 134 = .ok (.aload_n 0, 1) := by decide +kernel
theorem dX7_begins_135 : decode cX7_begins 135 = .ok (.getfield 40, 3) := by decide +kernel
theorem dX7_begins_138 : decode cX7_begins 138 = .ok (.iload_n 2, 1) := by decide +kernel
theorem dX7_begins_139 : decode cX7_begins 139 = .ok (.iload 4, 2) := by decide +kernel
theorem dX7_begins_141 : decode cX7_begins 141 = .ok (.invokestatic 258, 3) := by decide +kernel
theorem dX7_begins_144 : decode cX7_begins 144 = .ok (.iload_n 3, 1) := by decide +kernel
theorem dX7_begins_145 : decode cX7_begins 145 = .ok (.iload 4, 2) := by decide +kernel
theorem dX7_begins_147 : decode cX7_begins 147 = .ok (.invokestatic 261, 3) := by decide +kernel
theorem dX7_begins_150 : decode cX7_begins 150 = .ok (.ifCond .eq 7, 3) := by decide +kernel
theorem dX7_begins_153 : decode cX7_begins 153 = .ok (.iconst 0, 1) := by decide +kernel
theorem dX7_begins_154 : decode cX7_begins 154 = .ok (.goto 7, 3) := by decide +kernel
theorem dX7_begins_157 : decode cX7_begins 157 = .ok (.aload_n 0, 1) := by decide +kernel
theorem dX7_begins_158 : decode cX7_begins 158 = .ok (.invokevirtual 212, 3) := by decide +kernel
theorem dX7_begins_161 : decode cX7_begins 161 = .ok (.iastore, 1) := by decide +kernel
theorem dX7_begins_162 : decode cX7_begins 162 = .ok (.iinc 4 1, 3) := by decide +kernel
theorem dX7_begins_165 : decode cX7_begins 165 = .ok (.goto (-38), 3) := by decide +kernel
theorem dX7_begins_168 : decode cX7_begins 168 = .ok (.aload_n 0, 1) := by decide +kernel
theorem dX7_begins_169 : decode cX7_begins 169 = .ok (.getfield 40, 3) := by decide +kernel
theorem dX7_begins_172 : decode cX7_begins 172 = .ok (.iconst 3, 1) := by decide +kernel
theorem dX7_begins_173 : decode cX7_begins 173 = .ok (.iaload, 1) := by decide +kernel
theorem dX7_begins_174 : decode cX7_begins 174 = .ok (.ifCond .ne 18, 3) := by decide +kernel
theorem dX7_begins_177 : decode cX7_begins 177 = .ok (.iload_n 3, 1) := by decide +kernel
theorem dX7_begins_178 : decode cX7_begins 178 = .ok (.ifCond .eq 14, 3) := by decide +kernel
theorem dX7_begins_181 : decode cX7_begins 181 = .ok (.aload_n 0, 1) := by decide +kernel
theorem dX7_begins_182 : decode cX7_begins 182 = .ok (.iload_n 2, 1) := by decide +kernel
theorem dX7_begins_183 : decode cX7_begins 183 = .ok (.iconst 0, 1) := by decide +kernel
theorem dX7_begins_184 : decode cX7_begins 184 = .ok (.aload_n 0, 1) := by decide +kernel
theorem dX7_begins_185 : decode cX7_begins 185 = .ok (.invokevirtual 212, 3) := by decide +kernel
theorem dX7_begins_188 : decode cX7_begins 188 = .ok (.iload_n 3, 1) := by decide +kernel
theorem dX7_begins_189 : decode cX7_begins 189 = .ok (.invokevirtual 264, 3) := by decide +kernel
theorem dX7_begins_192 : decode cX7_begins 192 = .ok (.iinc 2 1, 3) := by decide +kernel
theorem dX7_begins_195 : decode cX7_begins 195 = .ok (.goto (-120), 3) := by decide +kernel
theorem dX7_begins_198 : decode cX7_begins 198 = .ok (.return_, 1) := by decide +kernel
theorem dX7_pushes_0 : decode cX7_pushes 0 = .ok (.aload_n 0, 1) := by decide +kernel
theorem dX7_pushes_1 : decode cX7_pushes 1 = .ok (.iload_n 1, 1) := by decide +kernel
theorem dX7_pushes_2 : decode cX7_pushes 2 = .ok (.iconst 5, 1) := by decide +kernel
theorem dX7_pushes_3 : decode cX7_pushes 3 = .ok (.invokevirtual 252, 3) := by decide +kernel
theorem dX7_pushes_6 : decode cX7_pushes 6 = .ok (.istore 5, 2) := by decide +kernel
theorem dX7_pushes_8 : decode cX7_pushes 8 = .ok (.aload_n 0, 1) := by decide +kernel
theorem dX7_pushes_9 : decode cX7_pushes 9 = .ok (.getfield 40, 3) := by decide +kernel
theorem dX7_pushes_12 : decode cX7_pushes 12 = .ok (.iload_n 1, 1) := by decide +kernel
theorem dX7_pushes_13 : decode cX7_pushes 13 = .ok (.iload 5, 2) := by decide +kernel
theorem dX7_pushes_15 : decode cX7_pushes 15 = .ok (.iconst 0, 1) := by decide +kernel
theorem dX7_pushes_16 : decode cX7_pushes 16 = .ok (.invokestatic 268, 3) := by decide +kernel
theorem dX7_pushes_19 : decode cX7_pushes 19 = .ok (.iload_n 2, 1) := by decide +kernel
theorem dX7_pushes_20 : decode cX7_pushes 20 = .ok (.iastore, 1) := by decide +kernel
theorem dX7_pushes_21 : decode cX7_pushes 21 = .ok (.aload_n 0, 1) := by decide +kernel
theorem dX7_pushes_22 : decode cX7_pushes 22 = .ok (.getfield 40, 3) := by decide +kernel
theorem dX7_pushes_25 : decode cX7_pushes 25 = .ok (.iload_n 1, 1) := by decide +kernel
theorem dX7_pushes_26 : decode cX7_pushes 26 = .ok (.iload 5, 2) := by decide +kernel
theorem dX7_pushes_28 : decode cX7_pushes 28 = .ok (.iconst 1, 1) := by decide +kernel
theorem dX7_pushes_29 : decode cX7_pushes 29 = .ok (.invokestatic 268, 3) := by decide +kernel
theorem dX7_pushes_32 : decode cX7_pushes 32 = .ok (.iload_n 3, 1) := by decide +kernel
theorem dX7_pushes_33 : decode cX7_pushes 33 = .ok (.iastore, 1) := by decide +kernel
theorem dX7_pushes_34 : decode cX7_pushes 34 = .ok (.aload_n 0, 1) := by decide +kernel
theorem dX7_pushes_35 : decode cX7_pushes 35 = .ok (.getfield 40, 3) := by decide +kernel
theorem dX7_pushes_38 : decode cX7_pushes 38 = .ok (.iload_n 1, 1) := by decide +kernel
theorem dX7_pushes_39 : decode cX7_pushes 39 = .ok (.iload 5, 2) := by decide +kernel
theorem dX7_pushes_41 : decode cX7_pushes 41 = .ok (.iconst 2, 1) := by decide +kernel
theorem dX7_pushes_42 : decode cX7_pushes 42 = .ok (.invokestatic 268, 3) := by decide +kernel
theorem dX7_pushes_45 : decode cX7_pushes 45 = .ok (.iload 4, 2) := by decide +kernel
theorem dX7_pushes_47 : decode cX7_pushes 47 = .ok (.iastore, 1) := by decide +kernel
theorem dX7_pushes_48 : decode cX7_pushes 48 = .ok (.aload_n 0, 1) := by decide +kernel
theorem dX7_pushes_49 : decode cX7_pushes 49 = .ok (.getfield 40, 3) := by decide +kernel
theorem dX7_pushes_52 : decode cX7_pushes 52 = .ok (.iload_n 1, 1) := by decide +kernel
theorem dX7_pushes_53 : decode cX7_pushes 53 = .ok (.iconst 5, 1) := by decide +kernel
theorem dX7_pushes_54 : decode cX7_pushes 54 = .ok (.invokestatic 249, 3) := by decide +kernel
theorem dX7_pushes_57 : decode cX7_pushes 57 = .ok (.dup2, 1) := by decide +kernel
theorem dX7_pushes_58 : decode cX7_pushes 58 = .ok (.iaload, 1) := by decide +kernel
theorem dX7_pushes_59 : decode cX7_pushes 59 = .ok (.iconst 1, 1) := by decide +kernel
theorem dX7_pushes_60 : decode cX7_pushes 60 = .ok (.iadd, 1) := by decide +kernel
theorem dX7_pushes_61 : decode cX7_pushes 61 = .ok (.iastore, 1) := by decide +kernel
theorem dX7_pushes_62 : decode cX7_pushes 62 = .ok (.return_, 1) := by decide +kernel
theorem dX7_dies_0 : decode cX7_dies 0 = .ok (.aload_n 0, 1) := by decide +kernel
theorem dX7_dies_1 : decode cX7_dies 1 = .ok (.getfield 40, 3) := by decide +kernel
theorem dX7_dies_4 : decode cX7_dies 4 = .ok (.iload_n 1, 1) := by decide +kernel
theorem dX7_dies_5 : decode cX7_dies 5 = .ok (.iconst 3, 1) := by decide +kernel
theorem dX7_dies_6 : decode cX7_dies 6 = .ok (.invokestatic 249, 3) := by decide +kernel
theorem dX7_dies_9 : decode cX7_dies 9 = .ok (.dup2, 1) := by decide +kernel
theorem dX7_dies_10 : decode cX7_dies 10 = .ok (.iaload, 1) := by decide +kernel
theorem dX7_dies_11 : decode cX7_dies 11 = .ok (.iload_n 2, 1) := by decide +kernel
theorem dX7_dies_12 : decode cX7_dies 12 = .ok (.iconst (-1), 1) := by decide +kernel
theorem dX7_dies_13 : decode cX7_dies 13 = .ok (.ixor, 1) := by decide +kernel
theorem dX7_dies_14 : decode cX7_dies 14 = .ok (.iand, 1) := by decide +kernel
theorem dX7_dies_15 : decode cX7_dies 15 = .ok (.iastore, 1) := by decide +kernel
theorem dX7_dies_16 : decode cX7_dies 16 = .ok (.aload_n 0, 1) := by decide +kernel
theorem dX7_dies_17 : decode cX7_dies 17 = .ok (.getfield 40, 3) := by decide +kernel
theorem dX7_dies_20 : decode cX7_dies 20 = .ok (.iload_n 1, 1) := by decide +kernel
theorem dX7_dies_21 : decode cX7_dies 21 = .ok (.iconst 4, 1) := by decide +kernel
theorem dX7_dies_22 : decode cX7_dies 22 = .ok (.invokestatic 249, 3) := by decide +kernel
theorem dX7_dies_25 : decode cX7_dies 25 = .ok (.dup2, 1) := by decide +kernel
theorem dX7_dies_26 : decode cX7_dies 26 = .ok (.iaload, 1) := by decide +kernel
theorem dX7_dies_27 : decode cX7_dies 27 = .ok (.iload_n 2, 1) := by decide +kernel
theorem dX7_dies_28 : decode cX7_dies 28 = .ok (.iconst (-1), 1) := by decide +kernel
theorem dX7_dies_29 : decode cX7_dies 29 = .ok (.ixor, 1) := by decide +kernel
theorem dX7_dies_30 : decode cX7_dies 30 = .ok (.iand, 1) := by decide +kernel
theorem dX7_dies_31 : decode cX7_dies 31 = .ok (.iastore, 1) := by decide +kernel
theorem dX7_dies_32 : decode cX7_dies 32 = .ok (.iconst 0, 1) := by decide +kernel
theorem dX7_dies_33 : decode cX7_dies 33 = .ok (.istore_n 3, 1) := by decide +kernel
