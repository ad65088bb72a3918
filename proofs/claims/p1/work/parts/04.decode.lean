theorem dJ7_fill_53178_0 : decode cJ7_fill_53178 0 = .ok (.iconst 0, 1) := by decide +kernel
theorem dJ7_fill_53178_1 : decode cJ7_fill_53178 1 = .ok (.istore_n 2, 1) := by decide +kernel
theorem dJ7_fill_53178_2 : decode cJ7_fill_53178 2 = .ok (.aload_n 0, 1) := by decide +kernel
theorem dJ7_fill_53178_3 : decode cJ7_fill_53178 3 = .ok (.arraylength, 1) := by decide +kernel
theorem dJ7_fill_53178_4 : decode cJ7_fill_53178 4 = .ok (.istore_n 3, 1) := by decide +kernel
theorem dJ7_fill_53178_5 : decode cJ7_fill_53178 5 = .ok (.iload_n 2, 1) := by decide +kernel
theorem dJ7_fill_53178_6 : decode cJ7_fill_53178 6 = .ok (.iload_n 3, 1) := by decide +kernel
theorem dJ7_fill_53178_7 : decode cJ7_fill_53178 7 = .ok (.if_icmp .ge 13, 3) := by decide +kernel
theorem dJ7_fill_53178_10 : decode cJ7_fill_53178 10 = .ok (.aload_n 0, 1) := by decide +kernel
theorem dJ7_fill_53178_11 : decode cJ7_fill_53178 11 = .ok (.iload_n 2, 1) := by decide +kernel
theorem dJ7_fill_53178_12 : decode cJ7_fill_53178 12 = .ok (.iload_n 1, 1) := by decide +kernel
theorem dJ7_fill_53178_13 : decode cJ7_fill_53178 13 = .ok (.iastore, 1) := by decide +kernel
theorem dJ7_fill_53178_14 : decode cJ7_fill_53178 14 = .ok (.iinc 2 1, 3) := by decide +kernel
theorem dJ7_fill_53178_17 : decode cJ7_fill_53178 17 = .ok (.goto (-12), 3) := by decide +kernel
theorem dJ7_fill_53178_20 : decode cJ7_fill_53178 20 = .ok (.return_, 1) := by decide +kernel
theorem dX0_init_0 : decode cX0_init 0 = .ok (.aload_n 0, 1) := by decide +kernel
theorem dX0_init_1 : decode cX0_init 1 = .ok (.invokespecial 3, 3) := by decide +kernel
theorem dX0_init_4 : decode cX0_init 4 = .ok (.aload_n 0, 1) := by decide +kernel
theorem dX0_init_5 : decode cX0_init 5 = .ok (.new 9, 3) := by decide +kernel
theorem dX0_init_8 : decode cX0_init 8 = .ok (.dup, 1) := by decide +kernel
theorem dX0_init_9 : decode cX0_init 9 = .ok (.invokespecial 11, 3) := by decide +kernel
theorem dX0_init_12 : decode cX0_init 12 = .ok (.putfield 12, 3) := by decide +kernel
theorem dX0_init_15 : decode cX0_init 15 = .ok (.aload_n 0, 1) := by decide +kernel
theorem dX0_init_16 : decode cX0_init 16 = .ok (.new 18, 3) := by decide +kernel
theorem dX0_init_19 : decode cX0_init 19 = .ok (.dup, 1) := by decide +kernel
theorem dX0_init_20 : decode cX0_init 20 = .ok (.invokespecial 20, 3) := by decide +kernel
theorem dX0_init_23 : decode cX0_init 23 = .ok (.putfield 21, 3) := by decide +kernel
theorem dX0_init_26 : decode cX0_init 26 = .ok (.aload_n 0, 1) := by decide +kernel
theorem dX0_init_27 : decode cX0_init 27 = .ok (.new 18, 3) := by decide +kernel
theorem dX0_init_30 : decode cX0_init 30 = .ok (.dup, 1) := by decide +kernel
theorem dX0_init_31 : decode cX0_init 31 = .ok (.invokespecial 20, 3) := by decide +kernel
theorem dX0_init_34 : decode cX0_init 34 = .ok (.putfield 25, 3) := by decide +kernel
theorem dX0_init_37 : decode cX0_init 37 = .ok (.aload_n 0, 1) := by decide +kernel
theorem dX0_init_38 : decode cX0_init 38 = .ok (.new 18, 3) := by decide +kernel
theorem dX0_init_41 : decode cX0_init 41 = .ok (.dup, 1) := by decide +kernel
theorem dX0_init_42 : decode cX0_init 42 = .ok (.invokespecial 20, 3) := by decide +kernel
theorem dX0_init_45 : decode cX0_init 45 = .ok (.putfield 28, 3) := by decide +kernel
theorem dX0_init_48 : decode cX0_init 48 = .ok (.aload_n 0, 1) := by decide +kernel
theorem dX0_init_49 : decode cX0_init 49 = .ok (.bipush 51, 2) := by decide +kernel
theorem dX0_init_51 : decode cX0_init 51 = .ok (.newarray .int, 2) := by decide +kernel
theorem dX0_init_53 : decode cX0_init 53 = .ok (.putfield 31, 3) := by decide +kernel
theorem dX0_init_56 : decode cX0_init 56 = .ok (.aload_n 0, 1) := by decide +kernel
theorem dX0_init_57 : decode cX0_init 57 = .ok (.sipush 1024, 3) := by decide +kernel
theorem dX0_init_60 : decode cX0_init 60 = .ok (.newarray .int, 2) := by decide +kernel
theorem dX0_init_62 : decode cX0_init 62 = .ok (.putfield 35, 3) := by decide +kernel
theorem dX0_init_65 : decode cX0_init 65 = .ok (.aload_n 0, 1) := by decide +kernel
theorem dX0_init_66 : decode cX0_init 66 = .ok (.sipush 160, 3) := by decide +kernel
theorem dX0_init_69 : decode cX0_init 69 = .ok (.newarray .int, 2) := by decide +kernel
theorem dX0_init_71 : decode cX0_init 71 = .ok (.putfield 38, 3) := by decide +kernel
theorem dX0_init_74 : decode cX0_init 74 = .ok (.return_, 1) := by decide +kernel
theorem dX0_take_0 : decode cX0_take 0 = .ok (.aload_n 0, 1) := by decide +kernel
theorem dX0_take_1 : decode cX0_take 1 = .ok (.aload_n 1, 1) := by decide +kernel
theorem dX0_take_2 : decode cX0_take 2 = .ok (.putfield 41, 3) := by decide +kernel
theorem dX0_take_5 : decode cX0_take 5 = .ok (.aload_n 0, 1) := by decide +kernel
theorem dX0_take_6 : decode cX0_take 6 = .ok (.getfield 12, 3) := by decide +kernel
theorem dX0_take_9 : decode cX0_take 9 = .ok (.aload_n 1, 1) := by decide +kernel
theorem dX0_take_10 : decode cX0_take 10 = .ok (.invokevirtual 45, 3) := by decide +kernel
theorem dX0_take_13 : decode cX0_take 13 = .ok (.aload_n 0, 1) := by decide +kernel
theorem dX0_take_14 : decode cX0_take 14 = .ok (.iconst 0, 1) := by decide +kernel
theorem dX0_take_15 : decode cX0_take 15 = .ok (.putfield 49, 3) := by decide +kernel
theorem dX0_take_18 : decode cX0_take 18 = .ok (.aload_n 0, 1) := by decide +kernel
theorem dX0_take_19 : decode cX0_take 19 = .ok (.lconst 0, 1) := by decide +kernel
theorem dX0_take_20 : decode cX0_take 20 = .ok (.putfield 53, 3) := by decide +kernel
theorem dX0_take_23 : decode cX0_take 23 = .ok (.aload_n 0, 1) := by decide +kernel
theorem dX0_take_24 : decode cX0_take 24 = .ok (.iconst 0, 1) := by decide +kernel
theorem dX0_take_25 : decode cX0_take 25 = .ok (.putfield 57, 3) := by decide +kernel
theorem dX0_take_28 : decode cX0_take 28 = .ok (.return_, 1) := by decide +kernel
theorem dX1_init_0 : decode cX1_init 0 = .ok (.aload_n 0, 1) := by decide +kernel
theorem dX1_init_1 : decode cX1_init 1 = .ok (.invokespecial 3, 3) := by decide +kernel
theorem dX1_init_4 : decode cX1_init 4 = .ok (.aload_n 0, 1) := by decide +kernel
theorem dX1_init_5 : decode cX1_init 5 = .ok (.bipush 8, 2) := by decide +kernel
theorem dX1_init_7 : decode cX1_init 7 = .ok (.newarray .int, 2) := by decide +kernel
theorem dX1_init_9 : decode cX1_init 9 = .ok (.putfield 9, 3) := by decide +kernel
theorem dX1_init_12 : decode cX1_init 12 = .ok (.aload_n 0, 1) := by decide +kernel
theorem dX1_init_13 : decode cX1_init 13 = .ok (.iconst 4, 1) := by decide +kernel
theorem dX1_init_14 : decode cX1_init 14 = .ok (.newarray .int, 2) := by decide +kernel
theorem dX1_init_16 : decode cX1_init 16 = .ok (.putfield 15, 3) := by decide +kernel
theorem dX1_init_19 : decode cX1_init 19 = .ok (.return_, 1) := by decide +kernel
theorem dX1_take_0 : decode cX1_take 0 = .ok (.aload_n 0, 1) := by decide +kernel
theorem dX1_take_1 : decode cX1_take 1 = .ok (.aload_n 1, 1) := by decide +kernel
theorem dX1_take_2 : decode cX1_take 2 = .ok (.putfield 18, 3) := by decide +kernel
theorem dX1_take_5 : decode cX1_take 5 = .ok (.return_, 1) := by decide +kernel
theorem dX2_clear_0 : decode cX2_clear 0 = .ok (.aload_n 0, 1) := by decide +kernel
theorem dX2_clear_1 : decode cX2_clear 1 = .ok (.getfield 16, 3) := by decide +kernel
theorem dX2_clear_4 : decode cX2_clear 4 = .ok (.iconst 0, 1) := by decide +kernel
theorem dX2_clear_5 : decode cX2_clear 5 = .ok (.invokestatic 24, 3) := by decide +kernel
theorem dX2_clear_8 : decode cX2_clear 8 = .ok (.aload_n 0, 1) := by decide +kernel
theorem dX2_clear_9 : decode cX2_clear 9 = .ok (.iconst 0, 1) := by decide +kernel
theorem dX2_clear_10 : decode cX2_clear 10 = .ok (.putfield 30, 3) := by decide +kernel
theorem dX2_clear_13 : decode cX2_clear 13 = .ok (.aload_n 0, 1) := by decide +kernel
theorem dX2_clear_14 : decode cX2_clear 14 = .ok (.iconst 0, 1) := by decide +kernel
theorem dX2_clear_15 : decode cX2_clear 15 = .ok (.putfield 34, 3) := by decide +kernel
theorem dX2_clear_18 : decode cX2_clear 18 = .ok (.aload_n 0, 1) := by decide +kernel
theorem dX2_clear_19 : decode cX2_clear 19 = .ok (.iconst 0, 1) := by decide +kernel
theorem dX2_clear_20 : decode cX2_clear 20 = .ok (.putfield 37, 3) := by decide +kernel
theorem dX2_clear_23 : decode cX2_clear 23 = .ok (.aload_n 0, 1) := by decide +kernel
theorem dX2_clear_24 : decode cX2_clear 24 = .ok (.iconst 0, 1) := by decide +kernel
theorem dX2_clear_25 : decode cX2_clear 25 = .ok (.putfield 40, 3) := by decide +kernel
theorem dX2_clear_28 : decode cX2_clear 28 = .ok (.return_, 1) := by decide +kernel
theorem dX2_init_0 : decode cX2_init 0 = .ok (.aload_n 0, 1) := by decide +kernel
theorem dX2_init_1 : decode cX2_init 1 = .ok (.invokespecial 3, 3) := by decide +kernel
theorem dX2_init_4 : decode cX2_init 4 = .ok (.aload_n 0, 1) := by decide +kernel
theorem dX2_init_5 : decode cX2_init 5 = .ok (.bipush 40, 2) := by decide +kernel
theorem dX2_init_7 : decode cX2_init 7 = .ok (.bipush 7, 2) := by decide +kernel
theorem dX2_init_9 : decode cX2_init 9 = .ok (.multianewarray 9 2, 4) := by decide +kernel
theorem dX2_init_13 : decode cX2_init 13 = .ok (.putfield 11, 3) := by decide +kernel
theorem dX2_init_16 : decode cX2_init 16 = .ok (.aload_n 0, 1) := by decide +kernel
theorem dX2_init_17 : decode cX2_init 17 = .ok (.bipush 64, 2) := by decide +kernel
theorem dX2_init_19 : decode cX2_init 19 = .ok (.newarray .int, 2) := by decide +kernel
theorem dX2_init_21 : decode cX2_init 21 = .ok (.putfield 16, 3) := by decide +kernel
theorem dX2_init_24 : decode cX2_init 24 = .ok (.aload_n 0, 1) := by decide +kernel
theorem dX2_init_25 : decode cX2_init 25 = .ok (.bipush 41, 2) := by decide +kernel
theorem dX2_init_27 : decode cX2_init 27 = .ok (.newarray .long, 2) := by decide +kernel
theorem dX2_init_29 : decode cX2_init 29 = .ok (.putfield 20, 3) := by decide +kernel
theorem dX2_init_32 : decode cX2_init 32 = .ok (.return_, 1) := by decide +kernel
theorem dX3_fail_0 : decode cX3_fail 0 = .ok (.aload_n 0, 1) := by decide +kernel
theorem dX3_fail_1 : decode cX3_fail 1 = .ok (.iload_n 1, 1) := by decide +kernel
theorem dX3_fail_2 : decode cX3_fail 2 = .ok (.putfield 50, 3) := by decide +kernel
theorem dX3_fail_5 : decode cX3_fail 5 = .ok (.aload_n 0, 1) := by decide +kernel
theorem dX3_fail_6 : decode cX3_fail 6 = .ok (.iload_n 2, 1) := by decide +kernel
theorem dX3_fail_7 : decode cX3_fail 7 = .ok (.putfield 24, 3) := by decide +kernel
theorem dX3_fail_10 : decode cX3_fail 10 = .ok (.iconst 0, 1) := by decide +kernel
theorem dX3_fail_11 : decode cX3_fail 11 = .ok (.ireturn, 1) := by decide +kernel
theorem dX3_init_0 : decode cX3_init 0 = .ok (.aload_n 0, 1) := by decide +kernel
theorem dX3_init_1 : decode cX3_init 1 = .ok (.invokespecial 3, 3) := by decide +kernel
theorem dX3_init_4 : decode cX3_init 4 = .ok (.aload_n 0, 1) := by decide +kernel
theorem dX3_init_5 : decode cX3_init 5 = .ok (.bipush 40, 2) := by decide +kernel
theorem dX3_init_7 : decode cX3_init 7 = .ok (.newarray .int, 2) := by decide +kernel
theorem dX3_init_9 : decode cX3_init 9 = .ok (.putfield 9, 3) := by decide +kernel
theorem dX3_init_12 : decode cX3_init 12 = .ok (.aload_n 0, 1) := by decide +kernel
theorem dX3_init_13 : decode cX3_init 13 = .ok (.bipush 40, 2) := by decide +kernel
theorem dX3_init_15 : decode cX3_init 15 = .ok (.newarray .int, 2) := by decide +kernel
theorem dX3_init_17 : decode cX3_init 17 = .ok (.putfield 15, 3) := by decide +kernel
theorem dX3_init_20 : decode cX3_init 20 = .ok (.aload_n 0, 1) := by decide +kernel
theorem dX3_init_21 : decode cX3_init 21 = .ok (.bipush 40, 2) := by decide +kernel
theorem dX3_init_23 : decode cX3_init 23 = .ok (.newarray .int, 2) := by decide +kernel
theorem dX3_init_25 : decode cX3_init 25 = .ok (.putfield 18, 3) := by decide +kernel
theorem dX3_init_28 : decode cX3_init 28 = .ok (.aload_n 0, 1) := by decide +kernel
theorem dX3_init_29 : decode cX3_init 29 = .ok (.bipush 40, 2) := by decide +kernel
theorem dX3_init_31 : decode cX3_init 31 = .ok (.newarray .int, 2) := by decide +kernel
theorem dX3_init_33 : decode cX3_init 33 = .ok (.putfield 21, 3) := by decide +kernel
theorem dX3_init_36 : decode cX3_init 36 = .ok (.aload_n 0, 1) := by decide +kernel
theorem dX3_init_37 : decode cX3_init 37 = .ok (.iconst (-1), 1) := by decide +kernel
theorem dX3_init_38 : decode cX3_init 38 = .ok (.putfield 24, 3) := by decide +kernel
theorem dX3_init_41 : decode cX3_init 41 = .ok (.return_, 1) := by decide +kernel
theorem dX3_read_0 : decode cX3_read 0 = .ok (.aload_n 0, 1) := by decide +kernel
theorem dX3_read_1 : decode cX3_read 1 = .ok (.aload_n 1, 1) := by decide +kernel
theorem dX3_read_2 : decode cX3_read 2 = .ok (.putfield 28, 3) := by decide +kernel
theorem dX3_read_5 : decode cX3_read 5 = .ok (.aload_n 0, 1) := by decide +kernel
theorem dX3_read_6 : decode cX3_read 6 = .ok (.iload_n 2, 1) := by decide +kernel
theorem dX3_read_7 : decode cX3_read 7 = .ok (.putfield 32, 3) := by decide +kernel
theorem dX3_read_10 : decode cX3_read 10 = .ok (.aload_n 0, 1) := by decide +kernel
theorem dX3_read_11 : decode cX3_read 11 = .ok (.aload_n 3, 1) := by decide +kernel
theorem dX3_read_12 : decode cX3_read 12 = .ok (.putfield 35, 3) := by decide +kernel
theorem dX3_read_15 : decode cX3_read 15 = .ok (.aload_n 0, 1) := by decide +kernel
theorem dX3_read_16 : decode cX3_read 16 = .ok (.getfield 35, 3) := by decide +kernel
theorem dX3_read_19 : decode cX3_read 19 = .ok (.invokevirtual 39, 3) := by decide +kernel
theorem dX3_read_22 : decode cX3_read 22 = .ok (.aload_n 0, 1) := by decide +kernel
theorem dX3_read_23 : decode cX3_read 23 = .ok (.iconst 0, 1) := by decide +kernel
theorem dX3_read_24 : decode cX3_read 24 = .ok (.putfield 44, 3) := by decide +kernel
theorem dX3_read_27 : decode cX3_read 27 = .ok (.aload_n 0, 1) := by decide +kernel
theorem dX3_read_28 : decode cX3_read 28 = .ok (.iconst 0, 1) := by decide +kernel
theorem dX3_read_29 : decode cX3_read 29 = .ok (.putfield 47, 3) := by decide +kernel
theorem dX3_read_32 : decode cX3_read 32 = .ok (.aload_n 0, 1) := by decide +kernel
theorem dX3_read_33 : decode cX3_read 33 = .ok (.iconst 0, 1) := by decide +kernel
theorem dX3_read_34 : decode cX3_read 34 = .ok (.putfield 50, 3) := by decide +kernel
theorem dX3_read_37 : decode cX3_read 37 = .ok (.aload_n 0, 1) := by decide +kernel
theorem dX3_read_38 : decode cX3_read 38 = .ok (.iconst (-1), 1) := by decide +kernel
theorem dX3_read_39 : decode cX3_read 39 = .ok (.putfield 24, 3) := by decide +kernel
theorem dX3_read_42 : decode cX3_read 42 = .ok (.iconst 1, 1) := by decide +kernel
theorem dX3_read_43 : decode cX3_read 43 = .ok (.istore 4, 2) := by decide +kernel
theorem dX3_read_45 : decode cX3_read 45 = .ok (.aload_n 0, 1) := by decide +kernel
theorem dX3_read_46 : decode cX3_read 46 = .ok (.invokevirtual 53, 3) := by decide +kernel
theorem dX3_read_49 : decode cX3_read 49 = .ok (.iconst 0, 1) := by decide +kernel
theorem dX3_read_50 : decode cX3_read 50 = .ok (.istore 5, 2) := by decide +kernel
theorem dX3_read_52 : decode cX3_read 52 = .ok (.iload 4, 2) := by decide +kernel
theorem dX3_read_54 : decode cX3_read 54 = .ok (.ifCond .eq 31, 3) := by decide +kernel
theorem dX3_read_57 : decode cX3_read 57 = .ok (.aload_n 0, 1) := by decide +kernel
theorem dX3_read_58 : decode cX3_read 58 = .ok (.getfield 44, 3) := by decide +kernel
theorem dX3_read_61 : decode cX3_read 61 = .ok (.ifCond .eq 24, 3) := by decide +kernel
theorem dX3_read_85 : decode cX3_read 85 = .ok (.iload 4, 2) := by decide +kernel
theorem dX3_read_87 : decode cX3_read 87 = .ok (.ifCond .eq 23, 3) := by decide +kernel
theorem dX3_read_90 : decode cX3_read 90 = .ok (.aload_n 0, 1) := by decide +kernel
theorem dX3_read_91 : decode cX3_read 91 = .ok (.getfield 35, 3) := by decide +kernel
theorem dX3_read_94 : decode cX3_read 94 = .ok (.getfield 60, 3) := by decide +kernel
theorem dX3_read_97 : decode cX3_read 97 = .ok (.ifCond .ne 13, 3) := by decide +kernel
theorem dX3_read_100 : decode cX3_read 100 = .ok (.aload_n 0, 1) := by decide +kernel
theorem dX3_read_101 : decode cX3_read 101 = .ok (.iconst 1, 1) := by decide +kernel
theorem dX3_read_102 : decode cX3_read 102 = .ok (.aload_n 0, 1) := by decide +kernel
theorem dX3_read_103 : decode cX3_read 103 = .ok (.getfield 32, 3) := by decide +kernel
theorem dX3_read_106 : decode cX3_read 106 = .ok (.invokevirtual 63, 3) := by decide +kernel
theorem dX3_read_109 : decode cX3_read 109 = .ok (.ireturn, 1) := by decide +kernel
theorem dX3_scan_0 : decode cX3_scan 0 = .ok (.aload_n 0, 1) := by decide +kernel
theorem dX3_scan_1 : decode cX3_scan 1 = .ok (.getfield 44, 3) := by decide +kernel
theorem dX3_scan_4 : decode cX3_scan 4 = .ok (.iconst 1, 1) := by decide +kernel
theorem dX3_scan_5 : decode cX3_scan 5 = .ok (.if_icmp .eq 11, 3) := by decide +kernel
theorem dX3_scan_8 : decode cX3_scan 8 = .ok (.aload_n 0, 1) := by decide +kernel
theorem dX3_scan_9 : decode cX3_scan 9 = .ok (.getfield 44, 3) := by decide +kernel
theorem dX3_scan_12 : decode cX3_scan 12 = .ok (.iconst 2, 1) := by decide +kernel
theorem dX3_scan_13 : decode cX3_scan 13 = .ok (.if_icmp .ne 7, 3) := by decide +kernel
theorem dX3_scan_20 : decode cX3_scan 20 = .ok (.iconst 0, 1) := by decide +kernel
theorem dX3_scan_21 : decode cX3_scan 21 = .ok (.istore_n 1, 1) := by decide +kernel
theorem dX3_scan_22 : decode cX3_scan 22 = .ok (.aload_n 0, 1) := by decide +kernel
theorem dX3_scan_23 : decode cX3_scan 23 = .ok (.aload_n 0, 1) := by decide +kernel
theorem dX3_scan_24 : decode cX3_scan 24 = .ok (.getfield 47, 3) := by decide +kernel
theorem dX3_scan_27 : decode cX3_scan 27 = .ok (.putfield 71, 3) := by decide +kernel
theorem dX3_scan_30 : decode cX3_scan 30 = .ok (.aload_n 0, 1) := by decide +kernel
theorem dX3_scan_31 : decode cX3_scan 31 = .ok (.getfield 71, 3) := by decide +kernel
theorem dX3_scan_34 : decode cX3_scan 34 = .ok (.aload_n 0, 1) := by decide +kernel
theorem dX3_scan_35 : decode cX3_scan 35 = .ok (.getfield 32, 3) := by decide +kernel
theorem dX3_scan_38 : decode cX3_scan 38 = .ok (.if_icmp .ge 44, 3) := by decide +kernel
theorem dX3_scan_82 : decode cX3_scan 82 = .ok (.iload_n 1, 1) := by decide +kernel
theorem dX3_scan_83 : decode cX3_scan 83 = .ok (.ifCond .eq 18, 3) := by decide +kernel
theorem dX3_scan_101 : decode cX3_scan 101 = .ok (.iconst 0, 1) := by decide +kernel
theorem dX3_scan_102 : decode cX3_scan 102 = .ok (.istore_n 2, 1) := by decide +kernel
theorem dX3_scan_103 : decode cX3_scan 103 = .ok (.aload_n 0, 1) := by decide +kernel
theorem dX3_scan_104 : decode cX3_scan 104 = .ok (.aload_n 0, 1) := by decide +kernel
theorem dX3_scan_105 : decode cX3_scan 105 = .ok (.getfield 71, 3) := by decide +kernel
theorem dX3_scan_108 : decode cX3_scan 108 = .ok (.putfield 47, 3) := by decide +kernel
theorem dX3_scan_111 : decode cX3_scan 111 = .ok (.aload_n 0, 1) := by decide +kernel
theorem dX3_scan_112 : decode cX3_scan 112 = .ok (.iconst (-1), 1) := by decide +kernel
theorem dX3_scan_113 : decode cX3_scan 113 = .ok (.putfield 74, 3) := by decide +kernel
theorem dX3_scan_116 : decode cX3_scan 116 = .ok (.aload_n 0, 1) := by decide +kernel
theorem dX3_scan_117 : decode cX3_scan 117 = .ok (.getfield 71, 3) := by decide +kernel
theorem dX3_scan_120 : decode cX3_scan 120 = .ok (.aload_n 0, 1) := by decide +kernel
theorem dX3_scan_121 : decode cX3_scan 121 = .ok (.getfield 32, 3) := by decide +kernel
theorem dX3_scan_124 : decode cX3_scan 124 = .ok (.if_icmp .lt 11, 3) := by decide +kernel
theorem dX3_scan_127 : decode cX3_scan 127 = .ok (.aload_n 0, 1) := by decide +kernel
theorem dX3_scan_128 : decode cX3_scan 128 = .ok (.iconst 0, 1) := by decide +kernel
theorem dX3_scan_129 : decode cX3_scan 129 = .ok (.putfield 44, 3) := by decide +kernel
theorem dX3_scan_132 : decode cX3_scan 132 = .ok (.goto 104, 3) := by decide +kernel
theorem dX3_scan_236 : decode cX3_scan 236 = .ok (.return_, 1) := by decide +kernel
theorem dX4_init_0 : decode cX4_init 0 = .ok (.aload_n 0, 1) := by decide +kernel
theorem dX4_init_1 : decode cX4_init 1 = .ok (.invokespecial 3, 3) := by decide +kernel
theorem dX4_init_4 : decode cX4_init 4 = .ok (.aload_n 0, 1) := by decide +kernel
theorem dX4_init_5 : decode cX4_init 5 = .ok (.iconst 4, 1) := by decide +kernel
theorem dX4_init_6 : decode cX4_init 6 = .ok (.anewarray 9, 3) := by decide +kernel
theorem dX4_init_9 : decode cX4_init 9 = .ok (.putfield 11, 3) := by decide +kernel
theorem dX4_init_12 : decode cX4_init 12 = .ok (.aload_n 0, 1) := by decide +kernel
theorem dX4_init_13 : decode cX4_init 13 = .ok (.bipush 64, 2) := by decide +kernel
theorem dX4_init_15 : decode cX4_init 15 = .ok (.newarray .int, 2) := by decide +kernel
theorem dX4_init_17 : decode cX4_init 17 = .ok (.putfield 17, 3) := by decide +kernel
theorem dX4_init_20 : decode cX4_init 20 = .ok (.aload_n 0, 1) := by decide +kernel
theorem dX4_init_21 : decode cX4_init 21 = .ok (.bipush 32, 2) := by decide +kernel
theorem dX4_init_23 : decode cX4_init 23 = .ok (.newarray .int, 2) := by decide +kernel
theorem dX4_init_25 : decode cX4_init 25 = .ok (.putfield 21, 3) := by decide +kernel
theorem dX4_init_28 : decode cX4_init 28 = .ok (.aload_n 0, 1) := by decide +kernel
theorem dX4_init_29 : decode cX4_init 29 = .ok (.bipush 96, 2) := by decide +kernel
theorem dX4_init_31 : decode cX4_init 31 = .ok (.newarray .int, 2) := by decide +kernel
theorem dX4_init_33 : decode cX4_init 33 = .ok (.putfield 24, 3) := by decide +kernel
theorem dX4_init_36 : decode cX4_init 36 = .ok (.aload_n 0, 1) := by decide +kernel
theorem dX4_init_37 : decode cX4_init 37 = .ok (.bipush 96, 2) := by decide +kernel
theorem dX4_init_39 : decode cX4_init 39 = .ok (.newarray .int, 2) := by decide +kernel
theorem dX4_init_41 : decode cX4_init 41 = .ok (.putfield 27, 3) := by decide +kernel
theorem dX4_init_44 : decode cX4_init 44 = .ok (.aload_n 0, 1) := by decide +kernel
theorem dX4_init_45 : decode cX4_init 45 = .ok (.bipush 96, 2) := by decide +kernel
theorem dX4_init_47 : decode cX4_init 47 = .ok (.newarray .int, 2) := by decide +kernel
theorem dX4_init_49 : decode cX4_init 49 = .ok (.putfield 30, 3) := by decide +kernel
theorem dX4_init_52 : decode cX4_init 52 = .ok (.aload_n 0, 1) := by decide +kernel
theorem dX4_init_53 : decode cX4_init 53 = .ok (.sipush 150, 3) := by decide +kernel
theorem dX4_init_56 : decode cX4_init 56 = .ok (.newarray .int, 2) := by decide +kernel
theorem dX4_init_58 : decode cX4_init 58 = .ok (.putfield 33, 3) := by decide +kernel
theorem dX4_init_61 : decode cX4_init 61 = .ok (.aload_n 0, 1) := by decide +kernel
theorem dX4_init_62 : decode cX4_init 62 = .ok (.iconst (-1), 1) := by decide +kernel
theorem dX4_init_63 : decode cX4_init 63 = .ok (.putfield 36, 3) := by decide +kernel
theorem dX4_init_66 : decode cX4_init 66 = .ok (.iconst 0, 1) := by decide +kernel
theorem dX4_init_67 : decode cX4_init 67 = .ok (.istore_n 1, 1) := by decide +kernel
theorem dX4_init_68 : decode cX4_init 68 = .ok (.iload_n 1, 1) := by decide +kernel
theorem dX4_init_69 : decode cX4_init 69 = .ok (.iconst 4, 1) := by decide +kernel
theorem dX4_init_70 : decode cX4_init 70 = .ok (.if_icmp .ge 22, 3) := by decide +kernel
theorem dX4_init_73 : decode cX4_init 73 = .ok (.aload_n 0, 1) := by decide +kernel
theorem dX4_init_74 : decode cX4_init 74 = .ok (.getfield 11, 3) := by decide +kernel
theorem dX4_init_77 : decode cX4_init 77 = .ok (.iload_n 1, 1) := by decide +kernel
theorem dX4_init_78 : decode cX4_init 78 = .ok (.new 9, 3) := by decide +kernel
theorem dX4_init_81 : decode cX4_init 81 = .ok (.dup, 1) := by decide +kernel
theorem dX4_init_82 : decode cX4_init 82 = .ok (.invokespecial 40, 3) := by decide +kernel
theorem dX4_init_85 : decode cX4_init 85 = .ok (.aastore, 1) := by decide +kernel
theorem dX4_init_86 : decode cX4_init 86 = .ok (.iinc 1 1, 3) := by decide +kernel
theorem dX4_init_89 : decode cX4_init 89 = .ok (.goto (-21), 3) := by decide +kernel
theorem dX4_init_92 : decode cX4_init 92 = .ok (.return_, 1) := by decide +kernel
theorem dX5_init_0 : decode cX5_init 0 = .ok (.aload_n 0, 1) := by decide +kernel
theorem dX5_init_1 : decode cX5_init 1 = .ok (.invokespecial 3, 3) := by decide +kernel
theorem dX5_init_4 : decode cX5_init 4 = .ok (.aload_n 0, 1) := by decide +kernel
theorem dX5_init_5 : decode cX5_init 5 = .ok (.bipush 32, 2) := by decide +kernel
theorem dX5_init_7 : decode cX5_init 7 = .ok (.newarray .int, 2) := by decide +kernel
theorem dX5_init_9 : decode cX5_init 9 = .ok (.putfield 9, 3) := by decide +kernel
theorem dX5_init_12 : decode cX5_init 12 = .ok (.aload_n 0, 1) := by decide +kernel
theorem dX5_init_13 : decode cX5_init 13 = .ok (.bipush 8, 2) := by decide +kernel
theorem dX5_init_15 : decode cX5_init 15 = .ok (.newarray .int, 2) := by decide +kernel
theorem dX5_init_17 : decode cX5_init 17 = .ok (.putfield 15, 3) := by decide +kernel
theorem dX5_init_20 : decode cX5_init 20 = .ok (.aload_n 0, 1) := by decide +kernel
theorem dX5_init_21 : decode cX5_init 21 = .ok (.bipush 16, 2) := by decide +kernel
theorem dX5_init_23 : decode cX5_init 23 = .ok (.newarray .int, 2) := by decide +kernel
theorem dX5_init_25 : decode cX5_init 25 = .ok (.putfield 18, 3) := by decide +kernel
theorem dX5_init_28 : decode cX5_init 28 = .ok (.aload_n 0, 1) := by decide +kernel
theorem dX5_init_29 : decode cX5_init 29 = .ok (.bipush 16, 2) := by decide +kernel
theorem dX5_init_31 : decode cX5_init 31 = .ok (.newarray .int, 2) := by decide +kernel
theorem dX5_init_33 : decode cX5_init 33 = .ok (.putfield 21, 3) := by decide +kernel
theorem dX5_init_36 : decode cX5_init 36 = .ok (.aload_n 0, 1) := by decide +kernel
theorem dX5_init_37 : decode cX5_init 37 = .ok (.bipush 16, 2) := by decide +kernel
theorem dX5_init_39 : decode cX5_init 39 = .ok (.newarray .int, 2) := by decide +kernel
theorem dX5_init_41 : decode cX5_init 41 = .ok (.putfield 24, 3) := by decide +kernel
theorem dX5_init_44 : decode cX5_init 44 = .ok (.return_, 1) := by decide +kernel
theorem dX6_agrees_0 : decode cX6_agrees 0 = .ok (.aload_n 0, 1) := by decide +kernel
theorem dX6_agrees_1 : decode cX6_agrees 1 = .ok (.getfield 87, 3) := by decide +kernel
theorem dX6_agrees_4 : decode cX6_agrees 4 = .ok (.ifCond .ne 5, 3) := by decide +kernel
theorem dX6_agrees_7 : decode cX6_agrees 7 = .ok (.iconst (-1), 1) := by decide +kernel
theorem dX6_agrees_8 : decode cX6_agrees 8 = .ok (.ireturn, 1) := by decide +kernel
theorem dX6_alone_0 : decode cX6_alone 0 = .ok (.aload_n 0, 1) := by decide +kernel
theorem dX6_alone_1 : decode cX6_alone 1 = .ok (.iload_n 1, 1) := by decide +kernel
theorem dX6_alone_2 : decode cX6_alone 2 = .ok (.iload_n 2, 1) := by decide +kernel
theorem dX6_alone_3 : decode cX6_alone 3 = .ok (.invokevirtual 160, 3) := by decide +kernel
theorem dX6_alone_6 : decode cX6_alone 6 = .ok (.ifCond .eq 12, 3) := by decide +kernel
theorem dX6_alone_18 : decode cX6_alone 18 = .ok (.ldc 155, 2) := by decide +kernel
theorem dX6_alone_20 : decode cX6_alone 20 = .ok (.ireturn, 1) := by decide +kernel
theorem dX6_begin_0 : decode cX6_begin 0 = .ok (.aload_n 0, 1) := by decide +kernel
theorem dX6_begin_1 : decode cX6_begin 1 = .ok (.getfield 87, 3) := by decide +kernel
theorem dX6_begin_4 : decode cX6_begin 4 = .ok (.ifCond .ne 11, 3) := by decide +kernel
theorem dX6_begin_7 : decode cX6_begin 7 = .ok (.aload_n 0, 1) := by decide +kernel
theorem dX6_begin_8 : decode cX6_begin 8 = .ok (.iconst 3, 1) := by decide +kernel
theorem dX6_begin_9 : decode cX6_begin 9 = .ok (.invokevirtual 72, 3) := by decide +kernel
theorem dX6_begin_12 : decode cX6_begin 12 = .ok (.pop, 1) := by decide +kernel
theorem dX6_begin_13 : decode cX6_begin 13 = .ok (.iconst 0, 1) := by decide +kernel
theorem dX6_begin_14 : decode cX6_begin 14 = .ok (.ireturn, 1) := by decide +kernel
theorem dX6_by_0 : decode cX6_by 0 = .ok (.aload_n 0, 1) := by decide +kernel
theorem dX6_by_1 : decode cX6_by 1 = .ok (.getfield 87, 3) := by decide +kernel
theorem dX6_by_4 : decode cX6_by 4 = .ok (.ifCond .eq 26, 3) := by decide +kernel
theorem dX6_by_30 : decode cX6_by 30 = .ok (.iconst (-1), 1) := by decide +kernel
theorem dX6_by_31 : decode cX6_by 31 = .ok (.ireturn, 1) := by decide +kernel
theorem dX6_chance_0 : decode cX6_chance 0 = .ok (.aload_n 0, 1) := by decide +kernel
theorem dX6_chance_1 : decode cX6_chance 1 = .ok (.getfield 87, 3) := by decide +kernel
theorem dX6_chance_4 : decode cX6_chance 4 = .ok (.ifCond .eq 14, 3) := by decide +kernel
theorem dX6_chance_18 : decode cX6_chance 18 = .ok (.aload_n 0, 1) := by decide +kernel
theorem dX6_chance_19 : decode cX6_chance 19 = .ok (.iconst 2, 1) := by decide +kernel
theorem dX6_chance_20 : decode cX6_chance 20 = .ok (.invokevirtual 72, 3) := by decide +kernel
theorem dX6_chance_23 : decode cX6_chance 23 = .ok (.ireturn, 1) := by decide +kernel
theorem dX6_cycles_0 : decode cX6_cycles 0 = .ok (.aload_n 0, 1) := by decide +kernel
theorem dX6_cycles_1 : decode cX6_cycles 1 = .ok (.getfield 87, 3) := by decide +kernel
theorem dX6_cycles_4 : decode cX6_cycles 4 = .ok (.ifCond .eq 30, 3) := by decide +kernel
theorem dX6_cycles_34 : decode cX6_cycles 34 = .ok (.aload_n 0, 1) := by decide +kernel
theorem dX6_cycles_35 : decode cX6_cycles 35 = .ok (.iconst 2, 1) := by decide +kernel
theorem dX6_cycles_36 : decode cX6_cycles 36 = .ok (.invokevirtual 72, 3) := by decide +kernel
theorem dX6_cycles_39 : decode cX6_cycles 39 = .ok (.ireturn, 1) := by decide +kernel
theorem dX6_end_0 : decode cX6_end 0 = .ok (.iload_n 1, 1) := by decide +kernel
theorem dX6_end_1 : decode cX6_end 1 = .ok (.ifCond .lt 11, 3) := by decide +kernel
theorem dX6_end_4 : decode cX6_end 4 = .ok (.iload_n 1, 1) := by decide +kernel
theorem dX6_end_5 : decode cX6_end 5 = .ok (.aload_n 0, 1) := by decide +kernel
theorem dX6_end_6 : decode cX6_end 6 = .ok (.getfield 68, 3) := by decide +kernel
theorem dX6_end_9 : decode cX6_end 9 = .ok (.if_icmp .le 11, 3) := by decide +kernel
theorem dX6_end_12 : decode cX6_end 12 = .ok (.aload_n 0, 1) := by decide +kernel
theorem dX6_end_13 : decode cX6_end 13 = .ok (.iconst 0, 1) := by decide +kernel
theorem dX6_end_14 : decode cX6_end 14 = .ok (.invokevirtual 72, 3) := by decide +kernel
theorem dX6_end_17 : decode cX6_end 17 = .ok (.pop, 1) := by decide +kernel
theorem dX6_end_18 : decode cX6_end 18 = .ok (.iconst 0, 1) := by decide +kernel
theorem dX6_end_19 : decode cX6_end 19 = .ok (.ireturn, 1) := by decide +kernel
theorem dX6_end_20 : decode cX6_end 20 = .ok (.aload_n 0, 1) := by decide +kernel
theorem dX6_end_21 : decode cX6_end 21 = .ok (.iload_n 1, 1) := by decide +kernel
theorem dX6_end_22 : decode cX6_end 22 = .ok (.putfield 68, 3) := by decide +kernel
theorem dX6_end_25 : decode cX6_end 25 = .ok (.iconst 1, 1) := by decide +kernel
theorem dX6_end_26 : decode cX6_end 26 = .ok (.ireturn, 1) := by decide +kernel
theorem dX6_fault_0 : decode cX6_fault 0 = .ok (.iload_n 1, 1) := by decide +kernel
theorem dX6_fault_1 : decode cX6_fault 1 = .ok (.ifCond .ne 11, 3) := by decide +kernel
theorem dX6_fault_4 : decode cX6_fault 4 = .ok (.aload_n 0, 1) := by decide +kernel
theorem dX6_fault_5 : decode cX6_fault 5 = .ok (.getfield 16, 3) := by decide +kernel
theorem dX6_fault_8 : decode cX6_fault 8 = .ok (.getfield 110, 3) := by decide +kernel
theorem dX6_fault_11 : decode cX6_fault 11 = .ok (.ireturn, 1) := by decide +kernel
theorem dX6_fault_12 : decode cX6_fault 12 = .ok (.iload_n 1, 1) := by decide +kernel
theorem dX6_fault_13 : decode cX6_fault 13 = .ok (.iconst 1, 1) := by decide +kernel
theorem dX6_fault_14 : decode cX6_fault 14 = .ok (.if_icmp .ne 13, 3) := by decide +kernel
theorem dX6_fault_17 : decode cX6_fault 17 = .ok (.aload_n 0, 1) := by decide +kernel
theorem dX6_fault_18 : decode cX6_fault 18 = .ok (.getfield 16, 3) := by decide +kernel
theorem dX6_fault_21 : decode cX6_fault 21 = .ok (.getfield 113, 3) := by decide +kernel
theorem dX6_fault_24 : decode cX6_fault 24 = .ok (.goto 4, 3) := by decide +kernel
theorem dX6_fault_27 : decode cX6_fault 27 = .ok (.iconst (-1), 1) := by decide +kernel
theorem dX6_fault_28 : decode cX6_fault 28 = .ok (.ireturn, 1) := by decide +kernel
theorem dX6_feed_0 : decode cX6_feed 0 = .ok (.aload_n 0, 1) := by decide +kernel
theorem dX6_feed_1 : decode cX6_feed 1 = .ok (.getfield 68, 3) := by decide +kernel
theorem dX6_feed_4 : decode cX6_feed 4 = .ok (.bipush 20, 2) := by decide +kernel
theorem dX6_feed_6 : decode cX6_feed 6 = .ok (.iadd, 1) := by decide +kernel
theorem dX6_feed_7 : decode cX6_feed 7 = .ok (.sipush 1600, 3) := by decide +kernel
theorem dX6_feed_10 : decode cX6_feed 10 = .ok (.if_icmp .le 9, 3) := by decide +kernel
theorem dX6_feed_19 : decode cX6_feed 19 = .ok (.aload_n 0, 1) := by decide +kernel
theorem dX6_feed_20 : decode cX6_feed 20 = .ok (.iload_n 1, 1) := by decide +kernel
theorem dX6_feed_21 : decode cX6_feed 21 = .ok (.invokevirtual 76, 3) := by decide +kernel
theorem dX6_feed_24 : decode cX6_feed 24 = .ok (.aload_n 0, 1) := by decide +kernel
theorem dX6_feed_25 : decode cX6_feed 25 = .ok (.iload_n 2, 1) := by decide +kernel
theorem dX6_feed_26 : decode cX6_feed 26 = .ok (.invokevirtual 76, 3) := by decide +kernel
theorem dX6_feed_29 : decode cX6_feed 29 = .ok (.aload_n 0, 1) := by decide +kernel
theorem dX6_feed_30 : decode cX6_feed 30 = .ok (.iload_n 3, 1) := by decide +kernel
theorem dX6_feed_31 : decode cX6_feed 31 = .ok (.invokevirtual 76, 3) := by decide +kernel
theorem dX6_feed_34 : decode cX6_feed 34 = .ok (.aload_n 0, 1) := by decide +kernel
theorem dX6_feed_35 : decode cX6_feed 35 = .ok (.iload 4, 2) := by decide +kernel
theorem dX6_feed_37 : decode cX6_feed 37 = .ok (.invokevirtual 76, 3) := by decide +kernel
theorem dX6_feed_40 : decode cX6_feed 40 = .ok (.aload_n 0, 1) := by decide +kernel
theorem dX6_feed_41 : decode cX6_feed 41 = .ok (.iload 5, 2) := by decide +kernel
theorem dX6_feed_43 : decode cX6_feed 43 = .ok (.invokevirtual 76, 3) := by decide +kernel
theorem dX6_feed_46 : decode cX6_feed 46 = .ok (.aload_n 0, 1) := by decide +kernel
theorem dX6_feed_47 : decode cX6_feed 47 = .ok (.getfield 68, 3) := by decide +kernel
theorem dX6_feed_50 : decode cX6_feed 50 = .ok (.ireturn, 1) := by decide +kernel
theorem dX6_goes_0 : decode cX6_goes 0 = .ok (.aload_n 0, 1) := by decide +kernel
theorem dX6_goes_1 : decode cX6_goes 1 = .ok (.getfield 87, 3) := by decide +kernel
theorem dX6_goes_4 : decode cX6_goes 4 = .ok (.ifCond .eq 12, 3) := by decide +kernel
theorem dX6_goes_16 : decode cX6_goes 16 = .ok (.iconst (-1), 1) := by decide +kernel
theorem dX6_goes_17 : decode cX6_goes 17 = .ok (.ireturn, 1) := by decide +kernel
theorem dX6_has_0 : decode cX6_has 0 = .ok (.iload_n 1, 1) := by decide +kernel
theorem dX6_has_1 : decode cX6_has 1 = .ok (.ifCond .lt 9, 3) := by decide +kernel
theorem dX6_has_4 : decode cX6_has 4 = .ok (.iload_n 1, 1) := by decide +kernel
theorem dX6_has_5 : decode cX6_has 5 = .ok (.bipush 13, 2) := by decide +kernel
theorem dX6_has_7 : decode cX6_has 7 = .ok (.if_icmp .le 5, 3) := by decide +kernel
theorem dX6_has_10 : decode cX6_has 10 = .ok (.iconst (-1), 1) := by decide +kernel
theorem dX6_has_11 : decode cX6_has 11 = .ok (.ireturn, 1) := by decide +kernel
theorem dX6_has_12 : decode cX6_has 12 = .ok (.aload_n 0, 1) := by decide +kernel
theorem dX6_has_13 : decode cX6_has 13 = .ok (.getfield 87, 3) := by decide +kernel
theorem dX6_has_16 : decode cX6_has 16 = .ok (.ifCond .ne 5, 3) := by decide +kernel
theorem dX6_has_19 : decode cX6_has 19 = .ok (.iconst 0, 1) := by decide +kernel
theorem dX6_has_20 : decode cX6_has 20 = .ok (.ireturn, 1) := by decide +kernel
theorem dX6_hasLane_0 : decode cX6_hasLane 0 = .ok (.aload_n 0, 1) := by decide +kernel
theorem dX6_hasLane_1 : decode cX6_hasLane 1 = .ok (.iload_n 1, 1) := by decide +kernel
theorem dX6_hasLane_2 : decode cX6_hasLane 2 = .ok (.invokevirtual 181, 3) := by decide +kernel
theorem dX6_hasLane_5 : decode cX6_hasLane 5 = .ok (.ifCond .eq 17, 3) := by decide +kernel
theorem dX6_hasLane_22 : decode cX6_hasLane 22 = .ok (.iconst 0, 1) := by decide +kernel
theorem dX6_hasLane_23 : decode cX6_hasLane 23 = .ok (.ireturn, 1) := by decide +kernel
theorem dX6_hasWarp_0 : decode cX6_hasWarp 0 = .ok (.aload_n 0, 1) := by decide +kernel
theorem dX6_hasWarp_1 : decode cX6_hasWarp 1 = .ok (.getfield 87, 3) := by decide +kernel
theorem dX6_hasWarp_4 : decode cX6_hasWarp 4 = .ok (.ifCond .eq 22, 3) := by decide +kernel
theorem dX6_hasWarp_26 : decode cX6_hasWarp 26 = .ok (.iconst 0, 1) := by decide +kernel
theorem dX6_hasWarp_27 : decode cX6_hasWarp 27 = .ok (.ireturn, 1) := by decide +kernel
theorem dX6_hasWord_0 : decode cX6_hasWord 0 = .ok (.aload_n 0, 1) := by decide +kernel
theorem dX6_hasWord_1 : decode cX6_hasWord 1 = .ok (.getfield 87, 3) := by decide +kernel
theorem dX6_hasWord_4 : decode cX6_hasWord 4 = .ok (.ifCond .eq 26, 3) := by decide +kernel
theorem dX6_hasWord_30 : decode cX6_hasWord 30 = .ok (.iconst 0, 1) := by decide +kernel
theorem dX6_hasWord_31 : decode cX6_hasWord 31 = .ok (.ireturn, 1) := by decide +kernel
theorem dX6_init_0 : decode cX6_init 0 = .ok (.aload_n 0, 1) := by decide +kernel
theorem dX6_init_1 : decode cX6_init 1 = .ok (.invokespecial 3, 3) := by decide +kernel
theorem dX6_init_4 : decode cX6_init 4 = .ok (.aload_n 0, 1) := by decide +kernel
theorem dX6_init_5 : decode cX6_init 5 = .ok (.sipush 1600, 3) := by decide +kernel
theorem dX6_init_8 : decode cX6_init 8 = .ok (.newarray .byte, 2) := by decide +kernel
theorem dX6_init_10 : decode cX6_init 10 = .ok (.putfield 9, 3) := by decide +kernel
theorem dX6_init_13 : decode cX6_init 13 = .ok (.aload_n 0, 1) := by decide +kernel
theorem dX6_init_14 : decode cX6_init 14 = .ok (.new 13, 3) := by decide +kernel
theorem dX6_init_17 : decode cX6_init 17 = .ok (.dup, 1) := by decide +kernel
theorem dX6_init_18 : decode cX6_init 18 = .ok (.invokespecial 15, 3) := by decide +kernel
theorem dX6_init_21 : decode cX6_init 21 = .ok (.putfield 16, 3) := by decide +kernel
theorem dX6_init_24 : decode cX6_init 24 = .ok (.aload_n 0, 1) := by decide +kernel
theorem dX6_init_25 : decode cX6_init 25 = .ok (.new 20, 3) := by decide +kernel
theorem dX6_init_28 : decode cX6_init 28 = .ok (.dup, 1) := by decide +kernel
theorem dX6_init_29 : decode cX6_init 29 = .ok (.invokespecial 22, 3) := by decide +kernel
theorem dX6_init_32 : decode cX6_init 32 = .ok (.putfield 23, 3) := by decide +kernel
theorem dX6_init_35 : decode cX6_init 35 = .ok (.aload_n 0, 1) := by decide +kernel
theorem dX6_init_36 : decode cX6_init 36 = .ok (.new 20, 3) := by decide +kernel
theorem dX6_init_39 : decode cX6_init 39 = .ok (.dup, 1) := by decide +kernel
theorem dX6_init_40 : decode cX6_init 40 = .ok (.invokespecial 22, 3) := by decide +kernel
theorem dX6_init_43 : decode cX6_init 43 = .ok (.putfield 27, 3) := by decide +kernel
theorem dX6_init_46 : decode cX6_init 46 = .ok (.aload_n 0, 1) := by decide +kernel
theorem dX6_init_47 : decode cX6_init 47 = .ok (.new 30, 3) := by decide +kernel
theorem dX6_init_50 : decode cX6_init 50 = .ok (.dup, 1) := by decide +kernel
theorem dX6_init_51 : decode cX6_init 51 = .ok (.invokespecial 32, 3) := by decide +kernel
theorem dX6_init_54 : decode cX6_init 54 = .ok (.putfield 33, 3) := by decide +kernel
theorem dX6_init_57 : decode cX6_init 57 = .ok (.aload_n 0, 1) := by decide +kernel
theorem dX6_init_58 : decode cX6_init 58 = .ok (.bipush 20, 2) := by decide +kernel
theorem dX6_init_60 : decode cX6_init 60 = .ok (.anewarray 30, 3) := by decide +kernel
theorem dX6_init_63 : decode cX6_init 63 = .ok (.putfield 37, 3) := by decide +kernel
theorem dX6_init_66 : decode cX6_init 66 = .ok (.aload_n 0, 1) := by decide +kernel
theorem dX6_init_67 : decode cX6_init 67 = .ok (.new 41, 3) := by decide +kernel
theorem dX6_init_70 : decode cX6_init 70 = .ok (.dup, 1) := by decide +kernel
theorem dX6_init_71 : decode cX6_init 71 = .ok (.invokespecial 43, 3) := by decide +kernel
theorem dX6_init_74 : decode cX6_init 74 = .ok (.putfield 44, 3) := by decide +kernel
theorem dX6_init_77 : decode cX6_init 77 = .ok (.aload_n 0, 1) := by decide +kernel
theorem dX6_init_78 : decode cX6_init 78 = .ok (.new 48, 3) := by decide +kernel
theorem dX6_init_81 : decode cX6_init 81 = .ok (.dup, 1) := by decide +kernel
theorem dX6_init_82 : decode cX6_init 82 = .ok (.invokespecial 50, 3) := by decide +kernel
theorem dX6_init_85 : decode cX6_init 85 = .ok (.putfield 51, 3) := by decide +kernel
theorem dX6_init_88 : decode cX6_init 88 = .ok (.aload_n 0, 1) := by decide +kernel
theorem dX6_init_89 : decode cX6_init 89 = .ok (.bipush 6, 2) := by decide +kernel
theorem dX6_init_91 : decode cX6_init 91 = .ok (.newarray .int, 2) := by decide +kernel
theorem dX6_init_93 : decode cX6_init 93 = .ok (.putfield 55, 3) := by decide +kernel
theorem dX6_init_96 : decode cX6_init 96 = .ok (.aload_n 0, 1) := by decide +kernel
theorem dX6_init_97 : decode cX6_init 97 = .ok (.lconst 1, 1) := by decide +kernel
theorem dX6_init_98 : decode cX6_init 98 = .ok (.putfield 59, 3) := by decide +kernel
theorem dX6_init_101 : decode cX6_init 101 = .ok (.aload_n 0, 1) := by decide +kernel
theorem dX6_init_102 : decode cX6_init 102 = .ok (.getfield 44, 3) := by decide +kernel
theorem dX6_init_105 : decode cX6_init 105 = .ok (.aload_n 0, 1) := by decide +kernel
theorem dX6_init_106 : decode cX6_init 106 = .ok (.getfield 23, 3) := by decide +kernel
theorem dX6_init_109 : decode cX6_init 109 = .ok (.invokevirtual 63, 3) := by decide +kernel
theorem dX6_init_112 : decode cX6_init 112 = .ok (.aload_n 0, 1) := by decide +kernel
theorem dX6_init_113 : decode cX6_init 113 = .ok (.getfield 51, 3) := by decide +kernel
theorem dX6_init_116 : decode cX6_init 116 = .ok (.aload_n 0, 1) := by decide +kernel
theorem dX6_init_117 : decode cX6_init 117 = .ok (.getfield 23, 3) := by decide +kernel
theorem dX6_init_120 : decode cX6_init 120 = .ok (.invokevirtual 67, 3) := by decide +kernel
theorem dX6_init_123 : decode cX6_init 123 = .ok (.iconst 0, 1) := by decide +kernel
theorem dX6_init_124 : decode cX6_init 124 = .ok (.istore_n 1, 1) := by decide +kernel
theorem dX6_init_125 : decode cX6_init 125 = .ok (.iload_n 1, 1) := by decide +kernel
theorem dX6_init_126 : decode cX6_init 126 = .ok (.bipush 20, 2) := by decide +kernel
theorem dX6_init_128 : decode cX6_init 128 = .ok (.if_icmp .ge 22, 3) := by decide +kernel
theorem dX6_init_131 : decode cX6_init 131 = .ok (.aload_n 0, 1) := by decide +kernel
theorem dX6_init_132 : decode cX6_init 132 = .ok (.getfield 37, 3) := by decide +kernel
theorem dX6_init_135 : decode cX6_init 135 = .ok (.iload_n 1, 1) := by decide +kernel
theorem dX6_init_136 : decode cX6_init 136 = .ok (.new 30, 3) := by decide +kernel
theorem dX6_init_139 : decode cX6_init 139 = .ok (.dup, 1) := by decide +kernel
theorem dX6_init_140 : decode cX6_init 140 = .ok (.invokespecial 32, 3) := by decide +kernel
theorem dX6_init_143 : decode cX6_init 143 = .ok (.aastore, 1) := by decide +kernel
theorem dX6_init_144 : decode cX6_init 144 = .ok (.iinc 1 1, 3) := by decide +kernel
theorem dX6_init_147 : decode cX6_init 147 = .ok (.goto (-22), 3) := by decide +kernel
theorem dX6_init_150 : decode cX6_init 150 = .ok (.return_, 1) := by decide +kernel
theorem dX6_kept_0 : decode cX6_kept 0 = .ok (.aload_n 0, 1) := by decide +kernel
theorem dX6_kept_1 : decode cX6_kept 1 = .ok (.getfield 33, 3) := by decide +kernel
theorem dX6_kept_4 : decode cX6_kept 4 = .ok (.getfield 122, 3) := by decide +kernel
theorem dX6_kept_7 : decode cX6_kept 7 = .ok (.bipush 30, 2) := by decide +kernel
theorem dX6_kept_9 : decode cX6_kept 9 = .ok (.invokestatic 135, 3) := by decide +kernel
theorem dX6_kept_12 : decode cX6_kept 12 = .ok (.istore_n 3, 1) := by decide +kernel
theorem dX6_kept_13 : decode cX6_kept 13 = .ok (.aload_n 0, 1) := by decide +kernel
theorem dX6_kept_14 : decode cX6_kept 14 = .ok (.getfield 87, 3) := by decide +kernel
theorem dX6_kept_17 : decode cX6_kept 17 = .ok (.ifCond .eq 21, 3) := by decide +kernel
theorem dX6_kept_38 : decode cX6_kept 38 = .ok (.iconst (-1), 1) := by decide +kernel
theorem dX6_kept_39 : decode cX6_kept 39 = .ok (.ireturn, 1) := by decide +kernel
theorem dX6_lane_0 : decode cX6_lane 0 = .ok (.aload_n 0, 1) := by decide +kernel
theorem dX6_lane_1 : decode cX6_lane 1 = .ok (.iload_n 1, 1) := by decide +kernel
theorem dX6_lane_2 : decode cX6_lane 2 = .ok (.iload_n 2, 1) := by decide +kernel
theorem dX6_lane_3 : decode cX6_lane 3 = .ok (.invokevirtual 160, 3) := by decide +kernel
theorem dX6_lane_6 : decode cX6_lane 6 = .ok (.ifCond .eq 13, 3) := by decide +kernel
theorem dX6_lane_19 : decode cX6_lane 19 = .ok (.ldc 155, 2) := by decide +kernel
theorem dX6_lane_21 : decode cX6_lane 21 = .ok (.ireturn, 1) := by decide +kernel
theorem dX6_later_0 : decode cX6_later 0 = .ok (.aload_n 0, 1) := by decide +kernel
theorem dX6_later_1 : decode cX6_later 1 = .ok (.iload_n 2, 1) := by decide +kernel
theorem dX6_later_2 : decode cX6_later 2 = .ok (.iload_n 3, 1) := by decide +kernel
theorem dX6_later_3 : decode cX6_later 3 = .ok (.invokevirtual 160, 3) := by decide +kernel
theorem dX6_later_6 : decode cX6_later 6 = .ok (.ifCond .eq 25, 3) := by decide +kernel
theorem dX6_later_31 : decode cX6_later 31 = .ok (.ldc 155, 2) := by decide +kernel
theorem dX6_later_33 : decode cX6_later 33 = .ok (.ireturn, 1) := by decide +kernel
theorem dX6_layBytes_0 : decode cX6_layBytes 0 = .ok (.bipush 24, 2) := by decide +kernel
theorem dX6_layBytes_2 : decode cX6_layBytes 2 = .ok (.istore_n 2, 1) := by decide +kernel
theorem dX6_layBytes_3 : decode cX6_layBytes 3 = .ok (.iload_n 2, 1) := by decide +kernel
theorem dX6_layBytes_4 : decode cX6_layBytes 4 = .ok (.ifCond .lt 32, 3) := by decide +kernel
theorem dX6_layBytes_7 : decode cX6_layBytes 7 = .ok (.aload_n 0, 1) := by decide +kernel
theorem dX6_layBytes_8 : decode cX6_layBytes 8 = .ok (.getfield 9, 3) := by decide +kernel
theorem dX6_layBytes_11 : decode cX6_layBytes 11 = .ok (.aload_n 0, 1) := by decide +kernel
theorem dX6_layBytes_12 : decode cX6_layBytes 12 = .ok (.getfield 68, 3) := by decide +kernel
theorem dX6_layBytes_15 : decode cX6_layBytes 15 = .ok (.iload_n 1, 1) := by decide +kernel
theorem dX6_layBytes_16 : decode cX6_layBytes 16 = .ok (.iload_n 2, 1) := by decide +kernel
theorem dX6_layBytes_17 : decode cX6_layBytes 17 = .ok (.ishr, 1) := by decide +kernel
theorem dX6_layBytes_18 : decode cX6_layBytes 18 = .ok (.i2b, 1) := by decide +kernel
theorem dX6_layBytes_19 : decode cX6_layBytes 19 = .ok (.bastore, 1) := by decide +kernel
theorem dX6_layBytes_20 : decode cX6_layBytes 20 = .ok (.aload_n 0, 1) := by decide +kernel
theorem dX6_layBytes_21 : decode cX6_layBytes 21 = .ok (.dup, 1) := by decide +kernel
theorem dX6_layBytes_22 : decode cX6_layBytes 22 = .ok (.getfield 68, 3) := by decide +kernel
theorem dX6_layBytes_25 : decode cX6_layBytes 25 = .ok (.iconst 1, 1) := by decide +kernel
theorem dX6_layBytes_26 : decode cX6_layBytes 26 = .ok (.iadd, 1) := by decide +kernel
theorem dX6_layBytes_27 : decode cX6_layBytes 27 = .ok (.putfield 68, 3) := by decide +kernel
theorem dX6_layBytes_30 : decode cX6_layBytes 30 = .ok (.iinc 2 (-8), 3) := by decide +kernel
theorem dX6_layBytes_33 : decode cX6_layBytes 33 = .ok (.goto (-30), 3) := by decide +kernel
theorem dX6_layBytes_36 : decode cX6_layBytes 36 = .ok (.return_, 1) := by decide +kernel
theorem dX6_likely_0 : decode cX6_likely 0 = .ok (.aload_n 0, 1) := by decide +kernel
theorem dX6_likely_1 : decode cX6_likely 1 = .ok (.getfield 87, 3) := by decide +kernel
theorem dX6_likely_4 : decode cX6_likely 4 = .ok (.ifCond .eq 29, 3) := by decide +kernel
theorem dX6_likely_33 : decode cX6_likely 33 = .ok (.iconst (-1), 1) := by decide +kernel
theorem dX6_likely_34 : decode cX6_likely 34 = .ok (.ireturn, 1) := by decide +kernel
theorem dX6_line_0 : decode cX6_line 0 = .ok (.aload_n 0, 1) := by decide +kernel
theorem dX6_line_1 : decode cX6_line 1 = .ok (.getfield 87, 3) := by decide +kernel
theorem dX6_line_4 : decode cX6_line 4 = .ok (.ifCond .eq 28, 3) := by decide +kernel
theorem dX6_line_32 : decode cX6_line 32 = .ok (.ldc 155, 2) := by decide +kernel
theorem dX6_line_34 : decode cX6_line 34 = .ok (.ireturn, 1) := by decide +kernel
theorem dX6_next_0 : decode cX6_next 0 = .ok (.aload_n 0, 1) := by decide +kernel
theorem dX6_next_1 : decode cX6_next 1 = .ok (.getfield 87, 3) := by decide +kernel
theorem dX6_next_4 : decode cX6_next 4 = .ok (.ifCond .eq 30, 3) := by decide +kernel
theorem dX6_next_34 : decode cX6_next 34 = .ok (.iconst (-1), 1) := by decide +kernel
theorem dX6_next_35 : decode cX6_next 35 = .ok (.ireturn, 1) := by decide +kernel
theorem dX6_part_0 : decode cX6_part 0 = .ok (.aload_n 0, 1) := by decide +kernel
theorem dX6_part_1 : decode cX6_part 1 = .ok (.iload_n 1, 1) := by decide +kernel
theorem dX6_part_2 : decode cX6_part 2 = .ok (.invokevirtual 181, 3) := by decide +kernel
theorem dX6_part_5 : decode cX6_part 5 = .ok (.ifCond .eq 23, 3) := by decide +kernel
theorem dX6_part_28 : decode cX6_part 28 = .ok (.iconst (-1), 1) := by decide +kernel
theorem dX6_part_29 : decode cX6_part 29 = .ok (.ireturn, 1) := by decide +kernel
theorem dX6_poke_0 : decode cX6_poke 0 = .ok (.aload_n 0, 1) := by decide +kernel
theorem dX6_poke_1 : decode cX6_poke 1 = .ok (.iload_n 1, 1) := by decide +kernel
theorem dX6_poke_2 : decode cX6_poke 2 = .ok (.iload_n 2, 1) := by decide +kernel
theorem dX6_poke_3 : decode cX6_poke 3 = .ok (.invokevirtual 207, 3) := by decide +kernel
theorem dX6_poke_6 : decode cX6_poke 6 = .ok (.ifCond .eq 17, 3) := by decide +kernel
theorem dX6_poke_23 : decode cX6_poke 23 = .ok (.aload_n 0, 1) := by decide +kernel
theorem dX6_poke_24 : decode cX6_poke 24 = .ok (.iconst 3, 1) := by decide +kernel
theorem dX6_poke_25 : decode cX6_poke 25 = .ok (.invokevirtual 72, 3) := by decide +kernel
theorem dX6_poke_28 : decode cX6_poke 28 = .ok (.pop, 1) := by decide +kernel
theorem dX6_poke_29 : decode cX6_poke 29 = .ok (.ldc 155, 2) := by decide +kernel
theorem dX6_poke_31 : decode cX6_poke 31 = .ok (.ireturn, 1) := by decide +kernel
theorem dX6_program_0 : decode cX6_program 0 = .ok (.aload_n 0, 1) := by decide +kernel
theorem dX6_program_1 : decode cX6_program 1 = .ok (.getfield 16, 3) := by decide +kernel
theorem dX6_program_4 : decode cX6_program 4 = .ok (.aload_n 0, 1) := by decide +kernel
theorem dX6_program_5 : decode cX6_program 5 = .ok (.getfield 9, 3) := by decide +kernel
theorem dX6_program_8 : decode cX6_program 8 = .ok (.aload_n 0, 1) := by decide +kernel
theorem dX6_program_9 : decode cX6_program 9 = .ok (.getfield 68, 3) := by decide +kernel
theorem dX6_program_12 : decode cX6_program 12 = .ok (.aload_n 0, 1) := by decide +kernel
theorem dX6_program_13 : decode cX6_program 13 = .ok (.getfield 27, 3) := by decide +kernel
theorem dX6_program_16 : decode cX6_program 16 = .ok (.invokevirtual 80, 3) := by decide +kernel
theorem dX6_program_19 : decode cX6_program 19 = .ok (.istore_n 1, 1) := by decide +kernel
theorem dX6_program_20 : decode cX6_program 20 = .ok (.aload_n 0, 1) := by decide +kernel
theorem dX6_program_21 : decode cX6_program 21 = .ok (.iconst 0, 1) := by decide +kernel
theorem dX6_program_22 : decode cX6_program 22 = .ok (.putfield 68, 3) := by decide +kernel
theorem dX6_program_25 : decode cX6_program 25 = .ok (.iload_n 1, 1) := by decide +kernel
theorem dX6_program_26 : decode cX6_program 26 = .ok (.ifCond .ne 9, 3) := by decide +kernel
theorem dX6_program_29 : decode cX6_program 29 = .ok (.aload_n 0, 1) := by decide +kernel
theorem dX6_program_30 : decode cX6_program 30 = .ok (.iconst 1, 1) := by decide +kernel
theorem dX6_program_31 : decode cX6_program 31 = .ok (.invokevirtual 72, 3) := by decide +kernel
theorem dX6_program_34 : decode cX6_program 34 = .ok (.ireturn, 1) := by decide +kernel
theorem dX6_raced_0 : decode cX6_raced 0 = .ok (.aload_n 0, 1) := by decide +kernel
theorem dX6_raced_1 : decode cX6_raced 1 = .ok (.iload_n 1, 1) := by decide +kernel
theorem dX6_raced_2 : decode cX6_raced 2 = .ok (.iload_n 2, 1) := by decide +kernel
theorem dX6_raced_3 : decode cX6_raced 3 = .ok (.invokevirtual 207, 3) := by decide +kernel
theorem dX6_raced_6 : decode cX6_raced 6 = .ok (.ifCond .ne 5, 3) := by decide +kernel
theorem dX6_raced_9 : decode cX6_raced 9 = .ok (.iconst (-1), 1) := by decide +kernel
theorem dX6_raced_10 : decode cX6_raced 10 = .ok (.ireturn, 1) := by decide +kernel
theorem dX6_refuse_0 : decode cX6_refuse 0 = .ok (.aload_n 0, 1) := by decide +kernel
theorem dX6_refuse_1 : decode cX6_refuse 1 = .ok (.getfield 55, 3) := by decide +kernel
theorem dX6_refuse_4 : decode cX6_refuse 4 = .ok (.iload_n 1, 1) := by decide +kernel
theorem dX6_refuse_5 : decode cX6_refuse 5 = .ok (.dup2, 1) := by decide +kernel
theorem dX6_refuse_6 : decode cX6_refuse 6 = .ok (.iaload, 1) := by decide +kernel
theorem dX6_refuse_7 : decode cX6_refuse 7 = .ok (.iconst 1, 1) := by decide +kernel
theorem dX6_refuse_8 : decode cX6_refuse 8 = .ok (.iadd, 1) := by decide +kernel
theorem dX6_refuse_9 : decode cX6_refuse 9 = .ok (.iastore, 1) := by decide +kernel
theorem dX6_refuse_10 : decode cX6_refuse 10 = .ok (.iconst (-1), 1) := by decide +kernel
theorem dX6_refuse_11 : decode cX6_refuse 11 = .ok (.ireturn, 1) := by decide +kernel
theorem dX6_seed_0 : decode cX6_seed 0 = .ok (.iload_n 1, 1) := by decide +kernel
theorem dX6_seed_1 : decode cX6_seed 1 = .ok (.ifCond .ge 11, 3) := by decide +kernel
theorem dX6_seed_4 : decode cX6_seed 4 = .ok (.aload_n 0, 1) := by decide +kernel
theorem dX6_seed_5 : decode cX6_seed 5 = .ok (.iconst 5, 1) := by decide +kernel
theorem dX6_seed_6 : decode cX6_seed 6 = .ok (.invokevirtual 72, 3) := by decide +kernel
theorem dX6_seed_9 : decode cX6_seed 9 = .ok (.pop, 1) := by decide +kernel
theorem dX6_seed_10 : decode cX6_seed 10 = .ok (.iconst 0, 1) := by decide +kernel
theorem dX6_seed_11 : decode cX6_seed 11 = .ok (.ireturn, 1) := by decide +kernel
theorem dX6_seed_12 : decode cX6_seed 12 = .ok (.aload_n 0, 1) := by decide +kernel
theorem dX6_seed_13 : decode cX6_seed 13 = .ok (.iload_n 1, 1) := by decide +kernel
theorem dX6_seed_14 : decode cX6_seed 14 = .ok (.i2l, 1) := by decide +kernel
theorem dX6_seed_15 : decode cX6_seed 15 = .ok (.putfield 59, 3) := by decide +kernel
theorem dX6_seed_18 : decode cX6_seed 18 = .ok (.iconst 1, 1) := by decide +kernel
theorem dX6_seed_19 : decode cX6_seed 19 = .ok (.ireturn, 1) := by decide +kernel
theorem dX6_set_0 : decode cX6_set 0 = .ok (.aload_n 0, 1) := by decide +kernel
theorem dX6_set_1 : decode cX6_set 1 = .ok (.getfield 87, 3) := by decide +kernel
theorem dX6_set_4 : decode cX6_set 4 = .ok (.ifCond .eq 26, 3) := by decide +kernel
theorem dX6_set_30 : decode cX6_set 30 = .ok (.aload_n 0, 1) := by decide +kernel
theorem dX6_set_31 : decode cX6_set 31 = .ok (.iconst 3, 1) := by decide +kernel
theorem dX6_set_32 : decode cX6_set 32 = .ok (.invokevirtual 72, 3) := by decide +kernel
theorem dX6_set_35 : decode cX6_set 35 = .ok (.pop, 1) := by decide +kernel
theorem dX6_set_36 : decode cX6_set 36 = .ok (.iconst 0, 1) := by decide +kernel
theorem dX6_set_37 : decode cX6_set 37 = .ok (.ireturn, 1) := by decide +kernel
theorem dX6_skew_0 : decode cX6_skew 0 = .ok (.aload_n 0, 1) := by decide +kernel
theorem dX6_skew_1 : decode cX6_skew 1 = .ok (.getfield 87, 3) := by decide +kernel
theorem dX6_skew_4 : decode cX6_skew 4 = .ok (.ifCond .eq 12, 3) := by decide +kernel
theorem dX6_skew_16 : decode cX6_skew 16 = .ok (.iconst (-1), 1) := by decide +kernel
theorem dX6_skew_17 : decode cX6_skew 17 = .ok (.ireturn, 1) := by decide +kernel
theorem dX6_status_0 : decode cX6_status 0 = .ok (.iload_n 1, 1) := by decide +kernel
theorem dX6_status_1 : decode cX6_status 1 = .ok (.ifCond .lt 9, 3) := by decide +kernel
theorem dX6_status_4 : decode cX6_status 4 = .ok (.iload_n 1, 1) := by decide +kernel
theorem dX6_status_5 : decode cX6_status 5 = .ok (.bipush 6, 2) := by decide +kernel
theorem dX6_status_7 : decode cX6_status 7 = .ok (.if_icmp .lt 7, 3) := by decide +kernel
theorem dX6_status_10 : decode cX6_status 10 = .ok (.iconst (-1), 1) := by decide +kernel
theorem dX6_status_11 : decode cX6_status 11 = .ok (.goto 9, 3) := by decide +kernel
theorem dX6_status_14 : decode cX6_status 14 = .ok (.aload_n 0, 1) := by decide +kernel
theorem dX6_status_15 : decode cX6_status 15 = .ok (.getfield 55, 3) := by decide +kernel
theorem dX6_status_18 : decode cX6_status 18 = .ok (.iload_n 1, 1) := by decide +kernel
theorem dX6_status_19 : decode cX6_status 19 = .ok (.iaload, 1) := by decide +kernel
theorem dX6_status_20 : decode cX6_status 20 = .ok (.ireturn, 1) := by decide +kernel
theorem dX6_tells_0 : decode cX6_tells 0 = .ok (.aload_n 0, 1) := by decide +kernel
theorem dX6_tells_1 : decode cX6_tells 1 = .ok (.getfield 87, 3) := by decide +kernel
theorem dX6_tells_4 : decode cX6_tells 4 = .ok (.ifCond .eq 12, 3) := by decide +kernel
theorem dX6_tells_16 : decode cX6_tells 16 = .ok (.iconst (-1), 1) := by decide +kernel
theorem dX6_tells_17 : decode cX6_tells 17 = .ok (.ireturn, 1) := by decide +kernel
theorem dX6_undo_0 : decode cX6_undo 0 = .ok (.aload_n 0, 1) := by decide +kernel
theorem dX6_undo_1 : decode cX6_undo 1 = .ok (.getfield 104, 3) := by decide +kernel
theorem dX6_undo_4 : decode cX6_undo 4 = .ok (.ifCond .ne 11, 3) := by decide +kernel
theorem dX6_undo_7 : decode cX6_undo 7 = .ok (.aload_n 0, 1) := by decide +kernel
theorem dX6_undo_8 : decode cX6_undo 8 = .ok (.iconst 4, 1) := by decide +kernel
theorem dX6_undo_9 : decode cX6_undo 9 = .ok (.invokevirtual 72, 3) := by decide +kernel
theorem dX6_undo_12 : decode cX6_undo 12 = .ok (.pop, 1) := by decide +kernel
theorem dX6_undo_13 : decode cX6_undo 13 = .ok (.iconst 0, 1) := by decide +kernel
theorem dX6_undo_14 : decode cX6_undo 14 = .ok (.ireturn, 1) := by decide +kernel
theorem dX6_warp_0 : decode cX6_warp 0 = .ok (.aload_n 0, 1) := by decide +kernel
theorem dX6_warp_1 : decode cX6_warp 1 = .ok (.iload_n 1, 1) := by decide +kernel
theorem dX6_warp_2 : decode cX6_warp 2 = .ok (.invokevirtual 181, 3) := by decide +kernel
theorem dX6_warp_5 : decode cX6_warp 5 = .ok (.ifCond .ne 5, 3) := by decide +kernel
theorem dX6_warp_8 : decode cX6_warp 8 = .ok (.iconst (-1), 1) := by decide +kernel
theorem dX6_warp_9 : decode cX6_warp 9 = .ok (.ireturn, 1) := by decide +kernel
theorem dX6_word_0 : decode cX6_word 0 = .ok (.aload_n 0, 1) := by decide +kernel
theorem dX6_word_1 : decode cX6_word 1 = .ok (.iload_n 1, 1) := by decide +kernel
theorem dX6_word_2 : decode cX6_word 2 = .ok (.iload_n 2, 1) := by decide +kernel
theorem dX6_word_3 : decode cX6_word 3 = .ok (.invokevirtual 207, 3) := by decide +kernel
theorem dX6_word_6 : decode cX6_word 6 = .ok (.ifCond .ne 6, 3) := by decide +kernel
theorem dX6_word_9 : decode cX6_word 9 = .ok (.ldc 155, 2) := by decide +kernel
theorem dX6_word_11 : decode cX6_word 11 = .ok (.ireturn, 1) := by decide +kernel
theorem dX7_agrees_0 : decode cX7_agrees 0 = .ok (.aload_n 0, 1) := by decide +kernel
theorem dX7_agrees_1 : decode cX7_agrees 1 = .ok (.getfield 215, 3) := by decide +kernel
theorem dX7_agrees_4 : decode cX7_agrees 4 = .ok (.ifCond .ne 5, 3) := by decide +kernel
theorem dX7_agrees_7 : decode cX7_agrees 7 = .ok (.iconst (-1), 1) := by decide +kernel
theorem dX7_agrees_8 : decode cX7_agrees 8 = .ok (.ireturn, 1) := by decide +kernel
theorem dX7_alone_0 : decode cX7_alone 0 = .ok (.aload_n 0, 1) := by decide +kernel
theorem dX7_alone_1 : decode cX7_alone 1 = .ok (.iload_n 1, 1) := by decide +kernel
theorem dX7_alone_2 : decode cX7_alone 2 = .ok (.iload_n 2, 1) := by decide +kernel
theorem dX7_alone_3 : decode cX7_alone 3 = .ok (.invokevirtual 396, 3) := by decide +kernel
theorem dX7_alone_6 : decode cX7_alone 6 = .ok (.ifCond .eq 33, 3) := by decide +kernel
theorem dX7_alone_39 : decode cX7_alone 39 = .ok (.ldc 167, 2) := by decide +kernel
theorem dX7_alone_41 : decode cX7_alone 41 = .ok (.ireturn, 1) := by decide +kernel
theorem dX7_asks_0 : decode cX7_asks 0 = .ok (.aload_n 0, 1) := by decide +kernel
theorem dX7_asks_1 : decode cX7_asks 1 = .ok (.getfield 89, 3) := by decide +kernel
theorem dX7_asks_4 : decode cX7_asks 4 = .ok (.ifCond .ne 20, 3) := by decide +kernel
theorem dX7_asks_7 : decode cX7_asks 7 = .ok (.aload_n 0, 1) := by decide +kernel
theorem dX7_asks_8 : decode cX7_asks 8 = .ok (.iload_n 1, 1) := by decide +kernel
theorem dX7_asks_9 : decode cX7_asks 9 = .ok (.invokevirtual 135, 3) := by decide +kernel
theorem dX7_asks_12 : decode cX7_asks 12 = .ok (.ifCond .ne 12, 3) := by decide +kernel
theorem dX7_asks_15 : decode cX7_asks 15 = .ok (.aload_n 0, 1) := by decide +kernel
theorem dX7_asks_16 : decode cX7_asks 16 = .ok (.iconst 1, 1) := by decide +kernel
theorem dX7_asks_17 : decode cX7_asks 17 = .ok (.aload_n 0, 1) := by decide +kernel
theorem dX7_asks_18 : decode cX7_asks 18 = .ok (.getfield 95, 3) := by decide +kernel
theorem dX7_asks_21 : decode cX7_asks 21 = .ok (.invokevirtual 114, 3) := by decide +kernel
theorem dX7_asks_24 : decode cX7_asks 24 = .ok (.return_, 1) := by decide +kernel
theorem dX7_asksSign_0 : decode cX7_asksSign 0 = .ok (.aload_n 0, 1) := by decide +kernel
theorem dX7_asksSign_1 : decode cX7_asksSign 1 = .ok (.getfield 89, 3) := by decide +kernel
theorem dX7_asksSign_4 : decode cX7_asksSign 4 = .ok (.ifCond .ne 20, 3) := by decide +kernel
theorem dX7_asksSign_24 : decode cX7_asksSign 24 = .ok (.return_, 1) := by decide +kernel
theorem dX7_begin_0 : decode cX7_begin 0 = .ok (.aload_n 0, 1) := by decide +kernel
theorem dX7_begin_1 : decode cX7_begin 1 = .ok (.getfield 215, 3) := by decide +kernel
theorem dX7_begin_4 : decode cX7_begin 4 = .ok (.ifCond .ne 9, 3) := by decide +kernel
theorem dX7_begin_7 : decode cX7_begin 7 = .ok (.aload_n 0, 1) := by decide +kernel
theorem dX7_begin_8 : decode cX7_begin 8 = .ok (.iconst 3, 1) := by decide +kernel
theorem dX7_begin_9 : decode cX7_begin 9 = .ok (.invokevirtual 76, 3) := by decide +kernel
theorem dX7_begin_12 : decode cX7_begin 12 = .ok (.ireturn, 1) := by decide +kernel
theorem dX7_by_0 : decode cX7_by 0 = .ok (.aload_n 0, 1) := by decide +kernel
theorem dX7_by_1 : decode cX7_by 1 = .ok (.getfield 215, 3) := by decide +kernel
theorem dX7_by_4 : decode cX7_by 4 = .ok (.ifCond .eq 35, 3) := by decide +kernel
theorem dX7_by_39 : decode cX7_by 39 = .ok (.iconst (-1), 1) := by decide +kernel
theorem dX7_by_40 : decode cX7_by 40 = .ok (.ireturn, 1) := by decide +kernel
theorem dX7_chance_0 : decode cX7_chance 0 = .ok (.aload_n 0, 1) := by decide +kernel
theorem dX7_chance_1 : decode cX7_chance 1 = .ok (.getfield 215, 3) := by decide +kernel
theorem dX7_chance_4 : decode cX7_chance 4 = .ok (.ifCond .eq 15, 3) := by decide +kernel
theorem dX7_chance_19 : decode cX7_chance 19 = .ok (.aload_n 0, 1) := by decide +kernel
theorem dX7_chance_20 : decode cX7_chance 20 = .ok (.iconst 2, 1) := by decide +kernel
theorem dX7_chance_21 : decode cX7_chance 21 = .ok (.invokevirtual 72, 3) := by decide +kernel
theorem dX7_chance_24 : decode cX7_chance 24 = .ok (.ireturn, 1) := by decide +kernel
theorem dX7_cycles_0 : decode cX7_cycles 0 = .ok (.aload_n 0, 1) := by decide +kernel
theorem dX7_cycles_1 : decode cX7_cycles 1 = .ok (.getfield 215, 3) := by decide +kernel
theorem dX7_cycles_4 : decode cX7_cycles 4 = .ok (.ifCond .eq 29, 3) := by decide +kernel
theorem dX7_cycles_33 : decode cX7_cycles 33 = .ok (.aload_n 0, 1) := by decide +kernel
theorem dX7_cycles_34 : decode cX7_cycles 34 = .ok (.iconst 2, 1) := by decide +kernel
theorem dX7_cycles_35 : decode cX7_cycles 35 = .ok (.invokevirtual 72, 3) := by decide +kernel
theorem dX7_cycles_38 : decode cX7_cycles 38 = .ok (.ireturn, 1) := by decide +kernel
theorem dX7_drafted_0 : decode cX7_drafted 0 = .ok (.aload_n 0, 1) := by decide +kernel
theorem dX7_drafted_1 : decode cX7_drafted 1 = .ok (.getfield 24, 3) := by decide +kernel
theorem dX7_drafted_4 : decode cX7_drafted 4 = .ok (.sipush 387, 3) := by decide +kernel
theorem dX7_drafted_7 : decode cX7_drafted 7 = .ok (.iaload, 1) := by decide +kernel
theorem dX7_drafted_8 : decode cX7_drafted 8 = .ok (.ireturn, 1) := by decide +kernel
theorem dX7_end_0 : decode cX7_end 0 = .ok (.iload_n 1, 1) := by decide +kernel
theorem dX7_end_1 : decode cX7_end 1 = .ok (.ifCond .lt 11, 3) := by decide +kernel
theorem dX7_end_4 : decode cX7_end 4 = .ok (.iload_n 1, 1) := by decide +kernel
theorem dX7_end_5 : decode cX7_end 5 = .ok (.aload_n 0, 1) := by decide +kernel
theorem dX7_end_6 : decode cX7_end 6 = .ok (.getfield 69, 3) := by decide +kernel
theorem dX7_end_9 : decode cX7_end 9 = .ok (.if_icmp .le 9, 3) := by decide +kernel
theorem dX7_end_12 : decode cX7_end 12 = .ok (.aload_n 0, 1) := by decide +kernel
theorem dX7_end_13 : decode cX7_end 13 = .ok (.iconst 0, 1) := by decide +kernel
theorem dX7_end_14 : decode cX7_end 14 = .ok (.invokevirtual 76, 3) := by decide +kernel
theorem dX7_end_17 : decode cX7_end 17 = .ok (.ireturn, 1) := by decide +kernel
theorem dX7_end_18 : decode cX7_end 18 = .ok (.aload_n 0, 1) := by decide +kernel
theorem dX7_end_19 : decode cX7_end 19 = .ok (.iload_n 1, 1) := by decide +kernel
theorem dX7_end_20 : decode cX7_end 20 = .ok (.putfield 69, 3) := by decide +kernel
theorem dX7_end_23 : decode cX7_end 23 = .ok (.iconst 1, 1) := by decide +kernel
theorem dX7_end_24 : decode cX7_end 24 = .ok (.ireturn, 1) := by decide +kernel
theorem dX7_fail_0 : decode cX7_fail 0 = .ok (.aload_n 0, 1) := by decide +kernel
theorem dX7_fail_1 : decode cX7_fail 1 = .ok (.getfield 89, 3) := by decide +kernel
theorem dX7_fail_4 : decode cX7_fail 4 = .ok (.ifCond .eq 4, 3) := by decide +kernel
theorem dX7_fail_8 : decode cX7_fail 8 = .ok (.aload_n 0, 1) := by decide +kernel
theorem dX7_fail_9 : decode cX7_fail 9 = .ok (.iload_n 1, 1) := by decide +kernel
theorem dX7_fail_10 : decode cX7_fail 10 = .ok (.putfield 89, 3) := by decide +kernel
theorem dX7_fail_13 : decode cX7_fail 13 = .ok (.aload_n 0, 1) := by decide +kernel
theorem dX7_fail_14 : decode cX7_fail 14 = .ok (.iload_n 2, 1) := by decide +kernel
theorem dX7_fail_15 : decode cX7_fail 15 = .ok (.putfield 92, 3) := by decide +kernel
theorem dX7_fail_18 : decode cX7_fail 18 = .ok (.return_, 1) := by decide +kernel
theorem dX7_fault_0 : decode cX7_fault 0 = .ok (.iload_n 1, 1) := by decide +kernel
theorem dX7_fault_1 : decode cX7_fault 1 = .ok (.ifCond .ne 10, 3) := by decide +kernel
theorem dX7_fault_4 : decode cX7_fault 4 = .ok (.aload_n 0, 1) := by decide +kernel
theorem dX7_fault_5 : decode cX7_fault 5 = .ok (.getfield 86, 3) := by decide +kernel
theorem dX7_fault_8 : decode cX7_fault 8 = .ok (.goto 16, 3) := by decide +kernel
theorem dX7_fault_11 : decode cX7_fault 11 = .ok (.iload_n 1, 1) := by decide +kernel
theorem dX7_fault_12 : decode cX7_fault 12 = .ok (.iconst 1, 1) := by decide +kernel
theorem dX7_fault_13 : decode cX7_fault 13 = .ok (.if_icmp .ne 10, 3) := by decide +kernel
theorem dX7_fault_16 : decode cX7_fault 16 = .ok (.aload_n 0, 1) := by decide +kernel
theorem dX7_fault_17 : decode cX7_fault 17 = .ok (.getfield 13, 3) := by decide +kernel
theorem dX7_fault_20 : decode cX7_fault 20 = .ok (.goto 4, 3) := by decide +kernel
theorem dX7_fault_23 : decode cX7_fault 23 = .ok (.iconst (-1), 1) := by decide +kernel
theorem dX7_fault_24 : decode cX7_fault 24 = .ok (.ireturn, 1) := by decide +kernel
theorem dX7_feed_0 : decode cX7_feed 0 = .ok (.aload_n 0, 1) := by decide +kernel
theorem dX7_feed_1 : decode cX7_feed 1 = .ok (.getfield 69, 3) := by decide +kernel
theorem dX7_feed_4 : decode cX7_feed 4 = .ok (.bipush 20, 2) := by decide +kernel
theorem dX7_feed_6 : decode cX7_feed 6 = .ok (.iadd, 1) := by decide +kernel
theorem dX7_feed_7 : decode cX7_feed 7 = .ok (.sipush 1600, 3) := by decide +kernel
theorem dX7_feed_10 : decode cX7_feed 10 = .ok (.if_icmp .le 9, 3) := by decide +kernel
theorem dX7_feed_19 : decode cX7_feed 19 = .ok (.iconst 0, 1) := by decide +kernel
theorem dX7_feed_20 : decode cX7_feed 20 = .ok (.istore 6, 2) := by decide +kernel
theorem dX7_feed_22 : decode cX7_feed 22 = .ok (.iload 6, 2) := by decide +kernel
theorem dX7_feed_24 : decode cX7_feed 24 = .ok (.bipush 20, 2) := by decide +kernel
theorem dX7_feed_26 : decode cX7_feed 26 = .ok (.if_icmp .ge 92, 3) := by decide +kernel
theorem dX7_feed_29 : decode cX7_feed 29 = .ok (.iload 6, 2) := by decide +kernel
theorem dX7_feed_31 : decode cX7_feed 31 = .ok (.iconst 4, 1) := by decide +kernel
theorem dX7_feed_32 : decode cX7_feed 32 = .ok (.if_icmp .ge 7, 3) := by decide +kernel
theorem dX7_feed_35 : decode cX7_feed 35 = .ok (.iload_n 1, 1) := by decide +kernel
theorem dX7_feed_36 : decode cX7_feed 36 = .ok (.goto 39, 3) := by decide +kernel
theorem dX7_feed_39 : decode cX7_feed 39 = .ok (.iload 6, 2) := by decide +kernel
theorem dX7_feed_41 : decode cX7_feed 41 = .ok (.bipush 8, 2) := by decide +kernel
theorem dX7_feed_43 : decode cX7_feed 43 = .ok (.if_icmp .ge 7, 3) := by decide +kernel
theorem dX7_feed_46 : decode cX7_feed 46 = .ok (.iload_n 2, 1) := by decide +kernel
theorem dX7_feed_47 : decode cX7_feed 47 = .ok (.goto 28, 3) := by decide +kernel
theorem dX7_feed_50 : decode cX7_feed 50 = .ok (.iload 6, 2) := by decide +kernel
theorem dX7_feed_52 : decode cX7_feed 52 = .ok (.bipush 12, 2) := by decide +kernel
theorem dX7_feed_54 : decode cX7_feed 54 = .ok (.if_icmp .ge 7, 3) := by decide +kernel
theorem dX7_feed_57 : decode cX7_feed 57 = .ok (.iload_n 3, 1) := by decide +kernel
theorem dX7_feed_58 : decode cX7_feed 58 = .ok (.goto 17, 3) := by decide +kernel
theorem dX7_feed_61 : decode cX7_feed 61 = .ok (.iload 6, 2) := by decide +kernel
theorem dX7_feed_63 : decode cX7_feed 63 = .ok (.bipush 16, 2) := by decide +kernel
theorem dX7_feed_65 : decode cX7_feed 65 = .ok (.if_icmp .ge 8, 3) := by decide +kernel
theorem dX7_feed_68 : decode cX7_feed 68 = .ok (.iload 4, 2) := by decide +kernel
theorem dX7_feed_70 : decode cX7_feed 70 = .ok (.goto 5, 3) := by decide +kernel
theorem dX7_feed_73 : decode cX7_feed 73 = .ok (.iload 5, 2) := by decide +kernel
theorem dX7_feed_75 : decode cX7_feed 75 = .ok (.istore 7, 2) := by decide +kernel
theorem dX7_feed_77 : decode cX7_feed 77 = .ok (.aload_n 0, 1) := by decide +kernel
theorem dX7_feed_78 : decode cX7_feed 78 = .ok (.getfield 7, 3) := by decide +kernel
theorem dX7_feed_81 : decode cX7_feed 81 = .ok (.aload_n 0, 1) := by decide +kernel
theorem dX7_feed_82 : decode cX7_feed 82 = .ok (.getfield 69, 3) := by decide +kernel
theorem dX7_feed_85 : decode cX7_feed 85 = .ok (.iload 7, 2) := by decide +kernel
theorem dX7_feed_87 : decode cX7_feed 87 = .ok (.bipush 8, 2) := by decide +kernel
theorem dX7_feed_89 : decode cX7_feed 89 = .ok (.iconst 3, 1) := by decide +kernel
theorem dX7_feed_90 : decode cX7_feed 90 = .ok (.iload 6, 2) := by decide +kernel
theorem dX7_feed_92 : decode cX7_feed 92 = .ok (.iconst 4, 1) := by decide +kernel
theorem dX7_feed_93 : decode cX7_feed 93 = .ok (.irem, 1) := by decide +kernel
theorem dX7_feed_94 : decode cX7_feed 94 = .ok (.isub, 1) := by decide +kernel
theorem dX7_feed_95 : decode cX7_feed 95 = .ok (.imul, 1) := by decide +kernel
theorem dX7_feed_96 : decode cX7_feed 96 = .ok (.ishr, 1) := by decide +kernel
theorem dX7_feed_97 : decode cX7_feed 97 = .ok (.sipush 255, 3) := by decide +kernel
theorem dX7_feed_100 : decode cX7_feed 100 = .ok (.iand, 1) := by decide +kernel
theorem dX7_feed_101 : decode cX7_feed 101 = .ok (.iastore, 1) := by decide +kernel
theorem dX7_feed_102 : decode cX7_feed 102 = .ok (.aload_n 0, 1) := by decide +kernel
theorem dX7_feed_103 : decode cX7_feed 103 = .ok (.dup, 1) := by decide +kernel
theorem dX7_feed_104 : decode cX7_feed 104 = .ok (.getfield 69, 3) := by decide +kernel
theorem dX7_feed_107 : decode cX7_feed 107 = .ok (.iconst 1, 1) := by decide +kernel
theorem dX7_feed_108 : decode cX7_feed 108 = .ok (.iadd, 1) := by decide +kernel
theorem dX7_feed_109 : decode cX7_feed 109 = .ok (.putfield 69, 3) := by decide +kernel
theorem dX7_feed_112 : decode cX7_feed 112 = .ok (.iinc 6 1, 3) := by decide +kernel
theorem dX7_feed_115 : decode cX7_feed 115 = .ok (.goto (-93), 3) := by decide +kernel
theorem dX7_feed_118 : decode cX7_feed 118 = .ok (.aload_n 0, 1) := by decide +kernel
theorem dX7_feed_119 : decode cX7_feed 119 = .ok (.getfield 69, 3) := by decide +kernel
theorem dX7_feed_122 : decode cX7_feed 122 = .ok (.ireturn, 1) := by decide +kernel
theorem dX7_goes_0 : decode cX7_goes 0 = .ok (.aload_n 0, 1) := by decide +kernel
theorem dX7_goes_1 : decode cX7_goes 1 = .ok (.getfield 215, 3) := by decide +kernel
theorem dX7_goes_4 : decode cX7_goes 4 = .ok (.ifCond .eq 15, 3) := by decide +kernel
theorem dX7_goes_19 : decode cX7_goes 19 = .ok (.iconst (-1), 1) := by decide +kernel
theorem dX7_goes_20 : decode cX7_goes 20 = .ok (.ireturn, 1) := by decide +kernel
theorem dX7_has_0 : decode cX7_has 0 = .ok (.iload_n 1, 1) := by decide +kernel
theorem dX7_has_1 : decode cX7_has 1 = .ok (.i2l, 1) := by decide +kernel
theorem dX7_has_2 : decode cX7_has 2 = .ok (.lconst 0, 1) := by decide +kernel
theorem dX7_has_3 : decode cX7_has 3 = .ok (.ldc2_w 384, 3) := by decide +kernel
theorem dX7_has_6 : decode cX7_has 6 = .ok (.invokestatic 82, 3) := by decide +kernel
theorem dX7_has_9 : decode cX7_has 9 = .ok (.ifCond .ne 5, 3) := by decide +kernel
theorem dX7_has_12 : decode cX7_has 12 = .ok (.iconst (-1), 1) := by decide +kernel
theorem dX7_has_13 : decode cX7_has 13 = .ok (.ireturn, 1) := by decide +kernel
theorem dX7_has_14 : decode cX7_has 14 = .ok (.aload_n 0, 1) := by decide +kernel
theorem dX7_has_15 : decode cX7_has 15 = .ok (.getfield 215, 3) := by decide +kernel
theorem dX7_has_18 : decode cX7_has 18 = .ok (.ifCond .ne 5, 3) := by decide +kernel
theorem dX7_has_21 : decode cX7_has 21 = .ok (.iconst 0, 1) := by decide +kernel
theorem dX7_has_22 : decode cX7_has 22 = .ok (.ireturn, 1) := by decide +kernel
theorem dX7_isIn_0 : decode cX7_isIn 0 = .ok (.lload_n 0, 1) := by decide +kernel
theorem dX7_isIn_1 : decode cX7_isIn 1 = .ok (.lload_n 2, 1) := by decide +kernel
theorem dX7_isIn_2 : decode cX7_isIn 2 = .ok (.lcmp, 1) := by decide +kernel
theorem dX7_isIn_3 : decode cX7_isIn 3 = .ok (.ifCond .lt 14, 3) := by decide +kernel
theorem dX7_isIn_6 : decode cX7_isIn 6 = .ok (.lload_n 0, 1) := by decide +kernel
theorem dX7_isIn_7 : decode cX7_isIn 7 = .ok (.lload 4, 2) := by decide +kernel
theorem dX7_isIn_9 : decode cX7_isIn 9 = .ok (.lcmp, 1) := by decide +kernel
theorem dX7_isIn_10 : decode cX7_isIn 10 = .ok (.ifCond .gt 7, 3) := by decide +kernel
theorem dX7_isIn_13 : decode cX7_isIn 13 = .ok (.iconst 1, 1) := by decide +kernel
theorem dX7_isIn_14 : decode cX7_isIn 14 = .ok (.goto 4, 3) := by decide +kernel
theorem dX7_isIn_17 : decode cX7_isIn 17 = .ok (.iconst 0, 1) := by decide +kernel
theorem dX7_isIn_18 : decode cX7_isIn 18 = .ok (.ireturn, 1) := by decide +kernel
theorem dX7_isLane_0 : decode cX7_isLane 0 = .ok (.aload_n 0, 1) := by decide +kernel
theorem dX7_isLane_1 : decode cX7_isLane 1 = .ok (.iload_n 1, 1) := by decide +kernel
theorem dX7_isLane_2 : decode cX7_isLane 2 = .ok (.invokevirtual 391, 3) := by decide +kernel
theorem dX7_isLane_5 : decode cX7_isLane 5 = .ok (.ifCond .eq 19, 3) := by decide +kernel
theorem dX7_isLane_24 : decode cX7_isLane 24 = .ok (.iconst 0, 1) := by decide +kernel
theorem dX7_isLane_25 : decode cX7_isLane 25 = .ok (.ireturn, 1) := by decide +kernel
theorem dX7_isLetter_0 : decode cX7_isLetter 0 = .ok (.iload_n 0, 1) := by decide +kernel
theorem dX7_isLetter_1 : decode cX7_isLetter 1 = .ok (.bipush 97, 2) := by decide +kernel
theorem dX7_isLetter_3 : decode cX7_isLetter 3 = .ok (.if_icmp .lt 13, 3) := by decide +kernel
theorem dX7_isLetter_16 : decode cX7_isLetter 16 = .ok (.iconst 0, 1) := by decide +kernel
theorem dX7_isLetter_17 : decode cX7_isLetter 17 = .ok (.ireturn, 1) := by decide +kernel
theorem dX7_isRefused_0 : decode cX7_isRefused 0 = .ok (.aload_n 0, 1) := by decide +kernel
theorem dX7_isRefused_1 : decode cX7_isRefused 1 = .ok (.getfield 17, 3) := by decide +kernel
theorem dX7_isRefused_4 : decode cX7_isRefused 4 = .ok (.iload_n 1, 1) := by decide +kernel
theorem dX7_isRefused_5 : decode cX7_isRefused 5 = .ok (.dup2, 1) := by decide +kernel
theorem dX7_isRefused_6 : decode cX7_isRefused 6 = .ok (.iaload, 1) := by decide +kernel
theorem dX7_isRefused_7 : decode cX7_isRefused 7 = .ok (.iconst 1, 1) := by decide +kernel
theorem dX7_isRefused_8 : decode cX7_isRefused 8 = .ok (.iadd, 1) := by decide +kernel
theorem dX7_isRefused_9 : decode cX7_isRefused 9 = .ok (.iastore, 1) := by decide +kernel
theorem dX7_isRefused_10 : decode cX7_isRefused 10 = .ok (.iconst 0, 1) := by decide +kernel
theorem dX7_isRefused_11 : decode cX7_isRefused 11 = .ok (.ireturn, 1) := by decide +kernel
theorem dX7_isWarp_0 : decode cX7_isWarp 0 = .ok (.aload_n 0, 1) := by decide +kernel
theorem dX7_isWarp_1 : decode cX7_isWarp 1 = .ok (.getfield 215, 3) := by decide +kernel
theorem dX7_isWarp_4 : decode cX7_isWarp 4 = .ok (.ifCond .eq 23, 3) := by decide +kernel
theorem dX7_isWarp_27 : decode cX7_isWarp 27 = .ok (.iconst 0, 1) := by decide +kernel
theorem dX7_isWarp_28 : decode cX7_isWarp 28 = .ok (.ireturn, 1) := by decide +kernel
theorem dX7_isWordHere_0 : decode cX7_isWordHere 0 = .ok (.aload_n 0, 1) := by decide +kernel
theorem dX7_isWordHere_1 : decode cX7_isWordHere 1 = .ok (.getfield 89, 3) := by decide +kernel
theorem dX7_isWordHere_4 : decode cX7_isWordHere 4 = .ok (.ifCond .ne 28, 3) := by decide +kernel
theorem dX7_isWordHere_7 : decode cX7_isWordHere 7 = .ok (.aload_n 0, 1) := by decide +kernel
theorem dX7_isWordHere_8 : decode cX7_isWordHere 8 = .ok (.invokevirtual 101, 3) := by decide +kernel
theorem dX7_isWordHere_11 : decode cX7_isWordHere 11 = .ok (.invokestatic 105, 3) := by decide +kernel
theorem dX7_isWordHere_14 : decode cX7_isWordHere 14 = .ok (.ifCond .eq 18, 3) := by decide +kernel
theorem dX7_isWordHere_32 : decode cX7_isWordHere 32 = .ok (.iconst 0, 1) := by decide +kernel
theorem dX7_isWordHere_33 : decode cX7_isWordHere 33 = .ok (.ireturn, 1) := by decide +kernel
theorem dX7_joins_0 : decode cX7_joins 0 = .ok (.iconst 0, 1) := by decide +kernel
theorem dX7_joins_1 : decode cX7_joins 1 = .ok (.istore_n 1, 1) := by decide +kernel
theorem dX7_joins_2 : decode cX7_joins 2 = .ok (.iload_n 1, 1) := by decide +kernel
theorem dX7_joins_3 : decode cX7_joins 3 = .ok (.aload_n 0, 1) := by decide +kernel
theorem dX7_joins_4 : decode cX7_joins 4 = .ok (.invokevirtual 141, 3) := by decide +kernel
theorem dX7_joins_7 : decode cX7_joins 7 = .ok (.if_icmp .ge 105, 3) := by decide +kernel
theorem dX7_joins_112 : decode cX7_joins 112 = .ok (.return_, 1) := by decide +kernel
theorem dX7_kept_0 : decode cX7_kept 0 = .ok (.iload_n 1, 1) := by decide +kernel
theorem dX7_kept_1 : decode cX7_kept 1 = .ok (.i2l, 1) := by decide +kernel
theorem dX7_kept_2 : decode cX7_kept 2 = .ok (.lconst 0, 1) := by decide +kernel
theorem dX7_kept_3 : decode cX7_kept 3 = .ok (.aload_n 0, 1) := by decide +kernel
theorem dX7_kept_4 : decode cX7_kept 4 = .ok (.getfield 40, 3) := by decide +kernel
theorem dX7_kept_7 : decode cX7_kept 7 = .ok (.bipush 7, 2) := by decide +kernel
theorem dX7_kept_9 : decode cX7_kept 9 = .ok (.iaload, 1) := by decide +kernel
theorem dX7_kept_10 : decode cX7_kept 10 = .ok (.iconst 1, 1) := by decide +kernel
theorem dX7_kept_11 : decode cX7_kept 11 = .ok (.isub, 1) := by decide +kernel
theorem dX7_kept_12 : decode cX7_kept 12 = .ok (.i2l, 1) := by decide +kernel
theorem dX7_kept_13 : decode cX7_kept 13 = .ok (.invokestatic 82, 3) := by decide +kernel
theorem dX7_kept_16 : decode cX7_kept 16 = .ok (.ifCond .eq 32, 3) := by decide +kernel
theorem dX7_kept_48 : decode cX7_kept 48 = .ok (.iconst (-1), 1) := by decide +kernel
theorem dX7_kept_49 : decode cX7_kept 49 = .ok (.ireturn, 1) := by decide +kernel
theorem dX7_lane_0 : decode cX7_lane 0 = .ok (.aload_n 0, 1) := by decide +kernel
theorem dX7_lane_1 : decode cX7_lane 1 = .ok (.iload_n 1, 1) := by decide +kernel
theorem dX7_lane_2 : decode cX7_lane 2 = .ok (.iload_n 2, 1) := by decide +kernel
theorem dX7_lane_3 : decode cX7_lane 3 = .ok (.invokevirtual 396, 3) := by decide +kernel
theorem dX7_lane_6 : decode cX7_lane 6 = .ok (.ifCond .eq 15, 3) := by decide +kernel
theorem dX7_lane_21 : decode cX7_lane 21 = .ok (.ldc 167, 2) := by decide +kernel
theorem dX7_lane_23 : decode cX7_lane 23 = .ok (.ireturn, 1) := by decide +kernel
theorem dX7_later_0 : decode cX7_later 0 = .ok (.aload_n 0, 1) := by decide +kernel
theorem dX7_later_1 : decode cX7_later 1 = .ok (.iload_n 2, 1) := by decide +kernel
theorem dX7_later_2 : decode cX7_later 2 = .ok (.iload_n 3, 1) := by decide +kernel
theorem dX7_later_3 : decode cX7_later 3 = .ok (.invokevirtual 396, 3) := by decide +kernel
theorem dX7_later_6 : decode cX7_later 6 = .ok (.ifCond .eq 28, 3) := by decide +kernel
theorem dX7_later_34 : decode cX7_later 34 = .ok (.ldc 167, 2) := by decide +kernel
theorem dX7_later_36 : decode cX7_later 36 = .ok (.ireturn, 1) := by decide +kernel
theorem dX7_likely_0 : decode cX7_likely 0 = .ok (.aload_n 0, 1) := by decide +kernel
theorem dX7_likely_1 : decode cX7_likely 1 = .ok (.getfield 215, 3) := by decide +kernel
theorem dX7_likely_4 : decode cX7_likely 4 = .ok (.ifCond .eq 32, 3) := by decide +kernel
theorem dX7_likely_36 : decode cX7_likely 36 = .ok (.iconst (-1), 1) := by decide +kernel
theorem dX7_likely_37 : decode cX7_likely 37 = .ok (.ireturn, 1) := by decide +kernel
theorem dX7_line_0 : decode cX7_line 0 = .ok (.aload_n 0, 1) := by decide +kernel
theorem dX7_line_1 : decode cX7_line 1 = .ok (.getfield 215, 3) := by decide +kernel
theorem dX7_line_4 : decode cX7_line 4 = .ok (.ifCond .eq 40, 3) := by decide +kernel
theorem dX7_line_44 : decode cX7_line 44 = .ok (.ldc 167, 2) := by decide +kernel
theorem dX7_line_46 : decode cX7_line 46 = .ok (.ireturn, 1) := by decide +kernel
theorem dX7_look_0 : decode cX7_look 0 = .ok (.aload_n 0, 1) := by decide +kernel
theorem dX7_look_1 : decode cX7_look 1 = .ok (.getfield 95, 3) := by decide +kernel
theorem dX7_look_4 : decode cX7_look 4 = .ok (.aload_n 0, 1) := by decide +kernel
theorem dX7_look_5 : decode cX7_look 5 = .ok (.getfield 98, 3) := by decide +kernel
theorem dX7_look_8 : decode cX7_look 8 = .ok (.if_icmp .ge 44, 3) := by decide +kernel
theorem dX7_look_52 : decode cX7_look 52 = .ok (.aload_n 0, 1) := by decide +kernel
theorem dX7_look_53 : decode cX7_look 53 = .ok (.getfield 95, 3) := by decide +kernel
theorem dX7_look_56 : decode cX7_look 56 = .ok (.aload_n 0, 1) := by decide +kernel
theorem dX7_look_57 : decode cX7_look 57 = .ok (.getfield 98, 3) := by decide +kernel
theorem dX7_look_60 : decode cX7_look 60 = .ok (.if_icmp .ge 15, 3) := by decide +kernel
theorem dX7_look_75 : decode cX7_look 75 = .ok (.iconst (-1), 1) := by decide +kernel
theorem dX7_look_76 : decode cX7_look 76 = .ok (.ireturn, 1) := by decide +kernel
theorem dX7_next_0 : decode cX7_next 0 = .ok (.aload_n 0, 1) := by decide +kernel
theorem dX7_next_1 : decode cX7_next 1 = .ok (.getfield 215, 3) := by decide +kernel
theorem dX7_next_4 : decode cX7_next 4 = .ok (.ifCond .eq 34, 3) := by decide +kernel
theorem dX7_next_38 : decode cX7_next 38 = .ok (.iconst (-1), 1) := by decide +kernel
theorem dX7_next_39 : decode cX7_next 39 = .ok (.istore_n 2, 1) := by decide +kernel
theorem dX7_next_40 : decode cX7_next 40 = .ok (.iload_n 2, 1) := by decide +kernel
theorem dX7_next_41 : decode cX7_next 41 = .ok (.iconst (-1), 1) := by decide +kernel
theorem dX7_next_42 : decode cX7_next 42 = .ok (.if_icmp .ne 5, 3) := by decide +kernel
theorem dX7_next_45 : decode cX7_next 45 = .ok (.iconst (-1), 1) := by decide +kernel
theorem dX7_next_46 : decode cX7_next 46 = .ok (.ireturn, 1) := by decide +kernel
theorem dX7_number_0 : decode cX7_number 0 = .ok (.aload_n 0, 1) := by decide +kernel
theorem dX7_number_1 : decode cX7_number 1 = .ok (.getfield 89, 3) := by decide +kernel
theorem dX7_number_4 : decode cX7_number 4 = .ok (.ifCond .eq 5, 3) := by decide +kernel
theorem dX7_number_7 : decode cX7_number 7 = .ok (.iconst 0, 1) := by decide +kernel
theorem dX7_number_8 : decode cX7_number 8 = .ok (.ireturn, 1) := by decide +kernel
theorem dX7_ownHere_0 : decode cX7_ownHere 0 = .ok (.aload_n 0, 1) := by decide +kernel
theorem dX7_ownHere_1 : decode cX7_ownHere 1 = .ok (.invokevirtual 121, 3) := by decide +kernel
theorem dX7_ownHere_4 : decode cX7_ownHere 4 = .ok (.ifCond .ne 5, 3) := by decide +kernel
theorem dX7_ownHere_7 : decode cX7_ownHere 7 = .ok (.iconst (-1), 1) := by decide +kernel
theorem dX7_ownHere_8 : decode cX7_ownHere 8 = .ok (.ireturn, 1) := by decide +kernel
theorem dX7_part_0 : decode cX7_part 0 = .ok (.aload_n 0, 1) := by decide +kernel
theorem dX7_part_1 : decode cX7_part 1 = .ok (.iload_n 1, 1) := by decide +kernel
theorem dX7_part_2 : decode cX7_part 2 = .ok (.invokevirtual 391, 3) := by decide +kernel
theorem dX7_part_5 : decode cX7_part 5 = .ok (.ifCond .eq 44, 3) := by decide +kernel
theorem dX7_part_49 : decode cX7_part 49 = .ok (.iconst (-1), 1) := by decide +kernel
theorem dX7_part_50 : decode cX7_part 50 = .ok (.ireturn, 1) := by decide +kernel
theorem dX7_poke_0 : decode cX7_poke 0 = .ok (.aload_n 0, 1) := by decide +kernel
theorem dX7_poke_1 : decode cX7_poke 1 = .ok (.iload_n 1, 1) := by decide +kernel
theorem dX7_poke_2 : decode cX7_poke 2 = .ok (.iload_n 2, 1) := by decide +kernel
theorem dX7_poke_3 : decode cX7_poke 3 = .ok (.invokevirtual 404, 3) := by decide +kernel
theorem dX7_poke_6 : decode cX7_poke 6 = .ok (.istore 4, 2) := by decide +kernel
theorem dX7_poke_8 : decode cX7_poke 8 = .ok (.iload 4, 2) := by decide +kernel
theorem dX7_poke_10 : decode cX7_poke 10 = .ok (.iconst (-1), 1) := by decide +kernel
theorem dX7_poke_11 : decode cX7_poke 11 = .ok (.if_icmp .eq 17, 3) := by decide +kernel
theorem dX7_poke_28 : decode cX7_poke 28 = .ok (.aload_n 0, 1) := by decide +kernel
theorem dX7_poke_29 : decode cX7_poke 29 = .ok (.iconst 3, 1) := by decide +kernel
theorem dX7_poke_30 : decode cX7_poke 30 = .ok (.invokevirtual 72, 3) := by decide +kernel
theorem dX7_poke_33 : decode cX7_poke 33 = .ok (.pop, 1) := by decide +kernel
theorem dX7_poke_34 : decode cX7_poke 34 = .ok (.ldc 167, 2) := by decide +kernel
theorem dX7_poke_36 : decode cX7_poke 36 = .ok (.ireturn, 1) := by decide +kernel
theorem dX7_program_0 : decode cX7_program 0 = .ok (.aload_n 0, 1) := by decide +kernel
theorem dX7_program_1 : decode cX7_program 1 = .ok (.aload_n 0, 1) := by decide +kernel
theorem dX7_program_2 : decode cX7_program 2 = .ok (.getfield 69, 3) := by decide +kernel
theorem dX7_program_5 : decode cX7_program 5 = .ok (.putfield 98, 3) := by decide +kernel
theorem dX7_program_8 : decode cX7_program 8 = .ok (.aload_n 0, 1) := by decide +kernel
theorem dX7_program_9 : decode cX7_program 9 = .ok (.iconst 0, 1) := by decide +kernel
theorem dX7_program_10 : decode cX7_program 10 = .ok (.putfield 69, 3) := by decide +kernel
theorem dX7_program_13 : decode cX7_program 13 = .ok (.aload_n 0, 1) := by decide +kernel
theorem dX7_program_14 : decode cX7_program 14 = .ok (.iconst 0, 1) := by decide +kernel
theorem dX7_program_15 : decode cX7_program 15 = .ok (.putfield 95, 3) := by decide +kernel
theorem dX7_program_18 : decode cX7_program 18 = .ok (.aload_n 0, 1) := by decide +kernel
theorem dX7_program_19 : decode cX7_program 19 = .ok (.iconst (-1), 1) := by decide +kernel
theorem dX7_program_20 : decode cX7_program 20 = .ok (.putfield 108, 3) := by decide +kernel
theorem dX7_program_23 : decode cX7_program 23 = .ok (.aload_n 0, 1) := by decide +kernel
theorem dX7_program_24 : decode cX7_program 24 = .ok (.iconst 0, 1) := by decide +kernel
theorem dX7_program_25 : decode cX7_program 25 = .ok (.putfield 89, 3) := by decide +kernel
theorem dX7_program_28 : decode cX7_program 28 = .ok (.aload_n 0, 1) := by decide +kernel
theorem dX7_program_29 : decode cX7_program 29 = .ok (.iconst (-1), 1) := by decide +kernel
theorem dX7_program_30 : decode cX7_program 30 = .ok (.putfield 92, 3) := by decide +kernel
theorem dX7_program_33 : decode cX7_program 33 = .ok (.iconst 0, 1) := by decide +kernel
theorem dX7_program_34 : decode cX7_program 34 = .ok (.istore_n 1, 1) := by decide +kernel
theorem dX7_program_35 : decode cX7_program 35 = .ok (.iload_n 1, 1) := by decide +kernel
theorem dX7_program_36 : decode cX7_program 36 = .ok (.sipush 400, 3) := by decide +kernel
theorem dX7_program_39 : decode cX7_program 39 = .ok (.if_icmp .ge 16, 3) := by decide +kernel
theorem dX7_program_42 : decode cX7_program 42 = .ok (.aload_n 0, 1) := by decide +kernel
theorem dX7_program_43 : decode cX7_program 43 = .ok (.getfield 24, 3) := by decide +kernel
theorem dX7_program_46 : decode cX7_program 46 = .ok (.iload_n 1, 1) := by decide +kernel
theorem dX7_program_47 : decode cX7_program 47 = .ok (.iconst 0, 1) := by decide +kernel
theorem dX7_program_48 : decode cX7_program 48 = .ok (.iastore, 1) := by decide +kernel
theorem dX7_program_49 : decode cX7_program 49 = .ok (.iinc 1 1, 3) := by decide +kernel
theorem dX7_program_52 : decode cX7_program 52 = .ok (.goto (-17), 3) := by decide +kernel
theorem dX7_program_55 : decode cX7_program 55 = .ok (.aload_n 0, 1) := by decide +kernel
theorem dX7_program_56 : decode cX7_program 56 = .ok (.bipush 20, 2) := by decide +kernel
theorem dX7_program_58 : decode cX7_program 58 = .ok (.invokevirtual 196, 3) := by decide +kernel
theorem dX7_program_61 : decode cX7_program 61 = .ok (.aload_n 0, 1) := by decide +kernel
theorem dX7_program_62 : decode cX7_program 62 = .ok (.getfield 24, 3) := by decide +kernel
theorem dX7_program_65 : decode cX7_program 65 = .ok (.sipush 384, 3) := by decide +kernel
theorem dX7_program_68 : decode cX7_program 68 = .ok (.aload_n 0, 1) := by decide +kernel
theorem dX7_program_69 : decode cX7_program 69 = .ok (.iconst 1, 1) := by decide +kernel
theorem dX7_program_70 : decode cX7_program 70 = .ok (.iconst 4, 1) := by decide +kernel
theorem dX7_program_71 : decode cX7_program 71 = .ok (.invokevirtual 152, 3) := by decide +kernel
theorem dX7_program_74 : decode cX7_program 74 = .ok (.iastore, 1) := by decide +kernel
theorem dX7_program_75 : decode cX7_program 75 = .ok (.aload_n 0, 1) := by decide +kernel
theorem dX7_program_76 : decode cX7_program 76 = .ok (.bipush 59, 2) := by decide +kernel
theorem dX7_program_78 : decode cX7_program 78 = .ok (.invokevirtual 182, 3) := by decide +kernel
theorem dX7_program_81 : decode cX7_program 81 = .ok (.aload_n 0, 1) := by decide +kernel
theorem dX7_program_82 : decode cX7_program 82 = .ok (.iconst 1, 1) := by decide +kernel
theorem dX7_program_83 : decode cX7_program 83 = .ok (.putfield 189, 3) := by decide +kernel
theorem dX7_program_86 : decode cX7_program 86 = .ok (.aload_n 0, 1) := by decide +kernel
theorem dX7_program_87 : decode cX7_program 87 = .ok (.getfield 89, 3) := by decide +kernel
theorem dX7_program_90 : decode cX7_program 90 = .ok (.ifCond .ne 18, 3) := by decide +kernel
theorem dX7_program_108 : decode cX7_program 108 = .ok (.aload_n 0, 1) := by decide +kernel
theorem dX7_program_109 : decode cX7_program 109 = .ok (.getfield 89, 3) := by decide +kernel
theorem dX7_program_112 : decode cX7_program 112 = .ok (.ifCond .ne 19, 3) := by decide +kernel
theorem dX7_program_131 : decode cX7_program 131 = .ok (.aload_n 0, 1) := by decide +kernel
theorem dX7_program_132 : decode cX7_program 132 = .ok (.invokevirtual 206, 3) := by decide +kernel
theorem dX7_program_135 : decode cX7_program 135 = .ok (.aload_n 0, 1) := by decide +kernel
theorem dX7_program_136 : decode cX7_program 136 = .ok (.aload_n 0, 1) := by decide +kernel
theorem dX7_program_137 : decode cX7_program 137 = .ok (.getfield 89, 3) := by decide +kernel
theorem dX7_program_140 : decode cX7_program 140 = .ok (.putfield 86, 3) := by decide +kernel
theorem dX7_program_143 : decode cX7_program 143 = .ok (.aload_n 0, 1) := by decide +kernel
theorem dX7_program_144 : decode cX7_program 144 = .ok (.aload_n 0, 1) := by decide +kernel
theorem dX7_program_145 : decode cX7_program 145 = .ok (.getfield 92, 3) := by decide +kernel
theorem dX7_program_148 : decode cX7_program 148 = .ok (.putfield 13, 3) := by decide +kernel
theorem dX7_program_151 : decode cX7_program 151 = .ok (.aload_n 0, 1) := by decide +kernel
theorem dX7_program_152 : decode cX7_program 152 = .ok (.getfield 89, 3) := by decide +kernel
theorem dX7_program_155 : decode cX7_program 155 = .ok (.ifCond .eq 9, 3) := by decide +kernel
theorem dX7_program_158 : decode cX7_program 158 = .ok (.aload_n 0, 1) := by decide +kernel
theorem dX7_program_159 : decode cX7_program 159 = .ok (.iconst 1, 1) := by decide +kernel
theorem dX7_program_160 : decode cX7_program 160 = .ok (.invokevirtual 72, 3) := by decide +kernel
theorem dX7_program_163 : decode cX7_program 163 = .ok (.ireturn, 1) := by decide +kernel
theorem dX7_raced_0 : decode cX7_raced 0 = .ok (.aload_n 0, 1) := by decide +kernel
theorem dX7_raced_1 : decode cX7_raced 1 = .ok (.iload_n 1, 1) := by decide +kernel
theorem dX7_raced_2 : decode cX7_raced 2 = .ok (.iload_n 2, 1) := by decide +kernel
theorem dX7_raced_3 : decode cX7_raced 3 = .ok (.invokevirtual 404, 3) := by decide +kernel
theorem dX7_raced_6 : decode cX7_raced 6 = .ok (.istore_n 3, 1) := by decide +kernel
theorem dX7_raced_7 : decode cX7_raced 7 = .ok (.iload_n 3, 1) := by decide +kernel
theorem dX7_raced_8 : decode cX7_raced 8 = .ok (.iconst (-1), 1) := by decide +kernel
theorem dX7_raced_9 : decode cX7_raced 9 = .ok (.if_icmp .ne 7, 3) := by decide +kernel
theorem dX7_raced_12 : decode cX7_raced 12 = .ok (.iconst (-1), 1) := by decide +kernel
theorem dX7_raced_13 : decode cX7_raced 13 = .ok (.goto 13, 3) := by decide +kernel
theorem dX7_raced_26 : decode cX7_raced 26 = .ok (.ireturn, 1) := by decide +kernel
theorem dX7_refuses_0 : decode cX7_refuses 0 = .ok (.aload_n 0, 1) := by decide +kernel
theorem dX7_refuses_1 : decode cX7_refuses 1 = .ok (.getfield 17, 3) := by decide +kernel
theorem dX7_refuses_4 : decode cX7_refuses 4 = .ok (.iload_n 1, 1) := by decide +kernel
theorem dX7_refuses_5 : decode cX7_refuses 5 = .ok (.dup2, 1) := by decide +kernel
theorem dX7_refuses_6 : decode cX7_refuses 6 = .ok (.iaload, 1) := by decide +kernel
theorem dX7_refuses_7 : decode cX7_refuses 7 = .ok (.iconst 1, 1) := by decide +kernel
theorem dX7_refuses_8 : decode cX7_refuses 8 = .ok (.iadd, 1) := by decide +kernel
theorem dX7_refuses_9 : decode cX7_refuses 9 = .ok (.iastore, 1) := by decide +kernel
theorem dX7_refuses_10 : decode cX7_refuses 10 = .ok (.iconst (-1), 1) := by decide +kernel
theorem dX7_refuses_11 : decode cX7_refuses 11 = .ok (.ireturn, 1) := by decide +kernel
theorem dX7_seed_0 : decode cX7_seed 0 = .ok (.iload_n 1, 1) := by decide +kernel
theorem dX7_seed_1 : decode cX7_seed 1 = .ok (.ifCond .ge 9, 3) := by decide +kernel
theorem dX7_seed_4 : decode cX7_seed 4 = .ok (.aload_n 0, 1) := by decide +kernel
theorem dX7_seed_5 : decode cX7_seed 5 = .ok (.iconst 5, 1) := by decide +kernel
theorem dX7_seed_6 : decode cX7_seed 6 = .ok (.invokevirtual 76, 3) := by decide +kernel
theorem dX7_seed_9 : decode cX7_seed 9 = .ok (.ireturn, 1) := by decide +kernel
theorem dX7_seed_10 : decode cX7_seed 10 = .ok (.aload_n 0, 1) := by decide +kernel
theorem dX7_seed_11 : decode cX7_seed 11 = .ok (.iload_n 1, 1) := by decide +kernel
theorem dX7_seed_12 : decode cX7_seed 12 = .ok (.i2l, 1) := by decide +kernel
theorem dX7_seed_13 : decode cX7_seed 13 = .ok (.putfield 65, 3) := by decide +kernel
theorem dX7_seed_16 : decode cX7_seed 16 = .ok (.iconst 1, 1) := by decide +kernel
theorem dX7_seed_17 : decode cX7_seed 17 = .ok (.ireturn, 1) := by decide +kernel
theorem dX7_set_0 : decode cX7_set 0 = .ok (.aload_n 0, 1) := by decide +kernel
theorem dX7_set_1 : decode cX7_set 1 = .ok (.getfield 215, 3) := by decide +kernel
theorem dX7_set_4 : decode cX7_set 4 = .ok (.ifCond .eq 35, 3) := by decide +kernel
theorem dX7_set_39 : decode cX7_set 39 = .ok (.aload_n 0, 1) := by decide +kernel
theorem dX7_set_40 : decode cX7_set 40 = .ok (.iconst 3, 1) := by decide +kernel
theorem dX7_set_41 : decode cX7_set 41 = .ok (.invokevirtual 76, 3) := by decide +kernel
theorem dX7_set_44 : decode cX7_set 44 = .ok (.ireturn, 1) := by decide +kernel
theorem dX7_skew_0 : decode cX7_skew 0 = .ok (.aload_n 0, 1) := by decide +kernel
theorem dX7_skew_1 : decode cX7_skew 1 = .ok (.getfield 215, 3) := by decide +kernel
theorem dX7_skew_4 : decode cX7_skew 4 = .ok (.ifCond .eq 13, 3) := by decide +kernel
theorem dX7_skew_17 : decode cX7_skew 17 = .ok (.iconst (-1), 1) := by decide +kernel
theorem dX7_skew_18 : decode cX7_skew 18 = .ok (.ireturn, 1) := by decide +kernel
theorem dX7_status_0 : decode cX7_status 0 = .ok (.iload_n 1, 1) := by decide +kernel
theorem dX7_status_1 : decode cX7_status 1 = .ok (.i2l, 1) := by decide +kernel
theorem dX7_status_2 : decode cX7_status 2 = .ok (.lconst 0, 1) := by decide +kernel
theorem dX7_status_3 : decode cX7_status 3 = .ok (.ldc2_w 80, 3) := by decide +kernel
theorem dX7_status_6 : decode cX7_status 6 = .ok (.invokestatic 82, 3) := by decide +kernel
theorem dX7_status_9 : decode cX7_status 9 = .ok (.ifCond .eq 12, 3) := by decide +kernel
theorem dX7_status_12 : decode cX7_status 12 = .ok (.aload_n 0, 1) := by decide +kernel
theorem dX7_status_13 : decode cX7_status 13 = .ok (.getfield 17, 3) := by decide +kernel
theorem dX7_status_16 : decode cX7_status 16 = .ok (.iload_n 1, 1) := by decide +kernel
theorem dX7_status_17 : decode cX7_status 17 = .ok (.iaload, 1) := by decide +kernel
theorem dX7_status_18 : decode cX7_status 18 = .ok (.goto 4, 3) := by decide +kernel
theorem dX7_status_21 : decode cX7_status 21 = .ok (.iconst (-1), 1) := by decide +kernel
theorem dX7_status_22 : decode cX7_status 22 = .ok (.ireturn, 1) := by decide +kernel
theorem dX7_takes_0 : decode cX7_takes 0 = .ok (.aload_n 0, 1) := by decide +kernel
theorem dX7_takes_1 : decode cX7_takes 1 = .ok (.invokevirtual 129, 3) := by decide +kernel
theorem dX7_takes_4 : decode cX7_takes 4 = .ok (.iload_n 1, 1) := by decide +kernel
theorem dX7_takes_5 : decode cX7_takes 5 = .ok (.if_icmp .eq 5, 3) := by decide +kernel
theorem dX7_takes_8 : decode cX7_takes 8 = .ok (.iconst 0, 1) := by decide +kernel
theorem dX7_takes_9 : decode cX7_takes 9 = .ok (.ireturn, 1) := by decide +kernel
theorem dX7_tells_0 : decode cX7_tells 0 = .ok (.aload_n 0, 1) := by decide +kernel
theorem dX7_tells_1 : decode cX7_tells 1 = .ok (.getfield 215, 3) := by decide +kernel
theorem dX7_tells_4 : decode cX7_tells 4 = .ok (.ifCond .eq 13, 3) := by decide +kernel
theorem dX7_tells_17 : decode cX7_tells 17 = .ok (.iconst (-1), 1) := by decide +kernel
theorem dX7_tells_18 : decode cX7_tells 18 = .ok (.ireturn, 1) := by decide +kernel
theorem dX7_undo_0 : decode cX7_undo 0 = .ok (.aload_n 0, 1) := by decide +kernel
theorem dX7_undo_1 : decode cX7_undo 1 = .ok (.getfield 228, 3) := by decide +kernel
theorem dX7_undo_4 : decode cX7_undo 4 = .ok (.ifCond .ne 9, 3) := by decide +kernel
theorem dX7_undo_7 : decode cX7_undo 7 = .ok (.aload_n 0, 1) := by decide +kernel
theorem dX7_undo_8 : decode cX7_undo 8 = .ok (.iconst 4, 1) := by decide +kernel
theorem dX7_undo_9 : decode cX7_undo 9 = .ok (.invokevirtual 76, 3) := by decide +kernel
theorem dX7_undo_12 : decode cX7_undo 12 = .ok (.ireturn, 1) := by decide +kernel
theorem dX7_warp_0 : decode cX7_warp 0 = .ok (.aload_n 0, 1) := by decide +kernel
theorem dX7_warp_1 : decode cX7_warp 1 = .ok (.iload_n 1, 1) := by decide +kernel
theorem dX7_warp_2 : decode cX7_warp 2 = .ok (.invokevirtual 391, 3) := by decide +kernel
theorem dX7_warp_5 : decode cX7_warp 5 = .ok (.ifCond .ne 5, 3) := by decide +kernel
theorem dX7_warp_8 : decode cX7_warp 8 = .ok (.iconst (-1), 1) := by decide +kernel
theorem dX7_warp_9 : decode cX7_warp 9 = .ok (.ireturn, 1) := by decide +kernel
theorem dX7_word_0 : decode cX7_word 0 = .ok (.aload_n 0, 1) := by decide +kernel
theorem dX7_word_1 : decode cX7_word 1 = .ok (.iload_n 1, 1) := by decide +kernel
theorem dX7_word_2 : decode cX7_word 2 = .ok (.iload_n 2, 1) := by decide +kernel
theorem dX7_word_3 : decode cX7_word 3 = .ok (.invokevirtual 404, 3) := by decide +kernel
theorem dX7_word_6 : decode cX7_word 6 = .ok (.istore_n 3, 1) := by decide +kernel
theorem dX7_word_7 : decode cX7_word 7 = .ok (.iload_n 3, 1) := by decide +kernel
theorem dX7_word_8 : decode cX7_word 8 = .ok (.iconst (-1), 1) := by decide +kernel
theorem dX7_word_9 : decode cX7_word 9 = .ok (.if_icmp .ne 8, 3) := by decide +kernel
theorem dX7_word_12 : decode cX7_word 12 = .ok (.ldc 167, 2) := by decide +kernel
theorem dX7_word_14 : decode cX7_word 14 = .ok (.goto 12, 3) := by decide +kernel
theorem dX7_word_26 : decode cX7_word 26 = .ok (.ireturn, 1) := by decide +kernel
theorem dX7_wordOf_0 : decode cX7_wordOf 0 = .ok (.aload_n 0, 1) := by decide +kernel
theorem dX7_wordOf_1 : decode cX7_wordOf 1 = .ok (.getfield 215, 3) := by decide +kernel
theorem dX7_wordOf_4 : decode cX7_wordOf 4 = .ok (.ifCond .eq 41, 3) := by decide +kernel
theorem dX7_wordOf_45 : decode cX7_wordOf 45 = .ok (.iconst (-1), 1) := by decide +kernel
theorem dX7_wordOf_46 : decode cX7_wordOf 46 = .ok (.ireturn, 1) := by decide +kernel
