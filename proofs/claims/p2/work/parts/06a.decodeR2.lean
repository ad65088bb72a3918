theorem dX7_line_38 : decode cX7_line 38 = .ok (.invokevirtual 231, 3) := by decide +kernel
theorem dX7_line_41 : decode cX7_line 41 = .ok (.goto 5, 3) := by decide +kernel
theorem dX7_line_44 : decode cX7_line 44 = .ok (.ldc 167, 2) := by decide +kernel
theorem dX7_line_46 : decode cX7_line 46 = .ok (.ireturn, 1) := by decide +kernel
theorem dX7_isWarp_0 : decode cX7_isWarp 0 = .ok (.aload_n 0, 1) := by decide +kernel
theorem dX7_isWarp_1 : decode cX7_isWarp 1 = .ok (.getfield 215, 3) := by decide +kernel
theorem dX7_isWarp_4 : decode cX7_isWarp 4 = .ok (.ifCond .eq 23, 3) := by decide +kernel
theorem dX7_isWarp_7 : decode cX7_isWarp 7 = .ok (.iload_n 1, 1) := by decide +kernel
theorem dX7_isWarp_8 : decode cX7_isWarp 8 = .ok (.i2l, 1) := by decide +kernel
theorem dX7_isWarp_9 : decode cX7_isWarp 9 = .ok (.lconst 0, 1) := by decide +kernel
theorem dX7_isWarp_10 : decode cX7_isWarp 10 = .ok (.aload_n 0, 1) := by decide +kernel
theorem dX7_isWarp_11 : decode cX7_isWarp 11 = .ok (.invokevirtual 255, 3) := by decide +kernel
theorem dX7_isWarp_14 : decode cX7_isWarp 14 = .ok (.iconst 1, 1) := by decide +kernel
theorem dX7_isWarp_15 : decode cX7_isWarp 15 = .ok (.isub, 1) := by decide +kernel
theorem dX7_isWarp_16 : decode cX7_isWarp 16 = .ok (.i2l, 1) := by decide +kernel
theorem dX7_isWarp_17 : decode cX7_isWarp 17 = .ok (.invokestatic 82, 3) := by decide +kernel
theorem dX7_isWarp_20 : decode cX7_isWarp 20 = .ok (.ifCond .eq 7, 3) := by decide +kernel
theorem dX7_isWarp_23 : decode cX7_isWarp 23 = .ok (.iconst 1, 1) := by decide +kernel
theorem dX7_isWarp_24 : decode cX7_isWarp 24 = .ok (.goto 4, 3) := by decide +kernel
theorem dX7_isWarp_27 : decode cX7_isWarp 27 = .ok (.iconst 0, 1) := by decide +kernel
theorem dX7_isWarp_28 : decode cX7_isWarp 28 = .ok (.ireturn, 1) := by decide +kernel
theorem dX7_isLane_0 : decode cX7_isLane 0 = .ok (.aload_n 0, 1) := by decide +kernel
theorem dX7_isLane_1 : decode cX7_isLane 1 = .ok (.iload_n 1, 1) := by decide +kernel
theorem dX7_isLane_2 : decode cX7_isLane 2 = .ok (.invokevirtual 391, 3) := by decide +kernel
theorem dX7_isLane_5 : decode cX7_isLane 5 = .ok (.ifCond .eq 19, 3) := by decide +kernel
theorem dX7_isLane_8 : decode cX7_isLane 8 = .ok (.iload_n 2, 1) := by decide +kernel
theorem dX7_isLane_9 : decode cX7_isLane 9 = .ok (.i2l, 1) := by decide +kernel
theorem dX7_isLane_10 : decode cX7_isLane 10 = .ok (.lconst 0, 1) := by decide +kernel
theorem dX7_isLane_11 : decode cX7_isLane 11 = .ok (.ldc2_w 394, 3) := by decide +kernel
theorem dX7_isLane_14 : decode cX7_isLane 14 = .ok (.invokestatic 82, 3) := by decide +kernel
theorem dX7_isLane_17 : decode cX7_isLane 17 = .ok (.ifCond .eq 7, 3) := by decide +kernel
theorem dX7_isLane_20 : decode cX7_isLane 20 = .ok (.iconst 1, 1) := by decide +kernel
theorem dX7_isLane_21 : decode cX7_isLane 21 = .ok (.goto 4, 3) := by decide +kernel
theorem dX7_isLane_24 : decode cX7_isLane 24 = .ok (.iconst 0, 1) := by decide +kernel
theorem dX7_isLane_25 : decode cX7_isLane 25 = .ok (.ireturn, 1) := by decide +kernel
theorem dX7_nextOf_0 : decode cX7_nextOf 0 = .ok (.aload_n 0, 1) := by decide +kernel
theorem dX7_nextOf_1 : decode cX7_nextOf 1 = .ok (.iload_n 1, 1) := by decide +kernel
theorem dX7_nextOf_2 : decode cX7_nextOf 2 = .ok (.iconst 3, 1) := by decide +kernel
theorem dX7_nextOf_3 : decode cX7_nextOf 3 = .ok (.invokevirtual 252, 3) := by decide +kernel
theorem dX7_nextOf_6 : decode cX7_nextOf 6 = .ok (.iload_n 2, 1) := by decide +kernel
theorem dX7_nextOf_7 : decode cX7_nextOf 7 = .ok (.invokestatic 261, 3) := by decide +kernel
theorem dX7_nextOf_10 : decode cX7_nextOf 10 = .ok (.ifCond .ne 8, 3) := by decide +kernel
theorem dX7_nextOf_13 : decode cX7_nextOf 13 = .ok (.aload_n 0, 1) := by decide +kernel
theorem dX7_nextOf_14 : decode cX7_nextOf 14 = .ok (.invokevirtual 212, 3) := by decide +kernel
theorem dX7_nextOf_17 : decode cX7_nextOf 17 = .ok (.ireturn, 1) := by decide +kernel
theorem dX7_nextOf_18 : decode cX7_nextOf 18 = .ok (.aload_n 0, 1) := by decide +kernel
theorem dX7_nextOf_19 : decode cX7_nextOf 19 = .ok (.getfield 40, 3) := by decide +kernel
theorem dX7_nextOf_22 : decode cX7_nextOf 22 = .ok (.iconst 3, 1) := by decide +kernel
theorem dX7_nextOf_23 : decode cX7_nextOf 23 = .ok (.iaload, 1) := by decide +kernel
theorem dX7_nextOf_24 : decode cX7_nextOf 24 = .ok (.iconst 1, 1) := by decide +kernel
theorem dX7_nextOf_25 : decode cX7_nextOf 25 = .ok (.if_icmp .ne 14, 3) := by decide +kernel
theorem dX7_nextOf_28 : decode cX7_nextOf 28 = .ok (.aload_n 0, 1) := by decide +kernel
theorem dX7_nextOf_29 : decode cX7_nextOf 29 = .ok (.getfield 40, 3) := by decide +kernel
theorem dX7_nextOf_32 : decode cX7_nextOf 32 = .ok (.iload_n 1, 1) := by decide +kernel
theorem dX7_nextOf_33 : decode cX7_nextOf 33 = .ok (.iload_n 2, 1) := by decide +kernel
theorem dX7_nextOf_34 : decode cX7_nextOf 34 = .ok (.invokestatic 258, 3) := by decide +kernel
theorem dX7_nextOf_37 : decode cX7_nextOf 37 = .ok (.iaload, 1) := by decide +kernel
theorem dX7_nextOf_38 : decode cX7_nextOf 38 = .ok (.ireturn, 1) := by decide +kernel
theorem dX7_nextOf_39 : decode cX7_nextOf 39 = .ok (.aload_n 0, 1) := by decide +kernel
theorem dX7_nextOf_40 : decode cX7_nextOf 40 = .ok (.iload_n 1, 1) := by decide +kernel
theorem dX7_nextOf_41 : decode cX7_nextOf 41 = .ok (.invokevirtual 272, 3) := by decide +kernel
theorem dX7_nextOf_44 : decode cX7_nextOf 44 = .ok (.istore_n 3, 1) := by decide +kernel
theorem dX7_nextOf_45 : decode cX7_nextOf 45 = .ok (.aload_n 0, 1) := by decide +kernel
theorem dX7_nextOf_46 : decode cX7_nextOf 46 = .ok (.getfield 40, 3) := by decide +kernel
theorem dX7_nextOf_49 : decode cX7_nextOf 49 = .ok (.iload_n 1, 1) := by decide +kernel
theorem dX7_nextOf_50 : decode cX7_nextOf 50 = .ok (.iload_n 3, 1) := by decide +kernel
theorem dX7_nextOf_51 : decode cX7_nextOf 51 = .ok (.iconst 2, 1) := by decide +kernel
theorem dX7_nextOf_52 : decode cX7_nextOf 52 = .ok (.invokestatic 268, 3) := by decide +kernel
theorem dX7_nextOf_55 : decode cX7_nextOf 55 = .ok (.iaload, 1) := by decide +kernel
theorem dX7_nextOf_56 : decode cX7_nextOf 56 = .ok (.iload_n 2, 1) := by decide +kernel
theorem dX7_nextOf_57 : decode cX7_nextOf 57 = .ok (.invokestatic 261, 3) := by decide +kernel
theorem dX7_nextOf_60 : decode cX7_nextOf 60 = .ok (.ifCond .ne 9, 3) := by decide +kernel
theorem dX7_nextOf_63 : decode cX7_nextOf 63 = .ok (.iinc 3 (-1), 3) := by decide +kernel
theorem dX7_nextOf_66 : decode cX7_nextOf 66 = .ok (.goto (-21), 3) := by decide +kernel
theorem dX7_nextOf_69 : decode cX7_nextOf 69 = .ok (.aload_n 0, 1) := by decide +kernel
theorem dX7_nextOf_70 : decode cX7_nextOf 70 = .ok (.getfield 40, 3) := by decide +kernel
theorem dX7_nextOf_73 : decode cX7_nextOf 73 = .ok (.iload_n 1, 1) := by decide +kernel
theorem dX7_nextOf_74 : decode cX7_nextOf 74 = .ok (.iload_n 3, 1) := by decide +kernel
theorem dX7_nextOf_75 : decode cX7_nextOf 75 = .ok (.iconst 0, 1) := by decide +kernel
theorem dX7_nextOf_76 : decode cX7_nextOf 76 = .ok (.invokestatic 268, 3) := by decide +kernel
theorem dX7_nextOf_79 : decode cX7_nextOf 79 = .ok (.iaload, 1) := by decide +kernel
theorem dX7_nextOf_80 : decode cX7_nextOf 80 = .ok (.ireturn, 1) := by decide +kernel
theorem dX7_lane_0 : decode cX7_lane 0 = .ok (.aload_n 0, 1) := by decide +kernel
theorem dX7_lane_1 : decode cX7_lane 1 = .ok (.iload_n 1, 1) := by decide +kernel
theorem dX7_lane_2 : decode cX7_lane 2 = .ok (.iload_n 2, 1) := by decide +kernel
theorem dX7_lane_3 : decode cX7_lane 3 = .ok (.invokevirtual 396, 3) := by decide +kernel
theorem dX7_lane_6 : decode cX7_lane 6 = .ok (.ifCond .eq 15, 3) := by decide +kernel
theorem dX7_lane_9 : decode cX7_lane 9 = .ok (.iload_n 3, 1) := by decide +kernel
theorem dX7_lane_10 : decode cX7_lane 10 = .ok (.i2l, 1) := by decide +kernel
theorem dX7_lane_11 : decode cX7_lane 11 = .ok (.lconst 0, 1) := by decide +kernel
theorem dX7_lane_12 : decode cX7_lane 12 = .ok (.ldc2_w 389, 3) := by decide +kernel
theorem dX7_lane_15 : decode cX7_lane 15 = .ok (.invokestatic 82, 3) := by decide +kernel
theorem dX7_lane_18 : decode cX7_lane 18 = .ok (.ifCond .ne 6, 3) := by decide +kernel
theorem dX7_lane_21 : decode cX7_lane 21 = .ok (.ldc 167, 2) := by decide +kernel
theorem dX7_lane_23 : decode cX7_lane 23 = .ok (.ireturn, 1) := by decide +kernel
theorem dX7_lane_24 : decode cX7_lane 24 = .ok (.iload_n 3, 1) := by decide +kernel
theorem dX7_lane_25 : decode cX7_lane 25 = .ok (.tableswitch 56 4 6 #[27, 38, 49], 27) := by decide +kernel
theorem dX7_lane_52 : decode cX7_lane 52 = .ok (.aload_n 0, 1) := by decide +kernel
theorem dX7_lane_53 : decode cX7_lane 53 = .ok (.iload_n 1, 1) := by decide +kernel
theorem dX7_lane_54 : decode cX7_lane 54 = .ok (.iconst 3, 1) := by decide +kernel
theorem dX7_lane_55 : decode cX7_lane 55 = .ok (.invokevirtual 252, 3) := by decide +kernel
theorem dX7_lane_58 : decode cX7_lane 58 = .ok (.iload_n 2, 1) := by decide +kernel
theorem dX7_lane_59 : decode cX7_lane 59 = .ok (.ishr, 1) := by decide +kernel
theorem dX7_lane_60 : decode cX7_lane 60 = .ok (.iconst 1, 1) := by decide +kernel
theorem dX7_lane_61 : decode cX7_lane 61 = .ok (.iand, 1) := by decide +kernel
theorem dX7_lane_62 : decode cX7_lane 62 = .ok (.ireturn, 1) := by decide +kernel
theorem dX7_lane_63 : decode cX7_lane 63 = .ok (.aload_n 0, 1) := by decide +kernel
theorem dX7_lane_64 : decode cX7_lane 64 = .ok (.iload_n 1, 1) := by decide +kernel
theorem dX7_lane_65 : decode cX7_lane 65 = .ok (.iconst 4, 1) := by decide +kernel
theorem dX7_lane_66 : decode cX7_lane 66 = .ok (.invokevirtual 252, 3) := by decide +kernel
theorem dX7_lane_69 : decode cX7_lane 69 = .ok (.iload_n 2, 1) := by decide +kernel
theorem dX7_lane_70 : decode cX7_lane 70 = .ok (.ishr, 1) := by decide +kernel
theorem dX7_lane_71 : decode cX7_lane 71 = .ok (.iconst 1, 1) := by decide +kernel
theorem dX7_lane_72 : decode cX7_lane 72 = .ok (.iand, 1) := by decide +kernel
theorem dX7_lane_73 : decode cX7_lane 73 = .ok (.ireturn, 1) := by decide +kernel
theorem dX7_lane_74 : decode cX7_lane 74 = .ok (.aload_n 0, 1) := by decide +kernel
theorem dX7_lane_75 : decode cX7_lane 75 = .ok (.iload_n 1, 1) := by decide +kernel
theorem dX7_lane_76 : decode cX7_lane 76 = .ok (.iload_n 2, 1) := by decide +kernel
theorem dX7_lane_77 : decode cX7_lane 77 = .ok (.invokevirtual 399, 3) := by decide +kernel
theorem dX7_lane_80 : decode cX7_lane 80 = .ok (.ireturn, 1) := by decide +kernel
theorem dX7_lane_81 : decode cX7_lane 81 = .ok (.aload_n 0, 1) := by decide +kernel
theorem dX7_lane_82 : decode cX7_lane 82 = .ok (.getfield 40, 3) := by decide +kernel
theorem dX7_lane_85 : decode cX7_lane 85 = .ok (.iload_n 1, 1) := by decide +kernel
theorem dX7_lane_86 : decode cX7_lane 86 = .ok (.iload_n 2, 1) := by decide +kernel
theorem dX7_lane_87 : decode cX7_lane 87 = .ok (.iload_n 3, 1) := by decide +kernel
theorem dX7_lane_88 : decode cX7_lane 88 = .ok (.invokestatic 287, 3) := by decide +kernel
theorem dX7_lane_91 : decode cX7_lane 91 = .ok (.iaload, 1) := by decide +kernel
theorem dX7_lane_92 : decode cX7_lane 92 = .ok (.ireturn, 1) := by decide +kernel
theorem dX7_warp_0 : decode cX7_warp 0 = .ok (.aload_n 0, 1) := by decide +kernel
theorem dX7_warp_1 : decode cX7_warp 1 = .ok (.iload_n 1, 1) := by decide +kernel
theorem dX7_warp_2 : decode cX7_warp 2 = .ok (.invokevirtual 391, 3) := by decide +kernel
theorem dX7_warp_5 : decode cX7_warp 5 = .ok (.ifCond .ne 5, 3) := by decide +kernel
theorem dX7_warp_8 : decode cX7_warp 8 = .ok (.iconst (-1), 1) := by decide +kernel
theorem dX7_warp_9 : decode cX7_warp 9 = .ok (.ireturn, 1) := by decide +kernel
theorem dX7_warp_10 : decode cX7_warp 10 = .ok (.iload_n 2, 1) := by decide +kernel
theorem dX7_warp_11 : decode cX7_warp 11 = .ok (.tableswitch 81 0 5 #[37, 44, 51, 58, 65, 72], 37) := by decide +kernel
theorem dX7_warp_48 : decode cX7_warp 48 = .ok (.aload_n 0, 1) := by decide +kernel
theorem dX7_warp_49 : decode cX7_warp 49 = .ok (.iload_n 1, 1) := by decide +kernel
theorem dX7_warp_50 : decode cX7_warp 50 = .ok (.iconst 3, 1) := by decide +kernel
theorem dX7_warp_51 : decode cX7_warp 51 = .ok (.invokevirtual 252, 3) := by decide +kernel
theorem dX7_warp_54 : decode cX7_warp 54 = .ok (.ireturn, 1) := by decide +kernel
theorem dX7_warp_55 : decode cX7_warp 55 = .ok (.aload_n 0, 1) := by decide +kernel
theorem dX7_warp_56 : decode cX7_warp 56 = .ok (.iload_n 1, 1) := by decide +kernel
theorem dX7_warp_57 : decode cX7_warp 57 = .ok (.iconst 0, 1) := by decide +kernel
theorem dX7_warp_58 : decode cX7_warp 58 = .ok (.invokevirtual 252, 3) := by decide +kernel
theorem dX7_warp_61 : decode cX7_warp 61 = .ok (.ireturn, 1) := by decide +kernel
theorem dX7_warp_62 : decode cX7_warp 62 = .ok (.aload_n 0, 1) := by decide +kernel
theorem dX7_warp_63 : decode cX7_warp 63 = .ok (.iload_n 1, 1) := by decide +kernel
theorem dX7_warp_64 : decode cX7_warp 64 = .ok (.iconst 5, 1) := by decide +kernel
theorem dX7_warp_65 : decode cX7_warp 65 = .ok (.invokevirtual 252, 3) := by decide +kernel
theorem dX7_warp_68 : decode cX7_warp 68 = .ok (.ireturn, 1) := by decide +kernel
theorem dX7_warp_69 : decode cX7_warp 69 = .ok (.aload_n 0, 1) := by decide +kernel
theorem dX7_warp_70 : decode cX7_warp 70 = .ok (.iload_n 1, 1) := by decide +kernel
theorem dX7_warp_71 : decode cX7_warp 71 = .ok (.iconst 1, 1) := by decide +kernel
theorem dX7_warp_72 : decode cX7_warp 72 = .ok (.invokevirtual 252, 3) := by decide +kernel
theorem dX7_warp_75 : decode cX7_warp 75 = .ok (.ireturn, 1) := by decide +kernel
theorem dX7_warp_76 : decode cX7_warp 76 = .ok (.aload_n 0, 1) := by decide +kernel
theorem dX7_warp_77 : decode cX7_warp 77 = .ok (.iload_n 1, 1) := by decide +kernel
theorem dX7_warp_78 : decode cX7_warp 78 = .ok (.iconst 2, 1) := by decide +kernel
theorem dX7_warp_79 : decode cX7_warp 79 = .ok (.invokevirtual 252, 3) := by decide +kernel
theorem dX7_warp_82 : decode cX7_warp 82 = .ok (.ireturn, 1) := by decide +kernel
theorem dX7_warp_83 : decode cX7_warp 83 = .ok (.aload_n 0, 1) := by decide +kernel
theorem dX7_warp_84 : decode cX7_warp 84 = .ok (.iload_n 1, 1) := by decide +kernel
theorem dX7_warp_85 : decode cX7_warp 85 = .ok (.invokevirtual 284, 3) := by decide +kernel
theorem dX7_warp_88 : decode cX7_warp 88 = .ok (.invokestatic 192, 3) := by decide +kernel
theorem dX7_warp_91 : decode cX7_warp 91 = .ok (.ireturn, 1) := by decide +kernel
theorem dX7_warp_92 : decode cX7_warp 92 = .ok (.iconst (-1), 1) := by decide +kernel
theorem dX7_warp_93 : decode cX7_warp 93 = .ok (.ireturn, 1) := by decide +kernel
theorem dX7_part_0 : decode cX7_part 0 = .ok (.aload_n 0, 1) := by decide +kernel
theorem dX7_part_1 : decode cX7_part 1 = .ok (.iload_n 1, 1) := by decide +kernel
theorem dX7_part_2 : decode cX7_part 2 = .ok (.invokevirtual 391, 3) := by decide +kernel
theorem dX7_part_5 : decode cX7_part 5 = .ok (.ifCond .eq 44, 3) := by decide +kernel
theorem dX7_part_8 : decode cX7_part 8 = .ok (.iload_n 2, 1) := by decide +kernel
theorem dX7_part_9 : decode cX7_part 9 = .ok (.i2l, 1) := by decide +kernel
theorem dX7_part_10 : decode cX7_part 10 = .ok (.lconst 0, 1) := by decide +kernel
theorem dX7_part_11 : decode cX7_part 11 = .ok (.aload_n 0, 1) := by decide +kernel
theorem dX7_part_12 : decode cX7_part 12 = .ok (.iload_n 1, 1) := by decide +kernel
theorem dX7_part_13 : decode cX7_part 13 = .ok (.invokevirtual 272, 3) := by decide +kernel
theorem dX7_part_16 : decode cX7_part 16 = .ok (.i2l, 1) := by decide +kernel
theorem dX7_part_17 : decode cX7_part 17 = .ok (.invokestatic 82, 3) := by decide +kernel
theorem dX7_part_20 : decode cX7_part 20 = .ok (.ifCond .eq 29, 3) := by decide +kernel
theorem dX7_part_23 : decode cX7_part 23 = .ok (.iload_n 3, 1) := by decide +kernel
theorem dX7_part_24 : decode cX7_part 24 = .ok (.i2l, 1) := by decide +kernel
theorem dX7_part_25 : decode cX7_part 25 = .ok (.lconst 0, 1) := by decide +kernel
theorem dX7_part_26 : decode cX7_part 26 = .ok (.ldc2_w 402, 3) := by decide +kernel
theorem dX7_part_29 : decode cX7_part 29 = .ok (.invokestatic 82, 3) := by decide +kernel
theorem dX7_part_32 : decode cX7_part 32 = .ok (.ifCond .eq 17, 3) := by decide +kernel
theorem dX7_part_35 : decode cX7_part 35 = .ok (.aload_n 0, 1) := by decide +kernel
theorem dX7_part_36 : decode cX7_part 36 = .ok (.getfield 40, 3) := by decide +kernel
theorem dX7_part_39 : decode cX7_part 39 = .ok (.iload_n 1, 1) := by decide +kernel
theorem dX7_part_40 : decode cX7_part 40 = .ok (.iload_n 2, 1) := by decide +kernel
theorem dX7_part_41 : decode cX7_part 41 = .ok (.iload_n 3, 1) := by decide +kernel
theorem dX7_part_42 : decode cX7_part 42 = .ok (.invokestatic 268, 3) := by decide +kernel
theorem dX7_part_45 : decode cX7_part 45 = .ok (.iaload, 1) := by decide +kernel
theorem dX7_part_46 : decode cX7_part 46 = .ok (.goto 4, 3) := by decide +kernel
theorem dX7_part_49 : decode cX7_part 49 = .ok (.iconst (-1), 1) := by decide +kernel
theorem dX7_part_50 : decode cX7_part 50 = .ok (.ireturn, 1) := by decide +kernel
theorem dX7_wordOf_0 : decode cX7_wordOf 0 = .ok (.aload_n 0, 1) := by decide +kernel
theorem dX7_wordOf_1 : decode cX7_wordOf 1 = .ok (.getfield 215, 3) := by decide +kernel
theorem dX7_wordOf_4 : decode cX7_wordOf 4 = .ok (.ifCond .eq 41, 3) := by decide +kernel
theorem dX7_wordOf_7 : decode cX7_wordOf 7 = .ok (.iload_n 2, 1) := by decide +kernel
theorem dX7_wordOf_8 : decode cX7_wordOf 8 = .ok (.i2l, 1) := by decide +kernel
theorem dX7_wordOf_9 : decode cX7_wordOf 9 = .ok (.lconst 0, 1) := by decide +kernel
theorem dX7_wordOf_10 : decode cX7_wordOf 10 = .ok (.iload_n 1, 1) := by decide +kernel
theorem dX7_wordOf_11 : decode cX7_wordOf 11 = .ok (.ifCond .eq 8, 3) := by decide +kernel
theorem dX7_wordOf_14 : decode cX7_wordOf 14 = .ok (.bipush 32, 2) := by decide +kernel
theorem dX7_wordOf_16 : decode cX7_wordOf 16 = .ok (.goto 5, 3) := by decide +kernel
theorem dX7_wordOf_19 : decode cX7_wordOf 19 = .ok (.bipush 64, 2) := by decide +kernel
theorem dX7_wordOf_21 : decode cX7_wordOf 21 = .ok (.iconst 1, 1) := by decide +kernel
theorem dX7_wordOf_22 : decode cX7_wordOf 22 = .ok (.isub, 1) := by decide +kernel
theorem dX7_wordOf_23 : decode cX7_wordOf 23 = .ok (.i2l, 1) := by decide +kernel
theorem dX7_wordOf_24 : decode cX7_wordOf 24 = .ok (.invokestatic 82, 3) := by decide +kernel
theorem dX7_wordOf_27 : decode cX7_wordOf 27 = .ok (.ifCond .eq 18, 3) := by decide +kernel
theorem dX7_wordOf_30 : decode cX7_wordOf 30 = .ok (.iload_n 1, 1) := by decide +kernel
theorem dX7_wordOf_31 : decode cX7_wordOf 31 = .ok (.ifCond .eq 10, 3) := by decide +kernel
theorem dX7_wordOf_34 : decode cX7_wordOf 34 = .ok (.bipush 64, 2) := by decide +kernel
theorem dX7_wordOf_36 : decode cX7_wordOf 36 = .ok (.iload_n 2, 1) := by decide +kernel
theorem dX7_wordOf_37 : decode cX7_wordOf 37 = .ok (.iadd, 1) := by decide +kernel
theorem dX7_wordOf_38 : decode cX7_wordOf 38 = .ok (.goto 8, 3) := by decide +kernel
theorem dX7_wordOf_41 : decode cX7_wordOf 41 = .ok (.iload_n 2, 1) := by decide +kernel
theorem dX7_wordOf_42 : decode cX7_wordOf 42 = .ok (.goto 4, 3) := by decide +kernel
theorem dX7_wordOf_45 : decode cX7_wordOf 45 = .ok (.iconst (-1), 1) := by decide +kernel
theorem dX7_wordOf_46 : decode cX7_wordOf 46 = .ok (.ireturn, 1) := by decide +kernel
theorem dX7_word_0 : decode cX7_word 0 = .ok (.aload_n 0, 1) := by decide +kernel
theorem dX7_word_1 : decode cX7_word 1 = .ok (.iload_n 1, 1) := by decide +kernel
theorem dX7_word_2 : decode cX7_word 2 = .ok (.iload_n 2, 1) := by decide +kernel
theorem dX7_word_3 : decode cX7_word 3 = .ok (.invokevirtual 404, 3) := by decide +kernel
theorem dX7_word_6 : decode cX7_word 6 = .ok (.istore_n 3, 1) := by decide +kernel
theorem dX7_word_7 : decode cX7_word 7 = .ok (.iload_n 3, 1) := by decide +kernel
theorem dX7_word_8 : decode cX7_word 8 = .ok (.iconst (-1), 1) := by decide +kernel
theorem dX7_word_9 : decode cX7_word 9 = .ok (.if_icmp .ne 8, 3) := by decide +kernel
theorem dX7_word_12 : decode cX7_word 12 = .ok (.ldc 167, 2) := by decide +kernel
theorem dX7_word_14 : decode cX7_word 14 = .ok (.goto 12, 3) := by decide +kernel
theorem dX7_word_17 : decode cX7_word 17 = .ok (.aload_n 0, 1) := by decide +kernel
theorem dX7_word_18 : decode cX7_word 18 = .ok (.getfield 40, 3) := by decide +kernel
theorem dX7_word_21 : decode cX7_word 21 = .ok (.bipush 8, 2) := by decide +kernel
theorem dX7_word_23 : decode cX7_word 23 = .ok (.iload_n 3, 1) := by decide +kernel
theorem dX7_word_24 : decode cX7_word 24 = .ok (.iadd, 1) := by decide +kernel
theorem dX7_word_25 : decode cX7_word 25 = .ok (.iaload, 1) := by decide +kernel
theorem dX7_word_26 : decode cX7_word 26 = .ok (.ireturn, 1) := by decide +kernel
theorem dX7_raced_0 : decode cX7_raced 0 = .ok (.aload_n 0, 1) := by decide +kernel
theorem dX7_raced_1 : decode cX7_raced 1 = .ok (.iload_n 1, 1) := by decide +kernel
theorem dX7_raced_2 : decode cX7_raced 2 = .ok (.iload_n 2, 1) := by decide +kernel
theorem dX7_raced_3 : decode cX7_raced 3 = .ok (.invokevirtual 404, 3) := by decide +kernel
theorem dX7_raced_6 : decode cX7_raced 6 = .ok (.istore_n 3, 1) := by decide +kernel
theorem dX7_raced_7 : decode cX7_raced 7 = .ok (.iload_n 3, 1) := by decide +kernel
theorem dX7_raced_8 : decode cX7_raced 8 = .ok (.iconst (-1), 1) := by decide +kernel
theorem dX7_raced_9 : decode cX7_raced 9 = .ok (.if_icmp .ne 7, 3) := by decide +kernel
theorem dX7_raced_12 : decode cX7_raced 12 = .ok (.iconst (-1), 1) := by decide +kernel
theorem dX7_raced_13 : decode cX7_raced 13 = .ok (.goto 13, 3) := by decide +kernel
theorem dX7_raced_16 : decode cX7_raced 16 = .ok (.aload_n 0, 1) := by decide +kernel
theorem dX7_raced_17 : decode cX7_raced 17 = .ok (.getfield 40, 3) := by decide +kernel
theorem dX7_raced_20 : decode cX7_raced 20 = .ok (.sipush 672, 3) := by decide +kernel
theorem dX7_raced_23 : decode cX7_raced 23 = .ok (.iload_n 3, 1) := by decide +kernel
theorem dX7_raced_24 : decode cX7_raced 24 = .ok (.iadd, 1) := by decide +kernel
theorem dX7_raced_25 : decode cX7_raced 25 = .ok (.iaload, 1) := by decide +kernel
theorem dX7_raced_26 : decode cX7_raced 26 = .ok (.ireturn, 1) := by decide +kernel
theorem dX7_kept_0 : decode cX7_kept 0 = .ok (.iload_n 1, 1) := by decide +kernel
theorem dX7_kept_1 : decode cX7_kept 1 = .ok (.i2l, 1) := by decide +kernel
theorem dX7_kept_2 : decode cX7_kept 2 = .ok (.lconst 0, 1) := by decide +kernel
theorem dX7_kept_3 : decode cX7_kept 3 = .ok (.aload_n 0, 1) := by decide +kernel
theorem dX7_kept_4 : decode cX7_kept 4 = .ok (.getfield 40, 3) := by decide +kernel
theorem dX7_kept_7 : decode cX7_kept 7 = .ok (.bipush 7, 2) := by decide +kernel
theorem dX7_kept_9 : decode cX7_kept 9 = .ok (.iaload, 1) := by decide +kernel
theorem dX7_kept_10 : decode cX7_kept 10 = .ok (.iconst 1, 1) := by decide +kernel
theorem dX7_kept_11 : decode cX7_kept 11 = .ok (.isub, 1) := by decide +kernel
theorem dX7_kept_12 : decode cX7_kept 12 = .ok (.i2l, 1) := by decide +kernel
theorem dX7_kept_13 : decode cX7_kept 13 = .ok (.invokestatic 82, 3) := by decide +kernel
theorem dX7_kept_16 : decode cX7_kept 16 = .ok (.ifCond .eq 32, 3) := by decide +kernel
theorem dX7_kept_19 : decode cX7_kept 19 = .ok (.iload_n 2, 1) := by decide +kernel
theorem dX7_kept_20 : decode cX7_kept 20 = .ok (.i2l, 1) := by decide +kernel
theorem dX7_kept_21 : decode cX7_kept 21 = .ok (.lconst 0, 1) := by decide +kernel
theorem dX7_kept_22 : decode cX7_kept 22 = .ok (.ldc2_w 408, 3) := by decide +kernel
theorem dX7_kept_25 : decode cX7_kept 25 = .ok (.invokestatic 82, 3) := by decide +kernel
theorem dX7_kept_28 : decode cX7_kept 28 = .ok (.ifCond .eq 20, 3) := by decide +kernel
theorem dX7_kept_31 : decode cX7_kept 31 = .ok (.aload_n 0, 1) := by decide +kernel
theorem dX7_kept_32 : decode cX7_kept 32 = .ok (.getfield 40, 3) := by decide +kernel
theorem dX7_kept_35 : decode cX7_kept 35 = .ok (.sipush 768, 3) := by decide +kernel
theorem dX7_kept_38 : decode cX7_kept 38 = .ok (.iconst 5, 1) := by decide +kernel
theorem dX7_kept_39 : decode cX7_kept 39 = .ok (.iload_n 1, 1) := by decide +kernel
theorem dX7_kept_40 : decode cX7_kept 40 = .ok (.imul, 1) := by decide +kernel
theorem dX7_kept_41 : decode cX7_kept 41 = .ok (.iadd, 1) := by decide +kernel
theorem dX7_kept_42 : decode cX7_kept 42 = .ok (.iload_n 2, 1) := by decide +kernel
theorem dX7_kept_43 : decode cX7_kept 43 = .ok (.iadd, 1) := by decide +kernel
theorem dX7_kept_44 : decode cX7_kept 44 = .ok (.iaload, 1) := by decide +kernel
theorem dX7_kept_45 : decode cX7_kept 45 = .ok (.goto 4, 3) := by decide +kernel
theorem dX7_kept_48 : decode cX7_kept 48 = .ok (.iconst (-1), 1) := by decide +kernel
theorem dX7_kept_49 : decode cX7_kept 49 = .ok (.ireturn, 1) := by decide +kernel
theorem dX7_next_0 : decode cX7_next 0 = .ok (.aload_n 0, 1) := by decide +kernel
theorem dX7_next_1 : decode cX7_next 1 = .ok (.getfield 215, 3) := by decide +kernel
theorem dX7_next_4 : decode cX7_next 4 = .ok (.ifCond .eq 34, 3) := by decide +kernel
theorem dX7_next_7 : decode cX7_next 7 = .ok (.iload_n 1, 1) := by decide +kernel
theorem dX7_next_8 : decode cX7_next 8 = .ok (.i2l, 1) := by decide +kernel
theorem dX7_next_9 : decode cX7_next 9 = .ok (.lconst 0, 1) := by decide +kernel
theorem dX7_next_10 : decode cX7_next 10 = .ok (.ldc2_w 324, 3) := by decide +kernel
theorem dX7_next_13 : decode cX7_next 13 = .ok (.invokestatic 82, 3) := by decide +kernel
theorem dX7_next_16 : decode cX7_next 16 = .ok (.ifCond .eq 22, 3) := by decide +kernel
theorem dX7_next_19 : decode cX7_next 19 = .ok (.aload_n 0, 1) := by decide +kernel
theorem dX7_next_20 : decode cX7_next 20 = .ok (.getfield 40, 3) := by decide +kernel
theorem dX7_next_23 : decode cX7_next 23 = .ok (.iconst 0, 1) := by decide +kernel
theorem dX7_next_24 : decode cX7_next 24 = .ok (.iaload, 1) := by decide +kernel
theorem dX7_next_25 : decode cX7_next 25 = .ok (.sipush 9999, 3) := by decide +kernel
theorem dX7_next_28 : decode cX7_next 28 = .ok (.if_icmp .ge 10, 3) := by decide +kernel
theorem dX7_next_31 : decode cX7_next 31 = .ok (.aload_n 0, 1) := by decide +kernel
theorem dX7_next_32 : decode cX7_next 32 = .ok (.invokevirtual 375, 3) := by decide +kernel
theorem dX7_next_35 : decode cX7_next 35 = .ok (.goto 4, 3) := by decide +kernel
theorem dX7_next_38 : decode cX7_next 38 = .ok (.iconst (-1), 1) := by decide +kernel
theorem dX7_next_39 : decode cX7_next 39 = .ok (.istore_n 2, 1) := by decide +kernel
theorem dX7_next_40 : decode cX7_next 40 = .ok (.iload_n 2, 1) := by decide +kernel
theorem dX7_next_41 : decode cX7_next 41 = .ok (.iconst (-1), 1) := by decide +kernel
theorem dX7_next_42 : decode cX7_next 42 = .ok (.if_icmp .ne 5, 3) := by decide +kernel
theorem dX7_next_45 : decode cX7_next 45 = .ok (.iconst (-1), 1) := by decide +kernel
theorem dX7_next_46 : decode cX7_next 46 = .ok (.ireturn, 1) := by decide +kernel
theorem dX7_next_47 : decode cX7_next 47 = .ok (.iload_n 1, 1) := by decide +kernel
theorem dX7_next_48 : decode cX7_next 48 = .ok (.ifCond .ne 5, 3) := by decide +kernel
theorem dX7_next_51 : decode cX7_next 51 = .ok (.iload_n 2, 1) := by decide +kernel
theorem dX7_next_52 : decode cX7_next 52 = .ok (.ireturn, 1) := by decide +kernel
theorem dX7_next_53 : decode cX7_next 53 = .ok (.iload_n 1, 1) := by decide +kernel
theorem dX7_next_54 : decode cX7_next 54 = .ok (.iconst 1, 1) := by decide +kernel
theorem dX7_next_55 : decode cX7_next 55 = .ok (.if_icmp .ne 9, 3) := by decide +kernel
theorem dX7_next_58 : decode cX7_next 58 = .ok (.aload_n 0, 1) := by decide +kernel
theorem dX7_next_59 : decode cX7_next 59 = .ok (.iload_n 2, 1) := by decide +kernel
theorem dX7_next_60 : decode cX7_next 60 = .ok (.invokevirtual 351, 3) := by decide +kernel
theorem dX7_next_63 : decode cX7_next 63 = .ok (.ireturn, 1) := by decide +kernel
theorem dX7_next_64 : decode cX7_next 64 = .ok (.iload_n 1, 1) := by decide +kernel
theorem dX7_next_65 : decode cX7_next 65 = .ok (.iconst 2, 1) := by decide +kernel
theorem dX7_next_66 : decode cX7_next 66 = .ok (.if_icmp .ne 11, 3) := by decide +kernel
theorem dX7_next_69 : decode cX7_next 69 = .ok (.aload_n 0, 1) := by decide +kernel
theorem dX7_next_70 : decode cX7_next 70 = .ok (.iload_n 2, 1) := by decide +kernel
theorem dX7_next_71 : decode cX7_next 71 = .ok (.invokevirtual 281, 3) := by decide +kernel
theorem dX7_next_74 : decode cX7_next 74 = .ok (.goto 18, 3) := by decide +kernel
theorem dX7_next_77 : decode cX7_next 77 = .ok (.aload_n 0, 1) := by decide +kernel
theorem dX7_next_78 : decode cX7_next 78 = .ok (.iload_n 2, 1) := by decide +kernel
theorem dX7_next_79 : decode cX7_next 79 = .ok (.aload_n 0, 1) := by decide +kernel
theorem dX7_next_80 : decode cX7_next 80 = .ok (.iload_n 2, 1) := by decide +kernel
theorem dX7_next_81 : decode cX7_next 81 = .ok (.invokevirtual 351, 3) := by decide +kernel
theorem dX7_next_84 : decode cX7_next 84 = .ok (.aload_n 0, 1) := by decide +kernel
theorem dX7_next_85 : decode cX7_next 85 = .ok (.iload_n 2, 1) := by decide +kernel
theorem dX7_next_86 : decode cX7_next 86 = .ok (.invokevirtual 281, 3) := by decide +kernel
theorem dX7_next_89 : decode cX7_next 89 = .ok (.invokevirtual 354, 3) := by decide +kernel
theorem dX7_next_92 : decode cX7_next 92 = .ok (.ireturn, 1) := by decide +kernel
theorem dX7_putsAside_0 : decode cX7_putsAside 0 = .ok (.iconst 0, 1) := by decide +kernel
theorem dX7_putsAside_1 : decode cX7_putsAside 1 = .ok (.istore_n 1, 1) := by decide +kernel
theorem dX7_putsAside_2 : decode cX7_putsAside 2 = .ok (.iload_n 1, 1) := by decide +kernel
theorem dX7_putsAside_3 : decode cX7_putsAside 3 = .ok (.sipush 918, 3) := by decide +kernel
theorem dX7_putsAside_6 : decode cX7_putsAside 6 = .ok (.if_icmp .ge 21, 3) := by decide +kernel
theorem dX7_putsAside_9 : decode cX7_putsAside 9 = .ok (.aload_n 0, 1) := by decide +kernel
theorem dX7_putsAside_10 : decode cX7_putsAside 10 = .ok (.getfield 49, 3) := by decide +kernel
theorem dX7_putsAside_13 : decode cX7_putsAside 13 = .ok (.iload_n 1, 1) := by decide +kernel
theorem dX7_putsAside_14 : decode cX7_putsAside 14 = .ok (.aload_n 0, 1) := by decide +kernel
theorem dX7_putsAside_15 : decode cX7_putsAside 15 = .ok (.getfield 40, 3) := by decide +kernel
theorem dX7_putsAside_18 : decode cX7_putsAside 18 = .ok (.iload_n 1, 1) := by decide +kernel
theorem dX7_putsAside_19 : decode cX7_putsAside 19 = .ok (.iaload, 1) := by decide +kernel
theorem dX7_putsAside_20 : decode cX7_putsAside 20 = .ok (.iastore, 1) := by decide +kernel
theorem dX7_putsAside_21 : decode cX7_putsAside 21 = .ok (.iinc 1 1, 3) := by decide +kernel
theorem dX7_putsAside_24 : decode cX7_putsAside 24 = .ok (.goto (-22), 3) := by decide +kernel
theorem dX7_putsAside_27 : decode cX7_putsAside 27 = .ok (.return_, 1) := by decide +kernel
theorem dX7_takesBack_0 : decode cX7_takesBack 0 = .ok (.iconst 0, 1) := by decide +kernel
theorem dX7_takesBack_1 : decode cX7_takesBack 1 = .ok (.istore_n 1, 1) := by decide +kernel
theorem dX7_takesBack_2 : decode cX7_takesBack 2 = .ok (.iload_n 1, 1) := by decide +kernel
theorem dX7_takesBack_3 : decode cX7_takesBack 3 = .ok (.sipush 918, 3) := by decide +kernel
theorem dX7_takesBack_6 : decode cX7_takesBack 6 = .ok (.if_icmp .ge 21, 3) := by decide +kernel
theorem dX7_takesBack_9 : decode cX7_takesBack 9 = .ok (.aload_n 0, 1) := by decide +kernel
theorem dX7_takesBack_10 : decode cX7_takesBack 10 = .ok (.getfield 40, 3) := by decide +kernel
theorem dX7_takesBack_13 : decode cX7_takesBack 13 = .ok (.iload_n 1, 1) := by decide +kernel
theorem dX7_takesBack_14 : decode cX7_takesBack 14 = .ok (.aload_n 0, 1) := by decide +kernel
theorem dX7_takesBack_15 : decode cX7_takesBack 15 = .ok (.getfield 49, 3) := by decide +kernel
theorem dX7_takesBack_18 : decode cX7_takesBack 18 = .ok (.iload_n 1, 1) := by decide +kernel
theorem dX7_takesBack_19 : decode cX7_takesBack 19 = .ok (.iaload, 1) := by decide +kernel
theorem dX7_takesBack_20 : decode cX7_takesBack 20 = .ok (.iastore, 1) := by decide +kernel
theorem dX7_takesBack_21 : decode cX7_takesBack 21 = .ok (.iinc 1 1, 3) := by decide +kernel
theorem dX7_takesBack_24 : decode cX7_takesBack 24 = .ok (.goto (-22), 3) := by decide +kernel
theorem dX7_takesBack_27 : decode cX7_takesBack 27 = .ok (.return_, 1) := by decide +kernel
theorem dX7_isEnded_0 : decode cX7_isEnded 0 = .ok (.aload_n 0, 1) := by decide +kernel
theorem dX7_isEnded_1 : decode cX7_isEnded 1 = .ok (.iconst 3, 1) := by decide +kernel
theorem dX7_isEnded_2 : decode cX7_isEnded 2 = .ok (.invokevirtual 372, 3) := by decide +kernel
theorem dX7_isEnded_5 : decode cX7_isEnded 5 = .ok (.ifCond .ne 7, 3) := by decide +kernel
theorem dX7_isEnded_8 : decode cX7_isEnded 8 = .ok (.iconst 1, 1) := by decide +kernel
theorem dX7_isEnded_9 : decode cX7_isEnded 9 = .ok (.goto 4, 3) := by decide +kernel
theorem dX7_isEnded_12 : decode cX7_isEnded 12 = .ok (.iconst 0, 1) := by decide +kernel
theorem dX7_isEnded_13 : decode cX7_isEnded 13 = .ok (.ireturn, 1) := by decide +kernel
theorem dX7_isStuck_0 : decode cX7_isStuck 0 = .ok (.iconst 0, 1) := by decide +kernel
theorem dX7_isStuck_1 : decode cX7_isStuck 1 = .ok (.istore_n 1, 1) := by decide +kernel
theorem dX7_isStuck_2 : decode cX7_isStuck 2 = .ok (.iload_n 1, 1) := by decide +kernel
theorem dX7_isStuck_3 : decode cX7_isStuck 3 = .ok (.aload_n 0, 1) := by decide +kernel
theorem dX7_isStuck_4 : decode cX7_isStuck 4 = .ok (.invokevirtual 255, 3) := by decide +kernel
theorem dX7_isStuck_7 : decode cX7_isStuck 7 = .ok (.if_icmp .ge 19, 3) := by decide +kernel
theorem dX7_isStuck_10 : decode cX7_isStuck 10 = .ok (.aload_n 0, 1) := by decide +kernel
theorem dX7_isStuck_11 : decode cX7_isStuck 11 = .ok (.iload_n 1, 1) := by decide +kernel
theorem dX7_isStuck_12 : decode cX7_isStuck 12 = .ok (.invokevirtual 281, 3) := by decide +kernel
theorem dX7_isStuck_15 : decode cX7_isStuck 15 = .ok (.ifCond .eq 5, 3) := by decide +kernel
theorem dX7_isStuck_18 : decode cX7_isStuck 18 = .ok (.iconst 0, 1) := by decide +kernel
theorem dX7_isStuck_19 : decode cX7_isStuck 19 = .ok (.ireturn, 1) := by decide +kernel
theorem dX7_isStuck_20 : decode cX7_isStuck 20 = .ok (.iinc 1 1, 3) := by decide +kernel
theorem dX7_isStuck_23 : decode cX7_isStuck 23 = .ok (.goto (-21), 3) := by decide +kernel
theorem dX7_isStuck_26 : decode cX7_isStuck 26 = .ok (.aload_n 0, 1) := by decide +kernel
theorem dX7_isStuck_27 : decode cX7_isStuck 27 = .ok (.invokevirtual 410, 3) := by decide +kernel
theorem dX7_isStuck_30 : decode cX7_isStuck 30 = .ok (.ifCond .ne 7, 3) := by decide +kernel
theorem dX7_isStuck_33 : decode cX7_isStuck 33 = .ok (.iconst 1, 1) := by decide +kernel
theorem dX7_isStuck_34 : decode cX7_isStuck 34 = .ok (.goto 4, 3) := by decide +kernel
theorem dX7_isStuck_37 : decode cX7_isStuck 37 = .ok (.iconst 0, 1) := by decide +kernel
theorem dX7_isStuck_38 : decode cX7_isStuck 38 = .ok (.ireturn, 1) := by decide +kernel
theorem dX7_laysState_0 : decode cX7_laysState 0 = .ok (.sipush 477, 3) := by decide +kernel
theorem dX7_laysState_3 : decode cX7_laysState 3 = .ok (.iload_n 1, 1) := by decide +kernel
theorem dX7_laysState_4 : decode cX7_laysState 4 = .ok (.imul, 1) := by decide +kernel
theorem dX7_laysState_5 : decode cX7_laysState 5 = .ok (.istore_n 2, 1) := by decide +kernel
theorem dX7_laysState_6 : decode cX7_laysState 6 = .ok (.bipush 8, 2) := by decide +kernel
theorem dX7_laysState_8 : decode cX7_laysState 8 = .ok (.istore_n 3, 1) := by decide +kernel
theorem dX7_laysState_9 : decode cX7_laysState 9 = .ok (.iload_n 3, 1) := by decide +kernel
theorem dX7_laysState_10 : decode cX7_laysState 10 = .ok (.sipush 480, 3) := by decide +kernel
theorem dX7_laysState_13 : decode cX7_laysState 13 = .ok (.if_icmp .ge 26, 3) := by decide +kernel
theorem dX7_laysState_16 : decode cX7_laysState 16 = .ok (.aload_n 0, 1) := by decide +kernel
theorem dX7_laysState_17 : decode cX7_laysState 17 = .ok (.getfield 53, 3) := by decide +kernel
theorem dX7_laysState_20 : decode cX7_laysState 20 = .ok (.iload_n 2, 1) := by decide +kernel
theorem dX7_laysState_21 : decode cX7_laysState 21 = .ok (.iload_n 3, 1) := by decide +kernel
theorem dX7_laysState_22 : decode cX7_laysState 22 = .ok (.iadd, 1) := by decide +kernel
theorem dX7_laysState_23 : decode cX7_laysState 23 = .ok (.bipush 8, 2) := by decide +kernel
theorem dX7_laysState_25 : decode cX7_laysState 25 = .ok (.isub, 1) := by decide +kernel
theorem dX7_laysState_26 : decode cX7_laysState 26 = .ok (.aload_n 0, 1) := by decide +kernel
theorem dX7_laysState_27 : decode cX7_laysState 27 = .ok (.getfield 40, 3) := by decide +kernel
theorem dX7_laysState_30 : decode cX7_laysState 30 = .ok (.iload_n 3, 1) := by decide +kernel
theorem dX7_laysState_31 : decode cX7_laysState 31 = .ok (.iaload, 1) := by decide +kernel
theorem dX7_laysState_32 : decode cX7_laysState 32 = .ok (.iastore, 1) := by decide +kernel
theorem dX7_laysState_33 : decode cX7_laysState 33 = .ok (.iinc 3 1, 3) := by decide +kernel
theorem dX7_laysState_36 : decode cX7_laysState 36 = .ok (.goto (-27), 3) := by decide +kernel
theorem dX7_laysState_39 : decode cX7_laysState 39 = .ok (.iconst 0, 1) := by decide +kernel
theorem dX7_laysState_40 : decode cX7_laysState 40 = .ok (.istore_n 3, 1) := by decide +kernel
theorem dX7_laysState_41 : decode cX7_laysState 41 = .ok (.iload_n 3, 1) := by decide +kernel
theorem dX7_laysState_42 : decode cX7_laysState 42 = .ok (.iconst 4, 1) := by decide +kernel
theorem dX7_laysState_43 : decode cX7_laysState 43 = .ok (.if_icmp .ge 183, 3) := by decide +kernel
theorem dX7_laysState_46 : decode cX7_laysState 46 = .ok (.aload_n 0, 1) := by decide +kernel
theorem dX7_laysState_47 : decode cX7_laysState 47 = .ok (.iload_n 3, 1) := by decide +kernel
theorem dX7_laysState_48 : decode cX7_laysState 48 = .ok (.iconst 0, 1) := by decide +kernel
theorem dX7_laysState_49 : decode cX7_laysState 49 = .ok (.invokevirtual 252, 3) := by decide +kernel
theorem dX7_laysState_52 : decode cX7_laysState 52 = .ok (.aload_n 0, 1) := by decide +kernel
theorem dX7_laysState_53 : decode cX7_laysState 53 = .ok (.getfield 40, 3) := by decide +kernel
theorem dX7_laysState_56 : decode cX7_laysState 56 = .ok (.iconst 0, 1) := by decide +kernel
theorem dX7_laysState_57 : decode cX7_laysState 57 = .ok (.iaload, 1) := by decide +kernel
theorem dX7_laysState_58 : decode cX7_laysState 58 = .ok (.isub, 1) := by decide +kernel
theorem dX7_laysState_59 : decode cX7_laysState 59 = .ok (.istore 4, 2) := by decide +kernel
theorem dX7_laysState_61 : decode cX7_laysState 61 = .ok (.aload_n 0, 1) := by decide +kernel
theorem dX7_laysState_62 : decode cX7_laysState 62 = .ok (.getfield 53, 3) := by decide +kernel
theorem dX7_laysState_65 : decode cX7_laysState 65 = .ok (.iload_n 2, 1) := by decide +kernel
theorem dX7_laysState_66 : decode cX7_laysState 66 = .ok (.iload_n 3, 1) := by decide +kernel
theorem dX7_laysState_67 : decode cX7_laysState 67 = .ok (.iconst 0, 1) := by decide +kernel
theorem dX7_laysState_68 : decode cX7_laysState 68 = .ok (.invokestatic 249, 3) := by decide +kernel
theorem dX7_laysState_71 : decode cX7_laysState 71 = .ok (.iadd, 1) := by decide +kernel
theorem dX7_laysState_72 : decode cX7_laysState 72 = .ok (.bipush 8, 2) := by decide +kernel
theorem dX7_laysState_74 : decode cX7_laysState 74 = .ok (.isub, 1) := by decide +kernel
theorem dX7_laysState_75 : decode cX7_laysState 75 = .ok (.iload 4, 2) := by decide +kernel
theorem dX7_laysState_77 : decode cX7_laysState 77 = .ok (.ifCond .le 8, 3) := by decide +kernel
theorem dX7_laysState_80 : decode cX7_laysState 80 = .ok (.iload 4, 2) := by decide +kernel
theorem dX7_laysState_82 : decode cX7_laysState 82 = .ok (.goto 4, 3) := by decide +kernel
theorem dX7_laysState_85 : decode cX7_laysState 85 = .ok (.iconst 0, 1) := by decide +kernel
theorem dX7_laysState_86 : decode cX7_laysState 86 = .ok (.iastore, 1) := by decide +kernel
theorem dX7_laysState_87 : decode cX7_laysState 87 = .ok (.aload_n 0, 1) := by decide +kernel
theorem dX7_laysState_88 : decode cX7_laysState 88 = .ok (.getfield 53, 3) := by decide +kernel
theorem dX7_laysState_91 : decode cX7_laysState 91 = .ok (.iload_n 2, 1) := by decide +kernel
theorem dX7_laysState_92 : decode cX7_laysState 92 = .ok (.iload_n 3, 1) := by decide +kernel
theorem dX7_laysState_93 : decode cX7_laysState 93 = .ok (.iconst 2, 1) := by decide +kernel
theorem dX7_laysState_94 : decode cX7_laysState 94 = .ok (.invokestatic 249, 3) := by decide +kernel
theorem dX7_laysState_97 : decode cX7_laysState 97 = .ok (.iadd, 1) := by decide +kernel
theorem dX7_laysState_98 : decode cX7_laysState 98 = .ok (.bipush 8, 2) := by decide +kernel
theorem dX7_laysState_100 : decode cX7_laysState 100 = .ok (.isub, 1) := by decide +kernel
theorem dX7_laysState_101 : decode cX7_laysState 101 = .ok (.iconst 0, 1) := by decide +kernel
theorem dX7_laysState_102 : decode cX7_laysState 102 = .ok (.iastore, 1) := by decide +kernel
theorem dX7_laysState_103 : decode cX7_laysState 103 = .ok (.iconst 0, 1) := by decide +kernel
theorem dX7_laysState_104 : decode cX7_laysState 104 = .ok (.istore 5, 2) := by decide +kernel
theorem dX7_laysState_106 : decode cX7_laysState 106 = .ok (.iload 5, 2) := by decide +kernel
theorem dX7_laysState_108 : decode cX7_laysState 108 = .ok (.bipush 16, 2) := by decide +kernel
theorem dX7_laysState_110 : decode cX7_laysState 110 = .ok (.if_icmp .ge 54, 3) := by decide +kernel
theorem dX7_laysState_113 : decode cX7_laysState 113 = .ok (.iload 5, 2) := by decide +kernel
theorem dX7_laysState_115 : decode cX7_laysState 115 = .ok (.aload_n 0, 1) := by decide +kernel
theorem dX7_laysState_116 : decode cX7_laysState 116 = .ok (.iload_n 3, 1) := by decide +kernel
theorem dX7_laysState_117 : decode cX7_laysState 117 = .ok (.iconst 5, 1) := by decide +kernel
theorem dX7_laysState_118 : decode cX7_laysState 118 = .ok (.invokevirtual 252, 3) := by decide +kernel
theorem dX7_laysState_121 : decode cX7_laysState 121 = .ok (.if_icmp .lt 37, 3) := by decide +kernel
theorem dX7_laysState_124 : decode cX7_laysState 124 = .ok (.iconst 0, 1) := by decide +kernel
theorem dX7_laysState_125 : decode cX7_laysState 125 = .ok (.istore 6, 2) := by decide +kernel
theorem dX7_laysState_127 : decode cX7_laysState 127 = .ok (.iload 6, 2) := by decide +kernel
theorem dX7_laysState_129 : decode cX7_laysState 129 = .ok (.iconst 3, 1) := by decide +kernel
theorem dX7_laysState_130 : decode cX7_laysState 130 = .ok (.if_icmp .ge 28, 3) := by decide +kernel
theorem dX7_laysState_133 : decode cX7_laysState 133 = .ok (.aload_n 0, 1) := by decide +kernel
theorem dX7_laysState_134 : decode cX7_laysState 134 = .ok (.getfield 53, 3) := by decide +kernel
theorem dX7_laysState_137 : decode cX7_laysState 137 = .ok (.iload_n 2, 1) := by decide +kernel
theorem dX7_laysState_138 : decode cX7_laysState 138 = .ok (.iload_n 3, 1) := by decide +kernel
theorem dX7_laysState_139 : decode cX7_laysState 139 = .ok (.iload 5, 2) := by decide +kernel
theorem dX7_laysState_141 : decode cX7_laysState 141 = .ok (.iload 6, 2) := by decide +kernel
theorem dX7_laysState_143 : decode cX7_laysState 143 = .ok (.invokestatic 268, 3) := by decide +kernel
theorem dX7_laysState_146 : decode cX7_laysState 146 = .ok (.iadd, 1) := by decide +kernel
theorem dX7_laysState_147 : decode cX7_laysState 147 = .ok (.bipush 8, 2) := by decide +kernel
theorem dX7_laysState_149 : decode cX7_laysState 149 = .ok (.isub, 1) := by decide +kernel
theorem dX7_laysState_150 : decode cX7_laysState 150 = .ok (.iconst 0, 1) := by decide +kernel
theorem dX7_laysState_151 : decode cX7_laysState 151 = .ok (.iastore, 1) := by decide +kernel
theorem dX7_laysState_152 : decode cX7_laysState 152 = .ok (.iinc 6 1, 3) := by decide +kernel
theorem dX7_laysState_155 : decode cX7_laysState 155 = .ok (.goto (-28), 3) := by decide +kernel
theorem dX7_laysState_158 : decode cX7_laysState 158 = .ok (.iinc 5 1, 3) := by decide +kernel
theorem dX7_laysState_161 : decode cX7_laysState 161 = .ok (.goto (-55), 3) := by decide +kernel
theorem dX7_laysState_164 : decode cX7_laysState 164 = .ok (.iconst 0, 1) := by decide +kernel
theorem dX7_laysState_165 : decode cX7_laysState 165 = .ok (.istore 5, 2) := by decide +kernel
theorem dX7_laysState_167 : decode cX7_laysState 167 = .ok (.iload 5, 2) := by decide +kernel
theorem dX7_laysState_169 : decode cX7_laysState 169 = .ok (.bipush 8, 2) := by decide +kernel
theorem dX7_laysState_171 : decode cX7_laysState 171 = .ok (.if_icmp .ge 49, 3) := by decide +kernel
theorem dX7_laysState_174 : decode cX7_laysState 174 = .ok (.aload_n 0, 1) := by decide +kernel
theorem dX7_laysState_175 : decode cX7_laysState 175 = .ok (.getfield 40, 3) := by decide +kernel
theorem dX7_laysState_178 : decode cX7_laysState 178 = .ok (.iconst 3, 1) := by decide +kernel
theorem dX7_laysState_179 : decode cX7_laysState 179 = .ok (.iaload, 1) := by decide +kernel
theorem dX7_laysState_180 : decode cX7_laysState 180 = .ok (.ifCond .eq 17, 3) := by decide +kernel
theorem dX7_laysState_183 : decode cX7_laysState 183 = .ok (.aload_n 0, 1) := by decide +kernel
theorem dX7_laysState_184 : decode cX7_laysState 184 = .ok (.iload_n 3, 1) := by decide +kernel
theorem dX7_laysState_185 : decode cX7_laysState 185 = .ok (.iconst 3, 1) := by decide +kernel
theorem dX7_laysState_186 : decode cX7_laysState 186 = .ok (.invokevirtual 252, 3) := by decide +kernel
theorem dX7_laysState_189 : decode cX7_laysState 189 = .ok (.iload 5, 2) := by decide +kernel
theorem dX7_laysState_191 : decode cX7_laysState 191 = .ok (.invokestatic 261, 3) := by decide +kernel
theorem dX7_laysState_194 : decode cX7_laysState 194 = .ok (.ifCond .ne 20, 3) := by decide +kernel
theorem dX7_laysState_197 : decode cX7_laysState 197 = .ok (.aload_n 0, 1) := by decide +kernel
theorem dX7_laysState_198 : decode cX7_laysState 198 = .ok (.getfield 53, 3) := by decide +kernel
theorem dX7_laysState_201 : decode cX7_laysState 201 = .ok (.iload_n 2, 1) := by decide +kernel
theorem dX7_laysState_202 : decode cX7_laysState 202 = .ok (.iload_n 3, 1) := by decide +kernel
theorem dX7_laysState_203 : decode cX7_laysState 203 = .ok (.iload 5, 2) := by decide +kernel
theorem dX7_laysState_205 : decode cX7_laysState 205 = .ok (.invokestatic 258, 3) := by decide +kernel
theorem dX7_laysState_208 : decode cX7_laysState 208 = .ok (.iadd, 1) := by decide +kernel
theorem dX7_laysState_209 : decode cX7_laysState 209 = .ok (.bipush 8, 2) := by decide +kernel
theorem dX7_laysState_211 : decode cX7_laysState 211 = .ok (.isub, 1) := by decide +kernel
theorem dX7_laysState_212 : decode cX7_laysState 212 = .ok (.iconst 0, 1) := by decide +kernel
theorem dX7_laysState_213 : decode cX7_laysState 213 = .ok (.iastore, 1) := by decide +kernel
theorem dX7_laysState_214 : decode cX7_laysState 214 = .ok (.iinc 5 1, 3) := by decide +kernel
theorem dX7_laysState_217 : decode cX7_laysState 217 = .ok (.goto (-50), 3) := by decide +kernel
theorem dX7_laysState_220 : decode cX7_laysState 220 = .ok (.iinc 3 1, 3) := by decide +kernel
theorem dX7_laysState_223 : decode cX7_laysState 223 = .ok (.goto (-182), 3) := by decide +kernel
theorem dX7_laysState_226 : decode cX7_laysState 226 = .ok (.aload_n 0, 1) := by decide +kernel
theorem dX7_laysState_227 : decode cX7_laysState 227 = .ok (.getfield 53, 3) := by decide +kernel
theorem dX7_laysState_230 : decode cX7_laysState 230 = .ok (.iload_n 2, 1) := by decide +kernel
theorem dX7_laysState_231 : decode cX7_laysState 231 = .ok (.sipush 472, 3) := by decide +kernel
theorem dX7_laysState_234 : decode cX7_laysState 234 = .ok (.iadd, 1) := by decide +kernel
theorem dX7_laysState_235 : decode cX7_laysState 235 = .ok (.aload_n 0, 1) := by decide +kernel
theorem dX7_laysState_236 : decode cX7_laysState 236 = .ok (.getfield 40, 3) := by decide +kernel
theorem dX7_laysState_239 : decode cX7_laysState 239 = .ok (.bipush 6, 2) := by decide +kernel
theorem dX7_laysState_241 : decode cX7_laysState 241 = .ok (.iaload, 1) := by decide +kernel
theorem dX7_laysState_242 : decode cX7_laysState 242 = .ok (.iastore, 1) := by decide +kernel
theorem dX7_laysState_243 : decode cX7_laysState 243 = .ok (.return_, 1) := by decide +kernel
theorem dX7_areAlike_0 : decode cX7_areAlike 0 = .ok (.iconst 0, 1) := by decide +kernel
theorem dX7_areAlike_1 : decode cX7_areAlike 1 = .ok (.istore_n 3, 1) := by decide +kernel
theorem dX7_areAlike_2 : decode cX7_areAlike 2 = .ok (.iload_n 3, 1) := by decide +kernel
theorem dX7_areAlike_3 : decode cX7_areAlike 3 = .ok (.sipush 473, 3) := by decide +kernel
theorem dX7_areAlike_6 : decode cX7_areAlike 6 = .ok (.if_icmp .ge 38, 3) := by decide +kernel
theorem dX7_areAlike_9 : decode cX7_areAlike 9 = .ok (.aload_n 0, 1) := by decide +kernel
theorem dX7_areAlike_10 : decode cX7_areAlike 10 = .ok (.getfield 53, 3) := by decide +kernel
theorem dX7_areAlike_13 : decode cX7_areAlike 13 = .ok (.sipush 477, 3) := by decide +kernel
theorem dX7_areAlike_16 : decode cX7_areAlike 16 = .ok (.iload_n 1, 1) := by decide +kernel
theorem dX7_areAlike_17 : decode cX7_areAlike 17 = .ok (.imul, 1) := by decide +kernel
theorem dX7_areAlike_18 : decode cX7_areAlike 18 = .ok (.iload_n 3, 1) := by decide +kernel
theorem dX7_areAlike_19 : decode cX7_areAlike 19 = .ok (.iadd, 1) := by decide +kernel
theorem dX7_areAlike_20 : decode cX7_areAlike 20 = .ok (.iaload, 1) := by decide +kernel
theorem dX7_areAlike_21 : decode cX7_areAlike 21 = .ok (.aload_n 0, 1) := by decide +kernel
theorem dX7_areAlike_22 : decode cX7_areAlike 22 = .ok (.getfield 53, 3) := by decide +kernel
theorem dX7_areAlike_25 : decode cX7_areAlike 25 = .ok (.sipush 477, 3) := by decide +kernel
theorem dX7_areAlike_28 : decode cX7_areAlike 28 = .ok (.iload_n 2, 1) := by decide +kernel
theorem dX7_areAlike_29 : decode cX7_areAlike 29 = .ok (.imul, 1) := by decide +kernel
theorem dX7_areAlike_30 : decode cX7_areAlike 30 = .ok (.iload_n 3, 1) := by decide +kernel
theorem dX7_areAlike_31 : decode cX7_areAlike 31 = .ok (.iadd, 1) := by decide +kernel
theorem dX7_areAlike_32 : decode cX7_areAlike 32 = .ok (.iaload, 1) := by decide +kernel
theorem dX7_areAlike_33 : decode cX7_areAlike 33 = .ok (.if_icmp .eq 5, 3) := by decide +kernel
theorem dX7_areAlike_36 : decode cX7_areAlike 36 = .ok (.iconst 0, 1) := by decide +kernel
theorem dX7_areAlike_37 : decode cX7_areAlike 37 = .ok (.ireturn, 1) := by decide +kernel
theorem dX7_areAlike_38 : decode cX7_areAlike 38 = .ok (.iinc 3 1, 3) := by decide +kernel
theorem dX7_areAlike_41 : decode cX7_areAlike 41 = .ok (.goto (-39), 3) := by decide +kernel
theorem dX7_areAlike_44 : decode cX7_areAlike 44 = .ok (.iconst 1, 1) := by decide +kernel
theorem dX7_areAlike_45 : decode cX7_areAlike 45 = .ok (.ireturn, 1) := by decide +kernel
theorem dX7_likeOf_0 : decode cX7_likeOf 0 = .ok (.iload_n 1, 1) := by decide +kernel
theorem dX7_likeOf_1 : decode cX7_likeOf 1 = .ok (.iconst 1, 1) := by decide +kernel
theorem dX7_likeOf_2 : decode cX7_likeOf 2 = .ok (.isub, 1) := by decide +kernel
theorem dX7_likeOf_3 : decode cX7_likeOf 3 = .ok (.istore_n 2, 1) := by decide +kernel
theorem dX7_likeOf_4 : decode cX7_likeOf 4 = .ok (.iload_n 2, 1) := by decide +kernel
theorem dX7_likeOf_5 : decode cX7_likeOf 5 = .ok (.ifCond .lt 20, 3) := by decide +kernel
theorem dX7_likeOf_8 : decode cX7_likeOf 8 = .ok (.aload_n 0, 1) := by decide +kernel
theorem dX7_likeOf_9 : decode cX7_likeOf 9 = .ok (.iload_n 2, 1) := by decide +kernel
theorem dX7_likeOf_10 : decode cX7_likeOf 10 = .ok (.iload_n 1, 1) := by decide +kernel
theorem dX7_likeOf_11 : decode cX7_likeOf 11 = .ok (.invokevirtual 413, 3) := by decide +kernel
theorem dX7_likeOf_14 : decode cX7_likeOf 14 = .ok (.ifCond .eq 5, 3) := by decide +kernel
theorem dX7_likeOf_17 : decode cX7_likeOf 17 = .ok (.iload_n 2, 1) := by decide +kernel
theorem dX7_likeOf_18 : decode cX7_likeOf 18 = .ok (.ireturn, 1) := by decide +kernel
theorem dX7_likeOf_19 : decode cX7_likeOf 19 = .ok (.iinc 2 (-1), 3) := by decide +kernel
theorem dX7_likeOf_22 : decode cX7_likeOf 22 = .ok (.goto (-18), 3) := by decide +kernel
theorem dX7_likeOf_25 : decode cX7_likeOf 25 = .ok (.iconst (-1), 1) := by decide +kernel
theorem dX7_likeOf_26 : decode cX7_likeOf 26 = .ok (.ireturn, 1) := by decide +kernel
theorem dX7_isOver_0 : decode cX7_isOver 0 = .ok (.aload_n 0, 1) := by decide +kernel
theorem dX7_isOver_1 : decode cX7_isOver 1 = .ok (.aload_n 0, 1) := by decide +kernel
theorem dX7_isOver_2 : decode cX7_isOver 2 = .ok (.invokevirtual 410, 3) := by decide +kernel
theorem dX7_isOver_5 : decode cX7_isOver 5 = .ok (.ifCond .eq 7, 3) := by decide +kernel
theorem dX7_isOver_8 : decode cX7_isOver 8 = .ok (.iconst 0, 1) := by decide +kernel
theorem dX7_isOver_9 : decode cX7_isOver 9 = .ok (.goto 15, 3) := by decide +kernel
theorem dX7_isOver_12 : decode cX7_isOver 12 = .ok (.aload_n 0, 1) := by decide +kernel
theorem dX7_isOver_13 : decode cX7_isOver 13 = .ok (.invokevirtual 416, 3) := by decide +kernel
theorem dX7_isOver_16 : decode cX7_isOver 16 = .ok (.ifCond .eq 7, 3) := by decide +kernel
theorem dX7_isOver_19 : decode cX7_isOver 19 = .ok (.iconst 1, 1) := by decide +kernel
theorem dX7_isOver_20 : decode cX7_isOver 20 = .ok (.goto 4, 3) := by decide +kernel
theorem dX7_isOver_23 : decode cX7_isOver 23 = .ok (.iconst 3, 1) := by decide +kernel
theorem dX7_isOver_24 : decode cX7_isOver 24 = .ok (.putfield 419, 3) := by decide +kernel
theorem dX7_isOver_27 : decode cX7_isOver 27 = .ok (.aload_n 0, 1) := by decide +kernel
theorem dX7_isOver_28 : decode cX7_isOver 28 = .ok (.getfield 419, 3) := by decide +kernel
theorem dX7_isOver_31 : decode cX7_isOver 31 = .ok (.iconst 3, 1) := by decide +kernel
theorem dX7_isOver_32 : decode cX7_isOver 32 = .ok (.if_icmp .ge 5, 3) := by decide +kernel
theorem dX7_isOver_35 : decode cX7_isOver 35 = .ok (.iconst 1, 1) := by decide +kernel
theorem dX7_isOver_36 : decode cX7_isOver 36 = .ok (.ireturn, 1) := by decide +kernel
theorem dX7_isOver_37 : decode cX7_isOver 37 = .ok (.aload_n 0, 1) := by decide +kernel
theorem dX7_isOver_38 : decode cX7_isOver 38 = .ok (.iload_n 1, 1) := by decide +kernel
theorem dX7_isOver_39 : decode cX7_isOver 39 = .ok (.invokevirtual 422, 3) := by decide +kernel
theorem dX7_isOver_42 : decode cX7_isOver 42 = .ok (.aload_n 0, 1) := by decide +kernel
theorem dX7_isOver_43 : decode cX7_isOver 43 = .ok (.iload_n 1, 1) := by decide +kernel
theorem dX7_isOver_44 : decode cX7_isOver 44 = .ok (.invokevirtual 425, 3) := by decide +kernel
theorem dX7_isOver_47 : decode cX7_isOver 47 = .ok (.istore_n 2, 1) := by decide +kernel
theorem dX7_isOver_48 : decode cX7_isOver 48 = .ok (.iload_n 2, 1) := by decide +kernel
theorem dX7_isOver_49 : decode cX7_isOver 49 = .ok (.iconst (-1), 1) := by decide +kernel
theorem dX7_isOver_50 : decode cX7_isOver 50 = .ok (.if_icmp .ne 5, 3) := by decide +kernel
theorem dX7_isOver_53 : decode cX7_isOver 53 = .ok (.iconst 0, 1) := by decide +kernel
theorem dX7_isOver_54 : decode cX7_isOver 54 = .ok (.ireturn, 1) := by decide +kernel
theorem dX7_isOver_55 : decode cX7_isOver 55 = .ok (.aload_n 0, 1) := by decide +kernel
theorem dX7_isOver_56 : decode cX7_isOver 56 = .ok (.iconst 2, 1) := by decide +kernel
theorem dX7_isOver_57 : decode cX7_isOver 57 = .ok (.putfield 419, 3) := by decide +kernel
theorem dX7_isOver_60 : decode cX7_isOver 60 = .ok (.aload_n 0, 1) := by decide +kernel
theorem dX7_isOver_61 : decode cX7_isOver 61 = .ok (.iload_n 1, 1) := by decide +kernel
theorem dX7_isOver_62 : decode cX7_isOver 62 = .ok (.iload_n 2, 1) := by decide +kernel
theorem dX7_isOver_63 : decode cX7_isOver 63 = .ok (.isub, 1) := by decide +kernel
theorem dX7_isOver_64 : decode cX7_isOver 64 = .ok (.putfield 428, 3) := by decide +kernel
theorem dX7_isOver_67 : decode cX7_isOver 67 = .ok (.iconst 1, 1) := by decide +kernel
theorem dX7_isOver_68 : decode cX7_isOver 68 = .ok (.ireturn, 1) := by decide +kernel
theorem dX7_goesOn_0 : decode cX7_goesOn 0 = .ok (.aload_n 0, 1) := by decide +kernel
theorem dX7_goesOn_1 : decode cX7_goesOn 1 = .ok (.iconst (-1), 1) := by decide +kernel
theorem dX7_goesOn_2 : decode cX7_goesOn 2 = .ok (.putfield 428, 3) := by decide +kernel
theorem dX7_goesOn_5 : decode cX7_goesOn 5 = .ok (.aload_n 0, 1) := by decide +kernel
theorem dX7_goesOn_6 : decode cX7_goesOn 6 = .ok (.iconst 0, 1) := by decide +kernel
theorem dX7_goesOn_7 : decode cX7_goesOn 7 = .ok (.putfield 431, 3) := by decide +kernel
theorem dX7_goesOn_10 : decode cX7_goesOn 10 = .ok (.aload_n 0, 1) := by decide +kernel
theorem dX7_goesOn_11 : decode cX7_goesOn 11 = .ok (.aload_n 0, 1) := by decide +kernel
theorem dX7_goesOn_12 : decode cX7_goesOn 12 = .ok (.getfield 431, 3) := by decide +kernel
theorem dX7_goesOn_15 : decode cX7_goesOn 15 = .ok (.invokevirtual 434, 3) := by decide +kernel
theorem dX7_goesOn_18 : decode cX7_goesOn 18 = .ok (.ifCond .ne 36, 3) := by decide +kernel
theorem dX7_goesOn_21 : decode cX7_goesOn 21 = .ok (.aload_n 0, 1) := by decide +kernel
theorem dX7_goesOn_22 : decode cX7_goesOn 22 = .ok (.getfield 431, 3) := by decide +kernel
theorem dX7_goesOn_25 : decode cX7_goesOn 25 = .ok (.sipush 400, 3) := by decide +kernel
theorem dX7_goesOn_28 : decode cX7_goesOn 28 = .ok (.if_icmp .ne 9, 3) := by decide +kernel
theorem dX7_goesOn_31 : decode cX7_goesOn 31 = .ok (.aload_n 0, 1) := by decide +kernel
theorem dX7_goesOn_32 : decode cX7_goesOn 32 = .ok (.iconst (-1), 1) := by decide +kernel
theorem dX7_goesOn_33 : decode cX7_goesOn 33 = .ok (.putfield 431, 3) := by decide +kernel
theorem dX7_goesOn_36 : decode cX7_goesOn 36 = .ok (.return_, 1) := by decide +kernel
theorem dX7_goesOn_37 : decode cX7_goesOn 37 = .ok (.aload_n 0, 1) := by decide +kernel
theorem dX7_goesOn_38 : decode cX7_goesOn 38 = .ok (.invokevirtual 437, 3) := by decide +kernel
theorem dX7_goesOn_41 : decode cX7_goesOn 41 = .ok (.aload_n 0, 1) := by decide +kernel
theorem dX7_goesOn_42 : decode cX7_goesOn 42 = .ok (.dup, 1) := by decide +kernel
theorem dX7_goesOn_43 : decode cX7_goesOn 43 = .ok (.getfield 431, 3) := by decide +kernel
theorem dX7_goesOn_46 : decode cX7_goesOn 46 = .ok (.iconst 1, 1) := by decide +kernel
theorem dX7_goesOn_47 : decode cX7_goesOn 47 = .ok (.iadd, 1) := by decide +kernel
theorem dX7_goesOn_48 : decode cX7_goesOn 48 = .ok (.putfield 431, 3) := by decide +kernel
theorem dX7_goesOn_51 : decode cX7_goesOn 51 = .ok (.goto (-41), 3) := by decide +kernel
theorem dX7_goesOn_54 : decode cX7_goesOn 54 = .ok (.return_, 1) := by decide +kernel
theorem dX7_told_0 : decode cX7_told 0 = .ok (.iload_n 1, 1) := by decide +kernel
theorem dX7_told_1 : decode cX7_told 1 = .ok (.ifCond .ne 10, 3) := by decide +kernel
theorem dX7_told_4 : decode cX7_told 4 = .ok (.aload_n 0, 1) := by decide +kernel
theorem dX7_told_5 : decode cX7_told 5 = .ok (.getfield 419, 3) := by decide +kernel
theorem dX7_told_8 : decode cX7_told 8 = .ok (.goto 19, 3) := by decide +kernel
theorem dX7_told_11 : decode cX7_told 11 = .ok (.iload_n 1, 1) := by decide +kernel
theorem dX7_told_12 : decode cX7_told 12 = .ok (.iconst 1, 1) := by decide +kernel
theorem dX7_told_13 : decode cX7_told 13 = .ok (.if_icmp .ne 10, 3) := by decide +kernel
theorem dX7_told_16 : decode cX7_told 16 = .ok (.aload_n 0, 1) := by decide +kernel
theorem dX7_told_17 : decode cX7_told 17 = .ok (.getfield 431, 3) := by decide +kernel
theorem dX7_told_20 : decode cX7_told 20 = .ok (.goto 7, 3) := by decide +kernel
theorem dX7_told_23 : decode cX7_told 23 = .ok (.aload_n 0, 1) := by decide +kernel
theorem dX7_told_24 : decode cX7_told 24 = .ok (.getfield 428, 3) := by decide +kernel
theorem dX7_told_27 : decode cX7_told 27 = .ok (.ireturn, 1) := by decide +kernel
theorem dX7_goes_0 : decode cX7_goes 0 = .ok (.aload_n 0, 1) := by decide +kernel
theorem dX7_goes_1 : decode cX7_goes 1 = .ok (.getfield 215, 3) := by decide +kernel
theorem dX7_goes_4 : decode cX7_goes 4 = .ok (.ifCond .eq 15, 3) := by decide +kernel
theorem dX7_goes_7 : decode cX7_goes 7 = .ok (.iload_n 1, 1) := by decide +kernel
theorem dX7_goes_8 : decode cX7_goes 8 = .ok (.i2l, 1) := by decide +kernel
theorem dX7_goes_9 : decode cX7_goes 9 = .ok (.lconst 0, 1) := by decide +kernel
theorem dX7_goes_10 : decode cX7_goes 10 = .ok (.ldc2_w 402, 3) := by decide +kernel
theorem dX7_goes_13 : decode cX7_goes 13 = .ok (.invokestatic 82, 3) := by decide +kernel
theorem dX7_goes_16 : decode cX7_goes 16 = .ok (.ifCond .ne 5, 3) := by decide +kernel
theorem dX7_goes_19 : decode cX7_goes 19 = .ok (.iconst (-1), 1) := by decide +kernel
theorem dX7_goes_20 : decode cX7_goes 20 = .ok (.ireturn, 1) := by decide +kernel
theorem dX7_goes_21 : decode cX7_goes 21 = .ok (.aload_n 0, 1) := by decide +kernel
theorem dX7_goes_22 : decode cX7_goes 22 = .ok (.invokevirtual 440, 3) := by decide +kernel
theorem dX7_goes_25 : decode cX7_goes 25 = .ok (.aload_n 0, 1) := by decide +kernel
theorem dX7_goes_26 : decode cX7_goes 26 = .ok (.invokevirtual 443, 3) := by decide +kernel
theorem dX7_goes_29 : decode cX7_goes 29 = .ok (.aload_n 0, 1) := by decide +kernel
theorem dX7_goes_30 : decode cX7_goes 30 = .ok (.invokevirtual 446, 3) := by decide +kernel
theorem dX7_goes_33 : decode cX7_goes 33 = .ok (.aload_n 0, 1) := by decide +kernel
theorem dX7_goes_34 : decode cX7_goes 34 = .ok (.iload_n 1, 1) := by decide +kernel
theorem dX7_goes_35 : decode cX7_goes 35 = .ok (.invokevirtual 449, 3) := by decide +kernel
theorem dX7_goes_38 : decode cX7_goes 38 = .ok (.ireturn, 1) := by decide +kernel
theorem dX7_later_0 : decode cX7_later 0 = .ok (.aload_n 0, 1) := by decide +kernel
theorem dX7_later_1 : decode cX7_later 1 = .ok (.iload_n 2, 1) := by decide +kernel
theorem dX7_later_2 : decode cX7_later 2 = .ok (.iload_n 3, 1) := by decide +kernel
theorem dX7_later_3 : decode cX7_later 3 = .ok (.invokevirtual 396, 3) := by decide +kernel
theorem dX7_later_6 : decode cX7_later 6 = .ok (.ifCond .eq 28, 3) := by decide +kernel
theorem dX7_later_9 : decode cX7_later 9 = .ok (.iload 4, 2) := by decide +kernel
theorem dX7_later_11 : decode cX7_later 11 = .ok (.i2l, 1) := by decide +kernel
theorem dX7_later_12 : decode cX7_later 12 = .ok (.lconst 0, 1) := by decide +kernel
theorem dX7_later_13 : decode cX7_later 13 = .ok (.ldc2_w 324, 3) := by decide +kernel
theorem dX7_later_16 : decode cX7_later 16 = .ok (.invokestatic 82, 3) := by decide +kernel
theorem dX7_later_19 : decode cX7_later 19 = .ok (.ifCond .eq 15, 3) := by decide +kernel
theorem dX7_later_22 : decode cX7_later 22 = .ok (.iload_n 1, 1) := by decide +kernel
theorem dX7_later_23 : decode cX7_later 23 = .ok (.i2l, 1) := by decide +kernel
theorem dX7_later_24 : decode cX7_later 24 = .ok (.lconst 0, 1) := by decide +kernel
theorem dX7_later_25 : decode cX7_later 25 = .ok (.ldc2_w 452, 3) := by decide +kernel
theorem dX7_later_28 : decode cX7_later 28 = .ok (.invokestatic 82, 3) := by decide +kernel
theorem dX7_later_31 : decode cX7_later 31 = .ok (.ifCond .ne 6, 3) := by decide +kernel
theorem dX7_later_34 : decode cX7_later 34 = .ok (.ldc 167, 2) := by decide +kernel
theorem dX7_later_36 : decode cX7_later 36 = .ok (.ireturn, 1) := by decide +kernel
theorem dX7_later_37 : decode cX7_later 37 = .ok (.aload_n 0, 1) := by decide +kernel
theorem dX7_later_38 : decode cX7_later 38 = .ok (.invokevirtual 440, 3) := by decide +kernel
theorem dX7_later_41 : decode cX7_later 41 = .ok (.iconst 0, 1) := by decide +kernel
theorem dX7_later_42 : decode cX7_later 42 = .ok (.istore 5, 2) := by decide +kernel
theorem dX7_later_44 : decode cX7_later 44 = .ok (.iload 5, 2) := by decide +kernel
theorem dX7_later_46 : decode cX7_later 46 = .ok (.iload_n 1, 1) := by decide +kernel
theorem dX7_later_47 : decode cX7_later 47 = .ok (.if_icmp .ge 13, 3) := by decide +kernel
theorem dX7_later_50 : decode cX7_later 50 = .ok (.aload_n 0, 1) := by decide +kernel
theorem dX7_later_51 : decode cX7_later 51 = .ok (.invokevirtual 437, 3) := by decide +kernel
theorem dX7_later_54 : decode cX7_later 54 = .ok (.iinc 5 1, 3) := by decide +kernel
theorem dX7_later_57 : decode cX7_later 57 = .ok (.goto (-13), 3) := by decide +kernel
theorem dX7_later_60 : decode cX7_later 60 = .ok (.aload_n 0, 1) := by decide +kernel
theorem dX7_later_61 : decode cX7_later 61 = .ok (.getfield 40, 3) := by decide +kernel
theorem dX7_later_64 : decode cX7_later 64 = .ok (.iload_n 2, 1) := by decide +kernel
theorem dX7_later_65 : decode cX7_later 65 = .ok (.iload_n 3, 1) := by decide +kernel
theorem dX7_later_66 : decode cX7_later 66 = .ok (.iload 4, 2) := by decide +kernel
theorem dX7_later_68 : decode cX7_later 68 = .ok (.invokestatic 287, 3) := by decide +kernel
theorem dX7_later_71 : decode cX7_later 71 = .ok (.iaload, 1) := by decide +kernel
theorem dX7_later_72 : decode cX7_later 72 = .ok (.istore 5, 2) := by decide +kernel
theorem dX7_later_74 : decode cX7_later 74 = .ok (.aload_n 0, 1) := by decide +kernel
theorem dX7_later_75 : decode cX7_later 75 = .ok (.invokevirtual 446, 3) := by decide +kernel
theorem dX7_later_78 : decode cX7_later 78 = .ok (.iload 5, 2) := by decide +kernel
theorem dX7_later_80 : decode cX7_later 80 = .ok (.ireturn, 1) := by decide +kernel
theorem dX7_by_0 : decode cX7_by 0 = .ok (.aload_n 0, 1) := by decide +kernel
theorem dX7_by_1 : decode cX7_by 1 = .ok (.getfield 215, 3) := by decide +kernel
theorem dX7_by_4 : decode cX7_by 4 = .ok (.ifCond .eq 35, 3) := by decide +kernel
theorem dX7_by_7 : decode cX7_by 7 = .ok (.iload_n 1, 1) := by decide +kernel
theorem dX7_by_8 : decode cX7_by 8 = .ok (.i2l, 1) := by decide +kernel
theorem dX7_by_9 : decode cX7_by 9 = .ok (.lconst 0, 1) := by decide +kernel
theorem dX7_by_10 : decode cX7_by 10 = .ok (.lconst 1, 1) := by decide +kernel
theorem dX7_by_11 : decode cX7_by 11 = .ok (.invokestatic 82, 3) := by decide +kernel
theorem dX7_by_14 : decode cX7_by 14 = .ok (.ifCond .eq 25, 3) := by decide +kernel
theorem dX7_by_17 : decode cX7_by 17 = .ok (.iload_n 2, 1) := by decide +kernel
theorem dX7_by_18 : decode cX7_by 18 = .ok (.i2l, 1) := by decide +kernel
theorem dX7_by_19 : decode cX7_by 19 = .ok (.lconst 0, 1) := by decide +kernel
theorem dX7_by_20 : decode cX7_by 20 = .ok (.lconst 1, 1) := by decide +kernel
theorem dX7_by_21 : decode cX7_by 21 = .ok (.invokestatic 82, 3) := by decide +kernel
theorem dX7_by_24 : decode cX7_by 24 = .ok (.ifCond .eq 15, 3) := by decide +kernel
theorem dX7_by_27 : decode cX7_by 27 = .ok (.iload_n 3, 1) := by decide +kernel
theorem dX7_by_28 : decode cX7_by 28 = .ok (.i2l, 1) := by decide +kernel
theorem dX7_by_29 : decode cX7_by 29 = .ok (.lconst 0, 1) := by decide +kernel
theorem dX7_by_30 : decode cX7_by 30 = .ok (.ldc2_w 402, 3) := by decide +kernel
theorem dX7_by_33 : decode cX7_by 33 = .ok (.invokestatic 82, 3) := by decide +kernel
theorem dX7_by_36 : decode cX7_by 36 = .ok (.ifCond .ne 5, 3) := by decide +kernel
theorem dX7_by_39 : decode cX7_by 39 = .ok (.iconst (-1), 1) := by decide +kernel
theorem dX7_by_40 : decode cX7_by 40 = .ok (.ireturn, 1) := by decide +kernel
theorem dX7_by_41 : decode cX7_by 41 = .ok (.aload_n 0, 1) := by decide +kernel
theorem dX7_by_42 : decode cX7_by 42 = .ok (.invokevirtual 440, 3) := by decide +kernel
theorem dX7_by_45 : decode cX7_by 45 = .ok (.aload_n 0, 1) := by decide +kernel
theorem dX7_by_46 : decode cX7_by 46 = .ok (.getfield 40, 3) := by decide +kernel
theorem dX7_by_49 : decode cX7_by 49 = .ok (.iconst 3, 1) := by decide +kernel
theorem dX7_by_50 : decode cX7_by 50 = .ok (.iload_n 1, 1) := by decide +kernel
theorem dX7_by_51 : decode cX7_by 51 = .ok (.iastore, 1) := by decide +kernel
theorem dX7_by_52 : decode cX7_by 52 = .ok (.aload_n 0, 1) := by decide +kernel
theorem dX7_by_53 : decode cX7_by 53 = .ok (.getfield 40, 3) := by decide +kernel
theorem dX7_by_56 : decode cX7_by 56 = .ok (.iconst 4, 1) := by decide +kernel
theorem dX7_by_57 : decode cX7_by 57 = .ok (.iload_n 2, 1) := by decide +kernel
theorem dX7_by_58 : decode cX7_by 58 = .ok (.iastore, 1) := by decide +kernel
theorem dX7_by_59 : decode cX7_by 59 = .ok (.aload_n 0, 1) := by decide +kernel
theorem dX7_by_60 : decode cX7_by 60 = .ok (.iconst (-1), 1) := by decide +kernel
theorem dX7_by_61 : decode cX7_by 61 = .ok (.invokevirtual 225, 3) := by decide +kernel
theorem dX7_by_64 : decode cX7_by 64 = .ok (.aload_n 0, 1) := by decide +kernel
theorem dX7_by_65 : decode cX7_by 65 = .ok (.invokevirtual 443, 3) := by decide +kernel
theorem dX7_by_68 : decode cX7_by 68 = .ok (.aload_n 0, 1) := by decide +kernel
theorem dX7_by_69 : decode cX7_by 69 = .ok (.invokevirtual 446, 3) := by decide +kernel
theorem dX7_by_72 : decode cX7_by 72 = .ok (.aload_n 0, 1) := by decide +kernel
theorem dX7_by_73 : decode cX7_by 73 = .ok (.iload_n 3, 1) := by decide +kernel
theorem dX7_by_74 : decode cX7_by 74 = .ok (.invokevirtual 449, 3) := by decide +kernel
theorem dX7_by_77 : decode cX7_by 77 = .ok (.ireturn, 1) := by decide +kernel
theorem dX7_endsBehind_0 : decode cX7_endsBehind 0 = .ok (.iconst 0, 1) := by decide +kernel
theorem dX7_endsBehind_1 : decode cX7_endsBehind 1 = .ok (.istore_n 1, 1) := by decide +kernel
theorem dX7_endsBehind_2 : decode cX7_endsBehind 2 = .ok (.iload_n 1, 1) := by decide +kernel
theorem dX7_endsBehind_3 : decode cX7_endsBehind 3 = .ok (.sipush 400, 3) := by decide +kernel
theorem dX7_endsBehind_6 : decode cX7_endsBehind 6 = .ok (.if_icmp .gt 22, 3) := by decide +kernel
theorem dX7_endsBehind_9 : decode cX7_endsBehind 9 = .ok (.aload_n 0, 1) := by decide +kernel
theorem dX7_endsBehind_10 : decode cX7_endsBehind 10 = .ok (.invokevirtual 410, 3) := by decide +kernel
theorem dX7_endsBehind_13 : decode cX7_endsBehind 13 = .ok (.ifCond .eq 5, 3) := by decide +kernel
theorem dX7_endsBehind_16 : decode cX7_endsBehind 16 = .ok (.iload_n 1, 1) := by decide +kernel
theorem dX7_endsBehind_17 : decode cX7_endsBehind 17 = .ok (.ireturn, 1) := by decide +kernel
theorem dX7_endsBehind_18 : decode cX7_endsBehind 18 = .ok (.aload_n 0, 1) := by decide +kernel
theorem dX7_endsBehind_19 : decode cX7_endsBehind 19 = .ok (.invokevirtual 437, 3) := by decide +kernel
theorem dX7_endsBehind_22 : decode cX7_endsBehind 22 = .ok (.iinc 1 1, 3) := by decide +kernel
theorem dX7_endsBehind_25 : decode cX7_endsBehind 25 = .ok (.goto (-23), 3) := by decide +kernel
theorem dX7_endsBehind_28 : decode cX7_endsBehind 28 = .ok (.iconst (-1), 1) := by decide +kernel
theorem dX7_endsBehind_29 : decode cX7_endsBehind 29 = .ok (.ireturn, 1) := by decide +kernel
theorem dX7_skew_0 : decode cX7_skew 0 = .ok (.aload_n 0, 1) := by decide +kernel
theorem dX7_skew_1 : decode cX7_skew 1 = .ok (.getfield 215, 3) := by decide +kernel
theorem dX7_skew_4 : decode cX7_skew 4 = .ok (.ifCond .eq 13, 3) := by decide +kernel
theorem dX7_skew_7 : decode cX7_skew 7 = .ok (.iload_n 1, 1) := by decide +kernel
theorem dX7_skew_8 : decode cX7_skew 8 = .ok (.i2l, 1) := by decide +kernel
theorem dX7_skew_9 : decode cX7_skew 9 = .ok (.lconst 0, 1) := by decide +kernel
theorem dX7_skew_10 : decode cX7_skew 10 = .ok (.lconst 1, 1) := by decide +kernel
theorem dX7_skew_11 : decode cX7_skew 11 = .ok (.invokestatic 82, 3) := by decide +kernel
theorem dX7_skew_14 : decode cX7_skew 14 = .ok (.ifCond .ne 5, 3) := by decide +kernel
theorem dX7_skew_17 : decode cX7_skew 17 = .ok (.iconst (-1), 1) := by decide +kernel
theorem dX7_skew_18 : decode cX7_skew 18 = .ok (.ireturn, 1) := by decide +kernel
theorem dX7_skew_19 : decode cX7_skew 19 = .ok (.iconst (-1), 1) := by decide +kernel
theorem dX7_skew_20 : decode cX7_skew 20 = .ok (.istore_n 2, 1) := by decide +kernel
theorem dX7_skew_21 : decode cX7_skew 21 = .ok (.iconst 0, 1) := by decide +kernel
theorem dX7_skew_22 : decode cX7_skew 22 = .ok (.istore_n 3, 1) := by decide +kernel
theorem dX7_skew_23 : decode cX7_skew 23 = .ok (.aload_n 0, 1) := by decide +kernel
theorem dX7_skew_24 : decode cX7_skew 24 = .ok (.invokevirtual 440, 3) := by decide +kernel
theorem dX7_skew_27 : decode cX7_skew 27 = .ok (.iconst 0, 1) := by decide +kernel
theorem dX7_skew_28 : decode cX7_skew 28 = .ok (.istore 4, 2) := by decide +kernel
theorem dX7_skew_30 : decode cX7_skew 30 = .ok (.iload 4, 2) := by decide +kernel
theorem dX7_skew_32 : decode cX7_skew 32 = .ok (.iconst 4, 1) := by decide +kernel
theorem dX7_skew_33 : decode cX7_skew 33 = .ok (.if_icmp .ge 54, 3) := by decide +kernel
theorem dX7_skew_36 : decode cX7_skew 36 = .ok (.aload_n 0, 1) := by decide +kernel
theorem dX7_skew_37 : decode cX7_skew 37 = .ok (.getfield 40, 3) := by decide +kernel
theorem dX7_skew_40 : decode cX7_skew 40 = .ok (.iconst 5, 1) := by decide +kernel
theorem dX7_skew_41 : decode cX7_skew 41 = .ok (.iload 4, 2) := by decide +kernel
theorem dX7_skew_43 : decode cX7_skew 43 = .ok (.iastore, 1) := by decide +kernel
theorem dX7_skew_44 : decode cX7_skew 44 = .ok (.aload_n 0, 1) := by decide +kernel
theorem dX7_skew_45 : decode cX7_skew 45 = .ok (.iconst (-1), 1) := by decide +kernel
theorem dX7_skew_46 : decode cX7_skew 46 = .ok (.invokevirtual 225, 3) := by decide +kernel
theorem dX7_skew_49 : decode cX7_skew 49 = .ok (.aload_n 0, 1) := by decide +kernel
theorem dX7_skew_50 : decode cX7_skew 50 = .ok (.invokevirtual 454, 3) := by decide +kernel
theorem dX7_skew_53 : decode cX7_skew 53 = .ok (.istore 5, 2) := by decide +kernel
theorem dX7_skew_55 : decode cX7_skew 55 = .ok (.iload 5, 2) := by decide +kernel
theorem dX7_skew_57 : decode cX7_skew 57 = .ok (.iconst (-1), 1) := by decide +kernel
theorem dX7_skew_58 : decode cX7_skew 58 = .ok (.if_icmp .eq 23, 3) := by decide +kernel
theorem dX7_skew_61 : decode cX7_skew 61 = .ok (.iload_n 2, 1) := by decide +kernel
theorem dX7_skew_62 : decode cX7_skew 62 = .ok (.iconst (-1), 1) := by decide +kernel
theorem dX7_skew_63 : decode cX7_skew 63 = .ok (.if_icmp .eq 12, 3) := by decide +kernel
theorem dX7_skew_66 : decode cX7_skew 66 = .ok (.iload 5, 2) := by decide +kernel
theorem dX7_skew_68 : decode cX7_skew 68 = .ok (.iload_n 3, 1) := by decide +kernel
theorem dX7_skew_69 : decode cX7_skew 69 = .ok (.if_icmp .lt 6, 3) := by decide +kernel
theorem dX7_skew_72 : decode cX7_skew 72 = .ok (.goto 9, 3) := by decide +kernel
theorem dX7_skew_75 : decode cX7_skew 75 = .ok (.iload 4, 2) := by decide +kernel
theorem dX7_skew_77 : decode cX7_skew 77 = .ok (.istore_n 2, 1) := by decide +kernel
theorem dX7_skew_78 : decode cX7_skew 78 = .ok (.iload 5, 2) := by decide +kernel
theorem dX7_skew_80 : decode cX7_skew 80 = .ok (.istore_n 3, 1) := by decide +kernel
theorem dX7_skew_81 : decode cX7_skew 81 = .ok (.iinc 4 1, 3) := by decide +kernel
theorem dX7_skew_84 : decode cX7_skew 84 = .ok (.goto (-54), 3) := by decide +kernel
theorem dX7_skew_87 : decode cX7_skew 87 = .ok (.aload_n 0, 1) := by decide +kernel
theorem dX7_skew_88 : decode cX7_skew 88 = .ok (.invokevirtual 446, 3) := by decide +kernel
theorem dX7_skew_91 : decode cX7_skew 91 = .ok (.iload_n 2, 1) := by decide +kernel
theorem dX7_skew_92 : decode cX7_skew 92 = .ok (.iconst (-1), 1) := by decide +kernel
theorem dX7_skew_93 : decode cX7_skew 93 = .ok (.if_icmp .ne 7, 3) := by decide +kernel
theorem dX7_skew_96 : decode cX7_skew 96 = .ok (.iconst (-1), 1) := by decide +kernel
theorem dX7_skew_97 : decode cX7_skew 97 = .ok (.goto 12, 3) := by decide +kernel
theorem dX7_skew_100 : decode cX7_skew 100 = .ok (.iload_n 1, 1) := by decide +kernel
theorem dX7_skew_101 : decode cX7_skew 101 = .ok (.ifCond .ne 7, 3) := by decide +kernel
theorem dX7_skew_104 : decode cX7_skew 104 = .ok (.iload_n 2, 1) := by decide +kernel
theorem dX7_skew_105 : decode cX7_skew 105 = .ok (.goto 4, 3) := by decide +kernel
theorem dX7_skew_108 : decode cX7_skew 108 = .ok (.iload_n 3, 1) := by decide +kernel
theorem dX7_skew_109 : decode cX7_skew 109 = .ok (.ireturn, 1) := by decide +kernel
theorem dX7_isAlone_0 : decode cX7_isAlone 0 = .ok (.aload_n 0, 1) := by decide +kernel
theorem dX7_isAlone_1 : decode cX7_isAlone 1 = .ok (.invokevirtual 440, 3) := by decide +kernel
theorem dX7_isAlone_4 : decode cX7_isAlone 4 = .ok (.aload_n 0, 1) := by decide +kernel
theorem dX7_isAlone_5 : decode cX7_isAlone 5 = .ok (.bipush 8, 2) := by decide +kernel
theorem dX7_isAlone_7 : decode cX7_isAlone 7 = .ok (.iload_n 1, 1) := by decide +kernel
theorem dX7_isAlone_8 : decode cX7_isAlone 8 = .ok (.imul, 1) := by decide +kernel
theorem dX7_isAlone_9 : decode cX7_isAlone 9 = .ok (.iload_n 2, 1) := by decide +kernel
theorem dX7_isAlone_10 : decode cX7_isAlone 10 = .ok (.iadd, 1) := by decide +kernel
theorem dX7_isAlone_11 : decode cX7_isAlone 11 = .ok (.invokevirtual 225, 3) := by decide +kernel
theorem dX7_isAlone_14 : decode cX7_isAlone 14 = .ok (.aload_n 0, 1) := by decide +kernel
theorem dX7_isAlone_15 : decode cX7_isAlone 15 = .ok (.getfield 56, 3) := by decide +kernel
theorem dX7_isAlone_18 : decode cX7_isAlone 18 = .ok (.iconst 4, 1) := by decide +kernel
theorem dX7_isAlone_19 : decode cX7_isAlone 19 = .ok (.aload_n 0, 1) := by decide +kernel
theorem dX7_isAlone_20 : decode cX7_isAlone 20 = .ok (.invokevirtual 454, 3) := by decide +kernel
theorem dX7_isAlone_23 : decode cX7_isAlone 23 = .ok (.iastore, 1) := by decide +kernel
theorem dX7_isAlone_24 : decode cX7_isAlone 24 = .ok (.iconst 0, 1) := by decide +kernel
theorem dX7_isAlone_25 : decode cX7_isAlone 25 = .ok (.istore_n 3, 1) := by decide +kernel
theorem dX7_isAlone_26 : decode cX7_isAlone 26 = .ok (.iload_n 3, 1) := by decide +kernel
theorem dX7_isAlone_27 : decode cX7_isAlone 27 = .ok (.iconst 4, 1) := by decide +kernel
theorem dX7_isAlone_28 : decode cX7_isAlone 28 = .ok (.if_icmp .ge 26, 3) := by decide +kernel
theorem dX7_isAlone_31 : decode cX7_isAlone 31 = .ok (.aload_n 0, 1) := by decide +kernel
theorem dX7_isAlone_32 : decode cX7_isAlone 32 = .ok (.getfield 56, 3) := by decide +kernel
theorem dX7_isAlone_35 : decode cX7_isAlone 35 = .ok (.iload_n 3, 1) := by decide +kernel
theorem dX7_isAlone_36 : decode cX7_isAlone 36 = .ok (.aload_n 0, 1) := by decide +kernel
theorem dX7_isAlone_37 : decode cX7_isAlone 37 = .ok (.getfield 40, 3) := by decide +kernel
theorem dX7_isAlone_40 : decode cX7_isAlone 40 = .ok (.iload_n 1, 1) := by decide +kernel
theorem dX7_isAlone_41 : decode cX7_isAlone 41 = .ok (.iload_n 2, 1) := by decide +kernel
theorem dX7_isAlone_42 : decode cX7_isAlone 42 = .ok (.iload_n 3, 1) := by decide +kernel
theorem dX7_isAlone_43 : decode cX7_isAlone 43 = .ok (.invokestatic 287, 3) := by decide +kernel
theorem dX7_isAlone_46 : decode cX7_isAlone 46 = .ok (.iaload, 1) := by decide +kernel
theorem dX7_isAlone_47 : decode cX7_isAlone 47 = .ok (.iastore, 1) := by decide +kernel
theorem dX7_isAlone_48 : decode cX7_isAlone 48 = .ok (.iinc 3 1, 3) := by decide +kernel
theorem dX7_isAlone_51 : decode cX7_isAlone 51 = .ok (.goto (-25), 3) := by decide +kernel
theorem dX7_isAlone_54 : decode cX7_isAlone 54 = .ok (.aload_n 0, 1) := by decide +kernel
theorem dX7_isAlone_55 : decode cX7_isAlone 55 = .ok (.invokevirtual 446, 3) := by decide +kernel
theorem dX7_isAlone_58 : decode cX7_isAlone 58 = .ok (.aload_n 0, 1) := by decide +kernel
theorem dX7_isAlone_59 : decode cX7_isAlone 59 = .ok (.getfield 56, 3) := by decide +kernel
theorem dX7_isAlone_62 : decode cX7_isAlone 62 = .ok (.iconst 4, 1) := by decide +kernel
theorem dX7_isAlone_63 : decode cX7_isAlone 63 = .ok (.iaload, 1) := by decide +kernel
theorem dX7_isAlone_64 : decode cX7_isAlone 64 = .ok (.iconst (-1), 1) := by decide +kernel
theorem dX7_isAlone_65 : decode cX7_isAlone 65 = .ok (.if_icmp .eq 7, 3) := by decide +kernel
theorem dX7_isAlone_68 : decode cX7_isAlone 68 = .ok (.iconst 1, 1) := by decide +kernel
theorem dX7_isAlone_69 : decode cX7_isAlone 69 = .ok (.goto 4, 3) := by decide +kernel
theorem dX7_isAlone_72 : decode cX7_isAlone 72 = .ok (.iconst 0, 1) := by decide +kernel
theorem dX7_isAlone_73 : decode cX7_isAlone 73 = .ok (.ireturn, 1) := by decide +kernel
theorem dX7_alone_0 : decode cX7_alone 0 = .ok (.aload_n 0, 1) := by decide +kernel
theorem dX7_alone_1 : decode cX7_alone 1 = .ok (.iload_n 1, 1) := by decide +kernel
theorem dX7_alone_2 : decode cX7_alone 2 = .ok (.iload_n 2, 1) := by decide +kernel
theorem dX7_alone_3 : decode cX7_alone 3 = .ok (.invokevirtual 396, 3) := by decide +kernel
theorem dX7_alone_6 : decode cX7_alone 6 = .ok (.ifCond .eq 33, 3) := by decide +kernel
theorem dX7_alone_9 : decode cX7_alone 9 = .ok (.iload_n 3, 1) := by decide +kernel
theorem dX7_alone_10 : decode cX7_alone 10 = .ok (.i2l, 1) := by decide +kernel
theorem dX7_alone_11 : decode cX7_alone 11 = .ok (.lconst 0, 1) := by decide +kernel
theorem dX7_alone_12 : decode cX7_alone 12 = .ok (.ldc2_w 408, 3) := by decide +kernel
theorem dX7_alone_15 : decode cX7_alone 15 = .ok (.invokestatic 82, 3) := by decide +kernel
theorem dX7_alone_18 : decode cX7_alone 18 = .ok (.ifCond .eq 21, 3) := by decide +kernel
theorem dX7_alone_21 : decode cX7_alone 21 = .ok (.aload_n 0, 1) := by decide +kernel
theorem dX7_alone_22 : decode cX7_alone 22 = .ok (.iload_n 1, 1) := by decide +kernel
theorem dX7_alone_23 : decode cX7_alone 23 = .ok (.iload_n 2, 1) := by decide +kernel
theorem dX7_alone_24 : decode cX7_alone 24 = .ok (.invokevirtual 457, 3) := by decide +kernel
theorem dX7_alone_27 : decode cX7_alone 27 = .ok (.ifCond .eq 12, 3) := by decide +kernel
theorem dX7_alone_30 : decode cX7_alone 30 = .ok (.aload_n 0, 1) := by decide +kernel
theorem dX7_alone_31 : decode cX7_alone 31 = .ok (.getfield 56, 3) := by decide +kernel
theorem dX7_alone_34 : decode cX7_alone 34 = .ok (.iload_n 3, 1) := by decide +kernel
theorem dX7_alone_35 : decode cX7_alone 35 = .ok (.iaload, 1) := by decide +kernel
theorem dX7_alone_36 : decode cX7_alone 36 = .ok (.goto 5, 3) := by decide +kernel
theorem dX7_alone_39 : decode cX7_alone 39 = .ok (.ldc 167, 2) := by decide +kernel
theorem dX7_alone_41 : decode cX7_alone 41 = .ok (.ireturn, 1) := by decide +kernel
theorem dX7_doesAgree_0 : decode cX7_doesAgree 0 = .ok (.aload_n 0, 1) := by decide +kernel
theorem dX7_doesAgree_1 : decode cX7_doesAgree 1 = .ok (.iload_n 1, 1) := by decide +kernel
theorem dX7_doesAgree_2 : decode cX7_doesAgree 2 = .ok (.iconst 3, 1) := by decide +kernel
theorem dX7_doesAgree_3 : decode cX7_doesAgree 3 = .ok (.invokevirtual 252, 3) := by decide +kernel
theorem dX7_doesAgree_6 : decode cX7_doesAgree 6 = .ok (.iload_n 2, 1) := by decide +kernel
theorem dX7_doesAgree_7 : decode cX7_doesAgree 7 = .ok (.invokestatic 261, 3) := by decide +kernel
theorem dX7_doesAgree_10 : decode cX7_doesAgree 10 = .ok (.ifCond .ne 12, 3) := by decide +kernel
theorem dX7_doesAgree_13 : decode cX7_doesAgree 13 = .ok (.aload_n 0, 1) := by decide +kernel
theorem dX7_doesAgree_14 : decode cX7_doesAgree 14 = .ok (.iload_n 1, 1) := by decide +kernel
theorem dX7_doesAgree_15 : decode cX7_doesAgree 15 = .ok (.iload_n 2, 1) := by decide +kernel
theorem dX7_doesAgree_16 : decode cX7_doesAgree 16 = .ok (.invokevirtual 457, 3) := by decide +kernel
theorem dX7_doesAgree_19 : decode cX7_doesAgree 19 = .ok (.ifCond .ne 5, 3) := by decide +kernel
theorem dX7_doesAgree_22 : decode cX7_doesAgree 22 = .ok (.iconst 0, 1) := by decide +kernel
theorem dX7_doesAgree_23 : decode cX7_doesAgree 23 = .ok (.ireturn, 1) := by decide +kernel
theorem dX7_doesAgree_24 : decode cX7_doesAgree 24 = .ok (.iconst 0, 1) := by decide +kernel
theorem dX7_doesAgree_25 : decode cX7_doesAgree 25 = .ok (.istore_n 3, 1) := by decide +kernel
theorem dX7_doesAgree_26 : decode cX7_doesAgree 26 = .ok (.iload_n 3, 1) := by decide +kernel
theorem dX7_doesAgree_27 : decode cX7_doesAgree 27 = .ok (.iconst 4, 1) := by decide +kernel
theorem dX7_doesAgree_28 : decode cX7_doesAgree 28 = .ok (.if_icmp .ge 31, 3) := by decide +kernel
theorem dX7_doesAgree_31 : decode cX7_doesAgree 31 = .ok (.aload_n 0, 1) := by decide +kernel
theorem dX7_doesAgree_32 : decode cX7_doesAgree 32 = .ok (.getfield 40, 3) := by decide +kernel
theorem dX7_doesAgree_35 : decode cX7_doesAgree 35 = .ok (.iload_n 1, 1) := by decide +kernel
theorem dX7_doesAgree_36 : decode cX7_doesAgree 36 = .ok (.iload_n 2, 1) := by decide +kernel
theorem dX7_doesAgree_37 : decode cX7_doesAgree 37 = .ok (.iload_n 3, 1) := by decide +kernel
theorem dX7_doesAgree_38 : decode cX7_doesAgree 38 = .ok (.invokestatic 287, 3) := by decide +kernel
theorem dX7_doesAgree_41 : decode cX7_doesAgree 41 = .ok (.iaload, 1) := by decide +kernel
theorem dX7_doesAgree_42 : decode cX7_doesAgree 42 = .ok (.aload_n 0, 1) := by decide +kernel
theorem dX7_doesAgree_43 : decode cX7_doesAgree 43 = .ok (.getfield 56, 3) := by decide +kernel
theorem dX7_doesAgree_46 : decode cX7_doesAgree 46 = .ok (.iload_n 3, 1) := by decide +kernel
theorem dX7_doesAgree_47 : decode cX7_doesAgree 47 = .ok (.iaload, 1) := by decide +kernel
theorem dX7_doesAgree_48 : decode cX7_doesAgree 48 = .ok (.if_icmp .eq 5, 3) := by decide +kernel
theorem dX7_doesAgree_51 : decode cX7_doesAgree 51 = .ok (.iconst 0, 1) := by decide +kernel
theorem dX7_doesAgree_52 : decode cX7_doesAgree 52 = .ok (.ireturn, 1) := by decide +kernel
theorem dX7_doesAgree_53 : decode cX7_doesAgree 53 = .ok (.iinc 3 1, 3) := by decide +kernel
theorem dX7_doesAgree_56 : decode cX7_doesAgree 56 = .ok (.goto (-30), 3) := by decide +kernel
theorem dX7_doesAgree_59 : decode cX7_doesAgree 59 = .ok (.iconst 1, 1) := by decide +kernel
theorem dX7_doesAgree_60 : decode cX7_doesAgree 60 = .ok (.ireturn, 1) := by decide +kernel
theorem dX7_agrees_0 : decode cX7_agrees 0 = .ok (.aload_n 0, 1) := by decide +kernel
theorem dX7_agrees_1 : decode cX7_agrees 1 = .ok (.getfield 215, 3) := by decide +kernel
theorem dX7_agrees_4 : decode cX7_agrees 4 = .ok (.ifCond .ne 5, 3) := by decide +kernel
theorem dX7_agrees_7 : decode cX7_agrees 7 = .ok (.iconst (-1), 1) := by decide +kernel
theorem dX7_agrees_8 : decode cX7_agrees 8 = .ok (.ireturn, 1) := by decide +kernel
theorem dX7_agrees_9 : decode cX7_agrees 9 = .ok (.iconst 0, 1) := by decide +kernel
theorem dX7_agrees_10 : decode cX7_agrees 10 = .ok (.istore_n 1, 1) := by decide +kernel
theorem dX7_agrees_11 : decode cX7_agrees 11 = .ok (.iconst 0, 1) := by decide +kernel
theorem dX7_agrees_12 : decode cX7_agrees 12 = .ok (.istore_n 2, 1) := by decide +kernel
theorem dX7_agrees_13 : decode cX7_agrees 13 = .ok (.iload_n 2, 1) := by decide +kernel
theorem dX7_agrees_14 : decode cX7_agrees 14 = .ok (.bipush 8, 2) := by decide +kernel
theorem dX7_agrees_16 : decode cX7_agrees 16 = .ok (.aload_n 0, 1) := by decide +kernel
theorem dX7_agrees_17 : decode cX7_agrees 17 = .ok (.invokevirtual 255, 3) := by decide +kernel
theorem dX7_agrees_20 : decode cX7_agrees 20 = .ok (.imul, 1) := by decide +kernel
theorem dX7_agrees_21 : decode cX7_agrees 21 = .ok (.if_icmp .ge 27, 3) := by decide +kernel
theorem dX7_agrees_24 : decode cX7_agrees 24 = .ok (.iload_n 1, 1) := by decide +kernel
theorem dX7_agrees_25 : decode cX7_agrees 25 = .ok (.aload_n 0, 1) := by decide +kernel
theorem dX7_agrees_26 : decode cX7_agrees 26 = .ok (.iload_n 2, 1) := by decide +kernel
theorem dX7_agrees_27 : decode cX7_agrees 27 = .ok (.bipush 8, 2) := by decide +kernel
theorem dX7_agrees_29 : decode cX7_agrees 29 = .ok (.idiv, 1) := by decide +kernel
theorem dX7_agrees_30 : decode cX7_agrees 30 = .ok (.iload_n 2, 1) := by decide +kernel
theorem dX7_agrees_31 : decode cX7_agrees 31 = .ok (.bipush 8, 2) := by decide +kernel
theorem dX7_agrees_33 : decode cX7_agrees 33 = .ok (.irem, 1) := by decide +kernel
theorem dX7_agrees_34 : decode cX7_agrees 34 = .ok (.invokevirtual 460, 3) := by decide +kernel
theorem dX7_agrees_37 : decode cX7_agrees 37 = .ok (.invokestatic 192, 3) := by decide +kernel
theorem dX7_agrees_40 : decode cX7_agrees 40 = .ok (.iadd, 1) := by decide +kernel
theorem dX7_agrees_41 : decode cX7_agrees 41 = .ok (.istore_n 1, 1) := by decide +kernel
theorem dX7_agrees_42 : decode cX7_agrees 42 = .ok (.iinc 2 1, 3) := by decide +kernel
theorem dX7_agrees_45 : decode cX7_agrees 45 = .ok (.goto (-32), 3) := by decide +kernel
theorem dX7_agrees_48 : decode cX7_agrees 48 = .ok (.iload_n 1, 1) := by decide +kernel
theorem dX7_agrees_49 : decode cX7_agrees 49 = .ok (.ireturn, 1) := by decide +kernel
theorem dX7_laysEnds_0 : decode cX7_laysEnds 0 = .ok (.aload_n 0, 1) := by decide +kernel
theorem dX7_laysEnds_1 : decode cX7_laysEnds 1 = .ok (.invokevirtual 440, 3) := by decide +kernel
theorem dX7_laysEnds_4 : decode cX7_laysEnds 4 = .ok (.iconst 0, 1) := by decide +kernel
theorem dX7_laysEnds_5 : decode cX7_laysEnds 5 = .ok (.istore_n 2, 1) := by decide +kernel
theorem dX7_laysEnds_6 : decode cX7_laysEnds 6 = .ok (.iload_n 2, 1) := by decide +kernel
theorem dX7_laysEnds_7 : decode cX7_laysEnds 7 = .ok (.bipush 16, 2) := by decide +kernel
theorem dX7_laysEnds_9 : decode cX7_laysEnds 9 = .ok (.if_icmp .ge 34, 3) := by decide +kernel
theorem dX7_laysEnds_12 : decode cX7_laysEnds 12 = .ok (.aload_n 0, 1) := by decide +kernel
theorem dX7_laysEnds_13 : decode cX7_laysEnds 13 = .ok (.iconst (-1), 1) := by decide +kernel
theorem dX7_laysEnds_14 : decode cX7_laysEnds 14 = .ok (.invokevirtual 225, 3) := by decide +kernel
theorem dX7_laysEnds_17 : decode cX7_laysEnds 17 = .ok (.aload_n 0, 1) := by decide +kernel
theorem dX7_laysEnds_18 : decode cX7_laysEnds 18 = .ok (.getfield 40, 3) := by decide +kernel
theorem dX7_laysEnds_21 : decode cX7_laysEnds 21 = .ok (.bipush 8, 2) := by decide +kernel
theorem dX7_laysEnds_23 : decode cX7_laysEnds 23 = .ok (.iload_n 1, 1) := by decide +kernel
theorem dX7_laysEnds_24 : decode cX7_laysEnds 24 = .ok (.iadd, 1) := by decide +kernel
theorem dX7_laysEnds_25 : decode cX7_laysEnds 25 = .ok (.iload_n 2, 1) := by decide +kernel
theorem dX7_laysEnds_26 : decode cX7_laysEnds 26 = .ok (.iastore, 1) := by decide +kernel
theorem dX7_laysEnds_27 : decode cX7_laysEnds 27 = .ok (.aload_n 0, 1) := by decide +kernel
theorem dX7_laysEnds_28 : decode cX7_laysEnds 28 = .ok (.getfield 59, 3) := by decide +kernel
theorem dX7_laysEnds_31 : decode cX7_laysEnds 31 = .ok (.iload_n 2, 1) := by decide +kernel
theorem dX7_laysEnds_32 : decode cX7_laysEnds 32 = .ok (.aload_n 0, 1) := by decide +kernel
theorem dX7_laysEnds_33 : decode cX7_laysEnds 33 = .ok (.invokevirtual 454, 3) := by decide +kernel
theorem dX7_laysEnds_36 : decode cX7_laysEnds 36 = .ok (.iastore, 1) := by decide +kernel
theorem dX7_laysEnds_37 : decode cX7_laysEnds 37 = .ok (.iinc 2 1, 3) := by decide +kernel
theorem dX7_laysEnds_40 : decode cX7_laysEnds 40 = .ok (.goto (-34), 3) := by decide +kernel
theorem dX7_laysEnds_43 : decode cX7_laysEnds 43 = .ok (.aload_n 0, 1) := by decide +kernel
theorem dX7_laysEnds_44 : decode cX7_laysEnds 44 = .ok (.invokevirtual 446, 3) := by decide +kernel
theorem dX7_laysEnds_47 : decode cX7_laysEnds 47 = .ok (.return_, 1) := by decide +kernel
theorem dX7_likely_0 : decode cX7_likely 0 = .ok (.aload_n 0, 1) := by decide +kernel
theorem dX7_likely_1 : decode cX7_likely 1 = .ok (.getfield 215, 3) := by decide +kernel
theorem dX7_likely_4 : decode cX7_likely 4 = .ok (.ifCond .eq 32, 3) := by decide +kernel
theorem dX7_likely_7 : decode cX7_likely 7 = .ok (.iload_n 1, 1) := by decide +kernel
theorem dX7_likely_8 : decode cX7_likely 8 = .ok (.i2l, 1) := by decide +kernel
theorem dX7_likely_9 : decode cX7_likely 9 = .ok (.lconst 0, 1) := by decide +kernel
theorem dX7_likely_10 : decode cX7_likely 10 = .ok (.ldc2_w 463, 3) := by decide +kernel
theorem dX7_likely_13 : decode cX7_likely 13 = .ok (.invokestatic 82, 3) := by decide +kernel
theorem dX7_likely_16 : decode cX7_likely 16 = .ok (.ifCond .eq 20, 3) := by decide +kernel
theorem dX7_likely_19 : decode cX7_likely 19 = .ok (.iload_n 2, 1) := by decide +kernel
theorem dX7_likely_20 : decode cX7_likely 20 = .ok (.i2l, 1) := by decide +kernel
theorem dX7_likely_21 : decode cX7_likely 21 = .ok (.lconst 0, 1) := by decide +kernel
theorem dX7_likely_22 : decode cX7_likely 22 = .ok (.ldc2_w 452, 3) := by decide +kernel
theorem dX7_likely_25 : decode cX7_likely 25 = .ok (.invokestatic 82, 3) := by decide +kernel
theorem dX7_likely_28 : decode cX7_likely 28 = .ok (.ifCond .eq 8, 3) := by decide +kernel
theorem dX7_likely_31 : decode cX7_likely 31 = .ok (.iload_n 3, 1) := by decide +kernel
theorem dX7_likely_32 : decode cX7_likely 32 = .ok (.iconst (-1), 1) := by decide +kernel
theorem dX7_likely_33 : decode cX7_likely 33 = .ok (.if_icmp .ge 5, 3) := by decide +kernel
theorem dX7_likely_36 : decode cX7_likely 36 = .ok (.iconst (-1), 1) := by decide +kernel
theorem dX7_likely_37 : decode cX7_likely 37 = .ok (.ireturn, 1) := by decide +kernel
theorem dX7_likely_38 : decode cX7_likely 38 = .ok (.aload_n 0, 1) := by decide +kernel
theorem dX7_likely_39 : decode cX7_likely 39 = .ok (.iload_n 1, 1) := by decide +kernel
theorem dX7_likely_40 : decode cX7_likely 40 = .ok (.invokevirtual 465, 3) := by decide +kernel
theorem dX7_likely_43 : decode cX7_likely 43 = .ok (.iconst 0, 1) := by decide +kernel
theorem dX7_likely_44 : decode cX7_likely 44 = .ok (.istore 4, 2) := by decide +kernel
theorem dX7_likely_46 : decode cX7_likely 46 = .ok (.iconst 0, 1) := by decide +kernel
theorem dX7_likely_47 : decode cX7_likely 47 = .ok (.istore 5, 2) := by decide +kernel
theorem dX7_likely_49 : decode cX7_likely 49 = .ok (.iload 5, 2) := by decide +kernel
theorem dX7_likely_51 : decode cX7_likely 51 = .ok (.bipush 16, 2) := by decide +kernel
theorem dX7_likely_53 : decode cX7_likely 53 = .ok (.if_icmp .ge 35, 3) := by decide +kernel
theorem dX7_likely_56 : decode cX7_likely 56 = .ok (.aload_n 0, 1) := by decide +kernel
theorem dX7_likely_57 : decode cX7_likely 57 = .ok (.getfield 59, 3) := by decide +kernel
theorem dX7_likely_60 : decode cX7_likely 60 = .ok (.iload 5, 2) := by decide +kernel
theorem dX7_likely_62 : decode cX7_likely 62 = .ok (.iaload, 1) := by decide +kernel
theorem dX7_likely_63 : decode cX7_likely 63 = .ok (.iload_n 2, 1) := by decide +kernel
theorem dX7_likely_64 : decode cX7_likely 64 = .ok (.if_icmp .eq 6, 3) := by decide +kernel
theorem dX7_likely_67 : decode cX7_likely 67 = .ok (.goto 15, 3) := by decide +kernel
theorem dX7_likely_70 : decode cX7_likely 70 = .ok (.iload 4, 2) := by decide +kernel
theorem dX7_likely_72 : decode cX7_likely 72 = .ok (.iload_n 3, 1) := by decide +kernel
theorem dX7_likely_73 : decode cX7_likely 73 = .ok (.if_icmp .ne 6, 3) := by decide +kernel
theorem dX7_likely_76 : decode cX7_likely 76 = .ok (.iload 5, 2) := by decide +kernel
theorem dX7_likely_78 : decode cX7_likely 78 = .ok (.ireturn, 1) := by decide +kernel
theorem dX7_likely_79 : decode cX7_likely 79 = .ok (.iinc 4 1, 3) := by decide +kernel
theorem dX7_likely_82 : decode cX7_likely 82 = .ok (.iinc 5 1, 3) := by decide +kernel
theorem dX7_likely_85 : decode cX7_likely 85 = .ok (.goto (-36), 3) := by decide +kernel
theorem dX7_likely_88 : decode cX7_likely 88 = .ok (.iload_n 3, 1) := by decide +kernel
theorem dX7_likely_89 : decode cX7_likely 89 = .ok (.iconst (-1), 1) := by decide +kernel
theorem dX7_likely_90 : decode cX7_likely 90 = .ok (.if_icmp .ne 8, 3) := by decide +kernel
theorem dX7_likely_93 : decode cX7_likely 93 = .ok (.iload 4, 2) := by decide +kernel
theorem dX7_likely_95 : decode cX7_likely 95 = .ok (.goto 4, 3) := by decide +kernel
theorem dX7_likely_98 : decode cX7_likely 98 = .ok (.iconst (-1), 1) := by decide +kernel
theorem dX7_likely_99 : decode cX7_likely 99 = .ok (.ireturn, 1) := by decide +kernel
theorem dX7_unlike_0 : decode cX7_unlike 0 = .ok (.iconst 0, 1) := by decide +kernel
theorem dX7_unlike_1 : decode cX7_unlike 1 = .ok (.istore_n 1, 1) := by decide +kernel
theorem dX7_unlike_2 : decode cX7_unlike 2 = .ok (.iconst 0, 1) := by decide +kernel
theorem dX7_unlike_3 : decode cX7_unlike 3 = .ok (.istore_n 2, 1) := by decide +kernel
theorem dX7_unlike_4 : decode cX7_unlike 4 = .ok (.iload_n 2, 1) := by decide +kernel
theorem dX7_unlike_5 : decode cX7_unlike 5 = .ok (.bipush 16, 2) := by decide +kernel
theorem dX7_unlike_7 : decode cX7_unlike 7 = .ok (.if_icmp .ge 51, 3) := by decide +kernel
theorem dX7_unlike_10 : decode cX7_unlike 10 = .ok (.iconst 1, 1) := by decide +kernel
theorem dX7_unlike_11 : decode cX7_unlike 11 = .ok (.istore_n 3, 1) := by decide +kernel
theorem dX7_unlike_12 : decode cX7_unlike 12 = .ok (.iconst 0, 1) := by decide +kernel
theorem dX7_unlike_13 : decode cX7_unlike 13 = .ok (.istore 4, 2) := by decide +kernel
theorem dX7_unlike_15 : decode cX7_unlike 15 = .ok (.iload 4, 2) := by decide +kernel
theorem dX7_unlike_17 : decode cX7_unlike 17 = .ok (.iload_n 2, 1) := by decide +kernel
theorem dX7_unlike_18 : decode cX7_unlike 18 = .ok (.if_icmp .ge 27, 3) := by decide +kernel
theorem dX7_unlike_21 : decode cX7_unlike 21 = .ok (.aload_n 0, 1) := by decide +kernel
theorem dX7_unlike_22 : decode cX7_unlike 22 = .ok (.getfield 59, 3) := by decide +kernel
theorem dX7_unlike_25 : decode cX7_unlike 25 = .ok (.iload 4, 2) := by decide +kernel
theorem dX7_unlike_27 : decode cX7_unlike 27 = .ok (.iaload, 1) := by decide +kernel
theorem dX7_unlike_28 : decode cX7_unlike 28 = .ok (.aload_n 0, 1) := by decide +kernel
theorem dX7_unlike_29 : decode cX7_unlike 29 = .ok (.getfield 59, 3) := by decide +kernel
theorem dX7_unlike_32 : decode cX7_unlike 32 = .ok (.iload_n 2, 1) := by decide +kernel
theorem dX7_unlike_33 : decode cX7_unlike 33 = .ok (.iaload, 1) := by decide +kernel
theorem dX7_unlike_34 : decode cX7_unlike 34 = .ok (.if_icmp .ne 5, 3) := by decide +kernel
theorem dX7_unlike_37 : decode cX7_unlike 37 = .ok (.iconst 0, 1) := by decide +kernel
theorem dX7_unlike_38 : decode cX7_unlike 38 = .ok (.istore_n 3, 1) := by decide +kernel
theorem dX7_unlike_39 : decode cX7_unlike 39 = .ok (.iinc 4 1, 3) := by decide +kernel
theorem dX7_unlike_42 : decode cX7_unlike 42 = .ok (.goto (-27), 3) := by decide +kernel
theorem dX7_unlike_45 : decode cX7_unlike 45 = .ok (.iload_n 1, 1) := by decide +kernel
theorem dX7_unlike_46 : decode cX7_unlike 46 = .ok (.iload_n 3, 1) := by decide +kernel
theorem dX7_unlike_47 : decode cX7_unlike 47 = .ok (.invokestatic 192, 3) := by decide +kernel
theorem dX7_unlike_50 : decode cX7_unlike 50 = .ok (.iadd, 1) := by decide +kernel
theorem dX7_unlike_51 : decode cX7_unlike 51 = .ok (.istore_n 1, 1) := by decide +kernel
theorem dX7_unlike_52 : decode cX7_unlike 52 = .ok (.iinc 2 1, 3) := by decide +kernel
theorem dX7_unlike_55 : decode cX7_unlike 55 = .ok (.goto (-51), 3) := by decide +kernel
theorem dX7_unlike_58 : decode cX7_unlike 58 = .ok (.iload_n 1, 1) := by decide +kernel
theorem dX7_unlike_59 : decode cX7_unlike 59 = .ok (.ireturn, 1) := by decide +kernel
theorem dX7_tells_0 : decode cX7_tells 0 = .ok (.aload_n 0, 1) := by decide +kernel
theorem dX7_tells_1 : decode cX7_tells 1 = .ok (.getfield 215, 3) := by decide +kernel
theorem dX7_tells_4 : decode cX7_tells 4 = .ok (.ifCond .eq 13, 3) := by decide +kernel
theorem dX7_tells_7 : decode cX7_tells 7 = .ok (.iload_n 1, 1) := by decide +kernel
theorem dX7_tells_8 : decode cX7_tells 8 = .ok (.i2l, 1) := by decide +kernel
theorem dX7_tells_9 : decode cX7_tells 9 = .ok (.lconst 0, 1) := by decide +kernel
theorem dX7_tells_10 : decode cX7_tells 10 = .ok (.lconst 1, 1) := by decide +kernel
theorem dX7_tells_11 : decode cX7_tells 11 = .ok (.invokestatic 82, 3) := by decide +kernel
theorem dX7_tells_14 : decode cX7_tells 14 = .ok (.ifCond .ne 5, 3) := by decide +kernel
theorem dX7_tells_17 : decode cX7_tells 17 = .ok (.iconst (-1), 1) := by decide +kernel
theorem dX7_tells_18 : decode cX7_tells 18 = .ok (.ireturn, 1) := by decide +kernel
theorem dX7_tells_19 : decode cX7_tells 19 = .ok (.iconst (-1), 1) := by decide +kernel
theorem dX7_tells_20 : decode cX7_tells 20 = .ok (.istore_n 2, 1) := by decide +kernel
theorem dX7_tells_21 : decode cX7_tells 21 = .ok (.iconst 0, 1) := by decide +kernel
theorem dX7_tells_22 : decode cX7_tells 22 = .ok (.istore_n 3, 1) := by decide +kernel
theorem dX7_tells_23 : decode cX7_tells 23 = .ok (.iconst 0, 1) := by decide +kernel
theorem dX7_tells_24 : decode cX7_tells 24 = .ok (.istore 4, 2) := by decide +kernel
theorem dX7_tells_26 : decode cX7_tells 26 = .ok (.iload 4, 2) := by decide +kernel
theorem dX7_tells_28 : decode cX7_tells 28 = .ok (.bipush 8, 2) := by decide +kernel
theorem dX7_tells_30 : decode cX7_tells 30 = .ok (.if_icmp .ge 39, 3) := by decide +kernel
theorem dX7_tells_33 : decode cX7_tells 33 = .ok (.aload_n 0, 1) := by decide +kernel
theorem dX7_tells_34 : decode cX7_tells 34 = .ok (.iload 4, 2) := by decide +kernel
theorem dX7_tells_36 : decode cX7_tells 36 = .ok (.invokevirtual 465, 3) := by decide +kernel
theorem dX7_tells_39 : decode cX7_tells 39 = .ok (.iload_n 2, 1) := by decide +kernel
theorem dX7_tells_40 : decode cX7_tells 40 = .ok (.iconst (-1), 1) := by decide +kernel
theorem dX7_tells_41 : decode cX7_tells 41 = .ok (.if_icmp .eq 14, 3) := by decide +kernel
theorem dX7_tells_44 : decode cX7_tells 44 = .ok (.aload_n 0, 1) := by decide +kernel
theorem dX7_tells_45 : decode cX7_tells 45 = .ok (.invokevirtual 468, 3) := by decide +kernel
theorem dX7_tells_48 : decode cX7_tells 48 = .ok (.iload_n 3, 1) := by decide +kernel
theorem dX7_tells_49 : decode cX7_tells 49 = .ok (.if_icmp .gt 6, 3) := by decide +kernel
theorem dX7_tells_52 : decode cX7_tells 52 = .ok (.goto 11, 3) := by decide +kernel
theorem dX7_tells_55 : decode cX7_tells 55 = .ok (.iload 4, 2) := by decide +kernel
theorem dX7_tells_57 : decode cX7_tells 57 = .ok (.istore_n 2, 1) := by decide +kernel
theorem dX7_tells_58 : decode cX7_tells 58 = .ok (.aload_n 0, 1) := by decide +kernel
theorem dX7_tells_59 : decode cX7_tells 59 = .ok (.invokevirtual 468, 3) := by decide +kernel
theorem dX7_tells_62 : decode cX7_tells 62 = .ok (.istore_n 3, 1) := by decide +kernel
theorem dX7_tells_63 : decode cX7_tells 63 = .ok (.iinc 4 1, 3) := by decide +kernel
theorem dX7_tells_66 : decode cX7_tells 66 = .ok (.goto (-40), 3) := by decide +kernel
theorem dX7_tells_69 : decode cX7_tells 69 = .ok (.iload_n 1, 1) := by decide +kernel
theorem dX7_tells_70 : decode cX7_tells 70 = .ok (.ifCond .ne 7, 3) := by decide +kernel
theorem dX7_tells_73 : decode cX7_tells 73 = .ok (.iload_n 2, 1) := by decide +kernel
theorem dX7_tells_74 : decode cX7_tells 74 = .ok (.goto 4, 3) := by decide +kernel
theorem dX7_tells_77 : decode cX7_tells 77 = .ok (.iload_n 3, 1) := by decide +kernel
theorem dX7_tells_78 : decode cX7_tells 78 = .ok (.ireturn, 1) := by decide +kernel
theorem dX7_keeps_0 : decode cX7_keeps 0 = .ok (.aload_n 0, 1) := by decide +kernel
theorem dX7_keeps_1 : decode cX7_keeps 1 = .ok (.aload_n 0, 1) := by decide +kernel
theorem dX7_keeps_2 : decode cX7_keeps 2 = .ok (.getfield 471, 3) := by decide +kernel
theorem dX7_keeps_5 : decode cX7_keeps 5 = .ok (.iconst 1, 1) := by decide +kernel
theorem dX7_keeps_6 : decode cX7_keeps 6 = .ok (.iadd, 1) := by decide +kernel
theorem dX7_keeps_7 : decode cX7_keeps 7 = .ok (.bipush 20, 2) := by decide +kernel
theorem dX7_keeps_9 : decode cX7_keeps 9 = .ok (.irem, 1) := by decide +kernel
theorem dX7_keeps_10 : decode cX7_keeps 10 = .ok (.putfield 471, 3) := by decide +kernel
theorem dX7_keeps_13 : decode cX7_keeps 13 = .ok (.iconst 0, 1) := by decide +kernel
theorem dX7_keeps_14 : decode cX7_keeps 14 = .ok (.istore_n 1, 1) := by decide +kernel
theorem dX7_keeps_15 : decode cX7_keeps 15 = .ok (.iload_n 1, 1) := by decide +kernel
theorem dX7_keeps_16 : decode cX7_keeps 16 = .ok (.sipush 918, 3) := by decide +kernel
theorem dX7_keeps_19 : decode cX7_keeps 19 = .ok (.if_icmp .ge 30, 3) := by decide +kernel
theorem dX7_keeps_22 : decode cX7_keeps 22 = .ok (.aload_n 0, 1) := by decide +kernel
theorem dX7_keeps_23 : decode cX7_keeps 23 = .ok (.getfield 62, 3) := by decide +kernel
theorem dX7_keeps_26 : decode cX7_keeps 26 = .ok (.sipush 918, 3) := by decide +kernel
theorem dX7_keeps_29 : decode cX7_keeps 29 = .ok (.aload_n 0, 1) := by decide +kernel
theorem dX7_keeps_30 : decode cX7_keeps 30 = .ok (.getfield 471, 3) := by decide +kernel
theorem dX7_keeps_33 : decode cX7_keeps 33 = .ok (.imul, 1) := by decide +kernel
theorem dX7_keeps_34 : decode cX7_keeps 34 = .ok (.iload_n 1, 1) := by decide +kernel
theorem dX7_keeps_35 : decode cX7_keeps 35 = .ok (.iadd, 1) := by decide +kernel
theorem dX7_keeps_36 : decode cX7_keeps 36 = .ok (.aload_n 0, 1) := by decide +kernel
theorem dX7_keeps_37 : decode cX7_keeps 37 = .ok (.getfield 40, 3) := by decide +kernel
theorem dX7_keeps_40 : decode cX7_keeps 40 = .ok (.iload_n 1, 1) := by decide +kernel
theorem dX7_keeps_41 : decode cX7_keeps 41 = .ok (.iaload, 1) := by decide +kernel
theorem dX7_keeps_42 : decode cX7_keeps 42 = .ok (.iastore, 1) := by decide +kernel
theorem dX7_keeps_43 : decode cX7_keeps 43 = .ok (.iinc 1 1, 3) := by decide +kernel
theorem dX7_keeps_46 : decode cX7_keeps 46 = .ok (.goto (-31), 3) := by decide +kernel
theorem dX7_keeps_49 : decode cX7_keeps 49 = .ok (.aload_n 0, 1) := by decide +kernel
theorem dX7_keeps_50 : decode cX7_keeps 50 = .ok (.getfield 228, 3) := by decide +kernel
theorem dX7_keeps_53 : decode cX7_keeps 53 = .ok (.bipush 20, 2) := by decide +kernel
theorem dX7_keeps_55 : decode cX7_keeps 55 = .ok (.if_icmp .ge 13, 3) := by decide +kernel
theorem dX7_keeps_58 : decode cX7_keeps 58 = .ok (.aload_n 0, 1) := by decide +kernel
theorem dX7_keeps_59 : decode cX7_keeps 59 = .ok (.dup, 1) := by decide +kernel
theorem dX7_keeps_60 : decode cX7_keeps 60 = .ok (.getfield 228, 3) := by decide +kernel
theorem dX7_keeps_63 : decode cX7_keeps 63 = .ok (.iconst 1, 1) := by decide +kernel
theorem dX7_keeps_64 : decode cX7_keeps 64 = .ok (.iadd, 1) := by decide +kernel
theorem dX7_keeps_65 : decode cX7_keeps 65 = .ok (.putfield 228, 3) := by decide +kernel
theorem dX7_keeps_68 : decode cX7_keeps 68 = .ok (.return_, 1) := by decide +kernel
theorem dX7_undo_0 : decode cX7_undo 0 = .ok (.aload_n 0, 1) := by decide +kernel
theorem dX7_undo_1 : decode cX7_undo 1 = .ok (.getfield 228, 3) := by decide +kernel
theorem dX7_undo_4 : decode cX7_undo 4 = .ok (.ifCond .ne 9, 3) := by decide +kernel
theorem dX7_undo_7 : decode cX7_undo 7 = .ok (.aload_n 0, 1) := by decide +kernel
theorem dX7_undo_8 : decode cX7_undo 8 = .ok (.iconst 4, 1) := by decide +kernel
theorem dX7_undo_9 : decode cX7_undo 9 = .ok (.invokevirtual 76, 3) := by decide +kernel
theorem dX7_undo_12 : decode cX7_undo 12 = .ok (.ireturn, 1) := by decide +kernel
theorem dX7_undo_13 : decode cX7_undo 13 = .ok (.iconst 0, 1) := by decide +kernel
theorem dX7_undo_14 : decode cX7_undo 14 = .ok (.istore_n 1, 1) := by decide +kernel
theorem dX7_undo_15 : decode cX7_undo 15 = .ok (.iload_n 1, 1) := by decide +kernel
theorem dX7_undo_16 : decode cX7_undo 16 = .ok (.sipush 918, 3) := by decide +kernel
theorem dX7_undo_19 : decode cX7_undo 19 = .ok (.if_icmp .ge 30, 3) := by decide +kernel
theorem dX7_undo_22 : decode cX7_undo 22 = .ok (.aload_n 0, 1) := by decide +kernel
theorem dX7_undo_23 : decode cX7_undo 23 = .ok (.getfield 40, 3) := by decide +kernel
theorem dX7_undo_26 : decode cX7_undo 26 = .ok (.iload_n 1, 1) := by decide +kernel
theorem dX7_undo_27 : decode cX7_undo 27 = .ok (.aload_n 0, 1) := by decide +kernel
theorem dX7_undo_28 : decode cX7_undo 28 = .ok (.getfield 62, 3) := by decide +kernel
theorem dX7_undo_31 : decode cX7_undo 31 = .ok (.sipush 918, 3) := by decide +kernel
theorem dX7_undo_34 : decode cX7_undo 34 = .ok (.aload_n 0, 1) := by decide +kernel
theorem dX7_undo_35 : decode cX7_undo 35 = .ok (.getfield 471, 3) := by decide +kernel
theorem dX7_undo_38 : decode cX7_undo 38 = .ok (.imul, 1) := by decide +kernel
theorem dX7_undo_39 : decode cX7_undo 39 = .ok (.iload_n 1, 1) := by decide +kernel
theorem dX7_undo_40 : decode cX7_undo 40 = .ok (.iadd, 1) := by decide +kernel
theorem dX7_undo_41 : decode cX7_undo 41 = .ok (.iaload, 1) := by decide +kernel
theorem dX7_undo_42 : decode cX7_undo 42 = .ok (.iastore, 1) := by decide +kernel
theorem dX7_undo_43 : decode cX7_undo 43 = .ok (.iinc 1 1, 3) := by decide +kernel
theorem dX7_undo_46 : decode cX7_undo 46 = .ok (.goto (-31), 3) := by decide +kernel
theorem dX7_undo_49 : decode cX7_undo 49 = .ok (.aload_n 0, 1) := by decide +kernel
theorem dX7_undo_50 : decode cX7_undo 50 = .ok (.aload_n 0, 1) := by decide +kernel
theorem dX7_undo_51 : decode cX7_undo 51 = .ok (.getfield 471, 3) := by decide +kernel
theorem dX7_undo_54 : decode cX7_undo 54 = .ok (.bipush 20, 2) := by decide +kernel
theorem dX7_undo_56 : decode cX7_undo 56 = .ok (.iadd, 1) := by decide +kernel
theorem dX7_undo_57 : decode cX7_undo 57 = .ok (.iconst 1, 1) := by decide +kernel
theorem dX7_undo_58 : decode cX7_undo 58 = .ok (.isub, 1) := by decide +kernel
theorem dX7_undo_59 : decode cX7_undo 59 = .ok (.bipush 20, 2) := by decide +kernel
theorem dX7_undo_61 : decode cX7_undo 61 = .ok (.irem, 1) := by decide +kernel
theorem dX7_undo_62 : decode cX7_undo 62 = .ok (.putfield 471, 3) := by decide +kernel
theorem dX7_undo_65 : decode cX7_undo 65 = .ok (.aload_n 0, 1) := by decide +kernel
theorem dX7_undo_66 : decode cX7_undo 66 = .ok (.dup, 1) := by decide +kernel
theorem dX7_undo_67 : decode cX7_undo 67 = .ok (.getfield 228, 3) := by decide +kernel
theorem dX7_undo_70 : decode cX7_undo 70 = .ok (.iconst 1, 1) := by decide +kernel
theorem dX7_undo_71 : decode cX7_undo 71 = .ok (.isub, 1) := by decide +kernel
theorem dX7_undo_72 : decode cX7_undo 72 = .ok (.putfield 228, 3) := by decide +kernel
theorem dX7_undo_75 : decode cX7_undo 75 = .ok (.iconst 1, 1) := by decide +kernel
theorem dX7_undo_76 : decode cX7_undo 76 = .ok (.ireturn, 1) := by decide +kernel
theorem dX7_cycles_0 : decode cX7_cycles 0 = .ok (.aload_n 0, 1) := by decide +kernel
theorem dX7_cycles_1 : decode cX7_cycles 1 = .ok (.getfield 215, 3) := by decide +kernel
theorem dX7_cycles_4 : decode cX7_cycles 4 = .ok (.ifCond .eq 29, 3) := by decide +kernel
theorem dX7_cycles_7 : decode cX7_cycles 7 = .ok (.iload_n 1, 1) := by decide +kernel
theorem dX7_cycles_8 : decode cX7_cycles 8 = .ok (.i2l, 1) := by decide +kernel
theorem dX7_cycles_9 : decode cX7_cycles 9 = .ok (.lconst 1, 1) := by decide +kernel
theorem dX7_cycles_10 : decode cX7_cycles 10 = .ok (.ldc2_w 452, 3) := by decide +kernel
theorem dX7_cycles_13 : decode cX7_cycles 13 = .ok (.invokestatic 82, 3) := by decide +kernel
theorem dX7_cycles_16 : decode cX7_cycles 16 = .ok (.ifCond .eq 17, 3) := by decide +kernel
theorem dX7_cycles_19 : decode cX7_cycles 19 = .ok (.aload_n 0, 1) := by decide +kernel
theorem dX7_cycles_20 : decode cX7_cycles 20 = .ok (.getfield 40, 3) := by decide +kernel
theorem dX7_cycles_23 : decode cX7_cycles 23 = .ok (.iconst 0, 1) := by decide +kernel
theorem dX7_cycles_24 : decode cX7_cycles 24 = .ok (.iaload, 1) := by decide +kernel
theorem dX7_cycles_25 : decode cX7_cycles 25 = .ok (.iload_n 1, 1) := by decide +kernel
theorem dX7_cycles_26 : decode cX7_cycles 26 = .ok (.iadd, 1) := by decide +kernel
theorem dX7_cycles_27 : decode cX7_cycles 27 = .ok (.sipush 9999, 3) := by decide +kernel
theorem dX7_cycles_30 : decode cX7_cycles 30 = .ok (.if_icmp .le 9, 3) := by decide +kernel
theorem dX7_cycles_33 : decode cX7_cycles 33 = .ok (.aload_n 0, 1) := by decide +kernel
theorem dX7_cycles_34 : decode cX7_cycles 34 = .ok (.iconst 2, 1) := by decide +kernel
theorem dX7_cycles_35 : decode cX7_cycles 35 = .ok (.invokevirtual 72, 3) := by decide +kernel
theorem dX7_cycles_38 : decode cX7_cycles 38 = .ok (.ireturn, 1) := by decide +kernel
theorem dX7_cycles_39 : decode cX7_cycles 39 = .ok (.aload_n 0, 1) := by decide +kernel
theorem dX7_cycles_40 : decode cX7_cycles 40 = .ok (.invokevirtual 474, 3) := by decide +kernel
theorem dX7_cycles_43 : decode cX7_cycles 43 = .ok (.aload_n 0, 1) := by decide +kernel
theorem dX7_cycles_44 : decode cX7_cycles 44 = .ok (.getfield 40, 3) := by decide +kernel
theorem dX7_cycles_47 : decode cX7_cycles 47 = .ok (.iconst 1, 1) := by decide +kernel
theorem dX7_cycles_48 : decode cX7_cycles 48 = .ok (.iaload, 1) := by decide +kernel
theorem dX7_cycles_49 : decode cX7_cycles 49 = .ok (.istore_n 2, 1) := by decide +kernel
theorem dX7_cycles_50 : decode cX7_cycles 50 = .ok (.iconst 0, 1) := by decide +kernel
theorem dX7_cycles_51 : decode cX7_cycles 51 = .ok (.istore_n 3, 1) := by decide +kernel
theorem dX7_cycles_52 : decode cX7_cycles 52 = .ok (.iload_n 3, 1) := by decide +kernel
theorem dX7_cycles_53 : decode cX7_cycles 53 = .ok (.iload_n 1, 1) := by decide +kernel
theorem dX7_cycles_54 : decode cX7_cycles 54 = .ok (.if_icmp .ge 13, 3) := by decide +kernel
theorem dX7_cycles_57 : decode cX7_cycles 57 = .ok (.aload_n 0, 1) := by decide +kernel
theorem dX7_cycles_58 : decode cX7_cycles 58 = .ok (.invokevirtual 437, 3) := by decide +kernel
theorem dX7_cycles_61 : decode cX7_cycles 61 = .ok (.iinc 3 1, 3) := by decide +kernel
theorem dX7_cycles_64 : decode cX7_cycles 64 = .ok (.goto (-12), 3) := by decide +kernel
theorem dX7_cycles_67 : decode cX7_cycles 67 = .ok (.aload_n 0, 1) := by decide +kernel
theorem dX7_cycles_68 : decode cX7_cycles 68 = .ok (.getfield 40, 3) := by decide +kernel
theorem dX7_cycles_71 : decode cX7_cycles 71 = .ok (.iconst 1, 1) := by decide +kernel
theorem dX7_cycles_72 : decode cX7_cycles 72 = .ok (.iaload, 1) := by decide +kernel
theorem dX7_cycles_73 : decode cX7_cycles 73 = .ok (.iload_n 2, 1) := by decide +kernel
theorem dX7_cycles_74 : decode cX7_cycles 74 = .ok (.isub, 1) := by decide +kernel
theorem dX7_cycles_75 : decode cX7_cycles 75 = .ok (.ireturn, 1) := by decide +kernel
theorem dX7_poke_0 : decode cX7_poke 0 = .ok (.aload_n 0, 1) := by decide +kernel
theorem dX7_poke_1 : decode cX7_poke 1 = .ok (.iload_n 1, 1) := by decide +kernel
theorem dX7_poke_2 : decode cX7_poke 2 = .ok (.iload_n 2, 1) := by decide +kernel
theorem dX7_poke_3 : decode cX7_poke 3 = .ok (.invokevirtual 404, 3) := by decide +kernel
theorem dX7_poke_6 : decode cX7_poke 6 = .ok (.istore 4, 2) := by decide +kernel
theorem dX7_poke_8 : decode cX7_poke 8 = .ok (.iload 4, 2) := by decide +kernel
theorem dX7_poke_10 : decode cX7_poke 10 = .ok (.iconst (-1), 1) := by decide +kernel
theorem dX7_poke_11 : decode cX7_poke 11 = .ok (.if_icmp .eq 17, 3) := by decide +kernel
theorem dX7_poke_14 : decode cX7_poke 14 = .ok (.iload_n 3, 1) := by decide +kernel
theorem dX7_poke_15 : decode cX7_poke 15 = .ok (.i2l, 1) := by decide +kernel
theorem dX7_poke_16 : decode cX7_poke 16 = .ok (.ldc2_w 292, 3) := by decide +kernel
theorem dX7_poke_19 : decode cX7_poke 19 = .ok (.ldc2_w 290, 3) := by decide +kernel
theorem dX7_poke_22 : decode cX7_poke 22 = .ok (.invokestatic 82, 3) := by decide +kernel
theorem dX7_poke_25 : decode cX7_poke 25 = .ok (.ifCond .ne 12, 3) := by decide +kernel
theorem dX7_poke_28 : decode cX7_poke 28 = .ok (.aload_n 0, 1) := by decide +kernel
theorem dX7_poke_29 : decode cX7_poke 29 = .ok (.iconst 3, 1) := by decide +kernel
theorem dX7_poke_30 : decode cX7_poke 30 = .ok (.invokevirtual 72, 3) := by decide +kernel
theorem dX7_poke_33 : decode cX7_poke 33 = .ok (.pop, 1) := by decide +kernel
theorem dX7_poke_34 : decode cX7_poke 34 = .ok (.ldc 167, 2) := by decide +kernel
theorem dX7_poke_36 : decode cX7_poke 36 = .ok (.ireturn, 1) := by decide +kernel
theorem dX7_poke_37 : decode cX7_poke 37 = .ok (.aload_n 0, 1) := by decide +kernel
theorem dX7_poke_38 : decode cX7_poke 38 = .ok (.invokevirtual 474, 3) := by decide +kernel
theorem dX7_poke_41 : decode cX7_poke 41 = .ok (.aload_n 0, 1) := by decide +kernel
theorem dX7_poke_42 : decode cX7_poke 42 = .ok (.getfield 40, 3) := by decide +kernel
theorem dX7_poke_45 : decode cX7_poke 45 = .ok (.bipush 8, 2) := by decide +kernel
theorem dX7_poke_47 : decode cX7_poke 47 = .ok (.iload 4, 2) := by decide +kernel
theorem dX7_poke_49 : decode cX7_poke 49 = .ok (.iadd, 1) := by decide +kernel
theorem dX7_poke_50 : decode cX7_poke 50 = .ok (.iaload, 1) := by decide +kernel
theorem dX7_poke_51 : decode cX7_poke 51 = .ok (.istore 5, 2) := by decide +kernel
theorem dX7_poke_53 : decode cX7_poke 53 = .ok (.aload_n 0, 1) := by decide +kernel
theorem dX7_poke_54 : decode cX7_poke 54 = .ok (.getfield 40, 3) := by decide +kernel
theorem dX7_poke_57 : decode cX7_poke 57 = .ok (.bipush 8, 2) := by decide +kernel
theorem dX7_poke_59 : decode cX7_poke 59 = .ok (.iload 4, 2) := by decide +kernel
theorem dX7_poke_61 : decode cX7_poke 61 = .ok (.iadd, 1) := by decide +kernel
theorem dX7_poke_62 : decode cX7_poke 62 = .ok (.iload_n 3, 1) := by decide +kernel
theorem dX7_poke_63 : decode cX7_poke 63 = .ok (.iastore, 1) := by decide +kernel
theorem dX7_poke_64 : decode cX7_poke 64 = .ok (.iload 5, 2) := by decide +kernel
theorem dX7_poke_66 : decode cX7_poke 66 = .ok (.ireturn, 1) := by decide +kernel
theorem dX7_set_0 : decode cX7_set 0 = .ok (.aload_n 0, 1) := by decide +kernel
theorem dX7_set_1 : decode cX7_set 1 = .ok (.getfield 215, 3) := by decide +kernel
theorem dX7_set_4 : decode cX7_set 4 = .ok (.ifCond .eq 35, 3) := by decide +kernel
theorem dX7_set_7 : decode cX7_set 7 = .ok (.iload_n 1, 1) := by decide +kernel
theorem dX7_set_8 : decode cX7_set 8 = .ok (.i2l, 1) := by decide +kernel
theorem dX7_set_9 : decode cX7_set 9 = .ok (.lconst 0, 1) := by decide +kernel
theorem dX7_set_10 : decode cX7_set 10 = .ok (.lconst 1, 1) := by decide +kernel
theorem dX7_set_11 : decode cX7_set 11 = .ok (.invokestatic 82, 3) := by decide +kernel
theorem dX7_set_14 : decode cX7_set 14 = .ok (.ifCond .eq 25, 3) := by decide +kernel
theorem dX7_set_17 : decode cX7_set 17 = .ok (.iload_n 2, 1) := by decide +kernel
theorem dX7_set_18 : decode cX7_set 18 = .ok (.i2l, 1) := by decide +kernel
theorem dX7_set_19 : decode cX7_set 19 = .ok (.lconst 0, 1) := by decide +kernel
theorem dX7_set_20 : decode cX7_set 20 = .ok (.lconst 1, 1) := by decide +kernel
theorem dX7_set_21 : decode cX7_set 21 = .ok (.invokestatic 82, 3) := by decide +kernel
theorem dX7_set_24 : decode cX7_set 24 = .ok (.ifCond .eq 15, 3) := by decide +kernel
theorem dX7_set_27 : decode cX7_set 27 = .ok (.iload_n 3, 1) := by decide +kernel
theorem dX7_set_28 : decode cX7_set 28 = .ok (.i2l, 1) := by decide +kernel
theorem dX7_set_29 : decode cX7_set 29 = .ok (.lconst 0, 1) := by decide +kernel
theorem dX7_set_30 : decode cX7_set 30 = .ok (.ldc2_w 324, 3) := by decide +kernel
theorem dX7_set_33 : decode cX7_set 33 = .ok (.invokestatic 82, 3) := by decide +kernel
theorem dX7_set_36 : decode cX7_set 36 = .ok (.ifCond .ne 9, 3) := by decide +kernel
theorem dX7_set_39 : decode cX7_set 39 = .ok (.aload_n 0, 1) := by decide +kernel
theorem dX7_set_40 : decode cX7_set 40 = .ok (.iconst 3, 1) := by decide +kernel
theorem dX7_set_41 : decode cX7_set 41 = .ok (.invokevirtual 76, 3) := by decide +kernel
theorem dX7_set_44 : decode cX7_set 44 = .ok (.ireturn, 1) := by decide +kernel
theorem dX7_set_45 : decode cX7_set 45 = .ok (.aload_n 0, 1) := by decide +kernel
theorem dX7_set_46 : decode cX7_set 46 = .ok (.invokevirtual 474, 3) := by decide +kernel
theorem dX7_set_49 : decode cX7_set 49 = .ok (.aload_n 0, 1) := by decide +kernel
theorem dX7_set_50 : decode cX7_set 50 = .ok (.getfield 40, 3) := by decide +kernel
theorem dX7_set_53 : decode cX7_set 53 = .ok (.iconst 3, 1) := by decide +kernel
theorem dX7_set_54 : decode cX7_set 54 = .ok (.iload_n 1, 1) := by decide +kernel
theorem dX7_set_55 : decode cX7_set 55 = .ok (.iastore, 1) := by decide +kernel
theorem dX7_set_56 : decode cX7_set 56 = .ok (.aload_n 0, 1) := by decide +kernel
theorem dX7_set_57 : decode cX7_set 57 = .ok (.getfield 40, 3) := by decide +kernel
theorem dX7_set_60 : decode cX7_set 60 = .ok (.iconst 4, 1) := by decide +kernel
theorem dX7_set_61 : decode cX7_set 61 = .ok (.iload_n 2, 1) := by decide +kernel
theorem dX7_set_62 : decode cX7_set 62 = .ok (.iastore, 1) := by decide +kernel
theorem dX7_set_63 : decode cX7_set 63 = .ok (.aload_n 0, 1) := by decide +kernel
theorem dX7_set_64 : decode cX7_set 64 = .ok (.getfield 40, 3) := by decide +kernel
theorem dX7_set_67 : decode cX7_set 67 = .ok (.iconst 5, 1) := by decide +kernel
theorem dX7_set_68 : decode cX7_set 68 = .ok (.iload_n 3, 1) := by decide +kernel
theorem dX7_set_69 : decode cX7_set 69 = .ok (.iastore, 1) := by decide +kernel
theorem dX7_set_70 : decode cX7_set 70 = .ok (.aload_n 0, 1) := by decide +kernel
theorem dX7_set_71 : decode cX7_set 71 = .ok (.iconst (-1), 1) := by decide +kernel
theorem dX7_set_72 : decode cX7_set 72 = .ok (.invokevirtual 225, 3) := by decide +kernel
theorem dX7_set_75 : decode cX7_set 75 = .ok (.iconst 1, 1) := by decide +kernel
theorem dX7_set_76 : decode cX7_set 76 = .ok (.ireturn, 1) := by decide +kernel
theorem dX7_begin_0 : decode cX7_begin 0 = .ok (.aload_n 0, 1) := by decide +kernel
theorem dX7_begin_1 : decode cX7_begin 1 = .ok (.getfield 215, 3) := by decide +kernel
theorem dX7_begin_4 : decode cX7_begin 4 = .ok (.ifCond .ne 9, 3) := by decide +kernel
theorem dX7_begin_7 : decode cX7_begin 7 = .ok (.aload_n 0, 1) := by decide +kernel
theorem dX7_begin_8 : decode cX7_begin 8 = .ok (.iconst 3, 1) := by decide +kernel
theorem dX7_begin_9 : decode cX7_begin 9 = .ok (.invokevirtual 76, 3) := by decide +kernel
theorem dX7_begin_12 : decode cX7_begin 12 = .ok (.ireturn, 1) := by decide +kernel
theorem dX7_begin_13 : decode cX7_begin 13 = .ok (.aload_n 0, 1) := by decide +kernel
theorem dX7_begin_14 : decode cX7_begin 14 = .ok (.invokevirtual 474, 3) := by decide +kernel
theorem dX7_begin_17 : decode cX7_begin 17 = .ok (.aload_n 0, 1) := by decide +kernel
theorem dX7_begin_18 : decode cX7_begin 18 = .ok (.iconst (-1), 1) := by decide +kernel
theorem dX7_begin_19 : decode cX7_begin 19 = .ok (.invokevirtual 225, 3) := by decide +kernel
theorem dX7_begin_22 : decode cX7_begin 22 = .ok (.iconst 1, 1) := by decide +kernel
theorem dX7_begin_23 : decode cX7_begin 23 = .ok (.ireturn, 1) := by decide +kernel
theorem dX7_seed_0 : decode cX7_seed 0 = .ok (.iload_n 1, 1) := by decide +kernel
theorem dX7_seed_1 : decode cX7_seed 1 = .ok (.ifCond .ge 9, 3) := by decide +kernel
theorem dX7_seed_4 : decode cX7_seed 4 = .ok (.aload_n 0, 1) := by decide +kernel
theorem dX7_seed_5 : decode cX7_seed 5 = .ok (.iconst 5, 1) := by decide +kernel
theorem dX7_seed_6 : decode cX7_seed 6 = .ok (.invokevirtual 76, 3) := by decide +kernel
theorem dX7_seed_9 : decode cX7_seed 9 = .ok (.ireturn, 1) := by decide +kernel
theorem dX7_seed_10 : decode cX7_seed 10 = .ok (.aload_n 0, 1) := by decide +kernel
theorem dX7_seed_11 : decode cX7_seed 11 = .ok (.iload_n 1, 1) := by decide +kernel
theorem dX7_seed_12 : decode cX7_seed 12 = .ok (.i2l, 1) := by decide +kernel
theorem dX7_seed_13 : decode cX7_seed 13 = .ok (.putfield 65, 3) := by decide +kernel
theorem dX7_seed_16 : decode cX7_seed 16 = .ok (.iconst 1, 1) := by decide +kernel
theorem dX7_seed_17 : decode cX7_seed 17 = .ok (.ireturn, 1) := by decide +kernel
theorem dX7_drawOf_0 : decode cX7_drawOf 0 = .ok (.aload_n 0, 1) := by decide +kernel
theorem dX7_drawOf_1 : decode cX7_drawOf 1 = .ok (.ldc2_w 477, 3) := by decide +kernel
theorem dX7_drawOf_4 : decode cX7_drawOf 4 = .ok (.aload_n 0, 1) := by decide +kernel
theorem dX7_drawOf_5 : decode cX7_drawOf 5 = .ok (.getfield 65, 3) := by decide +kernel
theorem dX7_drawOf_8 : decode cX7_drawOf 8 = .ok (.lmul, 1) := by decide +kernel
theorem dX7_drawOf_9 : decode cX7_drawOf 9 = .ok (.ldc2_w 479, 3) := by decide +kernel
theorem dX7_drawOf_12 : decode cX7_drawOf 12 = .ok (.ladd, 1) := by decide +kernel
theorem dX7_drawOf_13 : decode cX7_drawOf 13 = .ok (.ldc2_w 481, 3) := by decide +kernel
theorem dX7_drawOf_16 : decode cX7_drawOf 16 = .ok (.lrem, 1) := by decide +kernel
theorem dX7_drawOf_17 : decode cX7_drawOf 17 = .ok (.putfield 65, 3) := by decide +kernel
theorem dX7_drawOf_20 : decode cX7_drawOf 20 = .ok (.aload_n 0, 1) := by decide +kernel
theorem dX7_drawOf_21 : decode cX7_drawOf 21 = .ok (.getfield 65, 3) := by decide +kernel
theorem dX7_drawOf_24 : decode cX7_drawOf 24 = .ok (.ldc2_w 483, 3) := by decide +kernel
theorem dX7_drawOf_27 : decode cX7_drawOf 27 = .ok (.ldiv, 1) := by decide +kernel
theorem dX7_drawOf_28 : decode cX7_drawOf 28 = .ok (.iload_n 1, 1) := by decide +kernel
theorem dX7_drawOf_29 : decode cX7_drawOf 29 = .ok (.i2l, 1) := by decide +kernel
theorem dX7_drawOf_30 : decode cX7_drawOf 30 = .ok (.lrem, 1) := by decide +kernel
theorem dX7_drawOf_31 : decode cX7_drawOf 31 = .ok (.l2i, 1) := by decide +kernel
theorem dX7_drawOf_32 : decode cX7_drawOf 32 = .ok (.ireturn, 1) := by decide +kernel
theorem dX7_chance_0 : decode cX7_chance 0 = .ok (.aload_n 0, 1) := by decide +kernel
theorem dX7_chance_1 : decode cX7_chance 1 = .ok (.getfield 215, 3) := by decide +kernel
theorem dX7_chance_4 : decode cX7_chance 4 = .ok (.ifCond .eq 15, 3) := by decide +kernel
theorem dX7_chance_7 : decode cX7_chance 7 = .ok (.iload_n 1, 1) := by decide +kernel
theorem dX7_chance_8 : decode cX7_chance 8 = .ok (.i2l, 1) := by decide +kernel
theorem dX7_chance_9 : decode cX7_chance 9 = .ok (.lconst 1, 1) := by decide +kernel
theorem dX7_chance_10 : decode cX7_chance 10 = .ok (.ldc2_w 485, 3) := by decide +kernel
theorem dX7_chance_13 : decode cX7_chance 13 = .ok (.invokestatic 82, 3) := by decide +kernel
theorem dX7_chance_16 : decode cX7_chance 16 = .ok (.ifCond .ne 9, 3) := by decide +kernel
theorem dX7_chance_19 : decode cX7_chance 19 = .ok (.aload_n 0, 1) := by decide +kernel
theorem dX7_chance_20 : decode cX7_chance 20 = .ok (.iconst 2, 1) := by decide +kernel
theorem dX7_chance_21 : decode cX7_chance 21 = .ok (.invokevirtual 72, 3) := by decide +kernel
theorem dX7_chance_24 : decode cX7_chance 24 = .ok (.ireturn, 1) := by decide +kernel
theorem dX7_chance_25 : decode cX7_chance 25 = .ok (.aload_n 0, 1) := by decide +kernel
theorem dX7_chance_26 : decode cX7_chance 26 = .ok (.invokevirtual 474, 3) := by decide +kernel
theorem dX7_chance_29 : decode cX7_chance 29 = .ok (.aload_n 0, 1) := by decide +kernel
theorem dX7_chance_30 : decode cX7_chance 30 = .ok (.getfield 40, 3) := by decide +kernel
theorem dX7_chance_33 : decode cX7_chance 33 = .ok (.iconst 1, 1) := by decide +kernel
theorem dX7_chance_34 : decode cX7_chance 34 = .ok (.iaload, 1) := by decide +kernel
theorem dX7_chance_35 : decode cX7_chance 35 = .ok (.istore_n 2, 1) := by decide +kernel
theorem dX7_chance_36 : decode cX7_chance 36 = .ok (.iconst 0, 1) := by decide +kernel
theorem dX7_chance_37 : decode cX7_chance 37 = .ok (.istore_n 3, 1) := by decide +kernel
theorem dX7_chance_38 : decode cX7_chance 38 = .ok (.iload_n 3, 1) := by decide +kernel
theorem dX7_chance_39 : decode cX7_chance 39 = .ok (.iload_n 1, 1) := by decide +kernel
theorem dX7_chance_40 : decode cX7_chance 40 = .ok (.if_icmp .ge 75, 3) := by decide +kernel
theorem dX7_chance_43 : decode cX7_chance 43 = .ok (.aload_n 0, 1) := by decide +kernel
theorem dX7_chance_44 : decode cX7_chance 44 = .ok (.bipush 64, 2) := by decide +kernel
theorem dX7_chance_46 : decode cX7_chance 46 = .ok (.invokevirtual 487, 3) := by decide +kernel
theorem dX7_chance_49 : decode cX7_chance 49 = .ok (.istore 4, 2) := by decide +kernel
theorem dX7_chance_51 : decode cX7_chance 51 = .ok (.aload_n 0, 1) := by decide +kernel
theorem dX7_chance_52 : decode cX7_chance 52 = .ok (.getfield 40, 3) := by decide +kernel
theorem dX7_chance_55 : decode cX7_chance 55 = .ok (.bipush 8, 2) := by decide +kernel
theorem dX7_chance_57 : decode cX7_chance 57 = .ok (.iload 4, 2) := by decide +kernel
theorem dX7_chance_59 : decode cX7_chance 59 = .ok (.iadd, 1) := by decide +kernel
theorem dX7_chance_60 : decode cX7_chance 60 = .ok (.aload_n 0, 1) := by decide +kernel
theorem dX7_chance_61 : decode cX7_chance 61 = .ok (.bipush 16, 2) := by decide +kernel
theorem dX7_chance_63 : decode cX7_chance 63 = .ok (.invokevirtual 487, 3) := by decide +kernel
theorem dX7_chance_66 : decode cX7_chance 66 = .ok (.iastore, 1) := by decide +kernel
theorem dX7_chance_67 : decode cX7_chance 67 = .ok (.aload_n 0, 1) := by decide +kernel
theorem dX7_chance_68 : decode cX7_chance 68 = .ok (.bipush 8, 2) := by decide +kernel
theorem dX7_chance_70 : decode cX7_chance 70 = .ok (.invokevirtual 487, 3) := by decide +kernel
theorem dX7_chance_73 : decode cX7_chance 73 = .ok (.iconst 1, 1) := by decide +kernel
theorem dX7_chance_74 : decode cX7_chance 74 = .ok (.iadd, 1) := by decide +kernel
theorem dX7_chance_75 : decode cX7_chance 75 = .ok (.istore 5, 2) := by decide +kernel
theorem dX7_chance_77 : decode cX7_chance 77 = .ok (.iconst 0, 1) := by decide +kernel
theorem dX7_chance_78 : decode cX7_chance 78 = .ok (.istore 6, 2) := by decide +kernel
theorem dX7_chance_80 : decode cX7_chance 80 = .ok (.iload 6, 2) := by decide +kernel
theorem dX7_chance_82 : decode cX7_chance 82 = .ok (.iload 5, 2) := by decide +kernel
theorem dX7_chance_84 : decode cX7_chance 84 = .ok (.if_icmp .ge 25, 3) := by decide +kernel
theorem dX7_chance_87 : decode cX7_chance 87 = .ok (.aload_n 0, 1) := by decide +kernel
theorem dX7_chance_88 : decode cX7_chance 88 = .ok (.getfield 40, 3) := by decide +kernel
theorem dX7_chance_91 : decode cX7_chance 91 = .ok (.iconst 0, 1) := by decide +kernel
theorem dX7_chance_92 : decode cX7_chance 92 = .ok (.iaload, 1) := by decide +kernel
theorem dX7_chance_93 : decode cX7_chance 93 = .ok (.sipush 9999, 3) := by decide +kernel
theorem dX7_chance_96 : decode cX7_chance 96 = .ok (.if_icmp .ge 13, 3) := by decide +kernel
theorem dX7_chance_99 : decode cX7_chance 99 = .ok (.aload_n 0, 1) := by decide +kernel
theorem dX7_chance_100 : decode cX7_chance 100 = .ok (.invokevirtual 437, 3) := by decide +kernel
theorem dX7_chance_103 : decode cX7_chance 103 = .ok (.iinc 6 1, 3) := by decide +kernel
theorem dX7_chance_106 : decode cX7_chance 106 = .ok (.goto (-26), 3) := by decide +kernel
theorem dX7_chance_109 : decode cX7_chance 109 = .ok (.iinc 3 1, 3) := by decide +kernel
theorem dX7_chance_112 : decode cX7_chance 112 = .ok (.goto (-74), 3) := by decide +kernel
theorem dX7_chance_115 : decode cX7_chance 115 = .ok (.aload_n 0, 1) := by decide +kernel
theorem dX7_chance_116 : decode cX7_chance 116 = .ok (.getfield 40, 3) := by decide +kernel
theorem dX7_chance_119 : decode cX7_chance 119 = .ok (.iconst 1, 1) := by decide +kernel
theorem dX7_chance_120 : decode cX7_chance 120 = .ok (.iaload, 1) := by decide +kernel
theorem dX7_chance_121 : decode cX7_chance 121 = .ok (.iload_n 2, 1) := by decide +kernel
theorem dX7_chance_122 : decode cX7_chance 122 = .ok (.isub, 1) := by decide +kernel
theorem dX7_chance_123 : decode cX7_chance 123 = .ok (.ireturn, 1) := by decide +kernel
