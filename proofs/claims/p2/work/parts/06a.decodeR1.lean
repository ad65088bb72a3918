theorem dX7_dies_34 : decode cX7_dies 34 = .ok (.iload_n 3, 1) := by decide +kernel
theorem dX7_dies_35 : decode cX7_dies 35 = .ok (.aload_n 0, 1) := by decide +kernel
theorem dX7_dies_36 : decode cX7_dies 36 = .ok (.iload_n 1, 1) := by decide +kernel
theorem dX7_dies_37 : decode cX7_dies 37 = .ok (.iconst 5, 1) := by decide +kernel
theorem dX7_dies_38 : decode cX7_dies 38 = .ok (.invokevirtual 252, 3) := by decide +kernel
theorem dX7_dies_41 : decode cX7_dies 41 = .ok (.if_icmp .ge 26, 3) := by decide +kernel
theorem dX7_dies_44 : decode cX7_dies 44 = .ok (.aload_n 0, 1) := by decide +kernel
theorem dX7_dies_45 : decode cX7_dies 45 = .ok (.getfield 40, 3) := by decide +kernel
theorem dX7_dies_48 : decode cX7_dies 48 = .ok (.iload_n 1, 1) := by decide +kernel
theorem dX7_dies_49 : decode cX7_dies 49 = .ok (.iload_n 3, 1) := by decide +kernel
theorem dX7_dies_50 : decode cX7_dies 50 = .ok (.iconst 2, 1) := by decide +kernel
theorem dX7_dies_51 : decode cX7_dies 51 = .ok (.invokestatic 268, 3) := by decide +kernel
theorem dX7_dies_54 : decode cX7_dies 54 = .ok (.dup2, 1) := by decide +kernel
theorem dX7_dies_55 : decode cX7_dies 55 = .ok (.iaload, 1) := by decide +kernel
theorem dX7_dies_56 : decode cX7_dies 56 = .ok (.iload_n 2, 1) := by decide +kernel
theorem dX7_dies_57 : decode cX7_dies 57 = .ok (.iconst (-1), 1) := by decide +kernel
theorem dX7_dies_58 : decode cX7_dies 58 = .ok (.ixor, 1) := by decide +kernel
theorem dX7_dies_59 : decode cX7_dies 59 = .ok (.iand, 1) := by decide +kernel
theorem dX7_dies_60 : decode cX7_dies 60 = .ok (.iastore, 1) := by decide +kernel
theorem dX7_dies_61 : decode cX7_dies 61 = .ok (.iinc 3 1, 3) := by decide +kernel
theorem dX7_dies_64 : decode cX7_dies 64 = .ok (.goto (-30), 3) := by decide +kernel
theorem dX7_dies_67 : decode cX7_dies 67 = .ok (.return_, 1) := by decide +kernel
theorem dX7_endsTop_0 : decode cX7_endsTop 0 = .ok (.aload_n 0, 1) := by decide +kernel
theorem dX7_endsTop_1 : decode cX7_endsTop 1 = .ok (.iload_n 1, 1) := by decide +kernel
theorem dX7_endsTop_2 : decode cX7_endsTop 2 = .ok (.invokevirtual 272, 3) := by decide +kernel
theorem dX7_endsTop_5 : decode cX7_endsTop 5 = .ok (.istore_n 2, 1) := by decide +kernel
theorem dX7_endsTop_6 : decode cX7_endsTop 6 = .ok (.iload_n 2, 1) := by decide +kernel
theorem dX7_endsTop_7 : decode cX7_endsTop 7 = .ok (.ifCond .lt 37, 3) := by decide +kernel
theorem dX7_endsTop_10 : decode cX7_endsTop 10 = .ok (.aload_n 0, 1) := by decide +kernel
theorem dX7_endsTop_11 : decode cX7_endsTop 11 = .ok (.getfield 40, 3) := by decide +kernel
theorem dX7_endsTop_14 : decode cX7_endsTop 14 = .ok (.iload_n 1, 1) := by decide +kernel
theorem dX7_endsTop_15 : decode cX7_endsTop 15 = .ok (.iload_n 2, 1) := by decide +kernel
theorem dX7_endsTop_16 : decode cX7_endsTop 16 = .ok (.iconst 0, 1) := by decide +kernel
theorem dX7_endsTop_17 : decode cX7_endsTop 17 = .ok (.invokestatic 268, 3) := by decide +kernel
theorem dX7_endsTop_20 : decode cX7_endsTop 20 = .ok (.iaload, 1) := by decide +kernel
theorem dX7_endsTop_21 : decode cX7_endsTop 21 = .ok (.aload_n 0, 1) := by decide +kernel
theorem dX7_endsTop_22 : decode cX7_endsTop 22 = .ok (.invokevirtual 212, 3) := by decide +kernel
theorem dX7_endsTop_25 : decode cX7_endsTop 25 = .ok (.if_icmp .ne 19, 3) := by decide +kernel
theorem dX7_endsTop_28 : decode cX7_endsTop 28 = .ok (.aload_n 0, 1) := by decide +kernel
theorem dX7_endsTop_29 : decode cX7_endsTop 29 = .ok (.iload_n 1, 1) := by decide +kernel
theorem dX7_endsTop_30 : decode cX7_endsTop 30 = .ok (.aload_n 0, 1) := by decide +kernel
theorem dX7_endsTop_31 : decode cX7_endsTop 31 = .ok (.getfield 40, 3) := by decide +kernel
theorem dX7_endsTop_34 : decode cX7_endsTop 34 = .ok (.iload_n 1, 1) := by decide +kernel
theorem dX7_endsTop_35 : decode cX7_endsTop 35 = .ok (.iload_n 2, 1) := by decide +kernel
theorem dX7_endsTop_36 : decode cX7_endsTop 36 = .ok (.iconst 2, 1) := by decide +kernel
theorem dX7_endsTop_37 : decode cX7_endsTop 37 = .ok (.invokestatic 268, 3) := by decide +kernel
theorem dX7_endsTop_40 : decode cX7_endsTop 40 = .ok (.iaload, 1) := by decide +kernel
theorem dX7_endsTop_41 : decode cX7_endsTop 41 = .ok (.invokevirtual 275, 3) := by decide +kernel
theorem dX7_endsTop_44 : decode cX7_endsTop 44 = .ok (.return_, 1) := by decide +kernel
theorem dX7_clears_0 : decode cX7_clears 0 = .ok (.aload_n 0, 1) := by decide +kernel
theorem dX7_clears_1 : decode cX7_clears 1 = .ok (.iload_n 1, 1) := by decide +kernel
theorem dX7_clears_2 : decode cX7_clears 2 = .ok (.invokevirtual 278, 3) := by decide +kernel
theorem dX7_clears_5 : decode cX7_clears 5 = .ok (.aload_n 0, 1) := by decide +kernel
theorem dX7_clears_6 : decode cX7_clears 6 = .ok (.iload_n 1, 1) := by decide +kernel
theorem dX7_clears_7 : decode cX7_clears 7 = .ok (.invokevirtual 272, 3) := by decide +kernel
theorem dX7_clears_10 : decode cX7_clears 10 = .ok (.istore_n 2, 1) := by decide +kernel
theorem dX7_clears_11 : decode cX7_clears 11 = .ok (.iload_n 2, 1) := by decide +kernel
theorem dX7_clears_12 : decode cX7_clears 12 = .ok (.ifCond .lt 71, 3) := by decide +kernel
theorem dX7_clears_15 : decode cX7_clears 15 = .ok (.aload_n 0, 1) := by decide +kernel
theorem dX7_clears_16 : decode cX7_clears 16 = .ok (.getfield 40, 3) := by decide +kernel
theorem dX7_clears_19 : decode cX7_clears 19 = .ok (.iload_n 1, 1) := by decide +kernel
theorem dX7_clears_20 : decode cX7_clears 20 = .ok (.iload_n 2, 1) := by decide +kernel
theorem dX7_clears_21 : decode cX7_clears 21 = .ok (.iconst 2, 1) := by decide +kernel
theorem dX7_clears_22 : decode cX7_clears 22 = .ok (.invokestatic 268, 3) := by decide +kernel
theorem dX7_clears_25 : decode cX7_clears 25 = .ok (.iaload, 1) := by decide +kernel
theorem dX7_clears_26 : decode cX7_clears 26 = .ok (.ifCond .eq 32, 3) := by decide +kernel
theorem dX7_clears_29 : decode cX7_clears 29 = .ok (.iload_n 2, 1) := by decide +kernel
theorem dX7_clears_30 : decode cX7_clears 30 = .ok (.ifCond .le 53, 3) := by decide +kernel
theorem dX7_clears_33 : decode cX7_clears 33 = .ok (.aload_n 0, 1) := by decide +kernel
theorem dX7_clears_34 : decode cX7_clears 34 = .ok (.getfield 40, 3) := by decide +kernel
theorem dX7_clears_37 : decode cX7_clears 37 = .ok (.iload_n 1, 1) := by decide +kernel
theorem dX7_clears_38 : decode cX7_clears 38 = .ok (.iload_n 2, 1) := by decide +kernel
theorem dX7_clears_39 : decode cX7_clears 39 = .ok (.iconst 0, 1) := by decide +kernel
theorem dX7_clears_40 : decode cX7_clears 40 = .ok (.invokestatic 268, 3) := by decide +kernel
theorem dX7_clears_43 : decode cX7_clears 43 = .ok (.iaload, 1) := by decide +kernel
theorem dX7_clears_44 : decode cX7_clears 44 = .ok (.aload_n 0, 1) := by decide +kernel
theorem dX7_clears_45 : decode cX7_clears 45 = .ok (.getfield 40, 3) := by decide +kernel
theorem dX7_clears_48 : decode cX7_clears 48 = .ok (.iload_n 1, 1) := by decide +kernel
theorem dX7_clears_49 : decode cX7_clears 49 = .ok (.iload_n 2, 1) := by decide +kernel
theorem dX7_clears_50 : decode cX7_clears 50 = .ok (.iconst 1, 1) := by decide +kernel
theorem dX7_clears_51 : decode cX7_clears 51 = .ok (.invokestatic 268, 3) := by decide +kernel
theorem dX7_clears_54 : decode cX7_clears 54 = .ok (.iaload, 1) := by decide +kernel
theorem dX7_clears_55 : decode cX7_clears 55 = .ok (.if_icmp .ne 28, 3) := by decide +kernel
theorem dX7_clears_58 : decode cX7_clears 58 = .ok (.aload_n 0, 1) := by decide +kernel
theorem dX7_clears_59 : decode cX7_clears 59 = .ok (.getfield 40, 3) := by decide +kernel
theorem dX7_clears_62 : decode cX7_clears 62 = .ok (.iload_n 1, 1) := by decide +kernel
theorem dX7_clears_63 : decode cX7_clears 63 = .ok (.iconst 5, 1) := by decide +kernel
theorem dX7_clears_64 : decode cX7_clears 64 = .ok (.invokestatic 249, 3) := by decide +kernel
theorem dX7_clears_67 : decode cX7_clears 67 = .ok (.dup2, 1) := by decide +kernel
theorem dX7_clears_68 : decode cX7_clears 68 = .ok (.iaload, 1) := by decide +kernel
theorem dX7_clears_69 : decode cX7_clears 69 = .ok (.iconst 1, 1) := by decide +kernel
theorem dX7_clears_70 : decode cX7_clears 70 = .ok (.isub, 1) := by decide +kernel
theorem dX7_clears_71 : decode cX7_clears 71 = .ok (.iastore, 1) := by decide +kernel
theorem dX7_clears_72 : decode cX7_clears 72 = .ok (.aload_n 0, 1) := by decide +kernel
theorem dX7_clears_73 : decode cX7_clears 73 = .ok (.iload_n 1, 1) := by decide +kernel
theorem dX7_clears_74 : decode cX7_clears 74 = .ok (.invokevirtual 278, 3) := by decide +kernel
theorem dX7_clears_77 : decode cX7_clears 77 = .ok (.iinc 2 (-1), 3) := by decide +kernel
theorem dX7_clears_80 : decode cX7_clears 80 = .ok (.goto (-69), 3) := by decide +kernel
theorem dX7_clears_83 : decode cX7_clears 83 = .ok (.return_, 1) := by decide +kernel
theorem dX7_together_0 : decode cX7_together 0 = .ok (.aload_n 0, 1) := by decide +kernel
theorem dX7_together_1 : decode cX7_together 1 = .ok (.iload_n 1, 1) := by decide +kernel
theorem dX7_together_2 : decode cX7_together 2 = .ok (.iconst 3, 1) := by decide +kernel
theorem dX7_together_3 : decode cX7_together 3 = .ok (.invokevirtual 252, 3) := by decide +kernel
theorem dX7_together_6 : decode cX7_together 6 = .ok (.aload_n 0, 1) := by decide +kernel
theorem dX7_together_7 : decode cX7_together 7 = .ok (.iload_n 1, 1) := by decide +kernel
theorem dX7_together_8 : decode cX7_together 8 = .ok (.iconst 4, 1) := by decide +kernel
theorem dX7_together_9 : decode cX7_together 9 = .ok (.invokevirtual 252, 3) := by decide +kernel
theorem dX7_together_12 : decode cX7_together 12 = .ok (.iconst (-1), 1) := by decide +kernel
theorem dX7_together_13 : decode cX7_together 13 = .ok (.ixor, 1) := by decide +kernel
theorem dX7_together_14 : decode cX7_together 14 = .ok (.iand, 1) := by decide +kernel
theorem dX7_together_15 : decode cX7_together 15 = .ok (.istore_n 2, 1) := by decide +kernel
theorem dX7_together_16 : decode cX7_together 16 = .ok (.aload_n 0, 1) := by decide +kernel
theorem dX7_together_17 : decode cX7_together 17 = .ok (.getfield 40, 3) := by decide +kernel
theorem dX7_together_20 : decode cX7_together 20 = .ok (.iconst 3, 1) := by decide +kernel
theorem dX7_together_21 : decode cX7_together 21 = .ok (.iaload, 1) := by decide +kernel
theorem dX7_together_22 : decode cX7_together 22 = .ok (.ifCond .ne 33, 3) := by decide +kernel
theorem dX7_together_25 : decode cX7_together 25 = .ok (.aload_n 0, 1) := by decide +kernel
theorem dX7_together_26 : decode cX7_together 26 = .ok (.iload_n 1, 1) := by decide +kernel
theorem dX7_together_27 : decode cX7_together 27 = .ok (.invokevirtual 272, 3) := by decide +kernel
theorem dX7_together_30 : decode cX7_together 30 = .ok (.ifCond .ge 7, 3) := by decide +kernel
theorem dX7_together_33 : decode cX7_together 33 = .ok (.iconst 0, 1) := by decide +kernel
theorem dX7_together_34 : decode cX7_together 34 = .ok (.goto 20, 3) := by decide +kernel
theorem dX7_together_37 : decode cX7_together 37 = .ok (.iload_n 2, 1) := by decide +kernel
theorem dX7_together_38 : decode cX7_together 38 = .ok (.aload_n 0, 1) := by decide +kernel
theorem dX7_together_39 : decode cX7_together 39 = .ok (.getfield 40, 3) := by decide +kernel
theorem dX7_together_42 : decode cX7_together 42 = .ok (.iload_n 1, 1) := by decide +kernel
theorem dX7_together_43 : decode cX7_together 43 = .ok (.aload_n 0, 1) := by decide +kernel
theorem dX7_together_44 : decode cX7_together 44 = .ok (.iload_n 1, 1) := by decide +kernel
theorem dX7_together_45 : decode cX7_together 45 = .ok (.invokevirtual 272, 3) := by decide +kernel
theorem dX7_together_48 : decode cX7_together 48 = .ok (.iconst 2, 1) := by decide +kernel
theorem dX7_together_49 : decode cX7_together 49 = .ok (.invokestatic 268, 3) := by decide +kernel
theorem dX7_together_52 : decode cX7_together 52 = .ok (.iaload, 1) := by decide +kernel
theorem dX7_together_53 : decode cX7_together 53 = .ok (.iand, 1) := by decide +kernel
theorem dX7_together_54 : decode cX7_together 54 = .ok (.ireturn, 1) := by decide +kernel
theorem dX7_together_55 : decode cX7_together 55 = .ok (.iload_n 2, 1) := by decide +kernel
theorem dX7_together_56 : decode cX7_together 56 = .ok (.ifCond .ne 5, 3) := by decide +kernel
theorem dX7_together_59 : decode cX7_together 59 = .ok (.iconst 0, 1) := by decide +kernel
theorem dX7_together_60 : decode cX7_together 60 = .ok (.ireturn, 1) := by decide +kernel
theorem dX7_together_61 : decode cX7_together 61 = .ok (.aload_n 0, 1) := by decide +kernel
theorem dX7_together_62 : decode cX7_together 62 = .ok (.iload_n 1, 1) := by decide +kernel
theorem dX7_together_63 : decode cX7_together 63 = .ok (.iconst 1, 1) := by decide +kernel
theorem dX7_together_64 : decode cX7_together 64 = .ok (.invokevirtual 252, 3) := by decide +kernel
theorem dX7_together_67 : decode cX7_together 67 = .ok (.istore_n 3, 1) := by decide +kernel
theorem dX7_together_68 : decode cX7_together 68 = .ok (.iload_n 2, 1) := by decide +kernel
theorem dX7_together_69 : decode cX7_together 69 = .ok (.iload_n 3, 1) := by decide +kernel
theorem dX7_together_70 : decode cX7_together 70 = .ok (.invokestatic 261, 3) := by decide +kernel
theorem dX7_together_73 : decode cX7_together 73 = .ok (.ifCond .ne 13, 3) := by decide +kernel
theorem dX7_together_76 : decode cX7_together 76 = .ok (.iload_n 3, 1) := by decide +kernel
theorem dX7_together_77 : decode cX7_together 77 = .ok (.iconst 1, 1) := by decide +kernel
theorem dX7_together_78 : decode cX7_together 78 = .ok (.iadd, 1) := by decide +kernel
theorem dX7_together_79 : decode cX7_together 79 = .ok (.bipush 8, 2) := by decide +kernel
theorem dX7_together_81 : decode cX7_together 81 = .ok (.irem, 1) := by decide +kernel
theorem dX7_together_82 : decode cX7_together 82 = .ok (.istore_n 3, 1) := by decide +kernel
theorem dX7_together_83 : decode cX7_together 83 = .ok (.goto (-15), 3) := by decide +kernel
theorem dX7_together_86 : decode cX7_together 86 = .ok (.iconst 0, 1) := by decide +kernel
theorem dX7_together_87 : decode cX7_together 87 = .ok (.istore 4, 2) := by decide +kernel
theorem dX7_together_89 : decode cX7_together 89 = .ok (.iconst 0, 1) := by decide +kernel
theorem dX7_together_90 : decode cX7_together 90 = .ok (.istore 5, 2) := by decide +kernel
theorem dX7_together_92 : decode cX7_together 92 = .ok (.iload 5, 2) := by decide +kernel
theorem dX7_together_94 : decode cX7_together 94 = .ok (.bipush 8, 2) := by decide +kernel
theorem dX7_together_96 : decode cX7_together 96 = .ok (.if_icmp .ge 51, 3) := by decide +kernel
theorem dX7_together_99 : decode cX7_together 99 = .ok (.iload_n 2, 1) := by decide +kernel
theorem dX7_together_100 : decode cX7_together 100 = .ok (.iload 5, 2) := by decide +kernel
theorem dX7_together_102 : decode cX7_together 102 = .ok (.invokestatic 261, 3) := by decide +kernel
theorem dX7_together_105 : decode cX7_together 105 = .ok (.ifCond .eq 36, 3) := by decide +kernel
theorem dX7_together_108 : decode cX7_together 108 = .ok (.aload_n 0, 1) := by decide +kernel
theorem dX7_together_109 : decode cX7_together 109 = .ok (.getfield 40, 3) := by decide +kernel
theorem dX7_together_112 : decode cX7_together 112 = .ok (.iload_n 1, 1) := by decide +kernel
theorem dX7_together_113 : decode cX7_together 113 = .ok (.iload 5, 2) := by decide +kernel
theorem dX7_together_115 : decode cX7_together 115 = .ok (.invokestatic 258, 3) := by decide +kernel
theorem dX7_together_118 : decode cX7_together 118 = .ok (.iaload, 1) := by decide +kernel
theorem dX7_together_119 : decode cX7_together 119 = .ok (.aload_n 0, 1) := by decide +kernel
theorem dX7_together_120 : decode cX7_together 120 = .ok (.getfield 40, 3) := by decide +kernel
theorem dX7_together_123 : decode cX7_together 123 = .ok (.iload_n 1, 1) := by decide +kernel
theorem dX7_together_124 : decode cX7_together 124 = .ok (.iload_n 3, 1) := by decide +kernel
theorem dX7_together_125 : decode cX7_together 125 = .ok (.invokestatic 258, 3) := by decide +kernel
theorem dX7_together_128 : decode cX7_together 128 = .ok (.iaload, 1) := by decide +kernel
theorem dX7_together_129 : decode cX7_together 129 = .ok (.if_icmp .ne 12, 3) := by decide +kernel
theorem dX7_together_132 : decode cX7_together 132 = .ok (.iload 4, 2) := by decide +kernel
theorem dX7_together_134 : decode cX7_together 134 = .ok (.iconst 1, 1) := by decide +kernel
theorem dX7_together_135 : decode cX7_together 135 = .ok (.iload 5, 2) := by decide +kernel
theorem dX7_together_137 : decode cX7_together 137 = .ok (.ishl, 1) := by decide +kernel
theorem dX7_together_138 : decode cX7_together 138 = .ok (.ior, 1) := by decide +kernel
theorem dX7_together_139 : decode cX7_together 139 = .ok (.istore 4, 2) := by decide +kernel
theorem dX7_together_141 : decode cX7_together 141 = .ok (.iinc 5 1, 3) := by decide +kernel
theorem dX7_together_144 : decode cX7_together 144 = .ok (.goto (-52), 3) := by decide +kernel
theorem dX7_together_147 : decode cX7_together 147 = .ok (.iload 4, 2) := by decide +kernel
theorem dX7_together_149 : decode cX7_together 149 = .ok (.ireturn, 1) := by decide +kernel
theorem dX7_lineOf_0 : decode cX7_lineOf 0 = .ok (.aload_n 0, 1) := by decide +kernel
theorem dX7_lineOf_1 : decode cX7_lineOf 1 = .ok (.getfield 40, 3) := by decide +kernel
theorem dX7_lineOf_4 : decode cX7_lineOf 4 = .ok (.iconst 3, 1) := by decide +kernel
theorem dX7_lineOf_5 : decode cX7_lineOf 5 = .ok (.iaload, 1) := by decide +kernel
theorem dX7_lineOf_6 : decode cX7_lineOf 6 = .ok (.ifCond .ne 19, 3) := by decide +kernel
theorem dX7_lineOf_9 : decode cX7_lineOf 9 = .ok (.aload_n 0, 1) := by decide +kernel
theorem dX7_lineOf_10 : decode cX7_lineOf 10 = .ok (.getfield 40, 3) := by decide +kernel
theorem dX7_lineOf_13 : decode cX7_lineOf 13 = .ok (.iload_n 1, 1) := by decide +kernel
theorem dX7_lineOf_14 : decode cX7_lineOf 14 = .ok (.aload_n 0, 1) := by decide +kernel
theorem dX7_lineOf_15 : decode cX7_lineOf 15 = .ok (.iload_n 1, 1) := by decide +kernel
theorem dX7_lineOf_16 : decode cX7_lineOf 16 = .ok (.invokevirtual 272, 3) := by decide +kernel
theorem dX7_lineOf_19 : decode cX7_lineOf 19 = .ok (.iconst 0, 1) := by decide +kernel
theorem dX7_lineOf_20 : decode cX7_lineOf 20 = .ok (.invokestatic 268, 3) := by decide +kernel
theorem dX7_lineOf_23 : decode cX7_lineOf 23 = .ok (.iaload, 1) := by decide +kernel
theorem dX7_lineOf_24 : decode cX7_lineOf 24 = .ok (.ireturn, 1) := by decide +kernel
theorem dX7_lineOf_25 : decode cX7_lineOf 25 = .ok (.aload_n 0, 1) := by decide +kernel
theorem dX7_lineOf_26 : decode cX7_lineOf 26 = .ok (.iload_n 1, 1) := by decide +kernel
theorem dX7_lineOf_27 : decode cX7_lineOf 27 = .ok (.invokevirtual 281, 3) := by decide +kernel
theorem dX7_lineOf_30 : decode cX7_lineOf 30 = .ok (.istore_n 2, 1) := by decide +kernel
theorem dX7_lineOf_31 : decode cX7_lineOf 31 = .ok (.iconst 0, 1) := by decide +kernel
theorem dX7_lineOf_32 : decode cX7_lineOf 32 = .ok (.istore_n 3, 1) := by decide +kernel
theorem dX7_lineOf_33 : decode cX7_lineOf 33 = .ok (.iload_n 2, 1) := by decide +kernel
theorem dX7_lineOf_34 : decode cX7_lineOf 34 = .ok (.iload_n 3, 1) := by decide +kernel
theorem dX7_lineOf_35 : decode cX7_lineOf 35 = .ok (.invokestatic 261, 3) := by decide +kernel
theorem dX7_lineOf_38 : decode cX7_lineOf 38 = .ok (.ifCond .ne 9, 3) := by decide +kernel
theorem dX7_lineOf_41 : decode cX7_lineOf 41 = .ok (.iinc 3 1, 3) := by decide +kernel
theorem dX7_lineOf_44 : decode cX7_lineOf 44 = .ok (.goto (-11), 3) := by decide +kernel
theorem dX7_lineOf_47 : decode cX7_lineOf 47 = .ok (.aload_n 0, 1) := by decide +kernel
theorem dX7_lineOf_48 : decode cX7_lineOf 48 = .ok (.getfield 40, 3) := by decide +kernel
theorem dX7_lineOf_51 : decode cX7_lineOf 51 = .ok (.iload_n 1, 1) := by decide +kernel
theorem dX7_lineOf_52 : decode cX7_lineOf 52 = .ok (.iload_n 3, 1) := by decide +kernel
theorem dX7_lineOf_53 : decode cX7_lineOf 53 = .ok (.invokestatic 258, 3) := by decide +kernel
theorem dX7_lineOf_56 : decode cX7_lineOf 56 = .ok (.iaload, 1) := by decide +kernel
theorem dX7_lineOf_57 : decode cX7_lineOf 57 = .ok (.ireturn, 1) := by decide +kernel
theorem dX7_canGo_0 : decode cX7_canGo 0 = .ok (.aload_n 0, 1) := by decide +kernel
theorem dX7_canGo_1 : decode cX7_canGo 1 = .ok (.iload_n 1, 1) := by decide +kernel
theorem dX7_canGo_2 : decode cX7_canGo 2 = .ok (.iconst 0, 1) := by decide +kernel
theorem dX7_canGo_3 : decode cX7_canGo 3 = .ok (.invokevirtual 252, 3) := by decide +kernel
theorem dX7_canGo_6 : decode cX7_canGo 6 = .ok (.aload_n 0, 1) := by decide +kernel
theorem dX7_canGo_7 : decode cX7_canGo 7 = .ok (.getfield 40, 3) := by decide +kernel
theorem dX7_canGo_10 : decode cX7_canGo 10 = .ok (.iconst 0, 1) := by decide +kernel
theorem dX7_canGo_11 : decode cX7_canGo 11 = .ok (.iaload, 1) := by decide +kernel
theorem dX7_canGo_12 : decode cX7_canGo 12 = .ok (.if_icmp .gt 15, 3) := by decide +kernel
theorem dX7_canGo_15 : decode cX7_canGo 15 = .ok (.aload_n 0, 1) := by decide +kernel
theorem dX7_canGo_16 : decode cX7_canGo 16 = .ok (.iload_n 1, 1) := by decide +kernel
theorem dX7_canGo_17 : decode cX7_canGo 17 = .ok (.invokevirtual 281, 3) := by decide +kernel
theorem dX7_canGo_20 : decode cX7_canGo 20 = .ok (.ifCond .eq 7, 3) := by decide +kernel
theorem dX7_canGo_23 : decode cX7_canGo 23 = .ok (.iconst 1, 1) := by decide +kernel
theorem dX7_canGo_24 : decode cX7_canGo 24 = .ok (.goto 4, 3) := by decide +kernel
theorem dX7_canGo_27 : decode cX7_canGo 27 = .ok (.iconst 0, 1) := by decide +kernel
theorem dX7_canGo_28 : decode cX7_canGo 28 = .ok (.ireturn, 1) := by decide +kernel
theorem dX7_goer_0 : decode cX7_goer 0 = .ok (.aload_n 0, 1) := by decide +kernel
theorem dX7_goer_1 : decode cX7_goer 1 = .ok (.getfield 40, 3) := by decide +kernel
theorem dX7_goer_4 : decode cX7_goer 4 = .ok (.iconst 4, 1) := by decide +kernel
theorem dX7_goer_5 : decode cX7_goer 5 = .ok (.iaload, 1) := by decide +kernel
theorem dX7_goer_6 : decode cX7_goer 6 = .ok (.ifCond .ne 7, 3) := by decide +kernel
theorem dX7_goer_9 : decode cX7_goer 9 = .ok (.iconst 0, 1) := by decide +kernel
theorem dX7_goer_10 : decode cX7_goer 10 = .ok (.goto 12, 3) := by decide +kernel
theorem dX7_goer_13 : decode cX7_goer 13 = .ok (.aload_n 0, 1) := by decide +kernel
theorem dX7_goer_14 : decode cX7_goer 14 = .ok (.getfield 40, 3) := by decide +kernel
theorem dX7_goer_17 : decode cX7_goer 17 = .ok (.bipush 6, 2) := by decide +kernel
theorem dX7_goer_19 : decode cX7_goer 19 = .ok (.iaload, 1) := by decide +kernel
theorem dX7_goer_20 : decode cX7_goer 20 = .ok (.iconst 1, 1) := by decide +kernel
theorem dX7_goer_21 : decode cX7_goer 21 = .ok (.iadd, 1) := by decide +kernel
theorem dX7_goer_22 : decode cX7_goer 22 = .ok (.istore_n 1, 1) := by decide +kernel
theorem dX7_goer_23 : decode cX7_goer 23 = .ok (.iconst 0, 1) := by decide +kernel
theorem dX7_goer_24 : decode cX7_goer 24 = .ok (.istore_n 2, 1) := by decide +kernel
theorem dX7_goer_25 : decode cX7_goer 25 = .ok (.iload_n 2, 1) := by decide +kernel
theorem dX7_goer_26 : decode cX7_goer 26 = .ok (.aload_n 0, 1) := by decide +kernel
theorem dX7_goer_27 : decode cX7_goer 27 = .ok (.invokevirtual 255, 3) := by decide +kernel
theorem dX7_goer_30 : decode cX7_goer 30 = .ok (.if_icmp .ge 33, 3) := by decide +kernel
theorem dX7_goer_33 : decode cX7_goer 33 = .ok (.aload_n 0, 1) := by decide +kernel
theorem dX7_goer_34 : decode cX7_goer 34 = .ok (.iload_n 1, 1) := by decide +kernel
theorem dX7_goer_35 : decode cX7_goer 35 = .ok (.iload_n 2, 1) := by decide +kernel
theorem dX7_goer_36 : decode cX7_goer 36 = .ok (.iadd, 1) := by decide +kernel
theorem dX7_goer_37 : decode cX7_goer 37 = .ok (.aload_n 0, 1) := by decide +kernel
theorem dX7_goer_38 : decode cX7_goer 38 = .ok (.invokevirtual 255, 3) := by decide +kernel
theorem dX7_goer_41 : decode cX7_goer 41 = .ok (.irem, 1) := by decide +kernel
theorem dX7_goer_42 : decode cX7_goer 42 = .ok (.invokevirtual 284, 3) := by decide +kernel
theorem dX7_goer_45 : decode cX7_goer 45 = .ok (.ifCond .eq 12, 3) := by decide +kernel
theorem dX7_goer_48 : decode cX7_goer 48 = .ok (.iload_n 1, 1) := by decide +kernel
theorem dX7_goer_49 : decode cX7_goer 49 = .ok (.iload_n 2, 1) := by decide +kernel
theorem dX7_goer_50 : decode cX7_goer 50 = .ok (.iadd, 1) := by decide +kernel
theorem dX7_goer_51 : decode cX7_goer 51 = .ok (.aload_n 0, 1) := by decide +kernel
theorem dX7_goer_52 : decode cX7_goer 52 = .ok (.invokevirtual 255, 3) := by decide +kernel
theorem dX7_goer_55 : decode cX7_goer 55 = .ok (.irem, 1) := by decide +kernel
theorem dX7_goer_56 : decode cX7_goer 56 = .ok (.ireturn, 1) := by decide +kernel
theorem dX7_goer_57 : decode cX7_goer 57 = .ok (.iinc 2 1, 3) := by decide +kernel
theorem dX7_goer_60 : decode cX7_goer 60 = .ok (.goto (-35), 3) := by decide +kernel
theorem dX7_goer_63 : decode cX7_goer 63 = .ok (.iconst (-1), 1) := by decide +kernel
theorem dX7_goer_64 : decode cX7_goer 64 = .ok (.ireturn, 1) := by decide +kernel
theorem dX7_partOf_0 : decode cX7_partOf 0 = .ok (.iload_n 3, 1) := by decide +kernel
theorem dX7_partOf_1 : decode cX7_partOf 1 = .ok (.ifCond .lt 7, 3) := by decide +kernel
theorem dX7_partOf_4 : decode cX7_partOf 4 = .ok (.iload_n 3, 1) := by decide +kernel
theorem dX7_partOf_5 : decode cX7_partOf 5 = .ok (.goto 16, 3) := by decide +kernel
theorem dX7_partOf_8 : decode cX7_partOf 8 = .ok (.aload_n 0, 1) := by decide +kernel
theorem dX7_partOf_9 : decode cX7_partOf 9 = .ok (.getfield 40, 3) := by decide +kernel
theorem dX7_partOf_12 : decode cX7_partOf 12 = .ok (.iload_n 1, 1) := by decide +kernel
theorem dX7_partOf_13 : decode cX7_partOf 13 = .ok (.iload_n 2, 1) := by decide +kernel
theorem dX7_partOf_14 : decode cX7_partOf 14 = .ok (.iconst (-1), 1) := by decide +kernel
theorem dX7_partOf_15 : decode cX7_partOf 15 = .ok (.iload_n 3, 1) := by decide +kernel
theorem dX7_partOf_16 : decode cX7_partOf 16 = .ok (.isub, 1) := by decide +kernel
theorem dX7_partOf_17 : decode cX7_partOf 17 = .ok (.invokestatic 287, 3) := by decide +kernel
theorem dX7_partOf_20 : decode cX7_partOf 20 = .ok (.iaload, 1) := by decide +kernel
theorem dX7_partOf_21 : decode cX7_partOf 21 = .ok (.ireturn, 1) := by decide +kernel
theorem dX7_modulo_0 : decode cX7_modulo 0 = .ok (.lload_n 0, 1) := by decide +kernel
theorem dX7_modulo_1 : decode cX7_modulo 1 = .ok (.iload_n 2, 1) := by decide +kernel
theorem dX7_modulo_2 : decode cX7_modulo 2 = .ok (.i2l, 1) := by decide +kernel
theorem dX7_modulo_3 : decode cX7_modulo 3 = .ok (.lrem, 1) := by decide +kernel
theorem dX7_modulo_4 : decode cX7_modulo 4 = .ok (.lstore_n 3, 1) := by decide +kernel
theorem dX7_modulo_5 : decode cX7_modulo 5 = .ok (.lload_n 3, 1) := by decide +kernel
theorem dX7_modulo_6 : decode cX7_modulo 6 = .ok (.lconst 0, 1) := by decide +kernel
theorem dX7_modulo_7 : decode cX7_modulo 7 = .ok (.lcmp, 1) := by decide +kernel
theorem dX7_modulo_8 : decode cX7_modulo 8 = .ok (.ifCond .ge 10, 3) := by decide +kernel
theorem dX7_modulo_11 : decode cX7_modulo 11 = .ok (.lload_n 3, 1) := by decide +kernel
theorem dX7_modulo_12 : decode cX7_modulo 12 = .ok (.iload_n 2, 1) := by decide +kernel
theorem dX7_modulo_13 : decode cX7_modulo 13 = .ok (.i2l, 1) := by decide +kernel
theorem dX7_modulo_14 : decode cX7_modulo 14 = .ok (.ladd, 1) := by decide +kernel
theorem dX7_modulo_15 : decode cX7_modulo 15 = .ok (.goto 4, 3) := by decide +kernel
theorem dX7_modulo_18 : decode cX7_modulo 18 = .ok (.lload_n 3, 1) := by decide +kernel
theorem dX7_modulo_19 : decode cX7_modulo 19 = .ok (.l2i, 1) := by decide +kernel
theorem dX7_modulo_20 : decode cX7_modulo 20 = .ok (.ireturn, 1) := by decide +kernel
theorem dX7_bounded_0 : decode cX7_bounded 0 = .ok (.lload_n 0, 1) := by decide +kernel
theorem dX7_bounded_1 : decode cX7_bounded 1 = .ok (.ldc2_w 290, 3) := by decide +kernel
theorem dX7_bounded_4 : decode cX7_bounded 4 = .ok (.lcmp, 1) := by decide +kernel
theorem dX7_bounded_5 : decode cX7_bounded 5 = .ok (.ifCond .le 9, 3) := by decide +kernel
theorem dX7_bounded_8 : decode cX7_bounded 8 = .ok (.ldc2_w 290, 3) := by decide +kernel
theorem dX7_bounded_11 : decode cX7_bounded 11 = .ok (.goto 18, 3) := by decide +kernel
theorem dX7_bounded_14 : decode cX7_bounded 14 = .ok (.lload_n 0, 1) := by decide +kernel
theorem dX7_bounded_15 : decode cX7_bounded 15 = .ok (.ldc2_w 292, 3) := by decide +kernel
theorem dX7_bounded_18 : decode cX7_bounded 18 = .ok (.lcmp, 1) := by decide +kernel
theorem dX7_bounded_19 : decode cX7_bounded 19 = .ok (.ifCond .ge 9, 3) := by decide +kernel
theorem dX7_bounded_22 : decode cX7_bounded 22 = .ok (.ldc2_w 292, 3) := by decide +kernel
theorem dX7_bounded_25 : decode cX7_bounded 25 = .ok (.goto 4, 3) := by decide +kernel
theorem dX7_bounded_28 : decode cX7_bounded 28 = .ok (.lload_n 0, 1) := by decide +kernel
theorem dX7_bounded_29 : decode cX7_bounded 29 = .ok (.l2i, 1) := by decide +kernel
theorem dX7_bounded_30 : decode cX7_bounded 30 = .ok (.ireturn, 1) := by decide +kernel
theorem dX7_hasFirst_0 : decode cX7_hasFirst 0 = .ok (.iload_n 0, 1) := by decide +kernel
theorem dX7_hasFirst_1 : decode cX7_hasFirst 1 = .ok (.invokestatic 173, 3) := by decide +kernel
theorem dX7_hasFirst_4 : decode cX7_hasFirst 4 = .ok (.ifCond .le 7, 3) := by decide +kernel
theorem dX7_hasFirst_7 : decode cX7_hasFirst 7 = .ok (.iconst 1, 1) := by decide +kernel
theorem dX7_hasFirst_8 : decode cX7_hasFirst 8 = .ok (.goto 4, 3) := by decide +kernel
theorem dX7_hasFirst_11 : decode cX7_hasFirst 11 = .ok (.iconst 0, 1) := by decide +kernel
theorem dX7_hasFirst_12 : decode cX7_hasFirst 12 = .ok (.ireturn, 1) := by decide +kernel
theorem dX7_reads_0 : decode cX7_reads 0 = .ok (.aload_n 0, 1) := by decide +kernel
theorem dX7_reads_1 : decode cX7_reads 1 = .ok (.iload_n 2, 1) := by decide +kernel
theorem dX7_reads_2 : decode cX7_reads 2 = .ok (.iconst 0, 1) := by decide +kernel
theorem dX7_reads_3 : decode cX7_reads 3 = .ok (.invokevirtual 231, 3) := by decide +kernel
theorem dX7_reads_6 : decode cX7_reads 6 = .ok (.istore 4, 2) := by decide +kernel
theorem dX7_reads_8 : decode cX7_reads 8 = .ok (.iconst 0, 1) := by decide +kernel
theorem dX7_reads_9 : decode cX7_reads 9 = .ok (.istore 5, 2) := by decide +kernel
theorem dX7_reads_11 : decode cX7_reads 11 = .ok (.iload 5, 2) := by decide +kernel
theorem dX7_reads_13 : decode cX7_reads 13 = .ok (.bipush 8, 2) := by decide +kernel
theorem dX7_reads_15 : decode cX7_reads 15 = .ok (.if_icmp .ge 102, 3) := by decide +kernel
theorem dX7_reads_18 : decode cX7_reads 18 = .ok (.iload_n 3, 1) := by decide +kernel
theorem dX7_reads_19 : decode cX7_reads 19 = .ok (.iload 5, 2) := by decide +kernel
theorem dX7_reads_21 : decode cX7_reads 21 = .ok (.invokestatic 261, 3) := by decide +kernel
theorem dX7_reads_24 : decode cX7_reads 24 = .ok (.ifCond .ne 6, 3) := by decide +kernel
theorem dX7_reads_27 : decode cX7_reads 27 = .ok (.goto 84, 3) := by decide +kernel
theorem dX7_reads_30 : decode cX7_reads 30 = .ok (.aload_n 0, 1) := by decide +kernel
theorem dX7_reads_31 : decode cX7_reads 31 = .ok (.getfield 43, 3) := by decide +kernel
theorem dX7_reads_34 : decode cX7_reads 34 = .ok (.iload 5, 2) := by decide +kernel
theorem dX7_reads_36 : decode cX7_reads 36 = .ok (.iload 4, 2) := by decide +kernel
theorem dX7_reads_38 : decode cX7_reads 38 = .ok (.invokestatic 294, 3) := by decide +kernel
theorem dX7_reads_41 : decode cX7_reads 41 = .ok (.ifCond .ne 11, 3) := by decide +kernel
theorem dX7_reads_44 : decode cX7_reads 44 = .ok (.aload_n 0, 1) := by decide +kernel
theorem dX7_reads_45 : decode cX7_reads 45 = .ok (.iload_n 2, 1) := by decide +kernel
theorem dX7_reads_46 : decode cX7_reads 46 = .ok (.invokevirtual 219, 3) := by decide +kernel
theorem dX7_reads_49 : decode cX7_reads 49 = .ok (.ifCond .eq 19, 3) := by decide +kernel
theorem dX7_reads_52 : decode cX7_reads 52 = .ok (.aload_n 0, 1) := by decide +kernel
theorem dX7_reads_53 : decode cX7_reads 53 = .ok (.iload_n 1, 1) := by decide +kernel
theorem dX7_reads_54 : decode cX7_reads 54 = .ok (.iload 5, 2) := by decide +kernel
theorem dX7_reads_56 : decode cX7_reads 56 = .ok (.aload_n 0, 1) := by decide +kernel
theorem dX7_reads_57 : decode cX7_reads 57 = .ok (.iload_n 2, 1) := by decide +kernel
theorem dX7_reads_58 : decode cX7_reads 58 = .ok (.iconst 2, 1) := by decide +kernel
theorem dX7_reads_59 : decode cX7_reads 59 = .ok (.invokevirtual 231, 3) := by decide +kernel
theorem dX7_reads_62 : decode cX7_reads 62 = .ok (.invokevirtual 297, 3) := by decide +kernel
theorem dX7_reads_65 : decode cX7_reads 65 = .ok (.goto 4, 3) := by decide +kernel
theorem dX7_reads_68 : decode cX7_reads 68 = .ok (.iconst 0, 1) := by decide +kernel
theorem dX7_reads_69 : decode cX7_reads 69 = .ok (.iastore, 1) := by decide +kernel
theorem dX7_reads_70 : decode cX7_reads 70 = .ok (.aload_n 0, 1) := by decide +kernel
theorem dX7_reads_71 : decode cX7_reads 71 = .ok (.getfield 46, 3) := by decide +kernel
theorem dX7_reads_74 : decode cX7_reads 74 = .ok (.iload 5, 2) := by decide +kernel
theorem dX7_reads_76 : decode cX7_reads 76 = .ok (.iload 4, 2) := by decide +kernel
theorem dX7_reads_78 : decode cX7_reads 78 = .ok (.invokestatic 173, 3) := by decide +kernel
theorem dX7_reads_81 : decode cX7_reads 81 = .ok (.iconst 2, 1) := by decide +kernel
theorem dX7_reads_82 : decode cX7_reads 82 = .ok (.if_icmp .eq 11, 3) := by decide +kernel
theorem dX7_reads_85 : decode cX7_reads 85 = .ok (.aload_n 0, 1) := by decide +kernel
theorem dX7_reads_86 : decode cX7_reads 86 = .ok (.iload_n 2, 1) := by decide +kernel
theorem dX7_reads_87 : decode cX7_reads 87 = .ok (.invokevirtual 219, 3) := by decide +kernel
theorem dX7_reads_90 : decode cX7_reads 90 = .ok (.ifCond .eq 19, 3) := by decide +kernel
theorem dX7_reads_93 : decode cX7_reads 93 = .ok (.aload_n 0, 1) := by decide +kernel
theorem dX7_reads_94 : decode cX7_reads 94 = .ok (.iload_n 1, 1) := by decide +kernel
theorem dX7_reads_95 : decode cX7_reads 95 = .ok (.iload 5, 2) := by decide +kernel
theorem dX7_reads_97 : decode cX7_reads 97 = .ok (.aload_n 0, 1) := by decide +kernel
theorem dX7_reads_98 : decode cX7_reads 98 = .ok (.iload_n 2, 1) := by decide +kernel
theorem dX7_reads_99 : decode cX7_reads 99 = .ok (.iconst 3, 1) := by decide +kernel
theorem dX7_reads_100 : decode cX7_reads 100 = .ok (.invokevirtual 231, 3) := by decide +kernel
theorem dX7_reads_103 : decode cX7_reads 103 = .ok (.invokevirtual 297, 3) := by decide +kernel
theorem dX7_reads_106 : decode cX7_reads 106 = .ok (.goto 4, 3) := by decide +kernel
theorem dX7_reads_109 : decode cX7_reads 109 = .ok (.iconst 0, 1) := by decide +kernel
theorem dX7_reads_110 : decode cX7_reads 110 = .ok (.iastore, 1) := by decide +kernel
theorem dX7_reads_111 : decode cX7_reads 111 = .ok (.iinc 5 1, 3) := by decide +kernel
theorem dX7_reads_114 : decode cX7_reads 114 = .ok (.goto (-103), 3) := by decide +kernel
theorem dX7_reads_117 : decode cX7_reads 117 = .ok (.return_, 1) := by decide +kernel
theorem dX7_bankOf_0 : decode cX7_bankOf 0 = .ok (.iload_n 1, 1) := by decide +kernel
theorem dX7_bankOf_1 : decode cX7_bankOf 1 = .ok (.aload_n 0, 1) := by decide +kernel
theorem dX7_bankOf_2 : decode cX7_bankOf 2 = .ok (.getfield 40, 3) := by decide +kernel
theorem dX7_bankOf_5 : decode cX7_bankOf 5 = .ok (.iconst 5, 1) := by decide +kernel
theorem dX7_bankOf_6 : decode cX7_bankOf 6 = .ok (.iaload, 1) := by decide +kernel
theorem dX7_bankOf_7 : decode cX7_bankOf 7 = .ok (.iload_n 1, 1) := by decide +kernel
theorem dX7_bankOf_8 : decode cX7_bankOf 8 = .ok (.iconst 4, 1) := by decide +kernel
theorem dX7_bankOf_9 : decode cX7_bankOf 9 = .ok (.idiv, 1) := by decide +kernel
theorem dX7_bankOf_10 : decode cX7_bankOf 10 = .ok (.imul, 1) := by decide +kernel
theorem dX7_bankOf_11 : decode cX7_bankOf 11 = .ok (.iadd, 1) := by decide +kernel
theorem dX7_bankOf_12 : decode cX7_bankOf 12 = .ok (.iconst 4, 1) := by decide +kernel
theorem dX7_bankOf_13 : decode cX7_bankOf 13 = .ok (.irem, 1) := by decide +kernel
theorem dX7_bankOf_14 : decode cX7_bankOf 14 = .ok (.ireturn, 1) := by decide +kernel
theorem dX7_segments_0 : decode cX7_segments 0 = .ok (.iconst 0, 1) := by decide +kernel
theorem dX7_segments_1 : decode cX7_segments 1 = .ok (.istore_n 2, 1) := by decide +kernel
theorem dX7_segments_2 : decode cX7_segments 2 = .ok (.iconst 0, 1) := by decide +kernel
theorem dX7_segments_3 : decode cX7_segments 3 = .ok (.istore_n 3, 1) := by decide +kernel
theorem dX7_segments_4 : decode cX7_segments 4 = .ok (.iload_n 3, 1) := by decide +kernel
theorem dX7_segments_5 : decode cX7_segments 5 = .ok (.bipush 8, 2) := by decide +kernel
theorem dX7_segments_7 : decode cX7_segments 7 = .ok (.if_icmp .ge 37, 3) := by decide +kernel
theorem dX7_segments_10 : decode cX7_segments 10 = .ok (.iload_n 1, 1) := by decide +kernel
theorem dX7_segments_11 : decode cX7_segments 11 = .ok (.iload_n 3, 1) := by decide +kernel
theorem dX7_segments_12 : decode cX7_segments 12 = .ok (.invokestatic 261, 3) := by decide +kernel
theorem dX7_segments_15 : decode cX7_segments 15 = .ok (.ifCond .eq 23, 3) := by decide +kernel
theorem dX7_segments_18 : decode cX7_segments 18 = .ok (.iload_n 2, 1) := by decide +kernel
theorem dX7_segments_19 : decode cX7_segments 19 = .ok (.iconst 1, 1) := by decide +kernel
theorem dX7_segments_20 : decode cX7_segments 20 = .ok (.aload_n 0, 1) := by decide +kernel
theorem dX7_segments_21 : decode cX7_segments 21 = .ok (.getfield 43, 3) := by decide +kernel
theorem dX7_segments_24 : decode cX7_segments 24 = .ok (.iload_n 3, 1) := by decide +kernel
theorem dX7_segments_25 : decode cX7_segments 25 = .ok (.iaload, 1) := by decide +kernel
theorem dX7_segments_26 : decode cX7_segments 26 = .ok (.i2l, 1) := by decide +kernel
theorem dX7_segments_27 : decode cX7_segments 27 = .ok (.bipush 64, 2) := by decide +kernel
theorem dX7_segments_29 : decode cX7_segments 29 = .ok (.invokestatic 300, 3) := by decide +kernel
theorem dX7_segments_32 : decode cX7_segments 32 = .ok (.bipush 8, 2) := by decide +kernel
theorem dX7_segments_34 : decode cX7_segments 34 = .ok (.idiv, 1) := by decide +kernel
theorem dX7_segments_35 : decode cX7_segments 35 = .ok (.ishl, 1) := by decide +kernel
theorem dX7_segments_36 : decode cX7_segments 36 = .ok (.ior, 1) := by decide +kernel
theorem dX7_segments_37 : decode cX7_segments 37 = .ok (.istore_n 2, 1) := by decide +kernel
theorem dX7_segments_38 : decode cX7_segments 38 = .ok (.iinc 3 1, 3) := by decide +kernel
theorem dX7_segments_41 : decode cX7_segments 41 = .ok (.goto (-37), 3) := by decide +kernel
theorem dX7_segments_44 : decode cX7_segments 44 = .ok (.iconst 0, 1) := by decide +kernel
theorem dX7_segments_45 : decode cX7_segments 45 = .ok (.istore_n 3, 1) := by decide +kernel
theorem dX7_segments_46 : decode cX7_segments 46 = .ok (.iconst 0, 1) := by decide +kernel
theorem dX7_segments_47 : decode cX7_segments 47 = .ok (.istore 4, 2) := by decide +kernel
theorem dX7_segments_49 : decode cX7_segments 49 = .ok (.iload 4, 2) := by decide +kernel
theorem dX7_segments_51 : decode cX7_segments 51 = .ok (.bipush 8, 2) := by decide +kernel
theorem dX7_segments_53 : decode cX7_segments 53 = .ok (.if_icmp .ge 18, 3) := by decide +kernel
theorem dX7_segments_56 : decode cX7_segments 56 = .ok (.iload_n 3, 1) := by decide +kernel
theorem dX7_segments_57 : decode cX7_segments 57 = .ok (.iload_n 2, 1) := by decide +kernel
theorem dX7_segments_58 : decode cX7_segments 58 = .ok (.iload 4, 2) := by decide +kernel
theorem dX7_segments_60 : decode cX7_segments 60 = .ok (.ishr, 1) := by decide +kernel
theorem dX7_segments_61 : decode cX7_segments 61 = .ok (.iconst 1, 1) := by decide +kernel
theorem dX7_segments_62 : decode cX7_segments 62 = .ok (.iand, 1) := by decide +kernel
theorem dX7_segments_63 : decode cX7_segments 63 = .ok (.iadd, 1) := by decide +kernel
theorem dX7_segments_64 : decode cX7_segments 64 = .ok (.istore_n 3, 1) := by decide +kernel
theorem dX7_segments_65 : decode cX7_segments 65 = .ok (.iinc 4 1, 3) := by decide +kernel
theorem dX7_segments_68 : decode cX7_segments 68 = .ok (.goto (-19), 3) := by decide +kernel
theorem dX7_segments_71 : decode cX7_segments 71 = .ok (.iload_n 3, 1) := by decide +kernel
theorem dX7_segments_72 : decode cX7_segments 72 = .ok (.ireturn, 1) := by decide +kernel
theorem dX7_clashes_0 : decode cX7_clashes 0 = .ok (.iconst 0, 1) := by decide +kernel
theorem dX7_clashes_1 : decode cX7_clashes 1 = .ok (.istore_n 2, 1) := by decide +kernel
theorem dX7_clashes_2 : decode cX7_clashes 2 = .ok (.iconst 0, 1) := by decide +kernel
theorem dX7_clashes_3 : decode cX7_clashes 3 = .ok (.istore_n 3, 1) := by decide +kernel
theorem dX7_clashes_4 : decode cX7_clashes 4 = .ok (.iload_n 3, 1) := by decide +kernel
theorem dX7_clashes_5 : decode cX7_clashes 5 = .ok (.iconst 4, 1) := by decide +kernel
theorem dX7_clashes_6 : decode cX7_clashes 6 = .ok (.if_icmp .ge 60, 3) := by decide +kernel
theorem dX7_clashes_9 : decode cX7_clashes 9 = .ok (.iconst 0, 1) := by decide +kernel
theorem dX7_clashes_10 : decode cX7_clashes 10 = .ok (.istore 4, 2) := by decide +kernel
theorem dX7_clashes_12 : decode cX7_clashes 12 = .ok (.iconst 0, 1) := by decide +kernel
theorem dX7_clashes_13 : decode cX7_clashes 13 = .ok (.istore 5, 2) := by decide +kernel
theorem dX7_clashes_15 : decode cX7_clashes 15 = .ok (.iload 5, 2) := by decide +kernel
theorem dX7_clashes_17 : decode cX7_clashes 17 = .ok (.bipush 32, 2) := by decide +kernel
theorem dX7_clashes_19 : decode cX7_clashes 19 = .ok (.if_icmp .ge 32, 3) := by decide +kernel
theorem dX7_clashes_22 : decode cX7_clashes 22 = .ok (.aload_n 0, 1) := by decide +kernel
theorem dX7_clashes_23 : decode cX7_clashes 23 = .ok (.iload 5, 2) := by decide +kernel
theorem dX7_clashes_25 : decode cX7_clashes 25 = .ok (.invokevirtual 304, 3) := by decide +kernel
theorem dX7_clashes_28 : decode cX7_clashes 28 = .ok (.iload_n 3, 1) := by decide +kernel
theorem dX7_clashes_29 : decode cX7_clashes 29 = .ok (.if_icmp .ne 16, 3) := by decide +kernel
theorem dX7_clashes_32 : decode cX7_clashes 32 = .ok (.aload_n 0, 1) := by decide +kernel
theorem dX7_clashes_33 : decode cX7_clashes 33 = .ok (.iload_n 1, 1) := by decide +kernel
theorem dX7_clashes_34 : decode cX7_clashes 34 = .ok (.iload 5, 2) := by decide +kernel
theorem dX7_clashes_36 : decode cX7_clashes 36 = .ok (.invokevirtual 307, 3) := by decide +kernel
theorem dX7_clashes_39 : decode cX7_clashes 39 = .ok (.ifCond .eq 6, 3) := by decide +kernel
theorem dX7_clashes_42 : decode cX7_clashes 42 = .ok (.iinc 4 1, 3) := by decide +kernel
theorem dX7_clashes_45 : decode cX7_clashes 45 = .ok (.iinc 5 1, 3) := by decide +kernel
theorem dX7_clashes_48 : decode cX7_clashes 48 = .ok (.goto (-33), 3) := by decide +kernel
theorem dX7_clashes_51 : decode cX7_clashes 51 = .ok (.iload 4, 2) := by decide +kernel
theorem dX7_clashes_53 : decode cX7_clashes 53 = .ok (.iload_n 2, 1) := by decide +kernel
theorem dX7_clashes_54 : decode cX7_clashes 54 = .ok (.if_icmp .le 6, 3) := by decide +kernel
theorem dX7_clashes_57 : decode cX7_clashes 57 = .ok (.iload 4, 2) := by decide +kernel
theorem dX7_clashes_59 : decode cX7_clashes 59 = .ok (.istore_n 2, 1) := by decide +kernel
theorem dX7_clashes_60 : decode cX7_clashes 60 = .ok (.iinc 3 1, 3) := by decide +kernel
theorem dX7_clashes_63 : decode cX7_clashes 63 = .ok (.goto (-59), 3) := by decide +kernel
theorem dX7_clashes_66 : decode cX7_clashes 66 = .ok (.iload_n 2, 1) := by decide +kernel
theorem dX7_clashes_67 : decode cX7_clashes 67 = .ok (.ireturn, 1) := by decide +kernel
theorem dX7_isAsked_0 : decode cX7_isAsked 0 = .ok (.iconst 0, 1) := by decide +kernel
theorem dX7_isAsked_1 : decode cX7_isAsked 1 = .ok (.istore_n 3, 1) := by decide +kernel
theorem dX7_isAsked_2 : decode cX7_isAsked 2 = .ok (.iload_n 3, 1) := by decide +kernel
theorem dX7_isAsked_3 : decode cX7_isAsked 3 = .ok (.bipush 8, 2) := by decide +kernel
theorem dX7_isAsked_5 : decode cX7_isAsked 5 = .ok (.if_icmp .ge 35, 3) := by decide +kernel
theorem dX7_isAsked_8 : decode cX7_isAsked 8 = .ok (.iload_n 1, 1) := by decide +kernel
theorem dX7_isAsked_9 : decode cX7_isAsked 9 = .ok (.iload_n 3, 1) := by decide +kernel
theorem dX7_isAsked_10 : decode cX7_isAsked 10 = .ok (.invokestatic 261, 3) := by decide +kernel
theorem dX7_isAsked_13 : decode cX7_isAsked 13 = .ok (.ifCond .eq 21, 3) := by decide +kernel
theorem dX7_isAsked_16 : decode cX7_isAsked 16 = .ok (.aload_n 0, 1) := by decide +kernel
theorem dX7_isAsked_17 : decode cX7_isAsked 17 = .ok (.getfield 43, 3) := by decide +kernel
theorem dX7_isAsked_20 : decode cX7_isAsked 20 = .ok (.iload_n 3, 1) := by decide +kernel
theorem dX7_isAsked_21 : decode cX7_isAsked 21 = .ok (.iaload, 1) := by decide +kernel
theorem dX7_isAsked_22 : decode cX7_isAsked 22 = .ok (.i2l, 1) := by decide +kernel
theorem dX7_isAsked_23 : decode cX7_isAsked 23 = .ok (.bipush 32, 2) := by decide +kernel
theorem dX7_isAsked_25 : decode cX7_isAsked 25 = .ok (.invokestatic 300, 3) := by decide +kernel
theorem dX7_isAsked_28 : decode cX7_isAsked 28 = .ok (.iload_n 2, 1) := by decide +kernel
theorem dX7_isAsked_29 : decode cX7_isAsked 29 = .ok (.if_icmp .ne 5, 3) := by decide +kernel
theorem dX7_isAsked_32 : decode cX7_isAsked 32 = .ok (.iconst 1, 1) := by decide +kernel
theorem dX7_isAsked_33 : decode cX7_isAsked 33 = .ok (.ireturn, 1) := by decide +kernel
theorem dX7_isAsked_34 : decode cX7_isAsked 34 = .ok (.iinc 3 1, 3) := by decide +kernel
theorem dX7_isAsked_37 : decode cX7_isAsked 37 = .ok (.goto (-35), 3) := by decide +kernel
theorem dX7_isAsked_40 : decode cX7_isAsked 40 = .ok (.iconst 0, 1) := by decide +kernel
theorem dX7_isAsked_41 : decode cX7_isAsked 41 = .ok (.ireturn, 1) := by decide +kernel
theorem dX7_takes0_0 : decode cX7_takes0 0 = .ok (.aload_n 0, 1) := by decide +kernel
theorem dX7_takes0_1 : decode cX7_takes0 1 = .ok (.iload_n 2, 1) := by decide +kernel
theorem dX7_takes0_2 : decode cX7_takes0 2 = .ok (.iconst 0, 1) := by decide +kernel
theorem dX7_takes0_3 : decode cX7_takes0 3 = .ok (.invokevirtual 231, 3) := by decide +kernel
theorem dX7_takes0_6 : decode cX7_takes0 6 = .ok (.istore 4, 2) := by decide +kernel
theorem dX7_takes0_8 : decode cX7_takes0 8 = .ok (.aload_n 0, 1) := by decide +kernel
theorem dX7_takes0_9 : decode cX7_takes0 9 = .ok (.iload_n 1, 1) := by decide +kernel
theorem dX7_takes0_10 : decode cX7_takes0 10 = .ok (.iload_n 2, 1) := by decide +kernel
theorem dX7_takes0_11 : decode cX7_takes0 11 = .ok (.iload_n 3, 1) := by decide +kernel
theorem dX7_takes0_12 : decode cX7_takes0 12 = .ok (.invokevirtual 310, 3) := by decide +kernel
theorem dX7_takes0_15 : decode cX7_takes0 15 = .ok (.iload 4, 2) := by decide +kernel
theorem dX7_takes0_17 : decode cX7_takes0 17 = .ok (.bipush 7, 2) := by decide +kernel
theorem dX7_takes0_19 : decode cX7_takes0 19 = .ok (.if_icmp .eq 10, 3) := by decide +kernel
theorem dX7_takes0_22 : decode cX7_takes0 22 = .ok (.iload 4, 2) := by decide +kernel
theorem dX7_takes0_24 : decode cX7_takes0 24 = .ok (.bipush 8, 2) := by decide +kernel
theorem dX7_takes0_26 : decode cX7_takes0 26 = .ok (.if_icmp .ne 11, 3) := by decide +kernel
theorem dX7_takes0_29 : decode cX7_takes0 29 = .ok (.iconst 2, 1) := by decide +kernel
theorem dX7_takes0_30 : decode cX7_takes0 30 = .ok (.aload_n 0, 1) := by decide +kernel
theorem dX7_takes0_31 : decode cX7_takes0 31 = .ok (.iload_n 3, 1) := by decide +kernel
theorem dX7_takes0_32 : decode cX7_takes0 32 = .ok (.invokevirtual 314, 3) := by decide +kernel
theorem dX7_takes0_35 : decode cX7_takes0 35 = .ok (.iadd, 1) := by decide +kernel
theorem dX7_takes0_36 : decode cX7_takes0 36 = .ok (.ireturn, 1) := by decide +kernel
theorem dX7_takes0_37 : decode cX7_takes0 37 = .ok (.iload 4, 2) := by decide +kernel
theorem dX7_takes0_39 : decode cX7_takes0 39 = .ok (.bipush 9, 2) := by decide +kernel
theorem dX7_takes0_41 : decode cX7_takes0 41 = .ok (.if_icmp .eq 10, 3) := by decide +kernel
theorem dX7_takes0_44 : decode cX7_takes0 44 = .ok (.iload 4, 2) := by decide +kernel
theorem dX7_takes0_46 : decode cX7_takes0 46 = .ok (.bipush 10, 2) := by decide +kernel
theorem dX7_takes0_48 : decode cX7_takes0 48 = .ok (.if_icmp .ne 9, 3) := by decide +kernel
theorem dX7_takes0_51 : decode cX7_takes0 51 = .ok (.aload_n 0, 1) := by decide +kernel
theorem dX7_takes0_52 : decode cX7_takes0 52 = .ok (.iload_n 3, 1) := by decide +kernel
theorem dX7_takes0_53 : decode cX7_takes0 53 = .ok (.invokevirtual 317, 3) := by decide +kernel
theorem dX7_takes0_56 : decode cX7_takes0 56 = .ok (.ireturn, 1) := by decide +kernel
theorem dX7_takes0_57 : decode cX7_takes0 57 = .ok (.iload 4, 2) := by decide +kernel
theorem dX7_takes0_59 : decode cX7_takes0 59 = .ok (.bipush 11, 2) := by decide +kernel
theorem dX7_takes0_61 : decode cX7_takes0 61 = .ok (.if_icmp .eq 5, 3) := by decide +kernel
theorem dX7_takes0_64 : decode cX7_takes0 64 = .ok (.iconst 1, 1) := by decide +kernel
theorem dX7_takes0_65 : decode cX7_takes0 65 = .ok (.ireturn, 1) := by decide +kernel
theorem dX7_takes0_66 : decode cX7_takes0 66 = .ok (.iconst 0, 1) := by decide +kernel
theorem dX7_takes0_67 : decode cX7_takes0 67 = .ok (.istore 5, 2) := by decide +kernel
theorem dX7_takes0_69 : decode cX7_takes0 69 = .ok (.iconst 0, 1) := by decide +kernel
theorem dX7_takes0_70 : decode cX7_takes0 70 = .ok (.istore 6, 2) := by decide +kernel
theorem dX7_takes0_72 : decode cX7_takes0 72 = .ok (.iload 6, 2) := by decide +kernel
theorem dX7_takes0_74 : decode cX7_takes0 74 = .ok (.bipush 8, 2) := by decide +kernel
theorem dX7_takes0_76 : decode cX7_takes0 76 = .ok (.if_icmp .ge 20, 3) := by decide +kernel
theorem dX7_takes0_79 : decode cX7_takes0 79 = .ok (.iload 5, 2) := by decide +kernel
theorem dX7_takes0_81 : decode cX7_takes0 81 = .ok (.iload_n 3, 1) := by decide +kernel
theorem dX7_takes0_82 : decode cX7_takes0 82 = .ok (.iload 6, 2) := by decide +kernel
theorem dX7_takes0_84 : decode cX7_takes0 84 = .ok (.ishr, 1) := by decide +kernel
theorem dX7_takes0_85 : decode cX7_takes0 85 = .ok (.iconst 1, 1) := by decide +kernel
theorem dX7_takes0_86 : decode cX7_takes0 86 = .ok (.iand, 1) := by decide +kernel
theorem dX7_takes0_87 : decode cX7_takes0 87 = .ok (.iadd, 1) := by decide +kernel
theorem dX7_takes0_88 : decode cX7_takes0 88 = .ok (.istore 5, 2) := by decide +kernel
theorem dX7_takes0_90 : decode cX7_takes0 90 = .ok (.iinc 6 1, 3) := by decide +kernel
theorem dX7_takes0_93 : decode cX7_takes0 93 = .ok (.goto (-21), 3) := by decide +kernel
theorem dX7_takes0_96 : decode cX7_takes0 96 = .ok (.iload 5, 2) := by decide +kernel
theorem dX7_takes0_98 : decode cX7_takes0 98 = .ok (.ireturn, 1) := by decide +kernel
theorem dX7_made_0 : decode cX7_made 0 = .ok (.iload_n 0, 1) := by decide +kernel
theorem dX7_made_1 : decode cX7_made 1 = .ok (.tableswitch 73 1 4 #[31, 40, 49, 58], 31) := by decide +kernel
theorem dX7_made_32 : decode cX7_made 32 = .ok (.iload_n 1, 1) := by decide +kernel
theorem dX7_made_33 : decode cX7_made 33 = .ok (.i2l, 1) := by decide +kernel
theorem dX7_made_34 : decode cX7_made 34 = .ok (.iload_n 2, 1) := by decide +kernel
theorem dX7_made_35 : decode cX7_made 35 = .ok (.i2l, 1) := by decide +kernel
theorem dX7_made_36 : decode cX7_made 36 = .ok (.ladd, 1) := by decide +kernel
theorem dX7_made_37 : decode cX7_made 37 = .ok (.invokestatic 320, 3) := by decide +kernel
theorem dX7_made_40 : decode cX7_made 40 = .ok (.ireturn, 1) := by decide +kernel
theorem dX7_made_41 : decode cX7_made 41 = .ok (.iload_n 1, 1) := by decide +kernel
theorem dX7_made_42 : decode cX7_made 42 = .ok (.i2l, 1) := by decide +kernel
theorem dX7_made_43 : decode cX7_made 43 = .ok (.iload_n 2, 1) := by decide +kernel
theorem dX7_made_44 : decode cX7_made 44 = .ok (.i2l, 1) := by decide +kernel
theorem dX7_made_45 : decode cX7_made 45 = .ok (.lsub, 1) := by decide +kernel
theorem dX7_made_46 : decode cX7_made 46 = .ok (.invokestatic 320, 3) := by decide +kernel
theorem dX7_made_49 : decode cX7_made 49 = .ok (.ireturn, 1) := by decide +kernel
theorem dX7_made_50 : decode cX7_made 50 = .ok (.iload_n 1, 1) := by decide +kernel
theorem dX7_made_51 : decode cX7_made 51 = .ok (.i2l, 1) := by decide +kernel
theorem dX7_made_52 : decode cX7_made 52 = .ok (.iload_n 2, 1) := by decide +kernel
theorem dX7_made_53 : decode cX7_made 53 = .ok (.i2l, 1) := by decide +kernel
theorem dX7_made_54 : decode cX7_made 54 = .ok (.lmul, 1) := by decide +kernel
theorem dX7_made_55 : decode cX7_made 55 = .ok (.invokestatic 320, 3) := by decide +kernel
theorem dX7_made_58 : decode cX7_made 58 = .ok (.ireturn, 1) := by decide +kernel
theorem dX7_made_59 : decode cX7_made 59 = .ok (.iload_n 2, 1) := by decide +kernel
theorem dX7_made_60 : decode cX7_made 60 = .ok (.ifCond .gt 7, 3) := by decide +kernel
theorem dX7_made_63 : decode cX7_made 63 = .ok (.iconst 0, 1) := by decide +kernel
theorem dX7_made_64 : decode cX7_made 64 = .ok (.goto 9, 3) := by decide +kernel
theorem dX7_made_67 : decode cX7_made 67 = .ok (.iload_n 1, 1) := by decide +kernel
theorem dX7_made_68 : decode cX7_made 68 = .ok (.i2l, 1) := by decide +kernel
theorem dX7_made_69 : decode cX7_made 69 = .ok (.iload_n 2, 1) := by decide +kernel
theorem dX7_made_70 : decode cX7_made 70 = .ok (.invokestatic 300, 3) := by decide +kernel
theorem dX7_made_73 : decode cX7_made 73 = .ok (.ireturn, 1) := by decide +kernel
theorem dX7_made_74 : decode cX7_made 74 = .ok (.iload_n 1, 1) := by decide +kernel
theorem dX7_made_75 : decode cX7_made 75 = .ok (.ireturn, 1) := by decide +kernel
theorem dX7_touches_0 : decode cX7_touches 0 = .ok (.iload_n 3, 1) := by decide +kernel
theorem dX7_touches_1 : decode cX7_touches 1 = .ok (.ifCond .eq 22, 3) := by decide +kernel
theorem dX7_touches_4 : decode cX7_touches 4 = .ok (.aload_n 0, 1) := by decide +kernel
theorem dX7_touches_5 : decode cX7_touches 5 = .ok (.getfield 40, 3) := by decide +kernel
theorem dX7_touches_8 : decode cX7_touches 8 = .ok (.sipush 576, 3) := by decide +kernel
theorem dX7_touches_11 : decode cX7_touches 11 = .ok (.iload_n 1, 1) := by decide +kernel
theorem dX7_touches_12 : decode cX7_touches 12 = .ok (.iadd, 1) := by decide +kernel
theorem dX7_touches_13 : decode cX7_touches 13 = .ok (.dup2, 1) := by decide +kernel
theorem dX7_touches_14 : decode cX7_touches 14 = .ok (.iaload, 1) := by decide +kernel
theorem dX7_touches_15 : decode cX7_touches 15 = .ok (.iconst 1, 1) := by decide +kernel
theorem dX7_touches_16 : decode cX7_touches 16 = .ok (.iload_n 2, 1) := by decide +kernel
theorem dX7_touches_17 : decode cX7_touches 17 = .ok (.ishl, 1) := by decide +kernel
theorem dX7_touches_18 : decode cX7_touches 18 = .ok (.ior, 1) := by decide +kernel
theorem dX7_touches_19 : decode cX7_touches 19 = .ok (.iastore, 1) := by decide +kernel
theorem dX7_touches_20 : decode cX7_touches 20 = .ok (.goto 19, 3) := by decide +kernel
theorem dX7_touches_23 : decode cX7_touches 23 = .ok (.aload_n 0, 1) := by decide +kernel
theorem dX7_touches_24 : decode cX7_touches 24 = .ok (.getfield 40, 3) := by decide +kernel
theorem dX7_touches_27 : decode cX7_touches 27 = .ok (.sipush 480, 3) := by decide +kernel
theorem dX7_touches_30 : decode cX7_touches 30 = .ok (.iload_n 1, 1) := by decide +kernel
theorem dX7_touches_31 : decode cX7_touches 31 = .ok (.iadd, 1) := by decide +kernel
theorem dX7_touches_32 : decode cX7_touches 32 = .ok (.dup2, 1) := by decide +kernel
theorem dX7_touches_33 : decode cX7_touches 33 = .ok (.iaload, 1) := by decide +kernel
theorem dX7_touches_34 : decode cX7_touches 34 = .ok (.iconst 1, 1) := by decide +kernel
theorem dX7_touches_35 : decode cX7_touches 35 = .ok (.iload_n 2, 1) := by decide +kernel
theorem dX7_touches_36 : decode cX7_touches 36 = .ok (.ishl, 1) := by decide +kernel
theorem dX7_touches_37 : decode cX7_touches 37 = .ok (.ior, 1) := by decide +kernel
theorem dX7_touches_38 : decode cX7_touches 38 = .ok (.iastore, 1) := by decide +kernel
theorem dX7_touches_39 : decode cX7_touches 39 = .ok (.aload_n 0, 1) := by decide +kernel
theorem dX7_touches_40 : decode cX7_touches 40 = .ok (.getfield 40, 3) := by decide +kernel
theorem dX7_touches_43 : decode cX7_touches 43 = .ok (.sipush 576, 3) := by decide +kernel
theorem dX7_touches_46 : decode cX7_touches 46 = .ok (.iload_n 1, 1) := by decide +kernel
theorem dX7_touches_47 : decode cX7_touches 47 = .ok (.iadd, 1) := by decide +kernel
theorem dX7_touches_48 : decode cX7_touches 48 = .ok (.iaload, 1) := by decide +kernel
theorem dX7_touches_49 : decode cX7_touches 49 = .ok (.istore 4, 2) := by decide +kernel
theorem dX7_touches_51 : decode cX7_touches 51 = .ok (.iload 4, 2) := by decide +kernel
theorem dX7_touches_53 : decode cX7_touches 53 = .ok (.aload_n 0, 1) := by decide +kernel
theorem dX7_touches_54 : decode cX7_touches 54 = .ok (.getfield 40, 3) := by decide +kernel
theorem dX7_touches_57 : decode cX7_touches 57 = .ok (.sipush 480, 3) := by decide +kernel
theorem dX7_touches_60 : decode cX7_touches 60 = .ok (.iload_n 1, 1) := by decide +kernel
theorem dX7_touches_61 : decode cX7_touches 61 = .ok (.iadd, 1) := by decide +kernel
theorem dX7_touches_62 : decode cX7_touches 62 = .ok (.iaload, 1) := by decide +kernel
theorem dX7_touches_63 : decode cX7_touches 63 = .ok (.ior, 1) := by decide +kernel
theorem dX7_touches_64 : decode cX7_touches 64 = .ok (.istore 5, 2) := by decide +kernel
theorem dX7_touches_66 : decode cX7_touches 66 = .ok (.iload 4, 2) := by decide +kernel
theorem dX7_touches_68 : decode cX7_touches 68 = .ok (.ifCond .eq 24, 3) := by decide +kernel
theorem dX7_touches_71 : decode cX7_touches 71 = .ok (.iload 5, 2) := by decide +kernel
theorem dX7_touches_73 : decode cX7_touches 73 = .ok (.iload 5, 2) := by decide +kernel
theorem dX7_touches_75 : decode cX7_touches 75 = .ok (.iconst 1, 1) := by decide +kernel
theorem dX7_touches_76 : decode cX7_touches 76 = .ok (.isub, 1) := by decide +kernel
theorem dX7_touches_77 : decode cX7_touches 77 = .ok (.iand, 1) := by decide +kernel
theorem dX7_touches_78 : decode cX7_touches 78 = .ok (.ifCond .eq 14, 3) := by decide +kernel
theorem dX7_touches_81 : decode cX7_touches 81 = .ok (.aload_n 0, 1) := by decide +kernel
theorem dX7_touches_82 : decode cX7_touches 82 = .ok (.getfield 40, 3) := by decide +kernel
theorem dX7_touches_85 : decode cX7_touches 85 = .ok (.sipush 672, 3) := by decide +kernel
theorem dX7_touches_88 : decode cX7_touches 88 = .ok (.iload_n 1, 1) := by decide +kernel
theorem dX7_touches_89 : decode cX7_touches 89 = .ok (.iadd, 1) := by decide +kernel
theorem dX7_touches_90 : decode cX7_touches 90 = .ok (.iconst 1, 1) := by decide +kernel
theorem dX7_touches_91 : decode cX7_touches 91 = .ok (.iastore, 1) := by decide +kernel
theorem dX7_touches_92 : decode cX7_touches 92 = .ok (.return_, 1) := by decide +kernel
theorem dX7_works_0 : decode cX7_works 0 = .ok (.aload_n 0, 1) := by decide +kernel
theorem dX7_works_1 : decode cX7_works 1 = .ok (.iload_n 2, 1) := by decide +kernel
theorem dX7_works_2 : decode cX7_works 2 = .ok (.iconst 0, 1) := by decide +kernel
theorem dX7_works_3 : decode cX7_works 3 = .ok (.invokevirtual 231, 3) := by decide +kernel
theorem dX7_works_6 : decode cX7_works 6 = .ok (.istore 4, 2) := by decide +kernel
theorem dX7_works_8 : decode cX7_works 8 = .ok (.iconst 0, 1) := by decide +kernel
theorem dX7_works_9 : decode cX7_works 9 = .ok (.istore 5, 2) := by decide +kernel
theorem dX7_works_11 : decode cX7_works 11 = .ok (.iload 5, 2) := by decide +kernel
theorem dX7_works_13 : decode cX7_works 13 = .ok (.bipush 8, 2) := by decide +kernel
theorem dX7_works_15 : decode cX7_works 15 = .ok (.if_icmp .ge 351, 3) := by decide +kernel
theorem dX7_works_18 : decode cX7_works 18 = .ok (.iload_n 3, 1) := by decide +kernel
theorem dX7_works_19 : decode cX7_works 19 = .ok (.iload 5, 2) := by decide +kernel
theorem dX7_works_21 : decode cX7_works 21 = .ok (.invokestatic 261, 3) := by decide +kernel
theorem dX7_works_24 : decode cX7_works 24 = .ok (.ifCond .ne 6, 3) := by decide +kernel
theorem dX7_works_27 : decode cX7_works 27 = .ok (.goto 333, 3) := by decide +kernel
theorem dX7_works_30 : decode cX7_works 30 = .ok (.iload_n 1, 1) := by decide +kernel
theorem dX7_works_31 : decode cX7_works 31 = .ok (.iload 5, 2) := by decide +kernel
theorem dX7_works_33 : decode cX7_works 33 = .ok (.aload_n 0, 1) := by decide +kernel
theorem dX7_works_34 : decode cX7_works 34 = .ok (.iload_n 2, 1) := by decide +kernel
theorem dX7_works_35 : decode cX7_works 35 = .ok (.iconst 1, 1) := by decide +kernel
theorem dX7_works_36 : decode cX7_works 36 = .ok (.invokevirtual 231, 3) := by decide +kernel
theorem dX7_works_39 : decode cX7_works 39 = .ok (.i2l, 1) := by decide +kernel
theorem dX7_works_40 : decode cX7_works 40 = .ok (.lconst 0, 1) := by decide +kernel
theorem dX7_works_41 : decode cX7_works 41 = .ok (.ldc2_w 324, 3) := by decide +kernel
theorem dX7_works_44 : decode cX7_works 44 = .ok (.invokestatic 82, 3) := by decide +kernel
theorem dX7_works_47 : decode cX7_works 47 = .ok (.ifCond .eq 12, 3) := by decide +kernel
theorem dX7_works_50 : decode cX7_works 50 = .ok (.aload_n 0, 1) := by decide +kernel
theorem dX7_works_51 : decode cX7_works 51 = .ok (.iload_n 2, 1) := by decide +kernel
theorem dX7_works_52 : decode cX7_works 52 = .ok (.iconst 1, 1) := by decide +kernel
theorem dX7_works_53 : decode cX7_works 53 = .ok (.invokevirtual 231, 3) := by decide +kernel
theorem dX7_works_56 : decode cX7_works 56 = .ok (.goto 4, 3) := by decide +kernel
theorem dX7_works_59 : decode cX7_works 59 = .ok (.iconst 0, 1) := by decide +kernel
theorem dX7_works_60 : decode cX7_works 60 = .ok (.invokestatic 287, 3) := by decide +kernel
theorem dX7_works_63 : decode cX7_works 63 = .ok (.istore 6, 2) := by decide +kernel
theorem dX7_works_65 : decode cX7_works 65 = .ok (.bipush 8, 2) := by decide +kernel
theorem dX7_works_67 : decode cX7_works 67 = .ok (.iload_n 1, 1) := by decide +kernel
theorem dX7_works_68 : decode cX7_works 68 = .ok (.imul, 1) := by decide +kernel
theorem dX7_works_69 : decode cX7_works 69 = .ok (.iload 5, 2) := by decide +kernel
theorem dX7_works_71 : decode cX7_works 71 = .ok (.iadd, 1) := by decide +kernel
theorem dX7_works_72 : decode cX7_works 72 = .ok (.istore 7, 2) := by decide +kernel
theorem dX7_works_74 : decode cX7_works 74 = .ok (.aload_n 0, 1) := by decide +kernel
theorem dX7_works_75 : decode cX7_works 75 = .ok (.getfield 43, 3) := by decide +kernel
theorem dX7_works_78 : decode cX7_works 78 = .ok (.iload 5, 2) := by decide +kernel
theorem dX7_works_80 : decode cX7_works 80 = .ok (.iaload, 1) := by decide +kernel
theorem dX7_works_81 : decode cX7_works 81 = .ok (.i2l, 1) := by decide +kernel
theorem dX7_works_82 : decode cX7_works 82 = .ok (.bipush 64, 2) := by decide +kernel
theorem dX7_works_84 : decode cX7_works 84 = .ok (.invokestatic 300, 3) := by decide +kernel
theorem dX7_works_87 : decode cX7_works 87 = .ok (.istore 8, 2) := by decide +kernel
theorem dX7_works_89 : decode cX7_works 89 = .ok (.aload_n 0, 1) := by decide +kernel
theorem dX7_works_90 : decode cX7_works 90 = .ok (.getfield 43, 3) := by decide +kernel
theorem dX7_works_93 : decode cX7_works 93 = .ok (.iload 5, 2) := by decide +kernel
theorem dX7_works_95 : decode cX7_works 95 = .ok (.iaload, 1) := by decide +kernel
theorem dX7_works_96 : decode cX7_works 96 = .ok (.i2l, 1) := by decide +kernel
theorem dX7_works_97 : decode cX7_works 97 = .ok (.bipush 32, 2) := by decide +kernel
theorem dX7_works_99 : decode cX7_works 99 = .ok (.invokestatic 300, 3) := by decide +kernel
theorem dX7_works_102 : decode cX7_works 102 = .ok (.istore 9, 2) := by decide +kernel
theorem dX7_works_104 : decode cX7_works 104 = .ok (.iload 4, 2) := by decide +kernel
theorem dX7_works_106 : decode cX7_works 106 = .ok (.tableswitch 228 5 11 #[42, 54, 65, 94, 123, 155, 187], 42) := by decide +kernel
theorem dX7_works_148 : decode cX7_works 148 = .ok (.aload_n 0, 1) := by decide +kernel
theorem dX7_works_149 : decode cX7_works 149 = .ok (.getfield 40, 3) := by decide +kernel
theorem dX7_works_152 : decode cX7_works 152 = .ok (.iload 6, 2) := by decide +kernel
theorem dX7_works_154 : decode cX7_works 154 = .ok (.iload 5, 2) := by decide +kernel
theorem dX7_works_156 : decode cX7_works 156 = .ok (.iastore, 1) := by decide +kernel
theorem dX7_works_157 : decode cX7_works 157 = .ok (.goto 203, 3) := by decide +kernel
theorem dX7_works_160 : decode cX7_works 160 = .ok (.aload_n 0, 1) := by decide +kernel
theorem dX7_works_161 : decode cX7_works 161 = .ok (.getfield 40, 3) := by decide +kernel
theorem dX7_works_164 : decode cX7_works 164 = .ok (.iload 6, 2) := by decide +kernel
theorem dX7_works_166 : decode cX7_works 166 = .ok (.iload_n 1, 1) := by decide +kernel
theorem dX7_works_167 : decode cX7_works 167 = .ok (.iastore, 1) := by decide +kernel
theorem dX7_works_168 : decode cX7_works 168 = .ok (.goto 192, 3) := by decide +kernel
theorem dX7_works_171 : decode cX7_works 171 = .ok (.aload_n 0, 1) := by decide +kernel
theorem dX7_works_172 : decode cX7_works 172 = .ok (.iload 8, 2) := by decide +kernel
theorem dX7_works_174 : decode cX7_works 174 = .ok (.iload 7, 2) := by decide +kernel
theorem dX7_works_176 : decode cX7_works 176 = .ok (.iconst 0, 1) := by decide +kernel
theorem dX7_works_177 : decode cX7_works 177 = .ok (.invokevirtual 326, 3) := by decide +kernel
theorem dX7_works_180 : decode cX7_works 180 = .ok (.aload_n 0, 1) := by decide +kernel
theorem dX7_works_181 : decode cX7_works 181 = .ok (.getfield 40, 3) := by decide +kernel
theorem dX7_works_184 : decode cX7_works 184 = .ok (.iload 6, 2) := by decide +kernel
theorem dX7_works_186 : decode cX7_works 186 = .ok (.aload_n 0, 1) := by decide +kernel
theorem dX7_works_187 : decode cX7_works 187 = .ok (.getfield 40, 3) := by decide +kernel
theorem dX7_works_190 : decode cX7_works 190 = .ok (.bipush 8, 2) := by decide +kernel
theorem dX7_works_192 : decode cX7_works 192 = .ok (.iload 8, 2) := by decide +kernel
theorem dX7_works_194 : decode cX7_works 194 = .ok (.iadd, 1) := by decide +kernel
theorem dX7_works_195 : decode cX7_works 195 = .ok (.iaload, 1) := by decide +kernel
theorem dX7_works_196 : decode cX7_works 196 = .ok (.iastore, 1) := by decide +kernel
theorem dX7_works_197 : decode cX7_works 197 = .ok (.goto 163, 3) := by decide +kernel
theorem dX7_works_200 : decode cX7_works 200 = .ok (.aload_n 0, 1) := by decide +kernel
theorem dX7_works_201 : decode cX7_works 201 = .ok (.iload 8, 2) := by decide +kernel
theorem dX7_works_203 : decode cX7_works 203 = .ok (.iload 7, 2) := by decide +kernel
theorem dX7_works_205 : decode cX7_works 205 = .ok (.iconst 1, 1) := by decide +kernel
theorem dX7_works_206 : decode cX7_works 206 = .ok (.invokevirtual 326, 3) := by decide +kernel
theorem dX7_works_209 : decode cX7_works 209 = .ok (.aload_n 0, 1) := by decide +kernel
theorem dX7_works_210 : decode cX7_works 210 = .ok (.getfield 40, 3) := by decide +kernel
theorem dX7_works_213 : decode cX7_works 213 = .ok (.bipush 8, 2) := by decide +kernel
theorem dX7_works_215 : decode cX7_works 215 = .ok (.iload 8, 2) := by decide +kernel
theorem dX7_works_217 : decode cX7_works 217 = .ok (.iadd, 1) := by decide +kernel
theorem dX7_works_218 : decode cX7_works 218 = .ok (.aload_n 0, 1) := by decide +kernel
theorem dX7_works_219 : decode cX7_works 219 = .ok (.getfield 46, 3) := by decide +kernel
theorem dX7_works_222 : decode cX7_works 222 = .ok (.iload 5, 2) := by decide +kernel
theorem dX7_works_224 : decode cX7_works 224 = .ok (.iaload, 1) := by decide +kernel
theorem dX7_works_225 : decode cX7_works 225 = .ok (.iastore, 1) := by decide +kernel
theorem dX7_works_226 : decode cX7_works 226 = .ok (.goto 134, 3) := by decide +kernel
theorem dX7_works_229 : decode cX7_works 229 = .ok (.aload_n 0, 1) := by decide +kernel
theorem dX7_works_230 : decode cX7_works 230 = .ok (.bipush 64, 2) := by decide +kernel
theorem dX7_works_232 : decode cX7_works 232 = .ok (.iload 9, 2) := by decide +kernel
theorem dX7_works_234 : decode cX7_works 234 = .ok (.iadd, 1) := by decide +kernel
theorem dX7_works_235 : decode cX7_works 235 = .ok (.iload 7, 2) := by decide +kernel
theorem dX7_works_237 : decode cX7_works 237 = .ok (.iconst 0, 1) := by decide +kernel
theorem dX7_works_238 : decode cX7_works 238 = .ok (.invokevirtual 326, 3) := by decide +kernel
theorem dX7_works_241 : decode cX7_works 241 = .ok (.aload_n 0, 1) := by decide +kernel
theorem dX7_works_242 : decode cX7_works 242 = .ok (.getfield 40, 3) := by decide +kernel
theorem dX7_works_245 : decode cX7_works 245 = .ok (.iload 6, 2) := by decide +kernel
theorem dX7_works_247 : decode cX7_works 247 = .ok (.aload_n 0, 1) := by decide +kernel
theorem dX7_works_248 : decode cX7_works 248 = .ok (.getfield 40, 3) := by decide +kernel
theorem dX7_works_251 : decode cX7_works 251 = .ok (.bipush 72, 2) := by decide +kernel
theorem dX7_works_253 : decode cX7_works 253 = .ok (.iload 9, 2) := by decide +kernel
theorem dX7_works_255 : decode cX7_works 255 = .ok (.iadd, 1) := by decide +kernel
theorem dX7_works_256 : decode cX7_works 256 = .ok (.iaload, 1) := by decide +kernel
theorem dX7_works_257 : decode cX7_works 257 = .ok (.iastore, 1) := by decide +kernel
theorem dX7_works_258 : decode cX7_works 258 = .ok (.goto 102, 3) := by decide +kernel
theorem dX7_works_261 : decode cX7_works 261 = .ok (.aload_n 0, 1) := by decide +kernel
theorem dX7_works_262 : decode cX7_works 262 = .ok (.bipush 64, 2) := by decide +kernel
theorem dX7_works_264 : decode cX7_works 264 = .ok (.iload 9, 2) := by decide +kernel
theorem dX7_works_266 : decode cX7_works 266 = .ok (.iadd, 1) := by decide +kernel
theorem dX7_works_267 : decode cX7_works 267 = .ok (.iload 7, 2) := by decide +kernel
theorem dX7_works_269 : decode cX7_works 269 = .ok (.iconst 1, 1) := by decide +kernel
theorem dX7_works_270 : decode cX7_works 270 = .ok (.invokevirtual 326, 3) := by decide +kernel
theorem dX7_works_273 : decode cX7_works 273 = .ok (.aload_n 0, 1) := by decide +kernel
theorem dX7_works_274 : decode cX7_works 274 = .ok (.getfield 40, 3) := by decide +kernel
theorem dX7_works_277 : decode cX7_works 277 = .ok (.bipush 72, 2) := by decide +kernel
theorem dX7_works_279 : decode cX7_works 279 = .ok (.iload 9, 2) := by decide +kernel
theorem dX7_works_281 : decode cX7_works 281 = .ok (.iadd, 1) := by decide +kernel
theorem dX7_works_282 : decode cX7_works 282 = .ok (.aload_n 0, 1) := by decide +kernel
theorem dX7_works_283 : decode cX7_works 283 = .ok (.getfield 46, 3) := by decide +kernel
theorem dX7_works_286 : decode cX7_works 286 = .ok (.iload 5, 2) := by decide +kernel
theorem dX7_works_288 : decode cX7_works 288 = .ok (.iaload, 1) := by decide +kernel
theorem dX7_works_289 : decode cX7_works 289 = .ok (.iastore, 1) := by decide +kernel
theorem dX7_works_290 : decode cX7_works 290 = .ok (.goto 70, 3) := by decide +kernel
theorem dX7_works_293 : decode cX7_works 293 = .ok (.aload_n 0, 1) := by decide +kernel
theorem dX7_works_294 : decode cX7_works 294 = .ok (.getfield 40, 3) := by decide +kernel
theorem dX7_works_297 : decode cX7_works 297 = .ok (.bipush 72, 2) := by decide +kernel
theorem dX7_works_299 : decode cX7_works 299 = .ok (.iload 9, 2) := by decide +kernel
theorem dX7_works_301 : decode cX7_works 301 = .ok (.iadd, 1) := by decide +kernel
theorem dX7_works_302 : decode cX7_works 302 = .ok (.iaload, 1) := by decide +kernel
theorem dX7_works_303 : decode cX7_works 303 = .ok (.istore 10, 2) := by decide +kernel
theorem dX7_works_305 : decode cX7_works 305 = .ok (.aload_n 0, 1) := by decide +kernel
theorem dX7_works_306 : decode cX7_works 306 = .ok (.getfield 40, 3) := by decide +kernel
theorem dX7_works_309 : decode cX7_works 309 = .ok (.bipush 72, 2) := by decide +kernel
theorem dX7_works_311 : decode cX7_works 311 = .ok (.iload 9, 2) := by decide +kernel
theorem dX7_works_313 : decode cX7_works 313 = .ok (.iadd, 1) := by decide +kernel
theorem dX7_works_314 : decode cX7_works 314 = .ok (.aload_n 0, 1) := by decide +kernel
theorem dX7_works_315 : decode cX7_works 315 = .ok (.getfield 40, 3) := by decide +kernel
theorem dX7_works_318 : decode cX7_works 318 = .ok (.iload 6, 2) := by decide +kernel
theorem dX7_works_320 : decode cX7_works 320 = .ok (.iaload, 1) := by decide +kernel
theorem dX7_works_321 : decode cX7_works 321 = .ok (.iastore, 1) := by decide +kernel
theorem dX7_works_322 : decode cX7_works 322 = .ok (.aload_n 0, 1) := by decide +kernel
theorem dX7_works_323 : decode cX7_works 323 = .ok (.getfield 40, 3) := by decide +kernel
theorem dX7_works_326 : decode cX7_works 326 = .ok (.iload 6, 2) := by decide +kernel
theorem dX7_works_328 : decode cX7_works 328 = .ok (.iload 10, 2) := by decide +kernel
theorem dX7_works_330 : decode cX7_works 330 = .ok (.iastore, 1) := by decide +kernel
theorem dX7_works_331 : decode cX7_works 331 = .ok (.goto 29, 3) := by decide +kernel
theorem dX7_works_334 : decode cX7_works 334 = .ok (.aload_n 0, 1) := by decide +kernel
theorem dX7_works_335 : decode cX7_works 335 = .ok (.getfield 40, 3) := by decide +kernel
theorem dX7_works_338 : decode cX7_works 338 = .ok (.iload 6, 2) := by decide +kernel
theorem dX7_works_340 : decode cX7_works 340 = .ok (.iload 4, 2) := by decide +kernel
theorem dX7_works_342 : decode cX7_works 342 = .ok (.aload_n 0, 1) := by decide +kernel
theorem dX7_works_343 : decode cX7_works 343 = .ok (.getfield 43, 3) := by decide +kernel
theorem dX7_works_346 : decode cX7_works 346 = .ok (.iload 5, 2) := by decide +kernel
theorem dX7_works_348 : decode cX7_works 348 = .ok (.iaload, 1) := by decide +kernel
theorem dX7_works_349 : decode cX7_works 349 = .ok (.aload_n 0, 1) := by decide +kernel
theorem dX7_works_350 : decode cX7_works 350 = .ok (.getfield 46, 3) := by decide +kernel
theorem dX7_works_353 : decode cX7_works 353 = .ok (.iload 5, 2) := by decide +kernel
theorem dX7_works_355 : decode cX7_works 355 = .ok (.iaload, 1) := by decide +kernel
theorem dX7_works_356 : decode cX7_works 356 = .ok (.invokestatic 330, 3) := by decide +kernel
theorem dX7_works_359 : decode cX7_works 359 = .ok (.iastore, 1) := by decide +kernel
theorem dX7_works_360 : decode cX7_works 360 = .ok (.iinc 5 1, 3) := by decide +kernel
theorem dX7_works_363 : decode cX7_works 363 = .ok (.goto (-352), 3) := by decide +kernel
theorem dX7_works_366 : decode cX7_works 366 = .ok (.return_, 1) := by decide +kernel
theorem dX7_holding_0 : decode cX7_holding 0 = .ok (.aload_n 0, 1) := by decide +kernel
theorem dX7_holding_1 : decode cX7_holding 1 = .ok (.iload_n 1, 1) := by decide +kernel
theorem dX7_holding_2 : decode cX7_holding 2 = .ok (.invokevirtual 219, 3) := by decide +kernel
theorem dX7_holding_5 : decode cX7_holding 5 = .ok (.ifCond .ne 5, 3) := by decide +kernel
theorem dX7_holding_8 : decode cX7_holding 8 = .ok (.iload_n 2, 1) := by decide +kernel
theorem dX7_holding_9 : decode cX7_holding 9 = .ok (.ireturn, 1) := by decide +kernel
theorem dX7_holding_10 : decode cX7_holding 10 = .ok (.iconst 0, 1) := by decide +kernel
theorem dX7_holding_11 : decode cX7_holding 11 = .ok (.istore_n 3, 1) := by decide +kernel
theorem dX7_holding_12 : decode cX7_holding 12 = .ok (.iconst 0, 1) := by decide +kernel
theorem dX7_holding_13 : decode cX7_holding 13 = .ok (.istore 4, 2) := by decide +kernel
theorem dX7_holding_15 : decode cX7_holding 15 = .ok (.iload 4, 2) := by decide +kernel
theorem dX7_holding_17 : decode cX7_holding 17 = .ok (.bipush 8, 2) := by decide +kernel
theorem dX7_holding_19 : decode cX7_holding 19 = .ok (.if_icmp .ge 104, 3) := by decide +kernel
theorem dX7_holding_22 : decode cX7_holding 22 = .ok (.iload_n 2, 1) := by decide +kernel
theorem dX7_holding_23 : decode cX7_holding 23 = .ok (.iload 4, 2) := by decide +kernel
theorem dX7_holding_25 : decode cX7_holding 25 = .ok (.invokestatic 261, 3) := by decide +kernel
theorem dX7_holding_28 : decode cX7_holding 28 = .ok (.ifCond .ne 6, 3) := by decide +kernel
theorem dX7_holding_31 : decode cX7_holding 31 = .ok (.goto 86, 3) := by decide +kernel
theorem dX7_holding_34 : decode cX7_holding 34 = .ok (.aload_n 0, 1) := by decide +kernel
theorem dX7_holding_35 : decode cX7_holding 35 = .ok (.iload_n 1, 1) := by decide +kernel
theorem dX7_holding_36 : decode cX7_holding 36 = .ok (.iconst 5, 1) := by decide +kernel
theorem dX7_holding_37 : decode cX7_holding 37 = .ok (.invokevirtual 231, 3) := by decide +kernel
theorem dX7_holding_40 : decode cX7_holding 40 = .ok (.istore 5, 2) := by decide +kernel
theorem dX7_holding_42 : decode cX7_holding 42 = .ok (.iload 5, 2) := by decide +kernel
theorem dX7_holding_44 : decode cX7_holding 44 = .ok (.ifCond .ne 23, 3) := by decide +kernel
theorem dX7_holding_47 : decode cX7_holding 47 = .ok (.aload_n 0, 1) := by decide +kernel
theorem dX7_holding_48 : decode cX7_holding 48 = .ok (.getfield 43, 3) := by decide +kernel
theorem dX7_holding_51 : decode cX7_holding 51 = .ok (.iload 4, 2) := by decide +kernel
theorem dX7_holding_53 : decode cX7_holding 53 = .ok (.iaload, 1) := by decide +kernel
theorem dX7_holding_54 : decode cX7_holding 54 = .ok (.aload_n 0, 1) := by decide +kernel
theorem dX7_holding_55 : decode cX7_holding 55 = .ok (.getfield 46, 3) := by decide +kernel
theorem dX7_holding_58 : decode cX7_holding 58 = .ok (.iload 4, 2) := by decide +kernel
theorem dX7_holding_60 : decode cX7_holding 60 = .ok (.iaload, 1) := by decide +kernel
theorem dX7_holding_61 : decode cX7_holding 61 = .ok (.if_icmp .ge 56, 3) := by decide +kernel
theorem dX7_holding_64 : decode cX7_holding 64 = .ok (.goto 46, 3) := by decide +kernel
theorem dX7_holding_67 : decode cX7_holding 67 = .ok (.iload 5, 2) := by decide +kernel
theorem dX7_holding_69 : decode cX7_holding 69 = .ok (.iconst 1, 1) := by decide +kernel
theorem dX7_holding_70 : decode cX7_holding 70 = .ok (.if_icmp .ne 23, 3) := by decide +kernel
theorem dX7_holding_73 : decode cX7_holding 73 = .ok (.aload_n 0, 1) := by decide +kernel
theorem dX7_holding_74 : decode cX7_holding 74 = .ok (.getfield 43, 3) := by decide +kernel
theorem dX7_holding_77 : decode cX7_holding 77 = .ok (.iload 4, 2) := by decide +kernel
theorem dX7_holding_79 : decode cX7_holding 79 = .ok (.iaload, 1) := by decide +kernel
theorem dX7_holding_80 : decode cX7_holding 80 = .ok (.aload_n 0, 1) := by decide +kernel
theorem dX7_holding_81 : decode cX7_holding 81 = .ok (.getfield 46, 3) := by decide +kernel
theorem dX7_holding_84 : decode cX7_holding 84 = .ok (.iload 4, 2) := by decide +kernel
theorem dX7_holding_86 : decode cX7_holding 86 = .ok (.iaload, 1) := by decide +kernel
theorem dX7_holding_87 : decode cX7_holding 87 = .ok (.if_icmp .ne 30, 3) := by decide +kernel
theorem dX7_holding_90 : decode cX7_holding 90 = .ok (.goto 20, 3) := by decide +kernel
theorem dX7_holding_93 : decode cX7_holding 93 = .ok (.aload_n 0, 1) := by decide +kernel
theorem dX7_holding_94 : decode cX7_holding 94 = .ok (.getfield 43, 3) := by decide +kernel
theorem dX7_holding_97 : decode cX7_holding 97 = .ok (.iload 4, 2) := by decide +kernel
theorem dX7_holding_99 : decode cX7_holding 99 = .ok (.iaload, 1) := by decide +kernel
theorem dX7_holding_100 : decode cX7_holding 100 = .ok (.aload_n 0, 1) := by decide +kernel
theorem dX7_holding_101 : decode cX7_holding 101 = .ok (.getfield 46, 3) := by decide +kernel
theorem dX7_holding_104 : decode cX7_holding 104 = .ok (.iload 4, 2) := by decide +kernel
theorem dX7_holding_106 : decode cX7_holding 106 = .ok (.iaload, 1) := by decide +kernel
theorem dX7_holding_107 : decode cX7_holding 107 = .ok (.if_icmp .le 10, 3) := by decide +kernel
theorem dX7_holding_110 : decode cX7_holding 110 = .ok (.iload_n 3, 1) := by decide +kernel
theorem dX7_holding_111 : decode cX7_holding 111 = .ok (.iconst 1, 1) := by decide +kernel
theorem dX7_holding_112 : decode cX7_holding 112 = .ok (.iload 4, 2) := by decide +kernel
theorem dX7_holding_114 : decode cX7_holding 114 = .ok (.ishl, 1) := by decide +kernel
theorem dX7_holding_115 : decode cX7_holding 115 = .ok (.ior, 1) := by decide +kernel
theorem dX7_holding_116 : decode cX7_holding 116 = .ok (.istore_n 3, 1) := by decide +kernel
theorem dX7_holding_117 : decode cX7_holding 117 = .ok (.iinc 4 1, 3) := by decide +kernel
theorem dX7_holding_120 : decode cX7_holding 120 = .ok (.goto (-105), 3) := by decide +kernel
theorem dX7_holding_123 : decode cX7_holding 123 = .ok (.iload_n 3, 1) := by decide +kernel
theorem dX7_holding_124 : decode cX7_holding 124 = .ok (.ireturn, 1) := by decide +kernel
theorem dX7_nexts_0 : decode cX7_nexts 0 = .ok (.iconst 0, 1) := by decide +kernel
theorem dX7_nexts_1 : decode cX7_nexts 1 = .ok (.istore 4, 2) := by decide +kernel
theorem dX7_nexts_3 : decode cX7_nexts 3 = .ok (.iload 4, 2) := by decide +kernel
theorem dX7_nexts_5 : decode cX7_nexts 5 = .ok (.bipush 8, 2) := by decide +kernel
theorem dX7_nexts_7 : decode cX7_nexts 7 = .ok (.if_icmp .ge 30, 3) := by decide +kernel
theorem dX7_nexts_10 : decode cX7_nexts 10 = .ok (.iload_n 2, 1) := by decide +kernel
theorem dX7_nexts_11 : decode cX7_nexts 11 = .ok (.iload 4, 2) := by decide +kernel
theorem dX7_nexts_13 : decode cX7_nexts 13 = .ok (.invokestatic 261, 3) := by decide +kernel
theorem dX7_nexts_16 : decode cX7_nexts 16 = .ok (.ifCond .eq 15, 3) := by decide +kernel
theorem dX7_nexts_19 : decode cX7_nexts 19 = .ok (.aload_n 0, 1) := by decide +kernel
theorem dX7_nexts_20 : decode cX7_nexts 20 = .ok (.getfield 40, 3) := by decide +kernel
theorem dX7_nexts_23 : decode cX7_nexts 23 = .ok (.iload_n 1, 1) := by decide +kernel
theorem dX7_nexts_24 : decode cX7_nexts 24 = .ok (.iload 4, 2) := by decide +kernel
theorem dX7_nexts_26 : decode cX7_nexts 26 = .ok (.invokestatic 258, 3) := by decide +kernel
theorem dX7_nexts_29 : decode cX7_nexts 29 = .ok (.iload_n 3, 1) := by decide +kernel
theorem dX7_nexts_30 : decode cX7_nexts 30 = .ok (.iastore, 1) := by decide +kernel
theorem dX7_nexts_31 : decode cX7_nexts 31 = .ok (.iinc 4 1, 3) := by decide +kernel
theorem dX7_nexts_34 : decode cX7_nexts 34 = .ok (.goto (-31), 3) := by decide +kernel
theorem dX7_nexts_37 : decode cX7_nexts 37 = .ok (.aload_n 0, 1) := by decide +kernel
theorem dX7_nexts_38 : decode cX7_nexts 38 = .ok (.getfield 40, 3) := by decide +kernel
theorem dX7_nexts_41 : decode cX7_nexts 41 = .ok (.iconst 3, 1) := by decide +kernel
theorem dX7_nexts_42 : decode cX7_nexts 42 = .ok (.iaload, 1) := by decide +kernel
theorem dX7_nexts_43 : decode cX7_nexts 43 = .ok (.iconst 1, 1) := by decide +kernel
theorem dX7_nexts_44 : decode cX7_nexts 44 = .ok (.if_icmp .ne 17, 3) := by decide +kernel
theorem dX7_nexts_47 : decode cX7_nexts 47 = .ok (.iload_n 3, 1) := by decide +kernel
theorem dX7_nexts_48 : decode cX7_nexts 48 = .ok (.aload_n 0, 1) := by decide +kernel
theorem dX7_nexts_49 : decode cX7_nexts 49 = .ok (.invokevirtual 212, 3) := by decide +kernel
theorem dX7_nexts_52 : decode cX7_nexts 52 = .ok (.if_icmp .ne 9, 3) := by decide +kernel
theorem dX7_nexts_55 : decode cX7_nexts 55 = .ok (.aload_n 0, 1) := by decide +kernel
theorem dX7_nexts_56 : decode cX7_nexts 56 = .ok (.iload_n 1, 1) := by decide +kernel
theorem dX7_nexts_57 : decode cX7_nexts 57 = .ok (.iload_n 2, 1) := by decide +kernel
theorem dX7_nexts_58 : decode cX7_nexts 58 = .ok (.invokevirtual 275, 3) := by decide +kernel
theorem dX7_nexts_61 : decode cX7_nexts 61 = .ok (.return_, 1) := by decide +kernel
theorem dX7_partsWays_0 : decode cX7_partsWays 0 = .ok (.aload_n 0, 1) := by decide +kernel
theorem dX7_partsWays_1 : decode cX7_partsWays 1 = .ok (.iload_n 1, 1) := by decide +kernel
theorem dX7_partsWays_2 : decode cX7_partsWays 2 = .ok (.invokevirtual 272, 3) := by decide +kernel
theorem dX7_partsWays_5 : decode cX7_partsWays 5 = .ok (.istore 4, 2) := by decide +kernel
theorem dX7_partsWays_7 : decode cX7_partsWays 7 = .ok (.aload_n 0, 1) := by decide +kernel
theorem dX7_partsWays_8 : decode cX7_partsWays 8 = .ok (.iload_n 2, 1) := by decide +kernel
theorem dX7_partsWays_9 : decode cX7_partsWays 9 = .ok (.iload_n 3, 1) := by decide +kernel
theorem dX7_partsWays_10 : decode cX7_partsWays 10 = .ok (.invokevirtual 333, 3) := by decide +kernel
theorem dX7_partsWays_13 : decode cX7_partsWays 13 = .ok (.istore 5, 2) := by decide +kernel
theorem dX7_partsWays_15 : decode cX7_partsWays 15 = .ok (.iload 5, 2) := by decide +kernel
theorem dX7_partsWays_17 : decode cX7_partsWays 17 = .ok (.iload_n 3, 1) := by decide +kernel
theorem dX7_partsWays_18 : decode cX7_partsWays 18 = .ok (.if_icmp .eq 8, 3) := by decide +kernel
theorem dX7_partsWays_21 : decode cX7_partsWays 21 = .ok (.iload 5, 2) := by decide +kernel
theorem dX7_partsWays_23 : decode cX7_partsWays 23 = .ok (.ifCond .ne 33, 3) := by decide +kernel
theorem dX7_partsWays_26 : decode cX7_partsWays 26 = .ok (.aload_n 0, 1) := by decide +kernel
theorem dX7_partsWays_27 : decode cX7_partsWays 27 = .ok (.getfield 40, 3) := by decide +kernel
theorem dX7_partsWays_30 : decode cX7_partsWays 30 = .ok (.iload_n 1, 1) := by decide +kernel
theorem dX7_partsWays_31 : decode cX7_partsWays 31 = .ok (.iload 4, 2) := by decide +kernel
theorem dX7_partsWays_33 : decode cX7_partsWays 33 = .ok (.iconst 0, 1) := by decide +kernel
theorem dX7_partsWays_34 : decode cX7_partsWays 34 = .ok (.invokestatic 268, 3) := by decide +kernel
theorem dX7_partsWays_37 : decode cX7_partsWays 37 = .ok (.iload 5, 2) := by decide +kernel
theorem dX7_partsWays_39 : decode cX7_partsWays 39 = .ok (.ifCond .ne 9, 3) := by decide +kernel
theorem dX7_partsWays_42 : decode cX7_partsWays 42 = .ok (.iload_n 2, 1) := by decide +kernel
theorem dX7_partsWays_43 : decode cX7_partsWays 43 = .ok (.iconst 1, 1) := by decide +kernel
theorem dX7_partsWays_44 : decode cX7_partsWays 44 = .ok (.iadd, 1) := by decide +kernel
theorem dX7_partsWays_45 : decode cX7_partsWays 45 = .ok (.goto 9, 3) := by decide +kernel
theorem dX7_partsWays_48 : decode cX7_partsWays 48 = .ok (.aload_n 0, 1) := by decide +kernel
theorem dX7_partsWays_49 : decode cX7_partsWays 49 = .ok (.iload_n 2, 1) := by decide +kernel
theorem dX7_partsWays_50 : decode cX7_partsWays 50 = .ok (.iconst 4, 1) := by decide +kernel
theorem dX7_partsWays_51 : decode cX7_partsWays 51 = .ok (.invokevirtual 231, 3) := by decide +kernel
theorem dX7_partsWays_54 : decode cX7_partsWays 54 = .ok (.iastore, 1) := by decide +kernel
theorem dX7_partsWays_55 : decode cX7_partsWays 55 = .ok (.return_, 1) := by decide +kernel
theorem dX7_partsWays_56 : decode cX7_partsWays 56 = .ok (.aload_n 0, 1) := by decide +kernel
theorem dX7_partsWays_57 : decode cX7_partsWays 57 = .ok (.iload_n 2, 1) := by decide +kernel
theorem dX7_partsWays_58 : decode cX7_partsWays 58 = .ok (.bipush 6, 2) := by decide +kernel
theorem dX7_partsWays_60 : decode cX7_partsWays 60 = .ok (.invokevirtual 231, 3) := by decide +kernel
theorem dX7_partsWays_63 : decode cX7_partsWays 63 = .ok (.istore 6, 2) := by decide +kernel
theorem dX7_partsWays_65 : decode cX7_partsWays 65 = .ok (.aload_n 0, 1) := by decide +kernel
theorem dX7_partsWays_66 : decode cX7_partsWays 66 = .ok (.getfield 40, 3) := by decide +kernel
theorem dX7_partsWays_69 : decode cX7_partsWays 69 = .ok (.iload_n 1, 1) := by decide +kernel
theorem dX7_partsWays_70 : decode cX7_partsWays 70 = .ok (.iload 4, 2) := by decide +kernel
theorem dX7_partsWays_72 : decode cX7_partsWays 72 = .ok (.iconst 0, 1) := by decide +kernel
theorem dX7_partsWays_73 : decode cX7_partsWays 73 = .ok (.invokestatic 268, 3) := by decide +kernel
theorem dX7_partsWays_76 : decode cX7_partsWays 76 = .ok (.iload 6, 2) := by decide +kernel
theorem dX7_partsWays_78 : decode cX7_partsWays 78 = .ok (.iastore, 1) := by decide +kernel
theorem dX7_partsWays_79 : decode cX7_partsWays 79 = .ok (.aload_n 0, 1) := by decide +kernel
theorem dX7_partsWays_80 : decode cX7_partsWays 80 = .ok (.iload_n 1, 1) := by decide +kernel
theorem dX7_partsWays_81 : decode cX7_partsWays 81 = .ok (.iload_n 2, 1) := by decide +kernel
theorem dX7_partsWays_82 : decode cX7_partsWays 82 = .ok (.iconst 1, 1) := by decide +kernel
theorem dX7_partsWays_83 : decode cX7_partsWays 83 = .ok (.iadd, 1) := by decide +kernel
theorem dX7_partsWays_84 : decode cX7_partsWays 84 = .ok (.iload 6, 2) := by decide +kernel
theorem dX7_partsWays_86 : decode cX7_partsWays 86 = .ok (.iload_n 3, 1) := by decide +kernel
theorem dX7_partsWays_87 : decode cX7_partsWays 87 = .ok (.iload 5, 2) := by decide +kernel
theorem dX7_partsWays_89 : decode cX7_partsWays 89 = .ok (.iconst (-1), 1) := by decide +kernel
theorem dX7_partsWays_90 : decode cX7_partsWays 90 = .ok (.ixor, 1) := by decide +kernel
theorem dX7_partsWays_91 : decode cX7_partsWays 91 = .ok (.iand, 1) := by decide +kernel
theorem dX7_partsWays_92 : decode cX7_partsWays 92 = .ok (.invokevirtual 336, 3) := by decide +kernel
theorem dX7_partsWays_95 : decode cX7_partsWays 95 = .ok (.aload_n 0, 1) := by decide +kernel
theorem dX7_partsWays_96 : decode cX7_partsWays 96 = .ok (.iload_n 1, 1) := by decide +kernel
theorem dX7_partsWays_97 : decode cX7_partsWays 97 = .ok (.aload_n 0, 1) := by decide +kernel
theorem dX7_partsWays_98 : decode cX7_partsWays 98 = .ok (.iload_n 2, 1) := by decide +kernel
theorem dX7_partsWays_99 : decode cX7_partsWays 99 = .ok (.iconst 4, 1) := by decide +kernel
theorem dX7_partsWays_100 : decode cX7_partsWays 100 = .ok (.invokevirtual 231, 3) := by decide +kernel
theorem dX7_partsWays_103 : decode cX7_partsWays 103 = .ok (.iload 6, 2) := by decide +kernel
theorem dX7_partsWays_105 : decode cX7_partsWays 105 = .ok (.iload 5, 2) := by decide +kernel
theorem dX7_partsWays_107 : decode cX7_partsWays 107 = .ok (.invokevirtual 336, 3) := by decide +kernel
theorem dX7_partsWays_110 : decode cX7_partsWays 110 = .ok (.return_, 1) := by decide +kernel
theorem dX7_laysPart_0 : decode cX7_laysPart 0 = .ok (.iload_n 2, 1) := by decide +kernel
theorem dX7_laysPart_1 : decode cX7_laysPart 1 = .ok (.iload_n 3, 1) := by decide +kernel
theorem dX7_laysPart_2 : decode cX7_laysPart 2 = .ok (.if_icmp .eq 15, 3) := by decide +kernel
theorem dX7_laysPart_5 : decode cX7_laysPart 5 = .ok (.aload_n 0, 1) := by decide +kernel
theorem dX7_laysPart_6 : decode cX7_laysPart 6 = .ok (.iload_n 1, 1) := by decide +kernel
theorem dX7_laysPart_7 : decode cX7_laysPart 7 = .ok (.iload_n 2, 1) := by decide +kernel
theorem dX7_laysPart_8 : decode cX7_laysPart 8 = .ok (.iload_n 3, 1) := by decide +kernel
theorem dX7_laysPart_9 : decode cX7_laysPart 9 = .ok (.iload 4, 2) := by decide +kernel
theorem dX7_laysPart_11 : decode cX7_laysPart 11 = .ok (.invokevirtual 264, 3) := by decide +kernel
theorem dX7_laysPart_14 : decode cX7_laysPart 14 = .ok (.goto 18, 3) := by decide +kernel
theorem dX7_laysPart_17 : decode cX7_laysPart 17 = .ok (.iload_n 2, 1) := by decide +kernel
theorem dX7_laysPart_18 : decode cX7_laysPart 18 = .ok (.aload_n 0, 1) := by decide +kernel
theorem dX7_laysPart_19 : decode cX7_laysPart 19 = .ok (.invokevirtual 212, 3) := by decide +kernel
theorem dX7_laysPart_22 : decode cX7_laysPart 22 = .ok (.if_icmp .ne 10, 3) := by decide +kernel
theorem dX7_laysPart_25 : decode cX7_laysPart 25 = .ok (.aload_n 0, 1) := by decide +kernel
theorem dX7_laysPart_26 : decode cX7_laysPart 26 = .ok (.iload_n 1, 1) := by decide +kernel
theorem dX7_laysPart_27 : decode cX7_laysPart 27 = .ok (.iload 4, 2) := by decide +kernel
theorem dX7_laysPart_29 : decode cX7_laysPart 29 = .ok (.invokevirtual 275, 3) := by decide +kernel
theorem dX7_laysPart_32 : decode cX7_laysPart 32 = .ok (.return_, 1) := by decide +kernel
theorem dX7_changesParts_0 : decode cX7_changesParts 0 = .ok (.aload_n 0, 1) := by decide +kernel
theorem dX7_changesParts_1 : decode cX7_changesParts 1 = .ok (.iload_n 1, 1) := by decide +kernel
theorem dX7_changesParts_2 : decode cX7_changesParts 2 = .ok (.invokevirtual 272, 3) := by decide +kernel
theorem dX7_changesParts_5 : decode cX7_changesParts 5 = .ok (.istore_n 2, 1) := by decide +kernel
theorem dX7_changesParts_6 : decode cX7_changesParts 6 = .ok (.iload_n 2, 1) := by decide +kernel
theorem dX7_changesParts_7 : decode cX7_changesParts 7 = .ok (.iconst 1, 1) := by decide +kernel
theorem dX7_changesParts_8 : decode cX7_changesParts 8 = .ok (.if_icmp .lt 59, 3) := by decide +kernel
theorem dX7_changesParts_11 : decode cX7_changesParts 11 = .ok (.aload_n 0, 1) := by decide +kernel
theorem dX7_changesParts_12 : decode cX7_changesParts 12 = .ok (.getfield 40, 3) := by decide +kernel
theorem dX7_changesParts_15 : decode cX7_changesParts 15 = .ok (.iload_n 1, 1) := by decide +kernel
theorem dX7_changesParts_16 : decode cX7_changesParts 16 = .ok (.iload_n 2, 1) := by decide +kernel
theorem dX7_changesParts_17 : decode cX7_changesParts 17 = .ok (.iconst 1, 1) := by decide +kernel
theorem dX7_changesParts_18 : decode cX7_changesParts 18 = .ok (.invokestatic 268, 3) := by decide +kernel
theorem dX7_changesParts_21 : decode cX7_changesParts 21 = .ok (.iaload, 1) := by decide +kernel
theorem dX7_changesParts_22 : decode cX7_changesParts 22 = .ok (.aload_n 0, 1) := by decide +kernel
theorem dX7_changesParts_23 : decode cX7_changesParts 23 = .ok (.getfield 40, 3) := by decide +kernel
theorem dX7_changesParts_26 : decode cX7_changesParts 26 = .ok (.iload_n 1, 1) := by decide +kernel
theorem dX7_changesParts_27 : decode cX7_changesParts 27 = .ok (.iload_n 2, 1) := by decide +kernel
theorem dX7_changesParts_28 : decode cX7_changesParts 28 = .ok (.iconst 1, 1) := by decide +kernel
theorem dX7_changesParts_29 : decode cX7_changesParts 29 = .ok (.isub, 1) := by decide +kernel
theorem dX7_changesParts_30 : decode cX7_changesParts 30 = .ok (.iconst 1, 1) := by decide +kernel
theorem dX7_changesParts_31 : decode cX7_changesParts 31 = .ok (.invokestatic 268, 3) := by decide +kernel
theorem dX7_changesParts_34 : decode cX7_changesParts 34 = .ok (.iaload, 1) := by decide +kernel
theorem dX7_changesParts_35 : decode cX7_changesParts 35 = .ok (.if_icmp .ne 32, 3) := by decide +kernel
theorem dX7_changesParts_38 : decode cX7_changesParts 38 = .ok (.aload_n 0, 1) := by decide +kernel
theorem dX7_changesParts_39 : decode cX7_changesParts 39 = .ok (.getfield 40, 3) := by decide +kernel
theorem dX7_changesParts_42 : decode cX7_changesParts 42 = .ok (.iload_n 1, 1) := by decide +kernel
theorem dX7_changesParts_43 : decode cX7_changesParts 43 = .ok (.iload_n 2, 1) := by decide +kernel
theorem dX7_changesParts_44 : decode cX7_changesParts 44 = .ok (.iconst 1, 1) := by decide +kernel
theorem dX7_changesParts_45 : decode cX7_changesParts 45 = .ok (.isub, 1) := by decide +kernel
theorem dX7_changesParts_46 : decode cX7_changesParts 46 = .ok (.iconst 0, 1) := by decide +kernel
theorem dX7_changesParts_47 : decode cX7_changesParts 47 = .ok (.invokestatic 268, 3) := by decide +kernel
theorem dX7_changesParts_50 : decode cX7_changesParts 50 = .ok (.iaload, 1) := by decide +kernel
theorem dX7_changesParts_51 : decode cX7_changesParts 51 = .ok (.aload_n 0, 1) := by decide +kernel
theorem dX7_changesParts_52 : decode cX7_changesParts 52 = .ok (.getfield 40, 3) := by decide +kernel
theorem dX7_changesParts_55 : decode cX7_changesParts 55 = .ok (.iload_n 1, 1) := by decide +kernel
theorem dX7_changesParts_56 : decode cX7_changesParts 56 = .ok (.iload_n 2, 1) := by decide +kernel
theorem dX7_changesParts_57 : decode cX7_changesParts 57 = .ok (.iconst 1, 1) := by decide +kernel
theorem dX7_changesParts_58 : decode cX7_changesParts 58 = .ok (.isub, 1) := by decide +kernel
theorem dX7_changesParts_59 : decode cX7_changesParts 59 = .ok (.iconst 1, 1) := by decide +kernel
theorem dX7_changesParts_60 : decode cX7_changesParts 60 = .ok (.invokestatic 268, 3) := by decide +kernel
theorem dX7_changesParts_63 : decode cX7_changesParts 63 = .ok (.iaload, 1) := by decide +kernel
theorem dX7_changesParts_64 : decode cX7_changesParts 64 = .ok (.if_icmp .ne 4, 3) := by decide +kernel
theorem dX7_changesParts_67 : decode cX7_changesParts 67 = .ok (.return_, 1) := by decide +kernel
theorem dX7_changesParts_68 : decode cX7_changesParts 68 = .ok (.iconst 0, 1) := by decide +kernel
theorem dX7_changesParts_69 : decode cX7_changesParts 69 = .ok (.istore_n 3, 1) := by decide +kernel
theorem dX7_changesParts_70 : decode cX7_changesParts 70 = .ok (.iload_n 3, 1) := by decide +kernel
theorem dX7_changesParts_71 : decode cX7_changesParts 71 = .ok (.iconst 3, 1) := by decide +kernel
theorem dX7_changesParts_72 : decode cX7_changesParts 72 = .ok (.if_icmp .ge 61, 3) := by decide +kernel
theorem dX7_changesParts_75 : decode cX7_changesParts 75 = .ok (.aload_n 0, 1) := by decide +kernel
theorem dX7_changesParts_76 : decode cX7_changesParts 76 = .ok (.getfield 40, 3) := by decide +kernel
theorem dX7_changesParts_79 : decode cX7_changesParts 79 = .ok (.iload_n 1, 1) := by decide +kernel
theorem dX7_changesParts_80 : decode cX7_changesParts 80 = .ok (.iload_n 2, 1) := by decide +kernel
theorem dX7_changesParts_81 : decode cX7_changesParts 81 = .ok (.iload_n 3, 1) := by decide +kernel
theorem dX7_changesParts_82 : decode cX7_changesParts 82 = .ok (.invokestatic 268, 3) := by decide +kernel
theorem dX7_changesParts_85 : decode cX7_changesParts 85 = .ok (.iaload, 1) := by decide +kernel
theorem dX7_changesParts_86 : decode cX7_changesParts 86 = .ok (.istore 4, 2) := by decide +kernel
theorem dX7_changesParts_88 : decode cX7_changesParts 88 = .ok (.aload_n 0, 1) := by decide +kernel
theorem dX7_changesParts_89 : decode cX7_changesParts 89 = .ok (.getfield 40, 3) := by decide +kernel
theorem dX7_changesParts_92 : decode cX7_changesParts 92 = .ok (.iload_n 1, 1) := by decide +kernel
theorem dX7_changesParts_93 : decode cX7_changesParts 93 = .ok (.iload_n 2, 1) := by decide +kernel
theorem dX7_changesParts_94 : decode cX7_changesParts 94 = .ok (.iload_n 3, 1) := by decide +kernel
theorem dX7_changesParts_95 : decode cX7_changesParts 95 = .ok (.invokestatic 268, 3) := by decide +kernel
theorem dX7_changesParts_98 : decode cX7_changesParts 98 = .ok (.aload_n 0, 1) := by decide +kernel
theorem dX7_changesParts_99 : decode cX7_changesParts 99 = .ok (.getfield 40, 3) := by decide +kernel
theorem dX7_changesParts_102 : decode cX7_changesParts 102 = .ok (.iload_n 1, 1) := by decide +kernel
theorem dX7_changesParts_103 : decode cX7_changesParts 103 = .ok (.iload_n 2, 1) := by decide +kernel
theorem dX7_changesParts_104 : decode cX7_changesParts 104 = .ok (.iconst 1, 1) := by decide +kernel
theorem dX7_changesParts_105 : decode cX7_changesParts 105 = .ok (.isub, 1) := by decide +kernel
theorem dX7_changesParts_106 : decode cX7_changesParts 106 = .ok (.iload_n 3, 1) := by decide +kernel
theorem dX7_changesParts_107 : decode cX7_changesParts 107 = .ok (.invokestatic 268, 3) := by decide +kernel
theorem dX7_changesParts_110 : decode cX7_changesParts 110 = .ok (.iaload, 1) := by decide +kernel
theorem dX7_changesParts_111 : decode cX7_changesParts 111 = .ok (.iastore, 1) := by decide +kernel
theorem dX7_changesParts_112 : decode cX7_changesParts 112 = .ok (.aload_n 0, 1) := by decide +kernel
theorem dX7_changesParts_113 : decode cX7_changesParts 113 = .ok (.getfield 40, 3) := by decide +kernel
theorem dX7_changesParts_116 : decode cX7_changesParts 116 = .ok (.iload_n 1, 1) := by decide +kernel
theorem dX7_changesParts_117 : decode cX7_changesParts 117 = .ok (.iload_n 2, 1) := by decide +kernel
theorem dX7_changesParts_118 : decode cX7_changesParts 118 = .ok (.iconst 1, 1) := by decide +kernel
theorem dX7_changesParts_119 : decode cX7_changesParts 119 = .ok (.isub, 1) := by decide +kernel
theorem dX7_changesParts_120 : decode cX7_changesParts 120 = .ok (.iload_n 3, 1) := by decide +kernel
theorem dX7_changesParts_121 : decode cX7_changesParts 121 = .ok (.invokestatic 268, 3) := by decide +kernel
theorem dX7_changesParts_124 : decode cX7_changesParts 124 = .ok (.iload 4, 2) := by decide +kernel
theorem dX7_changesParts_126 : decode cX7_changesParts 126 = .ok (.iastore, 1) := by decide +kernel
theorem dX7_changesParts_127 : decode cX7_changesParts 127 = .ok (.iinc 3 1, 3) := by decide +kernel
theorem dX7_changesParts_130 : decode cX7_changesParts 130 = .ok (.goto (-60), 3) := by decide +kernel
theorem dX7_changesParts_133 : decode cX7_changesParts 133 = .ok (.return_, 1) := by decide +kernel
theorem dX7_goesByStack_0 : decode cX7_goesByStack 0 = .ok (.aload_n 0, 1) := by decide +kernel
theorem dX7_goesByStack_1 : decode cX7_goesByStack 1 = .ok (.iload_n 2, 1) := by decide +kernel
theorem dX7_goesByStack_2 : decode cX7_goesByStack 2 = .ok (.iconst 0, 1) := by decide +kernel
theorem dX7_goesByStack_3 : decode cX7_goesByStack 3 = .ok (.invokevirtual 231, 3) := by decide +kernel
theorem dX7_goesByStack_6 : decode cX7_goesByStack 6 = .ok (.istore 4, 2) := by decide +kernel
theorem dX7_goesByStack_8 : decode cX7_goesByStack 8 = .ok (.iload 4, 2) := by decide +kernel
theorem dX7_goesByStack_10 : decode cX7_goesByStack 10 = .ok (.bipush 12, 2) := by decide +kernel
theorem dX7_goesByStack_12 : decode cX7_goesByStack 12 = .ok (.if_icmp .ne 13, 3) := by decide +kernel
theorem dX7_goesByStack_15 : decode cX7_goesByStack 15 = .ok (.aload_n 0, 1) := by decide +kernel
theorem dX7_goesByStack_16 : decode cX7_goesByStack 16 = .ok (.iload_n 1, 1) := by decide +kernel
theorem dX7_goesByStack_17 : decode cX7_goesByStack 17 = .ok (.iload_n 2, 1) := by decide +kernel
theorem dX7_goesByStack_18 : decode cX7_goesByStack 18 = .ok (.iload_n 3, 1) := by decide +kernel
theorem dX7_goesByStack_19 : decode cX7_goesByStack 19 = .ok (.invokevirtual 339, 3) := by decide +kernel
theorem dX7_goesByStack_22 : decode cX7_goesByStack 22 = .ok (.goto 35, 3) := by decide +kernel
theorem dX7_goesByStack_25 : decode cX7_goesByStack 25 = .ok (.aload_n 0, 1) := by decide +kernel
theorem dX7_goesByStack_26 : decode cX7_goesByStack 26 = .ok (.getfield 40, 3) := by decide +kernel
theorem dX7_goesByStack_29 : decode cX7_goesByStack 29 = .ok (.iload_n 1, 1) := by decide +kernel
theorem dX7_goesByStack_30 : decode cX7_goesByStack 30 = .ok (.aload_n 0, 1) := by decide +kernel
theorem dX7_goesByStack_31 : decode cX7_goesByStack 31 = .ok (.iload_n 1, 1) := by decide +kernel
theorem dX7_goesByStack_32 : decode cX7_goesByStack 32 = .ok (.invokevirtual 272, 3) := by decide +kernel
theorem dX7_goesByStack_35 : decode cX7_goesByStack 35 = .ok (.iconst 0, 1) := by decide +kernel
theorem dX7_goesByStack_36 : decode cX7_goesByStack 36 = .ok (.invokestatic 268, 3) := by decide +kernel
theorem dX7_goesByStack_39 : decode cX7_goesByStack 39 = .ok (.iload 4, 2) := by decide +kernel
theorem dX7_goesByStack_41 : decode cX7_goesByStack 41 = .ok (.bipush 15, 2) := by decide +kernel
theorem dX7_goesByStack_43 : decode cX7_goesByStack 43 = .ok (.if_icmp .ne 10, 3) := by decide +kernel
theorem dX7_goesByStack_46 : decode cX7_goesByStack 46 = .ok (.aload_n 0, 1) := by decide +kernel
theorem dX7_goesByStack_47 : decode cX7_goesByStack 47 = .ok (.invokevirtual 212, 3) := by decide +kernel
theorem dX7_goesByStack_50 : decode cX7_goesByStack 50 = .ok (.goto 6, 3) := by decide +kernel
theorem dX7_goesByStack_53 : decode cX7_goesByStack 53 = .ok (.iload_n 2, 1) := by decide +kernel
theorem dX7_goesByStack_54 : decode cX7_goesByStack 54 = .ok (.iconst 1, 1) := by decide +kernel
theorem dX7_goesByStack_55 : decode cX7_goesByStack 55 = .ok (.iadd, 1) := by decide +kernel
theorem dX7_goesByStack_56 : decode cX7_goesByStack 56 = .ok (.iastore, 1) := by decide +kernel
theorem dX7_goesByStack_57 : decode cX7_goesByStack 57 = .ok (.iload 4, 2) := by decide +kernel
theorem dX7_goesByStack_59 : decode cX7_goesByStack 59 = .ok (.bipush 14, 2) := by decide +kernel
theorem dX7_goesByStack_61 : decode cX7_goesByStack 61 = .ok (.if_icmp .ne 8, 3) := by decide +kernel
theorem dX7_goesByStack_64 : decode cX7_goesByStack 64 = .ok (.aload_n 0, 1) := by decide +kernel
theorem dX7_goesByStack_65 : decode cX7_goesByStack 65 = .ok (.iload_n 1, 1) := by decide +kernel
theorem dX7_goesByStack_66 : decode cX7_goesByStack 66 = .ok (.invokevirtual 342, 3) := by decide +kernel
theorem dX7_goesByStack_69 : decode cX7_goesByStack 69 = .ok (.aload_n 0, 1) := by decide +kernel
theorem dX7_goesByStack_70 : decode cX7_goesByStack 70 = .ok (.iload_n 1, 1) := by decide +kernel
theorem dX7_goesByStack_71 : decode cX7_goesByStack 71 = .ok (.invokevirtual 345, 3) := by decide +kernel
theorem dX7_goesByStack_74 : decode cX7_goesByStack 74 = .ok (.return_, 1) := by decide +kernel
theorem dX7_goesFair_0 : decode cX7_goesFair 0 = .ok (.aload_n 0, 1) := by decide +kernel
theorem dX7_goesFair_1 : decode cX7_goesFair 1 = .ok (.iload_n 2, 1) := by decide +kernel
theorem dX7_goesFair_2 : decode cX7_goesFair 2 = .ok (.iconst 0, 1) := by decide +kernel
theorem dX7_goesFair_3 : decode cX7_goesFair 3 = .ok (.invokevirtual 231, 3) := by decide +kernel
theorem dX7_goesFair_6 : decode cX7_goesFair 6 = .ok (.istore 4, 2) := by decide +kernel
theorem dX7_goesFair_8 : decode cX7_goesFair 8 = .ok (.aload_n 0, 1) := by decide +kernel
theorem dX7_goesFair_9 : decode cX7_goesFair 9 = .ok (.iload_n 1, 1) := by decide +kernel
theorem dX7_goesFair_10 : decode cX7_goesFair 10 = .ok (.iconst 1, 1) := by decide +kernel
theorem dX7_goesFair_11 : decode cX7_goesFair 11 = .ok (.invokevirtual 252, 3) := by decide +kernel
theorem dX7_goesFair_14 : decode cX7_goesFair 14 = .ok (.istore 5, 2) := by decide +kernel
theorem dX7_goesFair_16 : decode cX7_goesFair 16 = .ok (.iload_n 3, 1) := by decide +kernel
theorem dX7_goesFair_17 : decode cX7_goesFair 17 = .ok (.iload 5, 2) := by decide +kernel
theorem dX7_goesFair_19 : decode cX7_goesFair 19 = .ok (.invokestatic 261, 3) := by decide +kernel
theorem dX7_goesFair_22 : decode cX7_goesFair 22 = .ok (.ifCond .ne 15, 3) := by decide +kernel
theorem dX7_goesFair_25 : decode cX7_goesFair 25 = .ok (.iload 5, 2) := by decide +kernel
theorem dX7_goesFair_27 : decode cX7_goesFair 27 = .ok (.iconst 1, 1) := by decide +kernel
theorem dX7_goesFair_28 : decode cX7_goesFair 28 = .ok (.iadd, 1) := by decide +kernel
theorem dX7_goesFair_29 : decode cX7_goesFair 29 = .ok (.bipush 8, 2) := by decide +kernel
theorem dX7_goesFair_31 : decode cX7_goesFair 31 = .ok (.irem, 1) := by decide +kernel
theorem dX7_goesFair_32 : decode cX7_goesFair 32 = .ok (.istore 5, 2) := by decide +kernel
theorem dX7_goesFair_34 : decode cX7_goesFair 34 = .ok (.goto (-18), 3) := by decide +kernel
theorem dX7_goesFair_37 : decode cX7_goesFair 37 = .ok (.aload_n 0, 1) := by decide +kernel
theorem dX7_goesFair_38 : decode cX7_goesFair 38 = .ok (.getfield 40, 3) := by decide +kernel
theorem dX7_goesFair_41 : decode cX7_goesFair 41 = .ok (.iload_n 1, 1) := by decide +kernel
theorem dX7_goesFair_42 : decode cX7_goesFair 42 = .ok (.iconst 1, 1) := by decide +kernel
theorem dX7_goesFair_43 : decode cX7_goesFair 43 = .ok (.invokestatic 249, 3) := by decide +kernel
theorem dX7_goesFair_46 : decode cX7_goesFair 46 = .ok (.iload 5, 2) := by decide +kernel
theorem dX7_goesFair_48 : decode cX7_goesFair 48 = .ok (.iconst 1, 1) := by decide +kernel
theorem dX7_goesFair_49 : decode cX7_goesFair 49 = .ok (.iadd, 1) := by decide +kernel
theorem dX7_goesFair_50 : decode cX7_goesFair 50 = .ok (.bipush 8, 2) := by decide +kernel
theorem dX7_goesFair_52 : decode cX7_goesFair 52 = .ok (.irem, 1) := by decide +kernel
theorem dX7_goesFair_53 : decode cX7_goesFair 53 = .ok (.iastore, 1) := by decide +kernel
theorem dX7_goesFair_54 : decode cX7_goesFair 54 = .ok (.iload 4, 2) := by decide +kernel
theorem dX7_goesFair_56 : decode cX7_goesFair 56 = .ok (.bipush 13, 2) := by decide +kernel
theorem dX7_goesFair_58 : decode cX7_goesFair 58 = .ok (.if_icmp .ne 4, 3) := by decide +kernel
theorem dX7_goesFair_61 : decode cX7_goesFair 61 = .ok (.return_, 1) := by decide +kernel
theorem dX7_goesFair_62 : decode cX7_goesFair 62 = .ok (.iload 4, 2) := by decide +kernel
theorem dX7_goesFair_64 : decode cX7_goesFair 64 = .ok (.bipush 12, 2) := by decide +kernel
theorem dX7_goesFair_66 : decode cX7_goesFair 66 = .ok (.if_icmp .ne 12, 3) := by decide +kernel
theorem dX7_goesFair_69 : decode cX7_goesFair 69 = .ok (.aload_n 0, 1) := by decide +kernel
theorem dX7_goesFair_70 : decode cX7_goesFair 70 = .ok (.iload_n 2, 1) := by decide +kernel
theorem dX7_goesFair_71 : decode cX7_goesFair 71 = .ok (.iload_n 3, 1) := by decide +kernel
theorem dX7_goesFair_72 : decode cX7_goesFair 72 = .ok (.invokevirtual 333, 3) := by decide +kernel
theorem dX7_goesFair_75 : decode cX7_goesFair 75 = .ok (.goto 4, 3) := by decide +kernel
theorem dX7_goesFair_78 : decode cX7_goesFair 78 = .ok (.iconst 0, 1) := by decide +kernel
theorem dX7_goesFair_79 : decode cX7_goesFair 79 = .ok (.istore 6, 2) := by decide +kernel
theorem dX7_goesFair_81 : decode cX7_goesFair 81 = .ok (.iload 6, 2) := by decide +kernel
theorem dX7_goesFair_83 : decode cX7_goesFair 83 = .ok (.ifCond .eq 16, 3) := by decide +kernel
theorem dX7_goesFair_86 : decode cX7_goesFair 86 = .ok (.aload_n 0, 1) := by decide +kernel
theorem dX7_goesFair_87 : decode cX7_goesFair 87 = .ok (.iload_n 1, 1) := by decide +kernel
theorem dX7_goesFair_88 : decode cX7_goesFair 88 = .ok (.iload 6, 2) := by decide +kernel
theorem dX7_goesFair_90 : decode cX7_goesFair 90 = .ok (.aload_n 0, 1) := by decide +kernel
theorem dX7_goesFair_91 : decode cX7_goesFair 91 = .ok (.iload_n 2, 1) := by decide +kernel
theorem dX7_goesFair_92 : decode cX7_goesFair 92 = .ok (.iconst 4, 1) := by decide +kernel
theorem dX7_goesFair_93 : decode cX7_goesFair 93 = .ok (.invokevirtual 231, 3) := by decide +kernel
theorem dX7_goesFair_96 : decode cX7_goesFair 96 = .ok (.invokevirtual 348, 3) := by decide +kernel
theorem dX7_goesFair_99 : decode cX7_goesFair 99 = .ok (.iload_n 3, 1) := by decide +kernel
theorem dX7_goesFair_100 : decode cX7_goesFair 100 = .ok (.iload 6, 2) := by decide +kernel
theorem dX7_goesFair_102 : decode cX7_goesFair 102 = .ok (.iconst (-1), 1) := by decide +kernel
theorem dX7_goesFair_103 : decode cX7_goesFair 103 = .ok (.ixor, 1) := by decide +kernel
theorem dX7_goesFair_104 : decode cX7_goesFair 104 = .ok (.iand, 1) := by decide +kernel
theorem dX7_goesFair_105 : decode cX7_goesFair 105 = .ok (.ifCond .eq 31, 3) := by decide +kernel
theorem dX7_goesFair_108 : decode cX7_goesFair 108 = .ok (.aload_n 0, 1) := by decide +kernel
theorem dX7_goesFair_109 : decode cX7_goesFair 109 = .ok (.iload_n 1, 1) := by decide +kernel
theorem dX7_goesFair_110 : decode cX7_goesFair 110 = .ok (.iload_n 3, 1) := by decide +kernel
theorem dX7_goesFair_111 : decode cX7_goesFair 111 = .ok (.iload 6, 2) := by decide +kernel
theorem dX7_goesFair_113 : decode cX7_goesFair 113 = .ok (.iconst (-1), 1) := by decide +kernel
theorem dX7_goesFair_114 : decode cX7_goesFair 114 = .ok (.ixor, 1) := by decide +kernel
theorem dX7_goesFair_115 : decode cX7_goesFair 115 = .ok (.iand, 1) := by decide +kernel
theorem dX7_goesFair_116 : decode cX7_goesFair 116 = .ok (.iload 4, 2) := by decide +kernel
theorem dX7_goesFair_118 : decode cX7_goesFair 118 = .ok (.bipush 15, 2) := by decide +kernel
theorem dX7_goesFair_120 : decode cX7_goesFair 120 = .ok (.if_icmp .ne 10, 3) := by decide +kernel
theorem dX7_goesFair_123 : decode cX7_goesFair 123 = .ok (.aload_n 0, 1) := by decide +kernel
theorem dX7_goesFair_124 : decode cX7_goesFair 124 = .ok (.invokevirtual 212, 3) := by decide +kernel
theorem dX7_goesFair_127 : decode cX7_goesFair 127 = .ok (.goto 6, 3) := by decide +kernel
theorem dX7_goesFair_130 : decode cX7_goesFair 130 = .ok (.iload_n 2, 1) := by decide +kernel
theorem dX7_goesFair_131 : decode cX7_goesFair 131 = .ok (.iconst 1, 1) := by decide +kernel
theorem dX7_goesFair_132 : decode cX7_goesFair 132 = .ok (.iadd, 1) := by decide +kernel
theorem dX7_goesFair_133 : decode cX7_goesFair 133 = .ok (.invokevirtual 348, 3) := by decide +kernel
theorem dX7_goesFair_136 : decode cX7_goesFair 136 = .ok (.return_, 1) := by decide +kernel
theorem dX7_keepsLine_0 : decode cX7_keepsLine 0 = .ok (.aload_n 0, 1) := by decide +kernel
theorem dX7_keepsLine_1 : decode cX7_keepsLine 1 = .ok (.getfield 40, 3) := by decide +kernel
theorem dX7_keepsLine_4 : decode cX7_keepsLine 4 = .ok (.bipush 7, 2) := by decide +kernel
theorem dX7_keepsLine_6 : decode cX7_keepsLine 6 = .ok (.iaload, 1) := by decide +kernel
theorem dX7_keepsLine_7 : decode cX7_keepsLine 7 = .ok (.bipush 30, 2) := by decide +kernel
theorem dX7_keepsLine_9 : decode cX7_keepsLine 9 = .ok (.if_icmp .ne 41, 3) := by decide +kernel
theorem dX7_keepsLine_12 : decode cX7_keepsLine 12 = .ok (.sipush 768, 3) := by decide +kernel
theorem dX7_keepsLine_15 : decode cX7_keepsLine 15 = .ok (.istore 5, 2) := by decide +kernel
theorem dX7_keepsLine_17 : decode cX7_keepsLine 17 = .ok (.iload 5, 2) := by decide +kernel
theorem dX7_keepsLine_19 : decode cX7_keepsLine 19 = .ok (.sipush 913, 3) := by decide +kernel
theorem dX7_keepsLine_22 : decode cX7_keepsLine 22 = .ok (.if_icmp .ge 25, 3) := by decide +kernel
theorem dX7_keepsLine_25 : decode cX7_keepsLine 25 = .ok (.aload_n 0, 1) := by decide +kernel
theorem dX7_keepsLine_26 : decode cX7_keepsLine 26 = .ok (.getfield 40, 3) := by decide +kernel
theorem dX7_keepsLine_29 : decode cX7_keepsLine 29 = .ok (.iload 5, 2) := by decide +kernel
theorem dX7_keepsLine_31 : decode cX7_keepsLine 31 = .ok (.aload_n 0, 1) := by decide +kernel
theorem dX7_keepsLine_32 : decode cX7_keepsLine 32 = .ok (.getfield 40, 3) := by decide +kernel
theorem dX7_keepsLine_35 : decode cX7_keepsLine 35 = .ok (.iload 5, 2) := by decide +kernel
theorem dX7_keepsLine_37 : decode cX7_keepsLine 37 = .ok (.iconst 5, 1) := by decide +kernel
theorem dX7_keepsLine_38 : decode cX7_keepsLine 38 = .ok (.iadd, 1) := by decide +kernel
theorem dX7_keepsLine_39 : decode cX7_keepsLine 39 = .ok (.iaload, 1) := by decide +kernel
theorem dX7_keepsLine_40 : decode cX7_keepsLine 40 = .ok (.iastore, 1) := by decide +kernel
theorem dX7_keepsLine_41 : decode cX7_keepsLine 41 = .ok (.iinc 5 1, 3) := by decide +kernel
theorem dX7_keepsLine_44 : decode cX7_keepsLine 44 = .ok (.goto (-27), 3) := by decide +kernel
theorem dX7_keepsLine_47 : decode cX7_keepsLine 47 = .ok (.goto 14, 3) := by decide +kernel
theorem dX7_keepsLine_50 : decode cX7_keepsLine 50 = .ok (.aload_n 0, 1) := by decide +kernel
theorem dX7_keepsLine_51 : decode cX7_keepsLine 51 = .ok (.getfield 40, 3) := by decide +kernel
theorem dX7_keepsLine_54 : decode cX7_keepsLine 54 = .ok (.bipush 7, 2) := by decide +kernel
theorem dX7_keepsLine_56 : decode cX7_keepsLine 56 = .ok (.dup2, 1) := by decide +kernel
theorem dX7_keepsLine_57 : decode cX7_keepsLine 57 = .ok (.iaload, 1) := by decide +kernel
theorem dX7_keepsLine_58 : decode cX7_keepsLine 58 = .ok (.iconst 1, 1) := by decide +kernel
theorem dX7_keepsLine_59 : decode cX7_keepsLine 59 = .ok (.iadd, 1) := by decide +kernel
theorem dX7_keepsLine_60 : decode cX7_keepsLine 60 = .ok (.iastore, 1) := by decide +kernel
theorem dX7_keepsLine_61 : decode cX7_keepsLine 61 = .ok (.sipush 768, 3) := by decide +kernel
theorem dX7_keepsLine_64 : decode cX7_keepsLine 64 = .ok (.iconst 5, 1) := by decide +kernel
theorem dX7_keepsLine_65 : decode cX7_keepsLine 65 = .ok (.aload_n 0, 1) := by decide +kernel
theorem dX7_keepsLine_66 : decode cX7_keepsLine 66 = .ok (.getfield 40, 3) := by decide +kernel
theorem dX7_keepsLine_69 : decode cX7_keepsLine 69 = .ok (.bipush 7, 2) := by decide +kernel
theorem dX7_keepsLine_71 : decode cX7_keepsLine 71 = .ok (.iaload, 1) := by decide +kernel
theorem dX7_keepsLine_72 : decode cX7_keepsLine 72 = .ok (.imul, 1) := by decide +kernel
theorem dX7_keepsLine_73 : decode cX7_keepsLine 73 = .ok (.iadd, 1) := by decide +kernel
theorem dX7_keepsLine_74 : decode cX7_keepsLine 74 = .ok (.iconst 5, 1) := by decide +kernel
theorem dX7_keepsLine_75 : decode cX7_keepsLine 75 = .ok (.isub, 1) := by decide +kernel
theorem dX7_keepsLine_76 : decode cX7_keepsLine 76 = .ok (.istore 5, 2) := by decide +kernel
theorem dX7_keepsLine_78 : decode cX7_keepsLine 78 = .ok (.aload_n 0, 1) := by decide +kernel
theorem dX7_keepsLine_79 : decode cX7_keepsLine 79 = .ok (.getfield 40, 3) := by decide +kernel
theorem dX7_keepsLine_82 : decode cX7_keepsLine 82 = .ok (.iload 5, 2) := by decide +kernel
theorem dX7_keepsLine_84 : decode cX7_keepsLine 84 = .ok (.aload_n 0, 1) := by decide +kernel
theorem dX7_keepsLine_85 : decode cX7_keepsLine 85 = .ok (.getfield 40, 3) := by decide +kernel
theorem dX7_keepsLine_88 : decode cX7_keepsLine 88 = .ok (.iconst 0, 1) := by decide +kernel
theorem dX7_keepsLine_89 : decode cX7_keepsLine 89 = .ok (.iaload, 1) := by decide +kernel
theorem dX7_keepsLine_90 : decode cX7_keepsLine 90 = .ok (.iastore, 1) := by decide +kernel
theorem dX7_keepsLine_91 : decode cX7_keepsLine 91 = .ok (.aload_n 0, 1) := by decide +kernel
theorem dX7_keepsLine_92 : decode cX7_keepsLine 92 = .ok (.getfield 40, 3) := by decide +kernel
theorem dX7_keepsLine_95 : decode cX7_keepsLine 95 = .ok (.iload 5, 2) := by decide +kernel
theorem dX7_keepsLine_97 : decode cX7_keepsLine 97 = .ok (.iconst 1, 1) := by decide +kernel
theorem dX7_keepsLine_98 : decode cX7_keepsLine 98 = .ok (.iadd, 1) := by decide +kernel
theorem dX7_keepsLine_99 : decode cX7_keepsLine 99 = .ok (.iload_n 1, 1) := by decide +kernel
theorem dX7_keepsLine_100 : decode cX7_keepsLine 100 = .ok (.iastore, 1) := by decide +kernel
theorem dX7_keepsLine_101 : decode cX7_keepsLine 101 = .ok (.aload_n 0, 1) := by decide +kernel
theorem dX7_keepsLine_102 : decode cX7_keepsLine 102 = .ok (.getfield 40, 3) := by decide +kernel
theorem dX7_keepsLine_105 : decode cX7_keepsLine 105 = .ok (.iload 5, 2) := by decide +kernel
theorem dX7_keepsLine_107 : decode cX7_keepsLine 107 = .ok (.iconst 2, 1) := by decide +kernel
theorem dX7_keepsLine_108 : decode cX7_keepsLine 108 = .ok (.iadd, 1) := by decide +kernel
theorem dX7_keepsLine_109 : decode cX7_keepsLine 109 = .ok (.iload_n 2, 1) := by decide +kernel
theorem dX7_keepsLine_110 : decode cX7_keepsLine 110 = .ok (.iastore, 1) := by decide +kernel
theorem dX7_keepsLine_111 : decode cX7_keepsLine 111 = .ok (.aload_n 0, 1) := by decide +kernel
theorem dX7_keepsLine_112 : decode cX7_keepsLine 112 = .ok (.getfield 40, 3) := by decide +kernel
theorem dX7_keepsLine_115 : decode cX7_keepsLine 115 = .ok (.iload 5, 2) := by decide +kernel
theorem dX7_keepsLine_117 : decode cX7_keepsLine 117 = .ok (.iconst 3, 1) := by decide +kernel
theorem dX7_keepsLine_118 : decode cX7_keepsLine 118 = .ok (.iadd, 1) := by decide +kernel
theorem dX7_keepsLine_119 : decode cX7_keepsLine 119 = .ok (.iload_n 3, 1) := by decide +kernel
theorem dX7_keepsLine_120 : decode cX7_keepsLine 120 = .ok (.iastore, 1) := by decide +kernel
theorem dX7_keepsLine_121 : decode cX7_keepsLine 121 = .ok (.aload_n 0, 1) := by decide +kernel
theorem dX7_keepsLine_122 : decode cX7_keepsLine 122 = .ok (.getfield 40, 3) := by decide +kernel
theorem dX7_keepsLine_125 : decode cX7_keepsLine 125 = .ok (.iload 5, 2) := by decide +kernel
theorem dX7_keepsLine_127 : decode cX7_keepsLine 127 = .ok (.iconst 4, 1) := by decide +kernel
theorem dX7_keepsLine_128 : decode cX7_keepsLine 128 = .ok (.iadd, 1) := by decide +kernel
theorem dX7_keepsLine_129 : decode cX7_keepsLine 129 = .ok (.iload 4, 2) := by decide +kernel
theorem dX7_keepsLine_131 : decode cX7_keepsLine 131 = .ok (.iastore, 1) := by decide +kernel
theorem dX7_keepsLine_132 : decode cX7_keepsLine 132 = .ok (.return_, 1) := by decide +kernel
theorem dX7_goes0_0 : decode cX7_goes0 0 = .ok (.aload_n 0, 1) := by decide +kernel
theorem dX7_goes0_1 : decode cX7_goes0 1 = .ok (.iload_n 1, 1) := by decide +kernel
theorem dX7_goes0_2 : decode cX7_goes0 2 = .ok (.invokevirtual 281, 3) := by decide +kernel
theorem dX7_goes0_5 : decode cX7_goes0 5 = .ok (.istore_n 2, 1) := by decide +kernel
theorem dX7_goes0_6 : decode cX7_goes0 6 = .ok (.aload_n 0, 1) := by decide +kernel
theorem dX7_goes0_7 : decode cX7_goes0 7 = .ok (.iload_n 1, 1) := by decide +kernel
theorem dX7_goes0_8 : decode cX7_goes0 8 = .ok (.invokevirtual 351, 3) := by decide +kernel
theorem dX7_goes0_11 : decode cX7_goes0 11 = .ok (.istore_n 3, 1) := by decide +kernel
theorem dX7_goes0_12 : decode cX7_goes0 12 = .ok (.aload_n 0, 1) := by decide +kernel
theorem dX7_goes0_13 : decode cX7_goes0 13 = .ok (.iload_n 3, 1) := by decide +kernel
theorem dX7_goes0_14 : decode cX7_goes0 14 = .ok (.iconst 0, 1) := by decide +kernel
theorem dX7_goes0_15 : decode cX7_goes0 15 = .ok (.invokevirtual 231, 3) := by decide +kernel
theorem dX7_goes0_18 : decode cX7_goes0 18 = .ok (.istore 4, 2) := by decide +kernel
theorem dX7_goes0_20 : decode cX7_goes0 20 = .ok (.aload_n 0, 1) := by decide +kernel
theorem dX7_goes0_21 : decode cX7_goes0 21 = .ok (.iload_n 1, 1) := by decide +kernel
theorem dX7_goes0_22 : decode cX7_goes0 22 = .ok (.iload_n 3, 1) := by decide +kernel
theorem dX7_goes0_23 : decode cX7_goes0 23 = .ok (.iload_n 2, 1) := by decide +kernel
theorem dX7_goes0_24 : decode cX7_goes0 24 = .ok (.invokevirtual 354, 3) := by decide +kernel
theorem dX7_goes0_27 : decode cX7_goes0 27 = .ok (.istore 5, 2) := by decide +kernel
theorem dX7_goes0_29 : decode cX7_goes0 29 = .ok (.aload_n 0, 1) := by decide +kernel
theorem dX7_goes0_30 : decode cX7_goes0 30 = .ok (.iload_n 1, 1) := by decide +kernel
theorem dX7_goes0_31 : decode cX7_goes0 31 = .ok (.iload_n 3, 1) := by decide +kernel
theorem dX7_goes0_32 : decode cX7_goes0 32 = .ok (.iload_n 2, 1) := by decide +kernel
theorem dX7_goes0_33 : decode cX7_goes0 33 = .ok (.iload 5, 2) := by decide +kernel
theorem dX7_goes0_35 : decode cX7_goes0 35 = .ok (.invokevirtual 357, 3) := by decide +kernel
theorem dX7_goes0_38 : decode cX7_goes0 38 = .ok (.iload 4, 2) := by decide +kernel
theorem dX7_goes0_40 : decode cX7_goes0 40 = .ok (.bipush 12, 2) := by decide +kernel
theorem dX7_goes0_42 : decode cX7_goes0 42 = .ok (.if_icmp .ge 10, 3) := by decide +kernel
theorem dX7_goes0_45 : decode cX7_goes0 45 = .ok (.aload_n 0, 1) := by decide +kernel
theorem dX7_goes0_46 : decode cX7_goes0 46 = .ok (.iload_n 1, 1) := by decide +kernel
theorem dX7_goes0_47 : decode cX7_goes0 47 = .ok (.iload_n 3, 1) := by decide +kernel
theorem dX7_goes0_48 : decode cX7_goes0 48 = .ok (.iload_n 2, 1) := by decide +kernel
theorem dX7_goes0_49 : decode cX7_goes0 49 = .ok (.invokevirtual 360, 3) := by decide +kernel
theorem dX7_goes0_52 : decode cX7_goes0 52 = .ok (.aload_n 0, 1) := by decide +kernel
theorem dX7_goes0_53 : decode cX7_goes0 53 = .ok (.getfield 40, 3) := by decide +kernel
theorem dX7_goes0_56 : decode cX7_goes0 56 = .ok (.iload_n 1, 1) := by decide +kernel
theorem dX7_goes0_57 : decode cX7_goes0 57 = .ok (.iconst 0, 1) := by decide +kernel
theorem dX7_goes0_58 : decode cX7_goes0 58 = .ok (.invokestatic 249, 3) := by decide +kernel
theorem dX7_goes0_61 : decode cX7_goes0 61 = .ok (.aload_n 0, 1) := by decide +kernel
theorem dX7_goes0_62 : decode cX7_goes0 62 = .ok (.getfield 40, 3) := by decide +kernel
theorem dX7_goes0_65 : decode cX7_goes0 65 = .ok (.iconst 0, 1) := by decide +kernel
theorem dX7_goes0_66 : decode cX7_goes0 66 = .ok (.iaload, 1) := by decide +kernel
theorem dX7_goes0_67 : decode cX7_goes0 67 = .ok (.iload 5, 2) := by decide +kernel
theorem dX7_goes0_69 : decode cX7_goes0 69 = .ok (.iadd, 1) := by decide +kernel
theorem dX7_goes0_70 : decode cX7_goes0 70 = .ok (.iastore, 1) := by decide +kernel
theorem dX7_goes0_71 : decode cX7_goes0 71 = .ok (.aload_n 0, 1) := by decide +kernel
theorem dX7_goes0_72 : decode cX7_goes0 72 = .ok (.getfield 40, 3) := by decide +kernel
theorem dX7_goes0_75 : decode cX7_goes0 75 = .ok (.iload_n 1, 1) := by decide +kernel
theorem dX7_goes0_76 : decode cX7_goes0 76 = .ok (.iconst 2, 1) := by decide +kernel
theorem dX7_goes0_77 : decode cX7_goes0 77 = .ok (.invokestatic 249, 3) := by decide +kernel
theorem dX7_goes0_80 : decode cX7_goes0 80 = .ok (.dup2, 1) := by decide +kernel
theorem dX7_goes0_81 : decode cX7_goes0 81 = .ok (.iaload, 1) := by decide +kernel
theorem dX7_goes0_82 : decode cX7_goes0 82 = .ok (.iconst 1, 1) := by decide +kernel
theorem dX7_goes0_83 : decode cX7_goes0 83 = .ok (.iadd, 1) := by decide +kernel
theorem dX7_goes0_84 : decode cX7_goes0 84 = .ok (.iastore, 1) := by decide +kernel
theorem dX7_goes0_85 : decode cX7_goes0 85 = .ok (.aload_n 0, 1) := by decide +kernel
theorem dX7_goes0_86 : decode cX7_goes0 86 = .ok (.getfield 40, 3) := by decide +kernel
theorem dX7_goes0_89 : decode cX7_goes0 89 = .ok (.iconst 1, 1) := by decide +kernel
theorem dX7_goes0_90 : decode cX7_goes0 90 = .ok (.dup2, 1) := by decide +kernel
theorem dX7_goes0_91 : decode cX7_goes0 91 = .ok (.iaload, 1) := by decide +kernel
theorem dX7_goes0_92 : decode cX7_goes0 92 = .ok (.iconst 1, 1) := by decide +kernel
theorem dX7_goes0_93 : decode cX7_goes0 93 = .ok (.iadd, 1) := by decide +kernel
theorem dX7_goes0_94 : decode cX7_goes0 94 = .ok (.iastore, 1) := by decide +kernel
theorem dX7_goes0_95 : decode cX7_goes0 95 = .ok (.aload_n 0, 1) := by decide +kernel
theorem dX7_goes0_96 : decode cX7_goes0 96 = .ok (.getfield 40, 3) := by decide +kernel
theorem dX7_goes0_99 : decode cX7_goes0 99 = .ok (.bipush 6, 2) := by decide +kernel
theorem dX7_goes0_101 : decode cX7_goes0 101 = .ok (.iload_n 1, 1) := by decide +kernel
theorem dX7_goes0_102 : decode cX7_goes0 102 = .ok (.iastore, 1) := by decide +kernel
theorem dX7_goes0_103 : decode cX7_goes0 103 = .ok (.iload 4, 2) := by decide +kernel
theorem dX7_goes0_105 : decode cX7_goes0 105 = .ok (.bipush 13, 2) := by decide +kernel
theorem dX7_goes0_107 : decode cX7_goes0 107 = .ok (.if_icmp .ne 17, 3) := by decide +kernel
theorem dX7_goes0_110 : decode cX7_goes0 110 = .ok (.aload_n 0, 1) := by decide +kernel
theorem dX7_goes0_111 : decode cX7_goes0 111 = .ok (.getfield 40, 3) := by decide +kernel
theorem dX7_goes0_114 : decode cX7_goes0 114 = .ok (.iload_n 1, 1) := by decide +kernel
theorem dX7_goes0_115 : decode cX7_goes0 115 = .ok (.iconst 4, 1) := by decide +kernel
theorem dX7_goes0_116 : decode cX7_goes0 116 = .ok (.invokestatic 249, 3) := by decide +kernel
theorem dX7_goes0_119 : decode cX7_goes0 119 = .ok (.dup2, 1) := by decide +kernel
theorem dX7_goes0_120 : decode cX7_goes0 120 = .ok (.iaload, 1) := by decide +kernel
theorem dX7_goes0_121 : decode cX7_goes0 121 = .ok (.iload_n 2, 1) := by decide +kernel
theorem dX7_goes0_122 : decode cX7_goes0 122 = .ok (.ior, 1) := by decide +kernel
theorem dX7_goes0_123 : decode cX7_goes0 123 = .ok (.iastore, 1) := by decide +kernel
theorem dX7_goes0_124 : decode cX7_goes0 124 = .ok (.aload_n 0, 1) := by decide +kernel
theorem dX7_goes0_125 : decode cX7_goes0 125 = .ok (.getfield 40, 3) := by decide +kernel
theorem dX7_goes0_128 : decode cX7_goes0 128 = .ok (.iconst 3, 1) := by decide +kernel
theorem dX7_goes0_129 : decode cX7_goes0 129 = .ok (.iaload, 1) := by decide +kernel
theorem dX7_goes0_130 : decode cX7_goes0 130 = .ok (.iconst 1, 1) := by decide +kernel
theorem dX7_goes0_131 : decode cX7_goes0 131 = .ok (.if_icmp .ne 13, 3) := by decide +kernel
theorem dX7_goes0_134 : decode cX7_goes0 134 = .ok (.aload_n 0, 1) := by decide +kernel
theorem dX7_goes0_135 : decode cX7_goes0 135 = .ok (.iload_n 1, 1) := by decide +kernel
theorem dX7_goes0_136 : decode cX7_goes0 136 = .ok (.iload_n 3, 1) := by decide +kernel
theorem dX7_goes0_137 : decode cX7_goes0 137 = .ok (.iload_n 2, 1) := by decide +kernel
theorem dX7_goes0_138 : decode cX7_goes0 138 = .ok (.invokevirtual 363, 3) := by decide +kernel
theorem dX7_goes0_141 : decode cX7_goes0 141 = .ok (.goto 17, 3) := by decide +kernel
theorem dX7_goes0_144 : decode cX7_goes0 144 = .ok (.iload 4, 2) := by decide +kernel
theorem dX7_goes0_146 : decode cX7_goes0 146 = .ok (.bipush 13, 2) := by decide +kernel
theorem dX7_goes0_148 : decode cX7_goes0 148 = .ok (.if_icmp .eq 10, 3) := by decide +kernel
theorem dX7_goes0_151 : decode cX7_goes0 151 = .ok (.aload_n 0, 1) := by decide +kernel
theorem dX7_goes0_152 : decode cX7_goes0 152 = .ok (.iload_n 1, 1) := by decide +kernel
theorem dX7_goes0_153 : decode cX7_goes0 153 = .ok (.iload_n 3, 1) := by decide +kernel
theorem dX7_goes0_154 : decode cX7_goes0 154 = .ok (.iload_n 2, 1) := by decide +kernel
theorem dX7_goes0_155 : decode cX7_goes0 155 = .ok (.invokevirtual 366, 3) := by decide +kernel
theorem dX7_goes0_158 : decode cX7_goes0 158 = .ok (.return_, 1) := by decide +kernel
theorem dX7_count_0 : decode cX7_count 0 = .ok (.iconst 0, 1) := by decide +kernel
theorem dX7_count_1 : decode cX7_count 1 = .ok (.istore_n 1, 1) := by decide +kernel
theorem dX7_count_2 : decode cX7_count 2 = .ok (.iconst 0, 1) := by decide +kernel
theorem dX7_count_3 : decode cX7_count 3 = .ok (.istore_n 2, 1) := by decide +kernel
theorem dX7_count_4 : decode cX7_count 4 = .ok (.iload_n 2, 1) := by decide +kernel
theorem dX7_count_5 : decode cX7_count 5 = .ok (.bipush 8, 2) := by decide +kernel
theorem dX7_count_7 : decode cX7_count 7 = .ok (.if_icmp .ge 17, 3) := by decide +kernel
theorem dX7_count_10 : decode cX7_count 10 = .ok (.iload_n 1, 1) := by decide +kernel
theorem dX7_count_11 : decode cX7_count 11 = .ok (.iload_n 0, 1) := by decide +kernel
theorem dX7_count_12 : decode cX7_count 12 = .ok (.iload_n 2, 1) := by decide +kernel
theorem dX7_count_13 : decode cX7_count 13 = .ok (.ishr, 1) := by decide +kernel
theorem dX7_count_14 : decode cX7_count 14 = .ok (.iconst 1, 1) := by decide +kernel
theorem dX7_count_15 : decode cX7_count 15 = .ok (.iand, 1) := by decide +kernel
theorem dX7_count_16 : decode cX7_count 16 = .ok (.iadd, 1) := by decide +kernel
theorem dX7_count_17 : decode cX7_count 17 = .ok (.istore_n 1, 1) := by decide +kernel
theorem dX7_count_18 : decode cX7_count 18 = .ok (.iinc 2 1, 3) := by decide +kernel
theorem dX7_count_21 : decode cX7_count 21 = .ok (.goto (-17), 3) := by decide +kernel
theorem dX7_count_24 : decode cX7_count 24 = .ok (.iload_n 1, 1) := by decide +kernel
theorem dX7_count_25 : decode cX7_count 25 = .ok (.ireturn, 1) := by decide +kernel
theorem dX7_sumOf_0 : decode cX7_sumOf 0 = .ok (.iconst 0, 1) := by decide +kernel
theorem dX7_sumOf_1 : decode cX7_sumOf 1 = .ok (.istore_n 2, 1) := by decide +kernel
theorem dX7_sumOf_2 : decode cX7_sumOf 2 = .ok (.iconst 0, 1) := by decide +kernel
theorem dX7_sumOf_3 : decode cX7_sumOf 3 = .ok (.istore_n 3, 1) := by decide +kernel
theorem dX7_sumOf_4 : decode cX7_sumOf 4 = .ok (.iload_n 3, 1) := by decide +kernel
theorem dX7_sumOf_5 : decode cX7_sumOf 5 = .ok (.aload_n 0, 1) := by decide +kernel
theorem dX7_sumOf_6 : decode cX7_sumOf 6 = .ok (.invokevirtual 255, 3) := by decide +kernel
theorem dX7_sumOf_9 : decode cX7_sumOf 9 = .ok (.if_icmp .ge 21, 3) := by decide +kernel
theorem dX7_sumOf_12 : decode cX7_sumOf 12 = .ok (.iload_n 2, 1) := by decide +kernel
theorem dX7_sumOf_13 : decode cX7_sumOf 13 = .ok (.aload_n 0, 1) := by decide +kernel
theorem dX7_sumOf_14 : decode cX7_sumOf 14 = .ok (.iload_n 3, 1) := by decide +kernel
theorem dX7_sumOf_15 : decode cX7_sumOf 15 = .ok (.iload_n 1, 1) := by decide +kernel
theorem dX7_sumOf_16 : decode cX7_sumOf 16 = .ok (.invokevirtual 252, 3) := by decide +kernel
theorem dX7_sumOf_19 : decode cX7_sumOf 19 = .ok (.invokestatic 369, 3) := by decide +kernel
theorem dX7_sumOf_22 : decode cX7_sumOf 22 = .ok (.iadd, 1) := by decide +kernel
theorem dX7_sumOf_23 : decode cX7_sumOf 23 = .ok (.istore_n 2, 1) := by decide +kernel
theorem dX7_sumOf_24 : decode cX7_sumOf 24 = .ok (.iinc 3 1, 3) := by decide +kernel
theorem dX7_sumOf_27 : decode cX7_sumOf 27 = .ok (.goto (-23), 3) := by decide +kernel
theorem dX7_sumOf_30 : decode cX7_sumOf 30 = .ok (.iload_n 2, 1) := by decide +kernel
theorem dX7_sumOf_31 : decode cX7_sumOf 31 = .ok (.ireturn, 1) := by decide +kernel
theorem dX7_opensBar_0 : decode cX7_opensBar 0 = .ok (.aload_n 0, 1) := by decide +kernel
theorem dX7_opensBar_1 : decode cX7_opensBar 1 = .ok (.iconst 3, 1) := by decide +kernel
theorem dX7_opensBar_2 : decode cX7_opensBar 2 = .ok (.invokevirtual 372, 3) := by decide +kernel
theorem dX7_opensBar_5 : decode cX7_opensBar 5 = .ok (.ifCond .eq 16, 3) := by decide +kernel
theorem dX7_opensBar_8 : decode cX7_opensBar 8 = .ok (.aload_n 0, 1) := by decide +kernel
theorem dX7_opensBar_9 : decode cX7_opensBar 9 = .ok (.iconst 3, 1) := by decide +kernel
theorem dX7_opensBar_10 : decode cX7_opensBar 10 = .ok (.invokevirtual 372, 3) := by decide +kernel
theorem dX7_opensBar_13 : decode cX7_opensBar 13 = .ok (.aload_n 0, 1) := by decide +kernel
theorem dX7_opensBar_14 : decode cX7_opensBar 14 = .ok (.iconst 4, 1) := by decide +kernel
theorem dX7_opensBar_15 : decode cX7_opensBar 15 = .ok (.invokevirtual 372, 3) := by decide +kernel
theorem dX7_opensBar_18 : decode cX7_opensBar 18 = .ok (.if_icmp .eq 4, 3) := by decide +kernel
theorem dX7_opensBar_21 : decode cX7_opensBar 21 = .ok (.return_, 1) := by decide +kernel
theorem dX7_opensBar_22 : decode cX7_opensBar 22 = .ok (.aload_n 0, 1) := by decide +kernel
theorem dX7_opensBar_23 : decode cX7_opensBar 23 = .ok (.getfield 40, 3) := by decide +kernel
theorem dX7_opensBar_26 : decode cX7_opensBar 26 = .ok (.iconst 2, 1) := by decide +kernel
theorem dX7_opensBar_27 : decode cX7_opensBar 27 = .ok (.dup2, 1) := by decide +kernel
theorem dX7_opensBar_28 : decode cX7_opensBar 28 = .ok (.iaload, 1) := by decide +kernel
theorem dX7_opensBar_29 : decode cX7_opensBar 29 = .ok (.iconst 1, 1) := by decide +kernel
theorem dX7_opensBar_30 : decode cX7_opensBar 30 = .ok (.iadd, 1) := by decide +kernel
theorem dX7_opensBar_31 : decode cX7_opensBar 31 = .ok (.iastore, 1) := by decide +kernel
theorem dX7_opensBar_32 : decode cX7_opensBar 32 = .ok (.sipush 480, 3) := by decide +kernel
theorem dX7_opensBar_35 : decode cX7_opensBar 35 = .ok (.istore_n 1, 1) := by decide +kernel
theorem dX7_opensBar_36 : decode cX7_opensBar 36 = .ok (.iload_n 1, 1) := by decide +kernel
theorem dX7_opensBar_37 : decode cX7_opensBar 37 = .ok (.sipush 672, 3) := by decide +kernel
theorem dX7_opensBar_40 : decode cX7_opensBar 40 = .ok (.if_icmp .ge 16, 3) := by decide +kernel
theorem dX7_opensBar_43 : decode cX7_opensBar 43 = .ok (.aload_n 0, 1) := by decide +kernel
theorem dX7_opensBar_44 : decode cX7_opensBar 44 = .ok (.getfield 40, 3) := by decide +kernel
theorem dX7_opensBar_47 : decode cX7_opensBar 47 = .ok (.iload_n 1, 1) := by decide +kernel
theorem dX7_opensBar_48 : decode cX7_opensBar 48 = .ok (.iconst 0, 1) := by decide +kernel
theorem dX7_opensBar_49 : decode cX7_opensBar 49 = .ok (.iastore, 1) := by decide +kernel
theorem dX7_opensBar_50 : decode cX7_opensBar 50 = .ok (.iinc 1 1, 3) := by decide +kernel
theorem dX7_opensBar_53 : decode cX7_opensBar 53 = .ok (.goto (-17), 3) := by decide +kernel
theorem dX7_opensBar_56 : decode cX7_opensBar 56 = .ok (.iconst 0, 1) := by decide +kernel
theorem dX7_opensBar_57 : decode cX7_opensBar 57 = .ok (.istore_n 1, 1) := by decide +kernel
theorem dX7_opensBar_58 : decode cX7_opensBar 58 = .ok (.iload_n 1, 1) := by decide +kernel
theorem dX7_opensBar_59 : decode cX7_opensBar 59 = .ok (.aload_n 0, 1) := by decide +kernel
theorem dX7_opensBar_60 : decode cX7_opensBar 60 = .ok (.invokevirtual 255, 3) := by decide +kernel
theorem dX7_opensBar_63 : decode cX7_opensBar 63 = .ok (.if_icmp .ge 112, 3) := by decide +kernel
theorem dX7_opensBar_66 : decode cX7_opensBar 66 = .ok (.aload_n 0, 1) := by decide +kernel
theorem dX7_opensBar_67 : decode cX7_opensBar 67 = .ok (.iload_n 1, 1) := by decide +kernel
theorem dX7_opensBar_68 : decode cX7_opensBar 68 = .ok (.iconst 4, 1) := by decide +kernel
theorem dX7_opensBar_69 : decode cX7_opensBar 69 = .ok (.invokevirtual 252, 3) := by decide +kernel
theorem dX7_opensBar_72 : decode cX7_opensBar 72 = .ok (.istore_n 2, 1) := by decide +kernel
theorem dX7_opensBar_73 : decode cX7_opensBar 73 = .ok (.aload_n 0, 1) := by decide +kernel
theorem dX7_opensBar_74 : decode cX7_opensBar 74 = .ok (.getfield 40, 3) := by decide +kernel
theorem dX7_opensBar_77 : decode cX7_opensBar 77 = .ok (.iload_n 1, 1) := by decide +kernel
theorem dX7_opensBar_78 : decode cX7_opensBar 78 = .ok (.iconst 4, 1) := by decide +kernel
theorem dX7_opensBar_79 : decode cX7_opensBar 79 = .ok (.invokestatic 249, 3) := by decide +kernel
theorem dX7_opensBar_82 : decode cX7_opensBar 82 = .ok (.iconst 0, 1) := by decide +kernel
theorem dX7_opensBar_83 : decode cX7_opensBar 83 = .ok (.iastore, 1) := by decide +kernel
theorem dX7_opensBar_84 : decode cX7_opensBar 84 = .ok (.iload_n 2, 1) := by decide +kernel
theorem dX7_opensBar_85 : decode cX7_opensBar 85 = .ok (.ifCond .ne 6, 3) := by decide +kernel
theorem dX7_opensBar_88 : decode cX7_opensBar 88 = .ok (.goto 81, 3) := by decide +kernel
theorem dX7_opensBar_91 : decode cX7_opensBar 91 = .ok (.aload_n 0, 1) := by decide +kernel
theorem dX7_opensBar_92 : decode cX7_opensBar 92 = .ok (.getfield 40, 3) := by decide +kernel
theorem dX7_opensBar_95 : decode cX7_opensBar 95 = .ok (.iconst 3, 1) := by decide +kernel
theorem dX7_opensBar_96 : decode cX7_opensBar 96 = .ok (.iaload, 1) := by decide +kernel
theorem dX7_opensBar_97 : decode cX7_opensBar 97 = .ok (.ifCond .ne 30, 3) := by decide +kernel
theorem dX7_opensBar_100 : decode cX7_opensBar 100 = .ok (.aload_n 0, 1) := by decide +kernel
theorem dX7_opensBar_101 : decode cX7_opensBar 101 = .ok (.getfield 40, 3) := by decide +kernel
theorem dX7_opensBar_104 : decode cX7_opensBar 104 = .ok (.iload_n 1, 1) := by decide +kernel
theorem dX7_opensBar_105 : decode cX7_opensBar 105 = .ok (.aload_n 0, 1) := by decide +kernel
theorem dX7_opensBar_106 : decode cX7_opensBar 106 = .ok (.iload_n 1, 1) := by decide +kernel
theorem dX7_opensBar_107 : decode cX7_opensBar 107 = .ok (.invokevirtual 272, 3) := by decide +kernel
theorem dX7_opensBar_110 : decode cX7_opensBar 110 = .ok (.iconst 0, 1) := by decide +kernel
theorem dX7_opensBar_111 : decode cX7_opensBar 111 = .ok (.invokestatic 268, 3) := by decide +kernel
theorem dX7_opensBar_114 : decode cX7_opensBar 114 = .ok (.dup2, 1) := by decide +kernel
theorem dX7_opensBar_115 : decode cX7_opensBar 115 = .ok (.iaload, 1) := by decide +kernel
theorem dX7_opensBar_116 : decode cX7_opensBar 116 = .ok (.iconst 1, 1) := by decide +kernel
theorem dX7_opensBar_117 : decode cX7_opensBar 117 = .ok (.iadd, 1) := by decide +kernel
theorem dX7_opensBar_118 : decode cX7_opensBar 118 = .ok (.iastore, 1) := by decide +kernel
theorem dX7_opensBar_119 : decode cX7_opensBar 119 = .ok (.aload_n 0, 1) := by decide +kernel
theorem dX7_opensBar_120 : decode cX7_opensBar 120 = .ok (.iload_n 1, 1) := by decide +kernel
theorem dX7_opensBar_121 : decode cX7_opensBar 121 = .ok (.invokevirtual 345, 3) := by decide +kernel
theorem dX7_opensBar_124 : decode cX7_opensBar 124 = .ok (.goto 45, 3) := by decide +kernel
theorem dX7_opensBar_127 : decode cX7_opensBar 127 = .ok (.iconst 0, 1) := by decide +kernel
theorem dX7_opensBar_128 : decode cX7_opensBar 128 = .ok (.istore_n 3, 1) := by decide +kernel
theorem dX7_opensBar_129 : decode cX7_opensBar 129 = .ok (.iload_n 3, 1) := by decide +kernel
theorem dX7_opensBar_130 : decode cX7_opensBar 130 = .ok (.bipush 8, 2) := by decide +kernel
theorem dX7_opensBar_132 : decode cX7_opensBar 132 = .ok (.if_icmp .ge 37, 3) := by decide +kernel
theorem dX7_opensBar_135 : decode cX7_opensBar 135 = .ok (.iload_n 2, 1) := by decide +kernel
theorem dX7_opensBar_136 : decode cX7_opensBar 136 = .ok (.iload_n 3, 1) := by decide +kernel
theorem dX7_opensBar_137 : decode cX7_opensBar 137 = .ok (.invokestatic 261, 3) := by decide +kernel
theorem dX7_opensBar_140 : decode cX7_opensBar 140 = .ok (.ifCond .eq 23, 3) := by decide +kernel
theorem dX7_opensBar_143 : decode cX7_opensBar 143 = .ok (.aload_n 0, 1) := by decide +kernel
theorem dX7_opensBar_144 : decode cX7_opensBar 144 = .ok (.iload_n 1, 1) := by decide +kernel
theorem dX7_opensBar_145 : decode cX7_opensBar 145 = .ok (.iconst 1, 1) := by decide +kernel
theorem dX7_opensBar_146 : decode cX7_opensBar 146 = .ok (.iload_n 3, 1) := by decide +kernel
theorem dX7_opensBar_147 : decode cX7_opensBar 147 = .ok (.ishl, 1) := by decide +kernel
theorem dX7_opensBar_148 : decode cX7_opensBar 148 = .ok (.aload_n 0, 1) := by decide +kernel
theorem dX7_opensBar_149 : decode cX7_opensBar 149 = .ok (.getfield 40, 3) := by decide +kernel
theorem dX7_opensBar_152 : decode cX7_opensBar 152 = .ok (.iload_n 1, 1) := by decide +kernel
theorem dX7_opensBar_153 : decode cX7_opensBar 153 = .ok (.iload_n 3, 1) := by decide +kernel
theorem dX7_opensBar_154 : decode cX7_opensBar 154 = .ok (.invokestatic 258, 3) := by decide +kernel
theorem dX7_opensBar_157 : decode cX7_opensBar 157 = .ok (.iaload, 1) := by decide +kernel
theorem dX7_opensBar_158 : decode cX7_opensBar 158 = .ok (.iconst 1, 1) := by decide +kernel
theorem dX7_opensBar_159 : decode cX7_opensBar 159 = .ok (.iadd, 1) := by decide +kernel
theorem dX7_opensBar_160 : decode cX7_opensBar 160 = .ok (.invokevirtual 348, 3) := by decide +kernel
theorem dX7_opensBar_163 : decode cX7_opensBar 163 = .ok (.iinc 3 1, 3) := by decide +kernel
theorem dX7_opensBar_166 : decode cX7_opensBar 166 = .ok (.goto (-37), 3) := by decide +kernel
theorem dX7_opensBar_169 : decode cX7_opensBar 169 = .ok (.iinc 1 1, 3) := by decide +kernel
theorem dX7_opensBar_172 : decode cX7_opensBar 172 = .ok (.goto (-114), 3) := by decide +kernel
theorem dX7_opensBar_175 : decode cX7_opensBar 175 = .ok (.return_, 1) := by decide +kernel
theorem dX7_aCycle_0 : decode cX7_aCycle 0 = .ok (.aload_n 0, 1) := by decide +kernel
theorem dX7_aCycle_1 : decode cX7_aCycle 1 = .ok (.invokevirtual 375, 3) := by decide +kernel
theorem dX7_aCycle_4 : decode cX7_aCycle 4 = .ok (.istore_n 1, 1) := by decide +kernel
theorem dX7_aCycle_5 : decode cX7_aCycle 5 = .ok (.iload_n 1, 1) := by decide +kernel
theorem dX7_aCycle_6 : decode cX7_aCycle 6 = .ok (.iconst (-1), 1) := by decide +kernel
theorem dX7_aCycle_7 : decode cX7_aCycle 7 = .ok (.if_icmp .eq 8, 3) := by decide +kernel
theorem dX7_aCycle_10 : decode cX7_aCycle 10 = .ok (.aload_n 0, 1) := by decide +kernel
theorem dX7_aCycle_11 : decode cX7_aCycle 11 = .ok (.iload_n 1, 1) := by decide +kernel
theorem dX7_aCycle_12 : decode cX7_aCycle 12 = .ok (.invokevirtual 378, 3) := by decide +kernel
theorem dX7_aCycle_15 : decode cX7_aCycle 15 = .ok (.aload_n 0, 1) := by decide +kernel
theorem dX7_aCycle_16 : decode cX7_aCycle 16 = .ok (.invokevirtual 381, 3) := by decide +kernel
theorem dX7_aCycle_19 : decode cX7_aCycle 19 = .ok (.aload_n 0, 1) := by decide +kernel
theorem dX7_aCycle_20 : decode cX7_aCycle 20 = .ok (.getfield 40, 3) := by decide +kernel
theorem dX7_aCycle_23 : decode cX7_aCycle 23 = .ok (.iconst 0, 1) := by decide +kernel
theorem dX7_aCycle_24 : decode cX7_aCycle 24 = .ok (.dup2, 1) := by decide +kernel
theorem dX7_aCycle_25 : decode cX7_aCycle 25 = .ok (.iaload, 1) := by decide +kernel
theorem dX7_aCycle_26 : decode cX7_aCycle 26 = .ok (.iconst 1, 1) := by decide +kernel
theorem dX7_aCycle_27 : decode cX7_aCycle 27 = .ok (.iadd, 1) := by decide +kernel
theorem dX7_aCycle_28 : decode cX7_aCycle 28 = .ok (.iastore, 1) := by decide +kernel
theorem dX7_aCycle_29 : decode cX7_aCycle 29 = .ok (.return_, 1) := by decide +kernel
theorem dX7_has_0 : decode cX7_has 0 = .ok (.iload_n 1, 1) := by decide +kernel
theorem dX7_has_1 : decode cX7_has 1 = .ok (.i2l, 1) := by decide +kernel
theorem dX7_has_2 : decode cX7_has 2 = .ok (.lconst 0, 1) := by decide +kernel
theorem dX7_has_3 : decode cX7_has 3 = .ok (.ldc2_w 384, 3) := by decide +kernel
theorem dX7_has_6 : decode cX7_has 6 = .ok (.invokestatic 82, 3) := by decide +kernel
theorem dX7_has_9 : decode cX7_has 9 = .ok (.ifCond .ne 5, 3) := by decide +kernel
theorem dX7_has_12 : decode cX7_has 12 = .ok (.iconst (-1), 1) := by decide +kernel
theorem dX7_has_13 : decode cX7_has 13 = .ok (.ireturn, 1) := by decide +kernel
theorem dX7_has_14 : decode cX7_has 14 = .ok (.aload_n 0, 1) := by decide +kernel
theorem dX7_has_15 : decode cX7_has 15 = .ok (.getfield 215, 3) := by decide +kernel
theorem dX7_has_18 : decode cX7_has 18 = .ok (.ifCond .ne 5, 3) := by decide +kernel
theorem dX7_has_21 : decode cX7_has 21 = .ok (.iconst 0, 1) := by decide +kernel
theorem dX7_has_22 : decode cX7_has 22 = .ok (.ireturn, 1) := by decide +kernel
theorem dX7_has_23 : decode cX7_has 23 = .ok (.iload_n 1, 1) := by decide +kernel
theorem dX7_has_24 : decode cX7_has 24 = .ok (.tableswitch 150 0 12 #[68, 73, 78, 85, 92, 98, 104, 109, 117, 122, 129, 136, 143], 68) := by decide +kernel
theorem dX7_has_92 : decode cX7_has 92 = .ok (.aload_n 0, 1) := by decide +kernel
theorem dX7_has_93 : decode cX7_has 93 = .ok (.invokevirtual 212, 3) := by decide +kernel
theorem dX7_has_96 : decode cX7_has 96 = .ok (.ireturn, 1) := by decide +kernel
theorem dX7_has_97 : decode cX7_has 97 = .ok (.aload_n 0, 1) := by decide +kernel
theorem dX7_has_98 : decode cX7_has 98 = .ok (.invokevirtual 255, 3) := by decide +kernel
theorem dX7_has_101 : decode cX7_has 101 = .ok (.ireturn, 1) := by decide +kernel
theorem dX7_has_102 : decode cX7_has 102 = .ok (.aload_n 0, 1) := by decide +kernel
theorem dX7_has_103 : decode cX7_has 103 = .ok (.getfield 40, 3) := by decide +kernel
theorem dX7_has_106 : decode cX7_has 106 = .ok (.iconst 0, 1) := by decide +kernel
theorem dX7_has_107 : decode cX7_has 107 = .ok (.iaload, 1) := by decide +kernel
theorem dX7_has_108 : decode cX7_has 108 = .ok (.ireturn, 1) := by decide +kernel
theorem dX7_has_109 : decode cX7_has 109 = .ok (.aload_n 0, 1) := by decide +kernel
theorem dX7_has_110 : decode cX7_has 110 = .ok (.getfield 40, 3) := by decide +kernel
theorem dX7_has_113 : decode cX7_has 113 = .ok (.iconst 1, 1) := by decide +kernel
theorem dX7_has_114 : decode cX7_has 114 = .ok (.iaload, 1) := by decide +kernel
theorem dX7_has_115 : decode cX7_has 115 = .ok (.ireturn, 1) := by decide +kernel
theorem dX7_has_116 : decode cX7_has 116 = .ok (.aload_n 0, 1) := by decide +kernel
theorem dX7_has_117 : decode cX7_has 117 = .ok (.iconst 3, 1) := by decide +kernel
theorem dX7_has_118 : decode cX7_has 118 = .ok (.invokevirtual 372, 3) := by decide +kernel
theorem dX7_has_121 : decode cX7_has 121 = .ok (.ireturn, 1) := by decide +kernel
theorem dX7_has_122 : decode cX7_has 122 = .ok (.aload_n 0, 1) := by decide +kernel
theorem dX7_has_123 : decode cX7_has 123 = .ok (.iconst 4, 1) := by decide +kernel
theorem dX7_has_124 : decode cX7_has 124 = .ok (.invokevirtual 372, 3) := by decide +kernel
theorem dX7_has_127 : decode cX7_has 127 = .ok (.ireturn, 1) := by decide +kernel
theorem dX7_has_128 : decode cX7_has 128 = .ok (.aload_n 0, 1) := by decide +kernel
theorem dX7_has_129 : decode cX7_has 129 = .ok (.invokevirtual 386, 3) := by decide +kernel
theorem dX7_has_132 : decode cX7_has 132 = .ok (.ireturn, 1) := by decide +kernel
theorem dX7_has_133 : decode cX7_has 133 = .ok (.aload_n 0, 1) := by decide +kernel
theorem dX7_has_134 : decode cX7_has 134 = .ok (.getfield 40, 3) := by decide +kernel
theorem dX7_has_137 : decode cX7_has 137 = .ok (.bipush 7, 2) := by decide +kernel
theorem dX7_has_139 : decode cX7_has 139 = .ok (.iaload, 1) := by decide +kernel
theorem dX7_has_140 : decode cX7_has 140 = .ok (.ireturn, 1) := by decide +kernel
theorem dX7_has_141 : decode cX7_has 141 = .ok (.aload_n 0, 1) := by decide +kernel
theorem dX7_has_142 : decode cX7_has 142 = .ok (.getfield 228, 3) := by decide +kernel
theorem dX7_has_145 : decode cX7_has 145 = .ok (.ireturn, 1) := by decide +kernel
theorem dX7_has_146 : decode cX7_has 146 = .ok (.aload_n 0, 1) := by decide +kernel
theorem dX7_has_147 : decode cX7_has 147 = .ok (.getfield 40, 3) := by decide +kernel
theorem dX7_has_150 : decode cX7_has 150 = .ok (.iconst 2, 1) := by decide +kernel
theorem dX7_has_151 : decode cX7_has 151 = .ok (.iaload, 1) := by decide +kernel
theorem dX7_has_152 : decode cX7_has 152 = .ok (.ireturn, 1) := by decide +kernel
theorem dX7_has_153 : decode cX7_has 153 = .ok (.aload_n 0, 1) := by decide +kernel
theorem dX7_has_154 : decode cX7_has 154 = .ok (.getfield 40, 3) := by decide +kernel
theorem dX7_has_157 : decode cX7_has 157 = .ok (.iconst 3, 1) := by decide +kernel
theorem dX7_has_158 : decode cX7_has 158 = .ok (.iaload, 1) := by decide +kernel
theorem dX7_has_159 : decode cX7_has 159 = .ok (.ireturn, 1) := by decide +kernel
theorem dX7_has_160 : decode cX7_has 160 = .ok (.aload_n 0, 1) := by decide +kernel
theorem dX7_has_161 : decode cX7_has 161 = .ok (.getfield 40, 3) := by decide +kernel
theorem dX7_has_164 : decode cX7_has 164 = .ok (.iconst 4, 1) := by decide +kernel
theorem dX7_has_165 : decode cX7_has 165 = .ok (.iaload, 1) := by decide +kernel
theorem dX7_has_166 : decode cX7_has 166 = .ok (.ireturn, 1) := by decide +kernel
theorem dX7_has_167 : decode cX7_has 167 = .ok (.aload_n 0, 1) := by decide +kernel
theorem dX7_has_168 : decode cX7_has 168 = .ok (.getfield 40, 3) := by decide +kernel
theorem dX7_has_171 : decode cX7_has 171 = .ok (.iconst 5, 1) := by decide +kernel
theorem dX7_has_172 : decode cX7_has 172 = .ok (.iaload, 1) := by decide +kernel
theorem dX7_has_173 : decode cX7_has 173 = .ok (.ireturn, 1) := by decide +kernel
theorem dX7_has_174 : decode cX7_has 174 = .ok (.aload_n 0, 1) := by decide +kernel
theorem dX7_has_175 : decode cX7_has 175 = .ok (.getfield 40, 3) := by decide +kernel
theorem dX7_has_178 : decode cX7_has 178 = .ok (.bipush 6, 2) := by decide +kernel
theorem dX7_has_180 : decode cX7_has 180 = .ok (.iaload, 1) := by decide +kernel
theorem dX7_has_181 : decode cX7_has 181 = .ok (.iconst (-1), 1) := by decide +kernel
theorem dX7_has_182 : decode cX7_has 182 = .ok (.if_icmp .ne 7, 3) := by decide +kernel
theorem dX7_has_185 : decode cX7_has 185 = .ok (.iconst 0, 1) := by decide +kernel
theorem dX7_has_186 : decode cX7_has 186 = .ok (.goto 10, 3) := by decide +kernel
theorem dX7_has_189 : decode cX7_has 189 = .ok (.aload_n 0, 1) := by decide +kernel
theorem dX7_has_190 : decode cX7_has 190 = .ok (.getfield 40, 3) := by decide +kernel
theorem dX7_has_193 : decode cX7_has 193 = .ok (.bipush 6, 2) := by decide +kernel
theorem dX7_has_195 : decode cX7_has 195 = .ok (.iaload, 1) := by decide +kernel
theorem dX7_has_196 : decode cX7_has 196 = .ok (.ireturn, 1) := by decide +kernel
theorem dX7_racedMany_0 : decode cX7_racedMany 0 = .ok (.iconst 0, 1) := by decide +kernel
theorem dX7_racedMany_1 : decode cX7_racedMany 1 = .ok (.istore_n 1, 1) := by decide +kernel
theorem dX7_racedMany_2 : decode cX7_racedMany 2 = .ok (.sipush 672, 3) := by decide +kernel
theorem dX7_racedMany_5 : decode cX7_racedMany 5 = .ok (.istore_n 2, 1) := by decide +kernel
theorem dX7_racedMany_6 : decode cX7_racedMany 6 = .ok (.iload_n 2, 1) := by decide +kernel
theorem dX7_racedMany_7 : decode cX7_racedMany 7 = .ok (.sipush 768, 3) := by decide +kernel
theorem dX7_racedMany_10 : decode cX7_racedMany 10 = .ok (.if_icmp .ge 18, 3) := by decide +kernel
theorem dX7_racedMany_13 : decode cX7_racedMany 13 = .ok (.iload_n 1, 1) := by decide +kernel
theorem dX7_racedMany_14 : decode cX7_racedMany 14 = .ok (.aload_n 0, 1) := by decide +kernel
theorem dX7_racedMany_15 : decode cX7_racedMany 15 = .ok (.getfield 40, 3) := by decide +kernel
theorem dX7_racedMany_18 : decode cX7_racedMany 18 = .ok (.iload_n 2, 1) := by decide +kernel
theorem dX7_racedMany_19 : decode cX7_racedMany 19 = .ok (.iaload, 1) := by decide +kernel
theorem dX7_racedMany_20 : decode cX7_racedMany 20 = .ok (.iadd, 1) := by decide +kernel
theorem dX7_racedMany_21 : decode cX7_racedMany 21 = .ok (.istore_n 1, 1) := by decide +kernel
theorem dX7_racedMany_22 : decode cX7_racedMany 22 = .ok (.iinc 2 1, 3) := by decide +kernel
theorem dX7_racedMany_25 : decode cX7_racedMany 25 = .ok (.goto (-19), 3) := by decide +kernel
theorem dX7_racedMany_28 : decode cX7_racedMany 28 = .ok (.iload_n 1, 1) := by decide +kernel
theorem dX7_racedMany_29 : decode cX7_racedMany 29 = .ok (.ireturn, 1) := by decide +kernel
theorem dX7_line_0 : decode cX7_line 0 = .ok (.aload_n 0, 1) := by decide +kernel
theorem dX7_line_1 : decode cX7_line 1 = .ok (.getfield 215, 3) := by decide +kernel
theorem dX7_line_4 : decode cX7_line 4 = .ok (.ifCond .eq 40, 3) := by decide +kernel
theorem dX7_line_7 : decode cX7_line 7 = .ok (.iload_n 1, 1) := by decide +kernel
theorem dX7_line_8 : decode cX7_line 8 = .ok (.i2l, 1) := by decide +kernel
theorem dX7_line_9 : decode cX7_line 9 = .ok (.lconst 0, 1) := by decide +kernel
theorem dX7_line_10 : decode cX7_line 10 = .ok (.aload_n 0, 1) := by decide +kernel
theorem dX7_line_11 : decode cX7_line 11 = .ok (.invokevirtual 212, 3) := by decide +kernel
theorem dX7_line_14 : decode cX7_line 14 = .ok (.iconst 1, 1) := by decide +kernel
theorem dX7_line_15 : decode cX7_line 15 = .ok (.isub, 1) := by decide +kernel
theorem dX7_line_16 : decode cX7_line 16 = .ok (.i2l, 1) := by decide +kernel
theorem dX7_line_17 : decode cX7_line 17 = .ok (.invokestatic 82, 3) := by decide +kernel
theorem dX7_line_20 : decode cX7_line 20 = .ok (.ifCond .eq 24, 3) := by decide +kernel
theorem dX7_line_23 : decode cX7_line 23 = .ok (.iload_n 2, 1) := by decide +kernel
theorem dX7_line_24 : decode cX7_line 24 = .ok (.i2l, 1) := by decide +kernel
theorem dX7_line_25 : decode cX7_line 25 = .ok (.lconst 0, 1) := by decide +kernel
theorem dX7_line_26 : decode cX7_line 26 = .ok (.ldc2_w 389, 3) := by decide +kernel
theorem dX7_line_29 : decode cX7_line 29 = .ok (.invokestatic 82, 3) := by decide +kernel
theorem dX7_line_32 : decode cX7_line 32 = .ok (.ifCond .eq 12, 3) := by decide +kernel
theorem dX7_line_35 : decode cX7_line 35 = .ok (.aload_n 0, 1) := by decide +kernel
theorem dX7_line_36 : decode cX7_line 36 = .ok (.iload_n 1, 1) := by decide +kernel
theorem dX7_line_37 : decode cX7_line 37 = .ok (.iload_n 2, 1) := by decide +kernel
