theorem dX8_walks_84 : decode cX8_walks 84 = .ok (.iadd, 1) := by decide +kernel
theorem dX8_walks_85 : decode cX8_walks 85 = .ok (.iconst 3, 1) := by decide +kernel
theorem dX8_walks_86 : decode cX8_walks 86 = .ok (.iadd, 1) := by decide +kernel
theorem dX8_walks_87 : decode cX8_walks 87 = .ok (.iload 5, 2) := by decide +kernel
theorem dX8_walks_89 : decode cX8_walks 89 = .ok (.iastore, 1) := by decide +kernel
theorem dX8_walks_90 : decode cX8_walks 90 = .ok (.aload_n 0, 1) := by decide +kernel
theorem dX8_walks_91 : decode cX8_walks 91 = .ok (.getfield 46, 3) := by decide +kernel
theorem dX8_walks_94 : decode cX8_walks 94 = .ok (.iload_n 1, 1) := by decide +kernel
theorem dX8_walks_95 : decode cX8_walks 95 = .ok (.bipush 36, 2) := by decide +kernel
theorem dX8_walks_97 : decode cX8_walks 97 = .ok (.iadd, 1) := by decide +kernel
theorem dX8_walks_98 : decode cX8_walks 98 = .ok (.dup2, 1) := by decide +kernel
theorem dX8_walks_99 : decode cX8_walks 99 = .ok (.iaload, 1) := by decide +kernel
theorem dX8_walks_100 : decode cX8_walks 100 = .ok (.iconst 1, 1) := by decide +kernel
theorem dX8_walks_101 : decode cX8_walks 101 = .ok (.iadd, 1) := by decide +kernel
theorem dX8_walks_102 : decode cX8_walks 102 = .ok (.iastore, 1) := by decide +kernel
theorem dX8_walks_103 : decode cX8_walks 103 = .ok (.aload_n 0, 1) := by decide +kernel
theorem dX8_walks_104 : decode cX8_walks 104 = .ok (.getfield 46, 3) := by decide +kernel
theorem dX8_walks_107 : decode cX8_walks 107 = .ok (.iload_n 1, 1) := by decide +kernel
theorem dX8_walks_108 : decode cX8_walks 108 = .ok (.bipush 37, 2) := by decide +kernel
theorem dX8_walks_110 : decode cX8_walks 110 = .ok (.iadd, 1) := by decide +kernel
theorem dX8_walks_111 : decode cX8_walks 111 = .ok (.dup2, 1) := by decide +kernel
theorem dX8_walks_112 : decode cX8_walks 112 = .ok (.iaload, 1) := by decide +kernel
theorem dX8_walks_113 : decode cX8_walks 113 = .ok (.aload_n 0, 1) := by decide +kernel
theorem dX8_walks_114 : decode cX8_walks 114 = .ok (.iload_n 3, 1) := by decide +kernel
theorem dX8_walks_115 : decode cX8_walks 115 = .ok (.iload 4, 2) := by decide +kernel
theorem dX8_walks_117 : decode cX8_walks 117 = .ok (.invokevirtual 177, 3) := by decide +kernel
theorem dX8_walks_120 : decode cX8_walks 120 = .ok (.aload_n 0, 1) := by decide +kernel
theorem dX8_walks_121 : decode cX8_walks 121 = .ok (.getfield 22, 3) := by decide +kernel
theorem dX8_walks_124 : decode cX8_walks 124 = .ok (.iload_n 2, 1) := by decide +kernel
theorem dX8_walks_125 : decode cX8_walks 125 = .ok (.iaload, 1) := by decide +kernel
theorem dX8_walks_126 : decode cX8_walks 126 = .ok (.idiv, 1) := by decide +kernel
theorem dX8_walks_127 : decode cX8_walks 127 = .ok (.iconst 1, 1) := by decide +kernel
theorem dX8_walks_128 : decode cX8_walks 128 = .ok (.iadd, 1) := by decide +kernel
theorem dX8_walks_129 : decode cX8_walks 129 = .ok (.iadd, 1) := by decide +kernel
theorem dX8_walks_130 : decode cX8_walks 130 = .ok (.iastore, 1) := by decide +kernel
theorem dX8_walks_131 : decode cX8_walks 131 = .ok (.iload 5, 2) := by decide +kernel
theorem dX8_walks_133 : decode cX8_walks 133 = .ok (.ireturn, 1) := by decide +kernel
theorem dX8_strikes_0 : decode cX8_strikes 0 = .ok (.iconst 4, 1) := by decide +kernel
theorem dX8_strikes_1 : decode cX8_strikes 1 = .ok (.iload_n 2, 1) := by decide +kernel
theorem dX8_strikes_2 : decode cX8_strikes 2 = .ok (.imul, 1) := by decide +kernel
theorem dX8_strikes_3 : decode cX8_strikes 3 = .ok (.istore_n 3, 1) := by decide +kernel
theorem dX8_strikes_4 : decode cX8_strikes 4 = .ok (.iload_n 3, 1) := by decide +kernel
theorem dX8_strikes_5 : decode cX8_strikes 5 = .ok (.bipush 32, 2) := by decide +kernel
theorem dX8_strikes_7 : decode cX8_strikes 7 = .ok (.if_icmp .ge 27, 3) := by decide +kernel
theorem dX8_strikes_10 : decode cX8_strikes 10 = .ok (.aload_n 0, 1) := by decide +kernel
theorem dX8_strikes_11 : decode cX8_strikes 11 = .ok (.getfield 46, 3) := by decide +kernel
theorem dX8_strikes_14 : decode cX8_strikes 14 = .ok (.iload_n 1, 1) := by decide +kernel
theorem dX8_strikes_15 : decode cX8_strikes 15 = .ok (.iload_n 3, 1) := by decide +kernel
theorem dX8_strikes_16 : decode cX8_strikes 16 = .ok (.iadd, 1) := by decide +kernel
theorem dX8_strikes_17 : decode cX8_strikes 17 = .ok (.aload_n 0, 1) := by decide +kernel
theorem dX8_strikes_18 : decode cX8_strikes 18 = .ok (.getfield 46, 3) := by decide +kernel
theorem dX8_strikes_21 : decode cX8_strikes 21 = .ok (.iload_n 1, 1) := by decide +kernel
theorem dX8_strikes_22 : decode cX8_strikes 22 = .ok (.iload_n 3, 1) := by decide +kernel
theorem dX8_strikes_23 : decode cX8_strikes 23 = .ok (.iadd, 1) := by decide +kernel
theorem dX8_strikes_24 : decode cX8_strikes 24 = .ok (.iconst 4, 1) := by decide +kernel
theorem dX8_strikes_25 : decode cX8_strikes 25 = .ok (.iadd, 1) := by decide +kernel
theorem dX8_strikes_26 : decode cX8_strikes 26 = .ok (.iaload, 1) := by decide +kernel
theorem dX8_strikes_27 : decode cX8_strikes 27 = .ok (.iastore, 1) := by decide +kernel
theorem dX8_strikes_28 : decode cX8_strikes 28 = .ok (.iinc 3 1, 3) := by decide +kernel
theorem dX8_strikes_31 : decode cX8_strikes 31 = .ok (.goto (-27), 3) := by decide +kernel
theorem dX8_strikes_34 : decode cX8_strikes 34 = .ok (.aload_n 0, 1) := by decide +kernel
theorem dX8_strikes_35 : decode cX8_strikes 35 = .ok (.getfield 46, 3) := by decide +kernel
theorem dX8_strikes_38 : decode cX8_strikes 38 = .ok (.iload_n 1, 1) := by decide +kernel
theorem dX8_strikes_39 : decode cX8_strikes 39 = .ok (.bipush 36, 2) := by decide +kernel
theorem dX8_strikes_41 : decode cX8_strikes 41 = .ok (.iadd, 1) := by decide +kernel
theorem dX8_strikes_42 : decode cX8_strikes 42 = .ok (.dup2, 1) := by decide +kernel
theorem dX8_strikes_43 : decode cX8_strikes 43 = .ok (.iaload, 1) := by decide +kernel
theorem dX8_strikes_44 : decode cX8_strikes 44 = .ok (.iconst 1, 1) := by decide +kernel
theorem dX8_strikes_45 : decode cX8_strikes 45 = .ok (.isub, 1) := by decide +kernel
theorem dX8_strikes_46 : decode cX8_strikes 46 = .ok (.iastore, 1) := by decide +kernel
theorem dX8_strikes_47 : decode cX8_strikes 47 = .ok (.return_, 1) := by decide +kernel
theorem dX8_walk_0 : decode cX8_walk 0 = .ok (.aload_n 0, 1) := by decide +kernel
theorem dX8_walk_1 : decode cX8_walk 1 = .ok (.iload_n 1, 1) := by decide +kernel
theorem dX8_walk_2 : decode cX8_walk 2 = .ok (.invokevirtual 183, 3) := by decide +kernel
theorem dX8_walk_5 : decode cX8_walk 5 = .ok (.ifCond .eq 12, 3) := by decide +kernel
theorem dX8_walk_8 : decode cX8_walk 8 = .ok (.aload_n 0, 1) := by decide +kernel
theorem dX8_walk_9 : decode cX8_walk 9 = .ok (.iload_n 2, 1) := by decide +kernel
theorem dX8_walk_10 : decode cX8_walk 10 = .ok (.iload_n 3, 1) := by decide +kernel
theorem dX8_walk_11 : decode cX8_walk 11 = .ok (.invokevirtual 171, 3) := by decide +kernel
theorem dX8_walk_14 : decode cX8_walk 14 = .ok (.ifCond .ne 5, 3) := by decide +kernel
theorem dX8_walk_17 : decode cX8_walk 17 = .ok (.iconst (-1), 1) := by decide +kernel
theorem dX8_walk_18 : decode cX8_walk 18 = .ok (.ireturn, 1) := by decide +kernel
theorem dX8_walk_19 : decode cX8_walk 19 = .ok (.aload_n 0, 1) := by decide +kernel
theorem dX8_walk_20 : decode cX8_walk 20 = .ok (.getfield 46, 3) := by decide +kernel
theorem dX8_walk_23 : decode cX8_walk 23 = .ok (.bipush 36, 2) := by decide +kernel
theorem dX8_walk_25 : decode cX8_walk 25 = .ok (.iaload, 1) := by decide +kernel
theorem dX8_walk_26 : decode cX8_walk 26 = .ok (.bipush 9, 2) := by decide +kernel
theorem dX8_walk_28 : decode cX8_walk 28 = .ok (.if_icmp .ne 6, 3) := by decide +kernel
theorem dX8_walk_31 : decode cX8_walk 31 = .ok (.bipush (-3), 2) := by decide +kernel
theorem dX8_walk_33 : decode cX8_walk 33 = .ok (.ireturn, 1) := by decide +kernel
theorem dX8_walk_34 : decode cX8_walk 34 = .ok (.aload_n 0, 1) := by decide +kernel
theorem dX8_walk_35 : decode cX8_walk 35 = .ok (.invokevirtual 221, 3) := by decide +kernel
theorem dX8_walk_38 : decode cX8_walk 38 = .ok (.aload_n 0, 1) := by decide +kernel
theorem dX8_walk_39 : decode cX8_walk 39 = .ok (.iconst 0, 1) := by decide +kernel
theorem dX8_walk_40 : decode cX8_walk 40 = .ok (.iload_n 1, 1) := by decide +kernel
theorem dX8_walk_41 : decode cX8_walk 41 = .ok (.iload_n 2, 1) := by decide +kernel
theorem dX8_walk_42 : decode cX8_walk 42 = .ok (.iload_n 3, 1) := by decide +kernel
theorem dX8_walk_43 : decode cX8_walk 43 = .ok (.invokevirtual 224, 3) := by decide +kernel
theorem dX8_walk_46 : decode cX8_walk 46 = .ok (.ireturn, 1) := by decide +kernel
theorem dX8_strike_0 : decode cX8_strike 0 = .ok (.aload_n 0, 1) := by decide +kernel
theorem dX8_strike_1 : decode cX8_strike 1 = .ok (.iload_n 1, 1) := by decide +kernel
theorem dX8_strike_2 : decode cX8_strike 2 = .ok (.invokevirtual 203, 3) := by decide +kernel
theorem dX8_strike_5 : decode cX8_strike 5 = .ok (.ifCond .ne 5, 3) := by decide +kernel
theorem dX8_strike_8 : decode cX8_strike 8 = .ok (.iconst (-1), 1) := by decide +kernel
theorem dX8_strike_9 : decode cX8_strike 9 = .ok (.ireturn, 1) := by decide +kernel
theorem dX8_strike_10 : decode cX8_strike 10 = .ok (.aload_n 0, 1) := by decide +kernel
theorem dX8_strike_11 : decode cX8_strike 11 = .ok (.invokevirtual 221, 3) := by decide +kernel
theorem dX8_strike_14 : decode cX8_strike 14 = .ok (.aload_n 0, 1) := by decide +kernel
theorem dX8_strike_15 : decode cX8_strike 15 = .ok (.iconst 0, 1) := by decide +kernel
theorem dX8_strike_16 : decode cX8_strike 16 = .ok (.iload_n 1, 1) := by decide +kernel
theorem dX8_strike_17 : decode cX8_strike 17 = .ok (.invokevirtual 227, 3) := by decide +kernel
theorem dX8_strike_20 : decode cX8_strike 20 = .ok (.aload_n 0, 1) := by decide +kernel
theorem dX8_strike_21 : decode cX8_strike 21 = .ok (.getfield 46, 3) := by decide +kernel
theorem dX8_strike_24 : decode cX8_strike 24 = .ok (.bipush 36, 2) := by decide +kernel
theorem dX8_strike_26 : decode cX8_strike 26 = .ok (.iaload, 1) := by decide +kernel
theorem dX8_strike_27 : decode cX8_strike 27 = .ok (.ireturn, 1) := by decide +kernel
theorem dX8_undo_0 : decode cX8_undo 0 = .ok (.aload_n 0, 1) := by decide +kernel
theorem dX8_undo_1 : decode cX8_undo 1 = .ok (.getfield 149, 3) := by decide +kernel
theorem dX8_undo_4 : decode cX8_undo 4 = .ok (.ifCond .ne 6, 3) := by decide +kernel
theorem dX8_undo_7 : decode cX8_undo 7 = .ok (.bipush (-2), 2) := by decide +kernel
theorem dX8_undo_9 : decode cX8_undo 9 = .ok (.ireturn, 1) := by decide +kernel
theorem dX8_undo_10 : decode cX8_undo 10 = .ok (.aload_n 0, 1) := by decide +kernel
theorem dX8_undo_11 : decode cX8_undo 11 = .ok (.aload_n 0, 1) := by decide +kernel
theorem dX8_undo_12 : decode cX8_undo 12 = .ok (.getfield 149, 3) := by decide +kernel
theorem dX8_undo_15 : decode cX8_undo 15 = .ok (.bipush 38, 2) := by decide +kernel
theorem dX8_undo_17 : decode cX8_undo 17 = .ok (.imul, 1) := by decide +kernel
theorem dX8_undo_18 : decode cX8_undo 18 = .ok (.iconst 0, 1) := by decide +kernel
theorem dX8_undo_19 : decode cX8_undo 19 = .ok (.invokevirtual 214, 3) := by decide +kernel
theorem dX8_undo_22 : decode cX8_undo 22 = .ok (.aload_n 0, 1) := by decide +kernel
theorem dX8_undo_23 : decode cX8_undo 23 = .ok (.dup, 1) := by decide +kernel
theorem dX8_undo_24 : decode cX8_undo 24 = .ok (.getfield 149, 3) := by decide +kernel
theorem dX8_undo_27 : decode cX8_undo 27 = .ok (.iconst 1, 1) := by decide +kernel
theorem dX8_undo_28 : decode cX8_undo 28 = .ok (.isub, 1) := by decide +kernel
theorem dX8_undo_29 : decode cX8_undo 29 = .ok (.putfield 149, 3) := by decide +kernel
theorem dX8_undo_32 : decode cX8_undo 32 = .ok (.aload_n 0, 1) := by decide +kernel
theorem dX8_undo_33 : decode cX8_undo 33 = .ok (.getfield 149, 3) := by decide +kernel
theorem dX8_undo_36 : decode cX8_undo 36 = .ok (.ireturn, 1) := by decide +kernel
theorem dX8_meanOf_0 : decode cX8_meanOf 0 = .ok (.iconst 0, 1) := by decide +kernel
theorem dX8_meanOf_1 : decode cX8_meanOf 1 = .ok (.istore_n 3, 1) := by decide +kernel
theorem dX8_meanOf_2 : decode cX8_meanOf 2 = .ok (.iconst 0, 1) := by decide +kernel
theorem dX8_meanOf_3 : decode cX8_meanOf 3 = .ok (.istore 4, 2) := by decide +kernel
theorem dX8_meanOf_5 : decode cX8_meanOf 5 = .ok (.iconst 0, 1) := by decide +kernel
theorem dX8_meanOf_6 : decode cX8_meanOf 6 = .ok (.istore 5, 2) := by decide +kernel
theorem dX8_meanOf_8 : decode cX8_meanOf 8 = .ok (.iload 5, 2) := by decide +kernel
theorem dX8_meanOf_10 : decode cX8_meanOf 10 = .ok (.aload_n 0, 1) := by decide +kernel
theorem dX8_meanOf_11 : decode cX8_meanOf 11 = .ok (.getfield 46, 3) := by decide +kernel
theorem dX8_meanOf_14 : decode cX8_meanOf 14 = .ok (.iload_n 1, 1) := by decide +kernel
theorem dX8_meanOf_15 : decode cX8_meanOf 15 = .ok (.bipush 36, 2) := by decide +kernel
theorem dX8_meanOf_17 : decode cX8_meanOf 17 = .ok (.iadd, 1) := by decide +kernel
theorem dX8_meanOf_18 : decode cX8_meanOf 18 = .ok (.iaload, 1) := by decide +kernel
theorem dX8_meanOf_19 : decode cX8_meanOf 19 = .ok (.if_icmp .ge 61, 3) := by decide +kernel
theorem dX8_meanOf_22 : decode cX8_meanOf 22 = .ok (.iload_n 2, 1) := by decide +kernel
theorem dX8_meanOf_23 : decode cX8_meanOf 23 = .ok (.iload 5, 2) := by decide +kernel
theorem dX8_meanOf_25 : decode cX8_meanOf 25 = .ok (.invokestatic 230, 3) := by decide +kernel
theorem dX8_meanOf_28 : decode cX8_meanOf 28 = .ok (.ifCond .eq 13, 3) := by decide +kernel
theorem dX8_meanOf_31 : decode cX8_meanOf 31 = .ok (.aload_n 0, 1) := by decide +kernel
theorem dX8_meanOf_32 : decode cX8_meanOf 32 = .ok (.iload_n 1, 1) := by decide +kernel
theorem dX8_meanOf_33 : decode cX8_meanOf 33 = .ok (.iload 5, 2) := by decide +kernel
theorem dX8_meanOf_35 : decode cX8_meanOf 35 = .ok (.invokevirtual 208, 3) := by decide +kernel
theorem dX8_meanOf_38 : decode cX8_meanOf 38 = .ok (.goto 5, 3) := by decide +kernel
theorem dX8_meanOf_41 : decode cX8_meanOf 41 = .ok (.bipush (-4), 2) := by decide +kernel
theorem dX8_meanOf_43 : decode cX8_meanOf 43 = .ok (.istore 6, 2) := by decide +kernel
theorem dX8_meanOf_45 : decode cX8_meanOf 45 = .ok (.iload_n 3, 1) := by decide +kernel
theorem dX8_meanOf_46 : decode cX8_meanOf 46 = .ok (.iload 6, 2) := by decide +kernel
theorem dX8_meanOf_48 : decode cX8_meanOf 48 = .ok (.ifCond .ge 7, 3) := by decide +kernel
theorem dX8_meanOf_51 : decode cX8_meanOf 51 = .ok (.iconst 0, 1) := by decide +kernel
theorem dX8_meanOf_52 : decode cX8_meanOf 52 = .ok (.goto 4, 3) := by decide +kernel
theorem dX8_meanOf_55 : decode cX8_meanOf 55 = .ok (.iconst 1, 1) := by decide +kernel
theorem dX8_meanOf_56 : decode cX8_meanOf 56 = .ok (.iadd, 1) := by decide +kernel
theorem dX8_meanOf_57 : decode cX8_meanOf 57 = .ok (.istore_n 3, 1) := by decide +kernel
theorem dX8_meanOf_58 : decode cX8_meanOf 58 = .ok (.iload 4, 2) := by decide +kernel
theorem dX8_meanOf_60 : decode cX8_meanOf 60 = .ok (.iload 6, 2) := by decide +kernel
theorem dX8_meanOf_62 : decode cX8_meanOf 62 = .ok (.ifCond .ge 7, 3) := by decide +kernel
theorem dX8_meanOf_65 : decode cX8_meanOf 65 = .ok (.iconst 0, 1) := by decide +kernel
theorem dX8_meanOf_66 : decode cX8_meanOf 66 = .ok (.goto 5, 3) := by decide +kernel
theorem dX8_meanOf_69 : decode cX8_meanOf 69 = .ok (.iload 6, 2) := by decide +kernel
theorem dX8_meanOf_71 : decode cX8_meanOf 71 = .ok (.iadd, 1) := by decide +kernel
theorem dX8_meanOf_72 : decode cX8_meanOf 72 = .ok (.istore 4, 2) := by decide +kernel
theorem dX8_meanOf_74 : decode cX8_meanOf 74 = .ok (.iinc 5 1, 3) := by decide +kernel
theorem dX8_meanOf_77 : decode cX8_meanOf 77 = .ok (.goto (-69), 3) := by decide +kernel
theorem dX8_meanOf_80 : decode cX8_meanOf 80 = .ok (.iload_n 3, 1) := by decide +kernel
theorem dX8_meanOf_81 : decode cX8_meanOf 81 = .ok (.ifCond .ne 8, 3) := by decide +kernel
theorem dX8_meanOf_84 : decode cX8_meanOf 84 = .ok (.bipush (-4), 2) := by decide +kernel
theorem dX8_meanOf_86 : decode cX8_meanOf 86 = .ok (.goto 7, 3) := by decide +kernel
theorem dX8_meanOf_89 : decode cX8_meanOf 89 = .ok (.iload 4, 2) := by decide +kernel
theorem dX8_meanOf_91 : decode cX8_meanOf 91 = .ok (.iload_n 3, 1) := by decide +kernel
theorem dX8_meanOf_92 : decode cX8_meanOf 92 = .ok (.idiv, 1) := by decide +kernel
theorem dX8_meanOf_93 : decode cX8_meanOf 93 = .ok (.ireturn, 1) := by decide +kernel
theorem dX8_mean_0 : decode cX8_mean 0 = .ok (.aload_n 0, 1) := by decide +kernel
theorem dX8_mean_1 : decode cX8_mean 1 = .ok (.iconst 0, 1) := by decide +kernel
theorem dX8_mean_2 : decode cX8_mean 2 = .ok (.sipush 511, 3) := by decide +kernel
theorem dX8_mean_5 : decode cX8_mean 5 = .ok (.invokevirtual 233, 3) := by decide +kernel
theorem dX8_mean_8 : decode cX8_mean 8 = .ok (.ireturn, 1) := by decide +kernel
theorem dX8_all_0 : decode cX8_all 0 = .ok (.iload_n 1, 1) := by decide +kernel
theorem dX8_all_1 : decode cX8_all 1 = .ok (.i2l, 1) := by decide +kernel
theorem dX8_all_2 : decode cX8_all 2 = .ok (.lconst 0, 1) := by decide +kernel
theorem dX8_all_3 : decode cX8_all 3 = .ok (.ldc2_w 175, 3) := by decide +kernel
theorem dX8_all_6 : decode cX8_all 6 = .ok (.invokestatic 101, 3) := by decide +kernel
theorem dX8_all_9 : decode cX8_all 9 = .ok (.ifCond .ne 5, 3) := by decide +kernel
theorem dX8_all_12 : decode cX8_all 12 = .ok (.iconst (-1), 1) := by decide +kernel
theorem dX8_all_13 : decode cX8_all 13 = .ok (.ireturn, 1) := by decide +kernel
theorem dX8_all_14 : decode cX8_all 14 = .ok (.iconst (-1), 1) := by decide +kernel
theorem dX8_all_15 : decode cX8_all 15 = .ok (.istore_n 2, 1) := by decide +kernel
theorem dX8_all_16 : decode cX8_all 16 = .ok (.ldc 236, 2) := by decide +kernel
theorem dX8_all_18 : decode cX8_all 18 = .ok (.istore_n 3, 1) := by decide +kernel
theorem dX8_all_19 : decode cX8_all 19 = .ok (.iconst 0, 1) := by decide +kernel
theorem dX8_all_20 : decode cX8_all 20 = .ok (.istore 4, 2) := by decide +kernel
theorem dX8_all_22 : decode cX8_all 22 = .ok (.iconst 0, 1) := by decide +kernel
theorem dX8_all_23 : decode cX8_all 23 = .ok (.istore 5, 2) := by decide +kernel
theorem dX8_all_25 : decode cX8_all 25 = .ok (.iload 5, 2) := by decide +kernel
theorem dX8_all_27 : decode cX8_all 27 = .ok (.aload_n 0, 1) := by decide +kernel
theorem dX8_all_28 : decode cX8_all 28 = .ok (.getfield 46, 3) := by decide +kernel
theorem dX8_all_31 : decode cX8_all 31 = .ok (.bipush 36, 2) := by decide +kernel
theorem dX8_all_33 : decode cX8_all 33 = .ok (.iaload, 1) := by decide +kernel
theorem dX8_all_34 : decode cX8_all 34 = .ok (.if_icmp .ge 48, 3) := by decide +kernel
theorem dX8_all_37 : decode cX8_all 37 = .ok (.aload_n 0, 1) := by decide +kernel
theorem dX8_all_38 : decode cX8_all 38 = .ok (.iconst 0, 1) := by decide +kernel
theorem dX8_all_39 : decode cX8_all 39 = .ok (.iload 5, 2) := by decide +kernel
theorem dX8_all_41 : decode cX8_all 41 = .ok (.bipush (-2), 2) := by decide +kernel
theorem dX8_all_43 : decode cX8_all 43 = .ok (.invokevirtual 211, 3) := by decide +kernel
theorem dX8_all_46 : decode cX8_all 46 = .ok (.istore 6, 2) := by decide +kernel
theorem dX8_all_48 : decode cX8_all 48 = .ok (.iload 6, 2) := by decide +kernel
theorem dX8_all_50 : decode cX8_all 50 = .ok (.ifCond .lt 26, 3) := by decide +kernel
theorem dX8_all_53 : decode cX8_all 53 = .ok (.iconst 1, 1) := by decide +kernel
theorem dX8_all_54 : decode cX8_all 54 = .ok (.istore 4, 2) := by decide +kernel
theorem dX8_all_56 : decode cX8_all 56 = .ok (.iload_n 2, 1) := by decide +kernel
theorem dX8_all_57 : decode cX8_all 57 = .ok (.aload_n 0, 1) := by decide +kernel
theorem dX8_all_58 : decode cX8_all 58 = .ok (.iconst 0, 1) := by decide +kernel
theorem dX8_all_59 : decode cX8_all 59 = .ok (.iload 5, 2) := by decide +kernel
theorem dX8_all_61 : decode cX8_all 61 = .ok (.iconst 2, 1) := by decide +kernel
theorem dX8_all_62 : decode cX8_all 62 = .ok (.invokevirtual 211, 3) := by decide +kernel
theorem dX8_all_65 : decode cX8_all 65 = .ok (.invokestatic 158, 3) := by decide +kernel
theorem dX8_all_68 : decode cX8_all 68 = .ok (.istore_n 2, 1) := by decide +kernel
theorem dX8_all_69 : decode cX8_all 69 = .ok (.iload_n 3, 1) := by decide +kernel
theorem dX8_all_70 : decode cX8_all 70 = .ok (.iload 6, 2) := by decide +kernel
theorem dX8_all_72 : decode cX8_all 72 = .ok (.invokestatic 237, 3) := by decide +kernel
theorem dX8_all_75 : decode cX8_all 75 = .ok (.istore_n 3, 1) := by decide +kernel
theorem dX8_all_76 : decode cX8_all 76 = .ok (.iinc 5 1, 3) := by decide +kernel
theorem dX8_all_79 : decode cX8_all 79 = .ok (.goto (-54), 3) := by decide +kernel
theorem dX8_all_82 : decode cX8_all 82 = .ok (.iload 4, 2) := by decide +kernel
theorem dX8_all_84 : decode cX8_all 84 = .ok (.ifCond .ne 8, 3) := by decide +kernel
theorem dX8_all_87 : decode cX8_all 87 = .ok (.bipush (-4), 2) := by decide +kernel
theorem dX8_all_89 : decode cX8_all 89 = .ok (.goto 30, 3) := by decide +kernel
theorem dX8_all_92 : decode cX8_all 92 = .ok (.iload_n 1, 1) := by decide +kernel
theorem dX8_all_93 : decode cX8_all 93 = .ok (.ifCond .ne 7, 3) := by decide +kernel
theorem dX8_all_96 : decode cX8_all 96 = .ok (.iload_n 2, 1) := by decide +kernel
theorem dX8_all_97 : decode cX8_all 97 = .ok (.goto 22, 3) := by decide +kernel
theorem dX8_all_100 : decode cX8_all 100 = .ok (.iload_n 1, 1) := by decide +kernel
theorem dX8_all_101 : decode cX8_all 101 = .ok (.iconst 1, 1) := by decide +kernel
theorem dX8_all_102 : decode cX8_all 102 = .ok (.if_icmp .ne 7, 3) := by decide +kernel
theorem dX8_all_105 : decode cX8_all 105 = .ok (.iload_n 3, 1) := by decide +kernel
theorem dX8_all_106 : decode cX8_all 106 = .ok (.goto 13, 3) := by decide +kernel
theorem dX8_all_109 : decode cX8_all 109 = .ok (.iload_n 2, 1) := by decide +kernel
theorem dX8_all_110 : decode cX8_all 110 = .ok (.iload_n 3, 1) := by decide +kernel
theorem dX8_all_111 : decode cX8_all 111 = .ok (.if_icmp .le 7, 3) := by decide +kernel
theorem dX8_all_114 : decode cX8_all 114 = .ok (.iconst 1, 1) := by decide +kernel
theorem dX8_all_115 : decode cX8_all 115 = .ok (.goto 4, 3) := by decide +kernel
theorem dX8_all_118 : decode cX8_all 118 = .ok (.iconst 0, 1) := by decide +kernel
theorem dX8_all_119 : decode cX8_all 119 = .ok (.ireturn, 1) := by decide +kernel
theorem dX8_next_0 : decode cX8_next 0 = .ok (.aload_n 0, 1) := by decide +kernel
theorem dX8_next_1 : decode cX8_next 1 = .ok (.iload_n 1, 1) := by decide +kernel
theorem dX8_next_2 : decode cX8_next 2 = .ok (.invokevirtual 183, 3) := by decide +kernel
theorem dX8_next_5 : decode cX8_next 5 = .ok (.ifCond .eq 13, 3) := by decide +kernel
theorem dX8_next_8 : decode cX8_next 8 = .ok (.iload_n 2, 1) := by decide +kernel
theorem dX8_next_9 : decode cX8_next 9 = .ok (.i2l, 1) := by decide +kernel
theorem dX8_next_10 : decode cX8_next 10 = .ok (.lconst 0, 1) := by decide +kernel
theorem dX8_next_11 : decode cX8_next 11 = .ok (.lconst 1, 1) := by decide +kernel
theorem dX8_next_12 : decode cX8_next 12 = .ok (.invokestatic 101, 3) := by decide +kernel
theorem dX8_next_15 : decode cX8_next 15 = .ok (.ifCond .ne 5, 3) := by decide +kernel
theorem dX8_next_18 : decode cX8_next 18 = .ok (.iconst (-1), 1) := by decide +kernel
theorem dX8_next_19 : decode cX8_next 19 = .ok (.ireturn, 1) := by decide +kernel
theorem dX8_next_20 : decode cX8_next 20 = .ok (.bipush (-4), 2) := by decide +kernel
theorem dX8_next_22 : decode cX8_next 22 = .ok (.istore_n 3, 1) := by decide +kernel
theorem dX8_next_23 : decode cX8_next 23 = .ok (.bipush (-4), 2) := by decide +kernel
theorem dX8_next_25 : decode cX8_next 25 = .ok (.istore 4, 2) := by decide +kernel
theorem dX8_next_27 : decode cX8_next 27 = .ok (.iconst 0, 1) := by decide +kernel
theorem dX8_next_28 : decode cX8_next 28 = .ok (.istore 5, 2) := by decide +kernel
theorem dX8_next_30 : decode cX8_next 30 = .ok (.iload 5, 2) := by decide +kernel
theorem dX8_next_32 : decode cX8_next 32 = .ok (.aload_n 0, 1) := by decide +kernel
theorem dX8_next_33 : decode cX8_next 33 = .ok (.getfield 95, 3) := by decide +kernel
theorem dX8_next_36 : decode cX8_next 36 = .ok (.if_icmp .ge 165, 3) := by decide +kernel
theorem dX8_next_39 : decode cX8_next 39 = .ok (.iload 5, 2) := by decide +kernel
theorem dX8_next_41 : decode cX8_next 41 = .ok (.iconst 1, 1) := by decide +kernel
theorem dX8_next_42 : decode cX8_next 42 = .ok (.iadd, 1) := by decide +kernel
theorem dX8_next_43 : decode cX8_next 43 = .ok (.istore 6, 2) := by decide +kernel
theorem dX8_next_45 : decode cX8_next 45 = .ok (.iload 6, 2) := by decide +kernel
theorem dX8_next_47 : decode cX8_next 47 = .ok (.aload_n 0, 1) := by decide +kernel
theorem dX8_next_48 : decode cX8_next 48 = .ok (.getfield 95, 3) := by decide +kernel
theorem dX8_next_51 : decode cX8_next 51 = .ok (.if_icmp .ge 144, 3) := by decide +kernel
theorem dX8_next_54 : decode cX8_next 54 = .ok (.aload_n 0, 1) := by decide +kernel
theorem dX8_next_55 : decode cX8_next 55 = .ok (.iconst 0, 1) := by decide +kernel
theorem dX8_next_56 : decode cX8_next 56 = .ok (.iload_n 1, 1) := by decide +kernel
theorem dX8_next_57 : decode cX8_next 57 = .ok (.iload 5, 2) := by decide +kernel
theorem dX8_next_59 : decode cX8_next 59 = .ok (.iload 6, 2) := by decide +kernel
theorem dX8_next_61 : decode cX8_next 61 = .ok (.aload_n 0, 1) := by decide +kernel
theorem dX8_next_62 : decode cX8_next 62 = .ok (.getfield 19, 3) := by decide +kernel
theorem dX8_next_65 : decode cX8_next 65 = .ok (.iload_n 1, 1) := by decide +kernel
theorem dX8_next_66 : decode cX8_next 66 = .ok (.iaload, 1) := by decide +kernel
theorem dX8_next_67 : decode cX8_next 67 = .ok (.aload_n 0, 1) := by decide +kernel
theorem dX8_next_68 : decode cX8_next 68 = .ok (.getfield 25, 3) := by decide +kernel
theorem dX8_next_71 : decode cX8_next 71 = .ok (.iload_n 1, 1) := by decide +kernel
theorem dX8_next_72 : decode cX8_next 72 = .ok (.iaload, 1) := by decide +kernel
theorem dX8_next_73 : decode cX8_next 73 = .ok (.invokevirtual 217, 3) := by decide +kernel
theorem dX8_next_76 : decode cX8_next 76 = .ok (.istore 7, 2) := by decide +kernel
theorem dX8_next_78 : decode cX8_next 78 = .ok (.aload_n 0, 1) := by decide +kernel
theorem dX8_next_79 : decode cX8_next 79 = .ok (.iload 5, 2) := by decide +kernel
theorem dX8_next_81 : decode cX8_next 81 = .ok (.iload 6, 2) := by decide +kernel
theorem dX8_next_83 : decode cX8_next 83 = .ok (.invokevirtual 180, 3) := by decide +kernel
theorem dX8_next_86 : decode cX8_next 86 = .ok (.istore 8, 2) := by decide +kernel
theorem dX8_next_88 : decode cX8_next 88 = .ok (.iload 8, 2) := by decide +kernel
theorem dX8_next_90 : decode cX8_next 90 = .ok (.iconst 2, 1) := by decide +kernel
theorem dX8_next_91 : decode cX8_next 91 = .ok (.if_icmp .le 39, 3) := by decide +kernel
theorem dX8_next_94 : decode cX8_next 94 = .ok (.aload_n 0, 1) := by decide +kernel
theorem dX8_next_95 : decode cX8_next 95 = .ok (.iload 7, 2) := by decide +kernel
theorem dX8_next_97 : decode cX8_next 97 = .ok (.aload_n 0, 1) := by decide +kernel
theorem dX8_next_98 : decode cX8_next 98 = .ok (.getfield 25, 3) := by decide +kernel
theorem dX8_next_101 : decode cX8_next 101 = .ok (.iload_n 1, 1) := by decide +kernel
theorem dX8_next_102 : decode cX8_next 102 = .ok (.iaload, 1) := by decide +kernel
theorem dX8_next_103 : decode cX8_next 103 = .ok (.iload 8, 2) := by decide +kernel
theorem dX8_next_105 : decode cX8_next 105 = .ok (.iconst 2, 1) := by decide +kernel
theorem dX8_next_106 : decode cX8_next 106 = .ok (.isub, 1) := by decide +kernel
theorem dX8_next_107 : decode cX8_next 107 = .ok (.invokevirtual 200, 3) := by decide +kernel
theorem dX8_next_110 : decode cX8_next 110 = .ok (.aload_n 0, 1) := by decide +kernel
theorem dX8_next_111 : decode cX8_next 111 = .ok (.iload 7, 2) := by decide +kernel
theorem dX8_next_113 : decode cX8_next 113 = .ok (.aload_n 0, 1) := by decide +kernel
theorem dX8_next_114 : decode cX8_next 114 = .ok (.getfield 25, 3) := by decide +kernel
theorem dX8_next_117 : decode cX8_next 117 = .ok (.iload_n 1, 1) := by decide +kernel
theorem dX8_next_118 : decode cX8_next 118 = .ok (.iaload, 1) := by decide +kernel
theorem dX8_next_119 : decode cX8_next 119 = .ok (.iload 8, 2) := by decide +kernel
theorem dX8_next_121 : decode cX8_next 121 = .ok (.iconst 2, 1) := by decide +kernel
theorem dX8_next_122 : decode cX8_next 122 = .ok (.iadd, 1) := by decide +kernel
theorem dX8_next_123 : decode cX8_next 123 = .ok (.invokevirtual 200, 3) := by decide +kernel
theorem dX8_next_126 : decode cX8_next 126 = .ok (.isub, 1) := by decide +kernel
theorem dX8_next_127 : decode cX8_next 127 = .ok (.goto 5, 3) := by decide +kernel
theorem dX8_next_130 : decode cX8_next 130 = .ok (.bipush (-4), 2) := by decide +kernel
theorem dX8_next_132 : decode cX8_next 132 = .ok (.istore 9, 2) := by decide +kernel
theorem dX8_next_134 : decode cX8_next 134 = .ok (.iload 9, 2) := by decide +kernel
theorem dX8_next_136 : decode cX8_next 136 = .ok (.ifCond .lt 18, 3) := by decide +kernel
theorem dX8_next_139 : decode cX8_next 139 = .ok (.iload_n 3, 1) := by decide +kernel
theorem dX8_next_140 : decode cX8_next 140 = .ok (.ifCond .lt 10, 3) := by decide +kernel
theorem dX8_next_143 : decode cX8_next 143 = .ok (.iload 9, 2) := by decide +kernel
theorem dX8_next_145 : decode cX8_next 145 = .ok (.iload 4, 2) := by decide +kernel
theorem dX8_next_147 : decode cX8_next 147 = .ok (.if_icmp .ge 7, 3) := by decide +kernel
theorem dX8_next_150 : decode cX8_next 150 = .ok (.iconst 1, 1) := by decide +kernel
theorem dX8_next_151 : decode cX8_next 151 = .ok (.goto 4, 3) := by decide +kernel
theorem dX8_next_154 : decode cX8_next 154 = .ok (.iconst 0, 1) := by decide +kernel
theorem dX8_next_155 : decode cX8_next 155 = .ok (.istore 10, 2) := by decide +kernel
theorem dX8_next_157 : decode cX8_next 157 = .ok (.iload 10, 2) := by decide +kernel
theorem dX8_next_159 : decode cX8_next 159 = .ok (.ifCond .eq 14, 3) := by decide +kernel
theorem dX8_next_162 : decode cX8_next 162 = .ok (.bipush 10, 2) := by decide +kernel
theorem dX8_next_164 : decode cX8_next 164 = .ok (.iload 5, 2) := by decide +kernel
theorem dX8_next_166 : decode cX8_next 166 = .ok (.imul, 1) := by decide +kernel
theorem dX8_next_167 : decode cX8_next 167 = .ok (.iload 6, 2) := by decide +kernel
theorem dX8_next_169 : decode cX8_next 169 = .ok (.iadd, 1) := by decide +kernel
theorem dX8_next_170 : decode cX8_next 170 = .ok (.goto 4, 3) := by decide +kernel
theorem dX8_next_173 : decode cX8_next 173 = .ok (.iload_n 3, 1) := by decide +kernel
theorem dX8_next_174 : decode cX8_next 174 = .ok (.istore_n 3, 1) := by decide +kernel
theorem dX8_next_175 : decode cX8_next 175 = .ok (.iload 10, 2) := by decide +kernel
theorem dX8_next_177 : decode cX8_next 177 = .ok (.ifCond .eq 8, 3) := by decide +kernel
theorem dX8_next_180 : decode cX8_next 180 = .ok (.iload 9, 2) := by decide +kernel
theorem dX8_next_182 : decode cX8_next 182 = .ok (.goto 5, 3) := by decide +kernel
theorem dX8_next_185 : decode cX8_next 185 = .ok (.iload 4, 2) := by decide +kernel
theorem dX8_next_187 : decode cX8_next 187 = .ok (.istore 4, 2) := by decide +kernel
theorem dX8_next_189 : decode cX8_next 189 = .ok (.iinc 6 1, 3) := by decide +kernel
theorem dX8_next_192 : decode cX8_next 192 = .ok (.goto (-147), 3) := by decide +kernel
theorem dX8_next_195 : decode cX8_next 195 = .ok (.iinc 5 1, 3) := by decide +kernel
theorem dX8_next_198 : decode cX8_next 198 = .ok (.goto (-168), 3) := by decide +kernel
theorem dX8_next_201 : decode cX8_next 201 = .ok (.iload_n 2, 1) := by decide +kernel
theorem dX8_next_202 : decode cX8_next 202 = .ok (.ifCond .ne 7, 3) := by decide +kernel
theorem dX8_next_205 : decode cX8_next 205 = .ok (.iload_n 3, 1) := by decide +kernel
theorem dX8_next_206 : decode cX8_next 206 = .ok (.goto 5, 3) := by decide +kernel
theorem dX8_next_209 : decode cX8_next 209 = .ok (.iload 4, 2) := by decide +kernel
theorem dX8_next_211 : decode cX8_next 211 = .ok (.ireturn, 1) := by decide +kernel
theorem dX8_bits_0 : decode cX8_bits 0 = .ok (.iconst 0, 1) := by decide +kernel
theorem dX8_bits_1 : decode cX8_bits 1 = .ok (.istore_n 1, 1) := by decide +kernel
theorem dX8_bits_2 : decode cX8_bits 2 = .ok (.iconst 0, 1) := by decide +kernel
theorem dX8_bits_3 : decode cX8_bits 3 = .ok (.istore_n 2, 1) := by decide +kernel
theorem dX8_bits_4 : decode cX8_bits 4 = .ok (.iload_n 2, 1) := by decide +kernel
theorem dX8_bits_5 : decode cX8_bits 5 = .ok (.bipush 9, 2) := by decide +kernel
theorem dX8_bits_7 : decode cX8_bits 7 = .ok (.if_icmp .ge 17, 3) := by decide +kernel
theorem dX8_bits_10 : decode cX8_bits 10 = .ok (.iload_n 1, 1) := by decide +kernel
theorem dX8_bits_11 : decode cX8_bits 11 = .ok (.iload_n 0, 1) := by decide +kernel
theorem dX8_bits_12 : decode cX8_bits 12 = .ok (.iload_n 2, 1) := by decide +kernel
theorem dX8_bits_13 : decode cX8_bits 13 = .ok (.ishr, 1) := by decide +kernel
theorem dX8_bits_14 : decode cX8_bits 14 = .ok (.iconst 1, 1) := by decide +kernel
theorem dX8_bits_15 : decode cX8_bits 15 = .ok (.iand, 1) := by decide +kernel
theorem dX8_bits_16 : decode cX8_bits 16 = .ok (.iadd, 1) := by decide +kernel
theorem dX8_bits_17 : decode cX8_bits 17 = .ok (.istore_n 1, 1) := by decide +kernel
theorem dX8_bits_18 : decode cX8_bits 18 = .ok (.iinc 2 1, 3) := by decide +kernel
theorem dX8_bits_21 : decode cX8_bits 21 = .ok (.goto (-17), 3) := by decide +kernel
theorem dX8_bits_24 : decode cX8_bits 24 = .ok (.iload_n 1, 1) := by decide +kernel
theorem dX8_bits_25 : decode cX8_bits 25 = .ok (.ireturn, 1) := by decide +kernel
theorem dX8_isNear_0 : decode cX8_isNear 0 = .ok (.iload_n 1, 1) := by decide +kernel
theorem dX8_isNear_1 : decode cX8_isNear 1 = .ok (.ifCond .lt 34, 3) := by decide +kernel
theorem dX8_isNear_4 : decode cX8_isNear 4 = .ok (.iload_n 1, 1) := by decide +kernel
theorem dX8_isNear_5 : decode cX8_isNear 5 = .ok (.aload_n 0, 1) := by decide +kernel
theorem dX8_isNear_6 : decode cX8_isNear 6 = .ok (.getfield 92, 3) := by decide +kernel
theorem dX8_isNear_9 : decode cX8_isNear 9 = .ok (.invokestatic 161, 3) := by decide +kernel
theorem dX8_isNear_12 : decode cX8_isNear 12 = .ok (.i2l, 1) := by decide +kernel
theorem dX8_isNear_13 : decode cX8_isNear 13 = .ok (.ldc2_w 240, 3) := by decide +kernel
theorem dX8_isNear_16 : decode cX8_isNear 16 = .ok (.lmul, 1) := by decide +kernel
theorem dX8_isNear_17 : decode cX8_isNear 17 = .ok (.lconst 1, 1) := by decide +kernel
theorem dX8_isNear_18 : decode cX8_isNear 18 = .ok (.iload_n 2, 1) := by decide +kernel
theorem dX8_isNear_19 : decode cX8_isNear 19 = .ok (.i2l, 1) := by decide +kernel
theorem dX8_isNear_20 : decode cX8_isNear 20 = .ok (.lmul, 1) := by decide +kernel
theorem dX8_isNear_21 : decode cX8_isNear 21 = .ok (.aload_n 0, 1) := by decide +kernel
theorem dX8_isNear_22 : decode cX8_isNear 22 = .ok (.getfield 92, 3) := by decide +kernel
theorem dX8_isNear_25 : decode cX8_isNear 25 = .ok (.i2l, 1) := by decide +kernel
theorem dX8_isNear_26 : decode cX8_isNear 26 = .ok (.lmul, 1) := by decide +kernel
theorem dX8_isNear_27 : decode cX8_isNear 27 = .ok (.lcmp, 1) := by decide +kernel
theorem dX8_isNear_28 : decode cX8_isNear 28 = .ok (.ifCond .gt 7, 3) := by decide +kernel
theorem dX8_isNear_31 : decode cX8_isNear 31 = .ok (.iconst 1, 1) := by decide +kernel
theorem dX8_isNear_32 : decode cX8_isNear 32 = .ok (.goto 4, 3) := by decide +kernel
theorem dX8_isNear_35 : decode cX8_isNear 35 = .ok (.iconst 0, 1) := by decide +kernel
theorem dX8_isNear_36 : decode cX8_isNear 36 = .ok (.ireturn, 1) := by decide +kernel
theorem dX8_fewest_0 : decode cX8_fewest 0 = .ok (.iload_n 1, 1) := by decide +kernel
theorem dX8_fewest_1 : decode cX8_fewest 1 = .ok (.i2l, 1) := by decide +kernel
theorem dX8_fewest_2 : decode cX8_fewest 2 = .ok (.lconst 0, 1) := by decide +kernel
theorem dX8_fewest_3 : decode cX8_fewest 3 = .ok (.ldc2_w 242, 3) := by decide +kernel
theorem dX8_fewest_6 : decode cX8_fewest 6 = .ok (.invokestatic 101, 3) := by decide +kernel
theorem dX8_fewest_9 : decode cX8_fewest 9 = .ok (.ifCond .eq 13, 3) := by decide +kernel
theorem dX8_fewest_12 : decode cX8_fewest 12 = .ok (.iload_n 2, 1) := by decide +kernel
theorem dX8_fewest_13 : decode cX8_fewest 13 = .ok (.i2l, 1) := by decide +kernel
theorem dX8_fewest_14 : decode cX8_fewest 14 = .ok (.lconst 0, 1) := by decide +kernel
theorem dX8_fewest_15 : decode cX8_fewest 15 = .ok (.lconst 1, 1) := by decide +kernel
theorem dX8_fewest_16 : decode cX8_fewest 16 = .ok (.invokestatic 101, 3) := by decide +kernel
theorem dX8_fewest_19 : decode cX8_fewest 19 = .ok (.ifCond .ne 5, 3) := by decide +kernel
theorem dX8_fewest_22 : decode cX8_fewest 22 = .ok (.iconst (-1), 1) := by decide +kernel
theorem dX8_fewest_23 : decode cX8_fewest 23 = .ok (.ireturn, 1) := by decide +kernel
theorem dX8_fewest_24 : decode cX8_fewest 24 = .ok (.iconst 0, 1) := by decide +kernel
theorem dX8_fewest_25 : decode cX8_fewest 25 = .ok (.istore_n 3, 1) := by decide +kernel
theorem dX8_fewest_26 : decode cX8_fewest 26 = .ok (.iconst 1, 1) := by decide +kernel
theorem dX8_fewest_27 : decode cX8_fewest 27 = .ok (.istore 4, 2) := by decide +kernel
theorem dX8_fewest_29 : decode cX8_fewest 29 = .ok (.iload 4, 2) := by decide +kernel
theorem dX8_fewest_31 : decode cX8_fewest 31 = .ok (.iconst 1, 1) := by decide +kernel
theorem dX8_fewest_32 : decode cX8_fewest 32 = .ok (.aload_n 0, 1) := by decide +kernel
theorem dX8_fewest_33 : decode cX8_fewest 33 = .ok (.getfield 46, 3) := by decide +kernel
theorem dX8_fewest_36 : decode cX8_fewest 36 = .ok (.bipush 36, 2) := by decide +kernel
theorem dX8_fewest_38 : decode cX8_fewest 38 = .ok (.iaload, 1) := by decide +kernel
theorem dX8_fewest_39 : decode cX8_fewest 39 = .ok (.ishl, 1) := by decide +kernel
theorem dX8_fewest_40 : decode cX8_fewest 40 = .ok (.if_icmp .ge 68, 3) := by decide +kernel
theorem dX8_fewest_43 : decode cX8_fewest 43 = .ok (.iload 4, 2) := by decide +kernel
theorem dX8_fewest_45 : decode cX8_fewest 45 = .ok (.invokestatic 244, 3) := by decide +kernel
theorem dX8_fewest_48 : decode cX8_fewest 48 = .ok (.iconst 5, 1) := by decide +kernel
theorem dX8_fewest_49 : decode cX8_fewest 49 = .ok (.if_icmp .ge 38, 3) := by decide +kernel
theorem dX8_fewest_52 : decode cX8_fewest 52 = .ok (.iload_n 3, 1) := by decide +kernel
theorem dX8_fewest_53 : decode cX8_fewest 53 = .ok (.ifCond .eq 15, 3) := by decide +kernel
theorem dX8_fewest_56 : decode cX8_fewest 56 = .ok (.iload 4, 2) := by decide +kernel
theorem dX8_fewest_58 : decode cX8_fewest 58 = .ok (.invokestatic 244, 3) := by decide +kernel
theorem dX8_fewest_61 : decode cX8_fewest 61 = .ok (.iload_n 3, 1) := by decide +kernel
theorem dX8_fewest_62 : decode cX8_fewest 62 = .ok (.invokestatic 244, 3) := by decide +kernel
theorem dX8_fewest_65 : decode cX8_fewest 65 = .ok (.if_icmp .ge 22, 3) := by decide +kernel
theorem dX8_fewest_68 : decode cX8_fewest 68 = .ok (.aload_n 0, 1) := by decide +kernel
theorem dX8_fewest_69 : decode cX8_fewest 69 = .ok (.aload_n 0, 1) := by decide +kernel
theorem dX8_fewest_70 : decode cX8_fewest 70 = .ok (.iconst 0, 1) := by decide +kernel
theorem dX8_fewest_71 : decode cX8_fewest 71 = .ok (.iload 4, 2) := by decide +kernel
theorem dX8_fewest_73 : decode cX8_fewest 73 = .ok (.invokevirtual 233, 3) := by decide +kernel
theorem dX8_fewest_76 : decode cX8_fewest 76 = .ok (.iload_n 1, 1) := by decide +kernel
theorem dX8_fewest_77 : decode cX8_fewest 77 = .ok (.invokevirtual 247, 3) := by decide +kernel
theorem dX8_fewest_80 : decode cX8_fewest 80 = .ok (.ifCond .eq 7, 3) := by decide +kernel
theorem dX8_fewest_83 : decode cX8_fewest 83 = .ok (.iconst 1, 1) := by decide +kernel
theorem dX8_fewest_84 : decode cX8_fewest 84 = .ok (.goto 4, 3) := by decide +kernel
theorem dX8_fewest_87 : decode cX8_fewest 87 = .ok (.iconst 0, 1) := by decide +kernel
theorem dX8_fewest_88 : decode cX8_fewest 88 = .ok (.istore 5, 2) := by decide +kernel
theorem dX8_fewest_90 : decode cX8_fewest 90 = .ok (.iload 5, 2) := by decide +kernel
theorem dX8_fewest_92 : decode cX8_fewest 92 = .ok (.ifCond .eq 8, 3) := by decide +kernel
theorem dX8_fewest_95 : decode cX8_fewest 95 = .ok (.iload 4, 2) := by decide +kernel
theorem dX8_fewest_97 : decode cX8_fewest 97 = .ok (.goto 4, 3) := by decide +kernel
theorem dX8_fewest_100 : decode cX8_fewest 100 = .ok (.iload_n 3, 1) := by decide +kernel
theorem dX8_fewest_101 : decode cX8_fewest 101 = .ok (.istore_n 3, 1) := by decide +kernel
theorem dX8_fewest_102 : decode cX8_fewest 102 = .ok (.iinc 4 1, 3) := by decide +kernel
theorem dX8_fewest_105 : decode cX8_fewest 105 = .ok (.goto (-76), 3) := by decide +kernel
theorem dX8_fewest_108 : decode cX8_fewest 108 = .ok (.iload_n 3, 1) := by decide +kernel
theorem dX8_fewest_109 : decode cX8_fewest 109 = .ok (.ifCond .ne 8, 3) := by decide +kernel
theorem dX8_fewest_112 : decode cX8_fewest 112 = .ok (.bipush (-4), 2) := by decide +kernel
theorem dX8_fewest_114 : decode cX8_fewest 114 = .ok (.goto 15, 3) := by decide +kernel
theorem dX8_fewest_117 : decode cX8_fewest 117 = .ok (.iload_n 2, 1) := by decide +kernel
theorem dX8_fewest_118 : decode cX8_fewest 118 = .ok (.ifCond .ne 10, 3) := by decide +kernel
theorem dX8_fewest_121 : decode cX8_fewest 121 = .ok (.iload_n 3, 1) := by decide +kernel
theorem dX8_fewest_122 : decode cX8_fewest 122 = .ok (.invokestatic 244, 3) := by decide +kernel
theorem dX8_fewest_125 : decode cX8_fewest 125 = .ok (.goto 4, 3) := by decide +kernel
theorem dX8_fewest_128 : decode cX8_fewest 128 = .ok (.iload_n 3, 1) := by decide +kernel
theorem dX8_fewest_129 : decode cX8_fewest 129 = .ok (.ireturn, 1) := by decide +kernel
theorem dX8_offBy_0 : decode cX8_offBy 0 = .ok (.aload_n 0, 1) := by decide +kernel
theorem dX8_offBy_1 : decode cX8_offBy 1 = .ok (.getfield 46, 3) := by decide +kernel
theorem dX8_offBy_4 : decode cX8_offBy 4 = .ok (.iconst 4, 1) := by decide +kernel
theorem dX8_offBy_5 : decode cX8_offBy 5 = .ok (.iload_n 1, 1) := by decide +kernel
theorem dX8_offBy_6 : decode cX8_offBy 6 = .ok (.imul, 1) := by decide +kernel
theorem dX8_offBy_7 : decode cX8_offBy 7 = .ok (.iaload, 1) := by decide +kernel
theorem dX8_offBy_8 : decode cX8_offBy 8 = .ok (.istore_n 3, 1) := by decide +kernel
theorem dX8_offBy_9 : decode cX8_offBy 9 = .ok (.aload_n 0, 1) := by decide +kernel
theorem dX8_offBy_10 : decode cX8_offBy 10 = .ok (.getfield 46, 3) := by decide +kernel
theorem dX8_offBy_13 : decode cX8_offBy 13 = .ok (.iconst 4, 1) := by decide +kernel
theorem dX8_offBy_14 : decode cX8_offBy 14 = .ok (.iload_n 1, 1) := by decide +kernel
theorem dX8_offBy_15 : decode cX8_offBy 15 = .ok (.imul, 1) := by decide +kernel
theorem dX8_offBy_16 : decode cX8_offBy 16 = .ok (.iconst 1, 1) := by decide +kernel
theorem dX8_offBy_17 : decode cX8_offBy 17 = .ok (.iadd, 1) := by decide +kernel
theorem dX8_offBy_18 : decode cX8_offBy 18 = .ok (.iaload, 1) := by decide +kernel
theorem dX8_offBy_19 : decode cX8_offBy 19 = .ok (.istore 4, 2) := by decide +kernel
theorem dX8_offBy_21 : decode cX8_offBy 21 = .ok (.aload_n 0, 1) := by decide +kernel
theorem dX8_offBy_22 : decode cX8_offBy 22 = .ok (.getfield 46, 3) := by decide +kernel
theorem dX8_offBy_25 : decode cX8_offBy 25 = .ok (.iconst 4, 1) := by decide +kernel
theorem dX8_offBy_26 : decode cX8_offBy 26 = .ok (.iload_n 1, 1) := by decide +kernel
theorem dX8_offBy_27 : decode cX8_offBy 27 = .ok (.imul, 1) := by decide +kernel
theorem dX8_offBy_28 : decode cX8_offBy 28 = .ok (.iconst 2, 1) := by decide +kernel
theorem dX8_offBy_29 : decode cX8_offBy 29 = .ok (.iadd, 1) := by decide +kernel
theorem dX8_offBy_30 : decode cX8_offBy 30 = .ok (.iaload, 1) := by decide +kernel
theorem dX8_offBy_31 : decode cX8_offBy 31 = .ok (.istore 5, 2) := by decide +kernel
theorem dX8_offBy_33 : decode cX8_offBy 33 = .ok (.iload_n 2, 1) := by decide +kernel
theorem dX8_offBy_34 : decode cX8_offBy 34 = .ok (.iconst 0, 1) := by decide +kernel
theorem dX8_offBy_35 : decode cX8_offBy 35 = .ok (.invokestatic 230, 3) := by decide +kernel
theorem dX8_offBy_38 : decode cX8_offBy 38 = .ok (.ifCond .eq 14, 3) := by decide +kernel
theorem dX8_offBy_41 : decode cX8_offBy 41 = .ok (.aload_n 0, 1) := by decide +kernel
theorem dX8_offBy_42 : decode cX8_offBy 42 = .ok (.iload 4, 2) := by decide +kernel
theorem dX8_offBy_44 : decode cX8_offBy 44 = .ok (.iload 5, 2) := by decide +kernel
theorem dX8_offBy_46 : decode cX8_offBy 46 = .ok (.invokevirtual 164, 3) := by decide +kernel
theorem dX8_offBy_49 : decode cX8_offBy 49 = .ok (.goto 11, 3) := by decide +kernel
theorem dX8_offBy_52 : decode cX8_offBy 52 = .ok (.aload_n 0, 1) := by decide +kernel
theorem dX8_offBy_53 : decode cX8_offBy 53 = .ok (.iload 4, 2) := by decide +kernel
theorem dX8_offBy_55 : decode cX8_offBy 55 = .ok (.iload 5, 2) := by decide +kernel
theorem dX8_offBy_57 : decode cX8_offBy 57 = .ok (.invokevirtual 177, 3) := by decide +kernel
theorem dX8_offBy_60 : decode cX8_offBy 60 = .ok (.istore 6, 2) := by decide +kernel
theorem dX8_offBy_62 : decode cX8_offBy 62 = .ok (.iload_n 2, 1) := by decide +kernel
theorem dX8_offBy_63 : decode cX8_offBy 63 = .ok (.iconst 2, 1) := by decide +kernel
theorem dX8_offBy_64 : decode cX8_offBy 64 = .ok (.invokestatic 230, 3) := by decide +kernel
theorem dX8_offBy_67 : decode cX8_offBy 67 = .ok (.ifCond .eq 7, 3) := by decide +kernel
theorem dX8_offBy_70 : decode cX8_offBy 70 = .ok (.iconst 0, 1) := by decide +kernel
theorem dX8_offBy_71 : decode cX8_offBy 71 = .ok (.goto 9, 3) := by decide +kernel
theorem dX8_offBy_74 : decode cX8_offBy 74 = .ok (.aload_n 0, 1) := by decide +kernel
theorem dX8_offBy_75 : decode cX8_offBy 75 = .ok (.getfield 19, 3) := by decide +kernel
theorem dX8_offBy_78 : decode cX8_offBy 78 = .ok (.iload_n 3, 1) := by decide +kernel
theorem dX8_offBy_79 : decode cX8_offBy 79 = .ok (.iaload, 1) := by decide +kernel
theorem dX8_offBy_80 : decode cX8_offBy 80 = .ok (.istore 7, 2) := by decide +kernel
theorem dX8_offBy_82 : decode cX8_offBy 82 = .ok (.iload 7, 2) := by decide +kernel
theorem dX8_offBy_84 : decode cX8_offBy 84 = .ok (.iconst 3, 1) := by decide +kernel
theorem dX8_offBy_85 : decode cX8_offBy 85 = .ok (.if_icmp .ne 12, 3) := by decide +kernel
theorem dX8_offBy_88 : decode cX8_offBy 88 = .ok (.aload_n 0, 1) := by decide +kernel
theorem dX8_offBy_89 : decode cX8_offBy 89 = .ok (.iconst 0, 1) := by decide +kernel
theorem dX8_offBy_90 : decode cX8_offBy 90 = .ok (.iload_n 1, 1) := by decide +kernel
theorem dX8_offBy_91 : decode cX8_offBy 91 = .ok (.invokevirtual 194, 3) := by decide +kernel
theorem dX8_offBy_94 : decode cX8_offBy 94 = .ok (.goto 16, 3) := by decide +kernel
theorem dX8_offBy_97 : decode cX8_offBy 97 = .ok (.iload 7, 2) := by decide +kernel
theorem dX8_offBy_99 : decode cX8_offBy 99 = .ok (.iload 6, 2) := by decide +kernel
theorem dX8_offBy_101 : decode cX8_offBy 101 = .ok (.aload_n 0, 1) := by decide +kernel
theorem dX8_offBy_102 : decode cX8_offBy 102 = .ok (.getfield 25, 3) := by decide +kernel
theorem dX8_offBy_105 : decode cX8_offBy 105 = .ok (.iload_n 3, 1) := by decide +kernel
theorem dX8_offBy_106 : decode cX8_offBy 106 = .ok (.iaload, 1) := by decide +kernel
theorem dX8_offBy_107 : decode cX8_offBy 107 = .ok (.invokestatic 190, 3) := by decide +kernel
theorem dX8_offBy_110 : decode cX8_offBy 110 = .ok (.istore 8, 2) := by decide +kernel
theorem dX8_offBy_112 : decode cX8_offBy 112 = .ok (.aload_n 0, 1) := by decide +kernel
theorem dX8_offBy_113 : decode cX8_offBy 113 = .ok (.iload 8, 2) := by decide +kernel
theorem dX8_offBy_115 : decode cX8_offBy 115 = .ok (.aload_n 0, 1) := by decide +kernel
theorem dX8_offBy_116 : decode cX8_offBy 116 = .ok (.getfield 25, 3) := by decide +kernel
theorem dX8_offBy_119 : decode cX8_offBy 119 = .ok (.iload_n 3, 1) := by decide +kernel
theorem dX8_offBy_120 : decode cX8_offBy 120 = .ok (.iaload, 1) := by decide +kernel
theorem dX8_offBy_121 : decode cX8_offBy 121 = .ok (.iload_n 2, 1) := by decide +kernel
theorem dX8_offBy_122 : decode cX8_offBy 122 = .ok (.iconst 1, 1) := by decide +kernel
theorem dX8_offBy_123 : decode cX8_offBy 123 = .ok (.invokestatic 230, 3) := by decide +kernel
theorem dX8_offBy_126 : decode cX8_offBy 126 = .ok (.ifCond .eq 23, 3) := by decide +kernel
theorem dX8_offBy_129 : decode cX8_offBy 129 = .ok (.aload_n 0, 1) := by decide +kernel
theorem dX8_offBy_130 : decode cX8_offBy 130 = .ok (.getfield 7, 3) := by decide +kernel
theorem dX8_offBy_133 : decode cX8_offBy 133 = .ok (.iload 4, 2) := by decide +kernel
theorem dX8_offBy_135 : decode cX8_offBy 135 = .ok (.iaload, 1) := by decide +kernel
theorem dX8_offBy_136 : decode cX8_offBy 136 = .ok (.aload_n 0, 1) := by decide +kernel
theorem dX8_offBy_137 : decode cX8_offBy 137 = .ok (.getfield 7, 3) := by decide +kernel
theorem dX8_offBy_140 : decode cX8_offBy 140 = .ok (.iload 5, 2) := by decide +kernel
theorem dX8_offBy_142 : decode cX8_offBy 142 = .ok (.iaload, 1) := by decide +kernel
theorem dX8_offBy_143 : decode cX8_offBy 143 = .ok (.invokestatic 161, 3) := by decide +kernel
theorem dX8_offBy_146 : decode cX8_offBy 146 = .ok (.goto 11, 3) := by decide +kernel
theorem dX8_offBy_149 : decode cX8_offBy 149 = .ok (.aload_n 0, 1) := by decide +kernel
theorem dX8_offBy_150 : decode cX8_offBy 150 = .ok (.iload 4, 2) := by decide +kernel
theorem dX8_offBy_152 : decode cX8_offBy 152 = .ok (.iload 5, 2) := by decide +kernel
theorem dX8_offBy_154 : decode cX8_offBy 154 = .ok (.invokevirtual 180, 3) := by decide +kernel
theorem dX8_offBy_157 : decode cX8_offBy 157 = .ok (.invokevirtual 200, 3) := by decide +kernel
theorem dX8_offBy_160 : decode cX8_offBy 160 = .ok (.istore 9, 2) := by decide +kernel
theorem dX8_offBy_162 : decode cX8_offBy 162 = .ok (.iload 9, 2) := by decide +kernel
theorem dX8_offBy_164 : decode cX8_offBy 164 = .ok (.ifCond .ge 8, 3) := by decide +kernel
theorem dX8_offBy_167 : decode cX8_offBy 167 = .ok (.bipush (-4), 2) := by decide +kernel
theorem dX8_offBy_169 : decode cX8_offBy 169 = .ok (.goto 12, 3) := by decide +kernel
theorem dX8_offBy_172 : decode cX8_offBy 172 = .ok (.iload 9, 2) := by decide +kernel
theorem dX8_offBy_174 : decode cX8_offBy 174 = .ok (.aload_n 0, 1) := by decide +kernel
theorem dX8_offBy_175 : decode cX8_offBy 175 = .ok (.getfield 92, 3) := by decide +kernel
theorem dX8_offBy_178 : decode cX8_offBy 178 = .ok (.invokestatic 161, 3) := by decide +kernel
theorem dX8_offBy_181 : decode cX8_offBy 181 = .ok (.ireturn, 1) := by decide +kernel
theorem dX8_cancel_0 : decode cX8_cancel 0 = .ok (.aload_n 0, 1) := by decide +kernel
theorem dX8_cancel_1 : decode cX8_cancel 1 = .ok (.iload_n 1, 1) := by decide +kernel
theorem dX8_cancel_2 : decode cX8_cancel 2 = .ok (.invokevirtual 203, 3) := by decide +kernel
theorem dX8_cancel_5 : decode cX8_cancel 5 = .ok (.ifCond .eq 13, 3) := by decide +kernel
theorem dX8_cancel_8 : decode cX8_cancel 8 = .ok (.iload_n 2, 1) := by decide +kernel
theorem dX8_cancel_9 : decode cX8_cancel 9 = .ok (.i2l, 1) := by decide +kernel
theorem dX8_cancel_10 : decode cX8_cancel 10 = .ok (.lconst 0, 1) := by decide +kernel
theorem dX8_cancel_11 : decode cX8_cancel 11 = .ok (.lconst 1, 1) := by decide +kernel
theorem dX8_cancel_12 : decode cX8_cancel 12 = .ok (.invokestatic 101, 3) := by decide +kernel
theorem dX8_cancel_15 : decode cX8_cancel 15 = .ok (.ifCond .ne 5, 3) := by decide +kernel
theorem dX8_cancel_18 : decode cX8_cancel 18 = .ok (.iconst (-1), 1) := by decide +kernel
theorem dX8_cancel_19 : decode cX8_cancel 19 = .ok (.ireturn, 1) := by decide +kernel
theorem dX8_cancel_20 : decode cX8_cancel 20 = .ok (.aload_n 0, 1) := by decide +kernel
theorem dX8_cancel_21 : decode cX8_cancel 21 = .ok (.iconst 0, 1) := by decide +kernel
theorem dX8_cancel_22 : decode cX8_cancel 22 = .ok (.iload_n 1, 1) := by decide +kernel
theorem dX8_cancel_23 : decode cX8_cancel 23 = .ok (.invokevirtual 208, 3) := by decide +kernel
theorem dX8_cancel_26 : decode cX8_cancel 26 = .ok (.ifCond .ge 6, 3) := by decide +kernel
theorem dX8_cancel_29 : decode cX8_cancel 29 = .ok (.bipush (-4), 2) := by decide +kernel
theorem dX8_cancel_31 : decode cX8_cancel 31 = .ok (.ireturn, 1) := by decide +kernel
theorem dX8_cancel_32 : decode cX8_cancel 32 = .ok (.aload_n 0, 1) := by decide +kernel
theorem dX8_cancel_33 : decode cX8_cancel 33 = .ok (.iconst 0, 1) := by decide +kernel
theorem dX8_cancel_34 : decode cX8_cancel 34 = .ok (.iload_n 1, 1) := by decide +kernel
theorem dX8_cancel_35 : decode cX8_cancel 35 = .ok (.invokevirtual 208, 3) := by decide +kernel
theorem dX8_cancel_38 : decode cX8_cancel 38 = .ok (.aload_n 0, 1) := by decide +kernel
theorem dX8_cancel_39 : decode cX8_cancel 39 = .ok (.getfield 92, 3) := by decide +kernel
theorem dX8_cancel_42 : decode cX8_cancel 42 = .ok (.invokestatic 161, 3) := by decide +kernel
theorem dX8_cancel_45 : decode cX8_cancel 45 = .ok (.istore_n 3, 1) := by decide +kernel
theorem dX8_cancel_46 : decode cX8_cancel 46 = .ok (.iload_n 3, 1) := by decide +kernel
theorem dX8_cancel_47 : decode cX8_cancel 47 = .ok (.istore 4, 2) := by decide +kernel
theorem dX8_cancel_49 : decode cX8_cancel 49 = .ok (.iconst 0, 1) := by decide +kernel
theorem dX8_cancel_50 : decode cX8_cancel 50 = .ok (.istore 5, 2) := by decide +kernel
theorem dX8_cancel_52 : decode cX8_cancel 52 = .ok (.iconst 1, 1) := by decide +kernel
theorem dX8_cancel_53 : decode cX8_cancel 53 = .ok (.istore 6, 2) := by decide +kernel
theorem dX8_cancel_55 : decode cX8_cancel 55 = .ok (.iload 6, 2) := by decide +kernel
theorem dX8_cancel_57 : decode cX8_cancel 57 = .ok (.bipush 8, 2) := by decide +kernel
theorem dX8_cancel_59 : decode cX8_cancel 59 = .ok (.if_icmp .ge 61, 3) := by decide +kernel
theorem dX8_cancel_62 : decode cX8_cancel 62 = .ok (.aload_n 0, 1) := by decide +kernel
theorem dX8_cancel_63 : decode cX8_cancel 63 = .ok (.iload_n 1, 1) := by decide +kernel
theorem dX8_cancel_64 : decode cX8_cancel 64 = .ok (.iload 6, 2) := by decide +kernel
theorem dX8_cancel_66 : decode cX8_cancel 66 = .ok (.invokevirtual 250, 3) := by decide +kernel
theorem dX8_cancel_69 : decode cX8_cancel 69 = .ok (.istore 7, 2) := by decide +kernel
theorem dX8_cancel_71 : decode cX8_cancel 71 = .ok (.iload 5, 2) := by decide +kernel
theorem dX8_cancel_73 : decode cX8_cancel 73 = .ok (.iload 7, 2) := by decide +kernel
theorem dX8_cancel_75 : decode cX8_cancel 75 = .ok (.ifCond .lt 16, 3) := by decide +kernel
theorem dX8_cancel_78 : decode cX8_cancel 78 = .ok (.iload 7, 2) := by decide +kernel
theorem dX8_cancel_80 : decode cX8_cancel 80 = .ok (.iload_n 3, 1) := by decide +kernel
theorem dX8_cancel_81 : decode cX8_cancel 81 = .ok (.if_icmp .ge 10, 3) := by decide +kernel
theorem dX8_cancel_84 : decode cX8_cancel 84 = .ok (.iconst 1, 1) := by decide +kernel
theorem dX8_cancel_85 : decode cX8_cancel 85 = .ok (.iload 6, 2) := by decide +kernel
theorem dX8_cancel_87 : decode cX8_cancel 87 = .ok (.ishl, 1) := by decide +kernel
theorem dX8_cancel_88 : decode cX8_cancel 88 = .ok (.goto 4, 3) := by decide +kernel
theorem dX8_cancel_91 : decode cX8_cancel 91 = .ok (.iconst 0, 1) := by decide +kernel
theorem dX8_cancel_92 : decode cX8_cancel 92 = .ok (.ior, 1) := by decide +kernel
theorem dX8_cancel_93 : decode cX8_cancel 93 = .ok (.istore 5, 2) := by decide +kernel
theorem dX8_cancel_95 : decode cX8_cancel 95 = .ok (.iload 7, 2) := by decide +kernel
theorem dX8_cancel_97 : decode cX8_cancel 97 = .ok (.ifCond .ge 8, 3) := by decide +kernel
theorem dX8_cancel_100 : decode cX8_cancel 100 = .ok (.iload 4, 2) := by decide +kernel
theorem dX8_cancel_102 : decode cX8_cancel 102 = .ok (.goto 10, 3) := by decide +kernel
theorem dX8_cancel_105 : decode cX8_cancel 105 = .ok (.iload 4, 2) := by decide +kernel
theorem dX8_cancel_107 : decode cX8_cancel 107 = .ok (.iload 7, 2) := by decide +kernel
theorem dX8_cancel_109 : decode cX8_cancel 109 = .ok (.invokestatic 237, 3) := by decide +kernel
theorem dX8_cancel_112 : decode cX8_cancel 112 = .ok (.istore 4, 2) := by decide +kernel
theorem dX8_cancel_114 : decode cX8_cancel 114 = .ok (.iinc 6 1, 3) := by decide +kernel
theorem dX8_cancel_117 : decode cX8_cancel 117 = .ok (.goto (-62), 3) := by decide +kernel
theorem dX8_cancel_120 : decode cX8_cancel 120 = .ok (.iload_n 2, 1) := by decide +kernel
theorem dX8_cancel_121 : decode cX8_cancel 121 = .ok (.ifCond .ne 8, 3) := by decide +kernel
theorem dX8_cancel_124 : decode cX8_cancel 124 = .ok (.iload 5, 2) := by decide +kernel
theorem dX8_cancel_126 : decode cX8_cancel 126 = .ok (.goto 5, 3) := by decide +kernel
theorem dX8_cancel_129 : decode cX8_cancel 129 = .ok (.iload 4, 2) := by decide +kernel
theorem dX8_cancel_131 : decode cX8_cancel 131 = .ok (.ireturn, 1) := by decide +kernel
theorem dX8_sail_0 : decode cX8_sail 0 = .ok (.iload_n 1, 1) := by decide +kernel
theorem dX8_sail_1 : decode cX8_sail 1 = .ok (.i2l, 1) := by decide +kernel
theorem dX8_sail_2 : decode cX8_sail 2 = .ok (.lconst 1, 1) := by decide +kernel
theorem dX8_sail_3 : decode cX8_sail 3 = .ok (.ldc2_w 253, 3) := by decide +kernel
theorem dX8_sail_6 : decode cX8_sail 6 = .ok (.invokestatic 101, 3) := by decide +kernel
theorem dX8_sail_9 : decode cX8_sail 9 = .ok (.ifCond .eq 15, 3) := by decide +kernel
theorem dX8_sail_12 : decode cX8_sail 12 = .ok (.iload_n 2, 1) := by decide +kernel
theorem dX8_sail_13 : decode cX8_sail 13 = .ok (.i2l, 1) := by decide +kernel
theorem dX8_sail_14 : decode cX8_sail 14 = .ok (.lconst 1, 1) := by decide +kernel
theorem dX8_sail_15 : decode cX8_sail 15 = .ok (.ldc2_w 242, 3) := by decide +kernel
theorem dX8_sail_18 : decode cX8_sail 18 = .ok (.invokestatic 101, 3) := by decide +kernel
theorem dX8_sail_21 : decode cX8_sail 21 = .ok (.ifCond .ne 5, 3) := by decide +kernel
theorem dX8_sail_24 : decode cX8_sail 24 = .ok (.iconst (-1), 1) := by decide +kernel
theorem dX8_sail_25 : decode cX8_sail 25 = .ok (.ireturn, 1) := by decide +kernel
theorem dX8_sail_26 : decode cX8_sail 26 = .ok (.aload_n 0, 1) := by decide +kernel
theorem dX8_sail_27 : decode cX8_sail 27 = .ok (.invokevirtual 255, 3) := by decide +kernel
theorem dX8_sail_30 : decode cX8_sail 30 = .ok (.istore_n 3, 1) := by decide +kernel
theorem dX8_sail_31 : decode cX8_sail 31 = .ok (.iload_n 3, 1) := by decide +kernel
theorem dX8_sail_32 : decode cX8_sail 32 = .ok (.ifCond .ge 6, 3) := by decide +kernel
theorem dX8_sail_35 : decode cX8_sail 35 = .ok (.bipush (-4), 2) := by decide +kernel
theorem dX8_sail_37 : decode cX8_sail 37 = .ok (.ireturn, 1) := by decide +kernel
theorem dX8_sail_38 : decode cX8_sail 38 = .ok (.lconst 1, 1) := by decide +kernel
theorem dX8_sail_39 : decode cX8_sail 39 = .ok (.iload_n 3, 1) := by decide +kernel
theorem dX8_sail_40 : decode cX8_sail 40 = .ok (.i2l, 1) := by decide +kernel
theorem dX8_sail_41 : decode cX8_sail 41 = .ok (.lmul, 1) := by decide +kernel
theorem dX8_sail_42 : decode cX8_sail 42 = .ok (.iload_n 1, 1) := by decide +kernel
theorem dX8_sail_43 : decode cX8_sail 43 = .ok (.i2l, 1) := by decide +kernel
theorem dX8_sail_44 : decode cX8_sail 44 = .ok (.lmul, 1) := by decide +kernel
theorem dX8_sail_45 : decode cX8_sail 45 = .ok (.ldc2_w 253, 3) := by decide +kernel
theorem dX8_sail_48 : decode cX8_sail 48 = .ok (.ldiv, 1) := by decide +kernel
theorem dX8_sail_49 : decode cX8_sail 49 = .ok (.ldc2_w 240, 3) := by decide +kernel
theorem dX8_sail_52 : decode cX8_sail 52 = .ok (.iload_n 2, 1) := by decide +kernel
theorem dX8_sail_53 : decode cX8_sail 53 = .ok (.i2l, 1) := by decide +kernel
theorem dX8_sail_54 : decode cX8_sail 54 = .ok (.lmul, 1) := by decide +kernel
theorem dX8_sail_55 : decode cX8_sail 55 = .ok (.lcmp, 1) := by decide +kernel
theorem dX8_sail_56 : decode cX8_sail 56 = .ok (.ifCond .gt 7, 3) := by decide +kernel
theorem dX8_sail_59 : decode cX8_sail 59 = .ok (.iconst 1, 1) := by decide +kernel
theorem dX8_sail_60 : decode cX8_sail 60 = .ok (.goto 4, 3) := by decide +kernel
theorem dX8_sail_63 : decode cX8_sail 63 = .ok (.iconst 0, 1) := by decide +kernel
theorem dX8_sail_64 : decode cX8_sail 64 = .ok (.istore 4, 2) := by decide +kernel
theorem dX8_sail_66 : decode cX8_sail 66 = .ok (.aload_n 0, 1) := by decide +kernel
theorem dX8_sail_67 : decode cX8_sail 67 = .ok (.getfield 92, 3) := by decide +kernel
theorem dX8_sail_70 : decode cX8_sail 70 = .ok (.iload_n 1, 1) := by decide +kernel
theorem dX8_sail_71 : decode cX8_sail 71 = .ok (.imul, 1) := by decide +kernel
theorem dX8_sail_72 : decode cX8_sail 72 = .ok (.sipush 360, 3) := by decide +kernel
theorem dX8_sail_75 : decode cX8_sail 75 = .ok (.idiv, 1) := by decide +kernel
theorem dX8_sail_76 : decode cX8_sail 76 = .ok (.bipush 100, 2) := by decide +kernel
theorem dX8_sail_78 : decode cX8_sail 78 = .ok (.iload_n 2, 1) := by decide +kernel
theorem dX8_sail_79 : decode cX8_sail 79 = .ok (.imul, 1) := by decide +kernel
theorem dX8_sail_80 : decode cX8_sail 80 = .ok (.if_icmp .gt 7, 3) := by decide +kernel
theorem dX8_sail_83 : decode cX8_sail 83 = .ok (.iconst 1, 1) := by decide +kernel
theorem dX8_sail_84 : decode cX8_sail 84 = .ok (.goto 4, 3) := by decide +kernel
theorem dX8_sail_87 : decode cX8_sail 87 = .ok (.iconst 0, 1) := by decide +kernel
theorem dX8_sail_88 : decode cX8_sail 88 = .ok (.istore 5, 2) := by decide +kernel
theorem dX8_sail_90 : decode cX8_sail 90 = .ok (.iload 4, 2) := by decide +kernel
theorem dX8_sail_92 : decode cX8_sail 92 = .ok (.ifCond .ne 7, 3) := by decide +kernel
theorem dX8_sail_95 : decode cX8_sail 95 = .ok (.iconst 0, 1) := by decide +kernel
theorem dX8_sail_96 : decode cX8_sail 96 = .ok (.goto 13, 3) := by decide +kernel
theorem dX8_sail_99 : decode cX8_sail 99 = .ok (.iload 5, 2) := by decide +kernel
theorem dX8_sail_101 : decode cX8_sail 101 = .ok (.ifCond .eq 7, 3) := by decide +kernel
theorem dX8_sail_104 : decode cX8_sail 104 = .ok (.iconst 2, 1) := by decide +kernel
theorem dX8_sail_105 : decode cX8_sail 105 = .ok (.goto 4, 3) := by decide +kernel
theorem dX8_sail_108 : decode cX8_sail 108 = .ok (.iconst 1, 1) := by decide +kernel
theorem dX8_sail_109 : decode cX8_sail 109 = .ok (.ireturn, 1) := by decide +kernel
theorem dX8_see_0 : decode cX8_see 0 = .ok (.aload_n 0, 1) := by decide +kernel
theorem dX8_see_1 : decode cX8_see 1 = .ok (.iload_n 1, 1) := by decide +kernel
theorem dX8_see_2 : decode cX8_see 2 = .ok (.invokevirtual 183, 3) := by decide +kernel
theorem dX8_see_5 : decode cX8_see 5 = .ok (.ifCond .eq 25, 3) := by decide +kernel
theorem dX8_see_8 : decode cX8_see 8 = .ok (.aload_n 0, 1) := by decide +kernel
theorem dX8_see_9 : decode cX8_see 9 = .ok (.iload_n 2, 1) := by decide +kernel
theorem dX8_see_10 : decode cX8_see 10 = .ok (.iload_n 3, 1) := by decide +kernel
theorem dX8_see_11 : decode cX8_see 11 = .ok (.invokevirtual 171, 3) := by decide +kernel
theorem dX8_see_14 : decode cX8_see 14 = .ok (.ifCond .eq 16, 3) := by decide +kernel
theorem dX8_see_17 : decode cX8_see 17 = .ok (.iload 4, 2) := by decide +kernel
theorem dX8_see_19 : decode cX8_see 19 = .ok (.i2l, 1) := by decide +kernel
theorem dX8_see_20 : decode cX8_see 20 = .ok (.lconst 0, 1) := by decide +kernel
theorem dX8_see_21 : decode cX8_see 21 = .ok (.ldc2_w 258, 3) := by decide +kernel
theorem dX8_see_24 : decode cX8_see 24 = .ok (.invokestatic 101, 3) := by decide +kernel
theorem dX8_see_27 : decode cX8_see 27 = .ok (.ifCond .ne 5, 3) := by decide +kernel
theorem dX8_see_30 : decode cX8_see 30 = .ok (.iconst (-1), 1) := by decide +kernel
theorem dX8_see_31 : decode cX8_see 31 = .ok (.ireturn, 1) := by decide +kernel
theorem dX8_see_32 : decode cX8_see 32 = .ok (.aload_n 0, 1) := by decide +kernel
theorem dX8_see_33 : decode cX8_see 33 = .ok (.getfield 155, 3) := by decide +kernel
theorem dX8_see_36 : decode cX8_see 36 = .ok (.bipush 6, 2) := by decide +kernel
theorem dX8_see_38 : decode cX8_see 38 = .ok (.if_icmp .ne 6, 3) := by decide +kernel
theorem dX8_see_41 : decode cX8_see 41 = .ok (.bipush (-3), 2) := by decide +kernel
theorem dX8_see_43 : decode cX8_see 43 = .ok (.ireturn, 1) := by decide +kernel
theorem dX8_see_44 : decode cX8_see 44 = .ok (.aload_n 0, 1) := by decide +kernel
theorem dX8_see_45 : decode cX8_see 45 = .ok (.getfield 53, 3) := by decide +kernel
theorem dX8_see_48 : decode cX8_see 48 = .ok (.aload_n 0, 1) := by decide +kernel
theorem dX8_see_49 : decode cX8_see 49 = .ok (.getfield 155, 3) := by decide +kernel
theorem dX8_see_52 : decode cX8_see 52 = .ok (.iload_n 1, 1) := by decide +kernel
theorem dX8_see_53 : decode cX8_see 53 = .ok (.iastore, 1) := by decide +kernel
theorem dX8_see_54 : decode cX8_see 54 = .ok (.aload_n 0, 1) := by decide +kernel
theorem dX8_see_55 : decode cX8_see 55 = .ok (.getfield 56, 3) := by decide +kernel
theorem dX8_see_58 : decode cX8_see 58 = .ok (.aload_n 0, 1) := by decide +kernel
theorem dX8_see_59 : decode cX8_see 59 = .ok (.getfield 155, 3) := by decide +kernel
theorem dX8_see_62 : decode cX8_see 62 = .ok (.iload_n 2, 1) := by decide +kernel
theorem dX8_see_63 : decode cX8_see 63 = .ok (.iastore, 1) := by decide +kernel
theorem dX8_see_64 : decode cX8_see 64 = .ok (.aload_n 0, 1) := by decide +kernel
theorem dX8_see_65 : decode cX8_see 65 = .ok (.getfield 59, 3) := by decide +kernel
theorem dX8_see_68 : decode cX8_see 68 = .ok (.aload_n 0, 1) := by decide +kernel
theorem dX8_see_69 : decode cX8_see 69 = .ok (.getfield 155, 3) := by decide +kernel
theorem dX8_see_72 : decode cX8_see 72 = .ok (.iload_n 3, 1) := by decide +kernel
theorem dX8_see_73 : decode cX8_see 73 = .ok (.iastore, 1) := by decide +kernel
theorem dX8_see_74 : decode cX8_see 74 = .ok (.aload_n 0, 1) := by decide +kernel
theorem dX8_see_75 : decode cX8_see 75 = .ok (.getfield 62, 3) := by decide +kernel
theorem dX8_see_78 : decode cX8_see 78 = .ok (.aload_n 0, 1) := by decide +kernel
theorem dX8_see_79 : decode cX8_see 79 = .ok (.getfield 155, 3) := by decide +kernel
theorem dX8_see_82 : decode cX8_see 82 = .ok (.iload 4, 2) := by decide +kernel
theorem dX8_see_84 : decode cX8_see 84 = .ok (.iastore, 1) := by decide +kernel
theorem dX8_see_85 : decode cX8_see 85 = .ok (.aload_n 0, 1) := by decide +kernel
theorem dX8_see_86 : decode cX8_see 86 = .ok (.dup, 1) := by decide +kernel
theorem dX8_see_87 : decode cX8_see 87 = .ok (.getfield 155, 3) := by decide +kernel
theorem dX8_see_90 : decode cX8_see 90 = .ok (.iconst 1, 1) := by decide +kernel
theorem dX8_see_91 : decode cX8_see 91 = .ok (.iadd, 1) := by decide +kernel
theorem dX8_see_92 : decode cX8_see 92 = .ok (.putfield 155, 3) := by decide +kernel
theorem dX8_see_95 : decode cX8_see 95 = .ok (.aload_n 0, 1) := by decide +kernel
theorem dX8_see_96 : decode cX8_see 96 = .ok (.getfield 155, 3) := by decide +kernel
theorem dX8_see_99 : decode cX8_see 99 = .ok (.ireturn, 1) := by decide +kernel
theorem dX8_forget_0 : decode cX8_forget 0 = .ok (.aload_n 0, 1) := by decide +kernel
theorem dX8_forget_1 : decode cX8_forget 1 = .ok (.getfield 155, 3) := by decide +kernel
theorem dX8_forget_4 : decode cX8_forget 4 = .ok (.istore_n 1, 1) := by decide +kernel
theorem dX8_forget_5 : decode cX8_forget 5 = .ok (.aload_n 0, 1) := by decide +kernel
theorem dX8_forget_6 : decode cX8_forget 6 = .ok (.iconst 0, 1) := by decide +kernel
theorem dX8_forget_7 : decode cX8_forget 7 = .ok (.putfield 155, 3) := by decide +kernel
theorem dX8_forget_10 : decode cX8_forget 10 = .ok (.iload_n 1, 1) := by decide +kernel
theorem dX8_forget_11 : decode cX8_forget 11 = .ok (.ireturn, 1) := by decide +kernel
theorem dX8_isSo_0 : decode cX8_isSo 0 = .ok (.iconst 1, 1) := by decide +kernel
theorem dX8_isSo_1 : decode cX8_isSo 1 = .ok (.istore 4, 2) := by decide +kernel
theorem dX8_isSo_3 : decode cX8_isSo 3 = .ok (.iconst 0, 1) := by decide +kernel
theorem dX8_isSo_4 : decode cX8_isSo 4 = .ok (.istore 5, 2) := by decide +kernel
theorem dX8_isSo_6 : decode cX8_isSo 6 = .ok (.iload 5, 2) := by decide +kernel
theorem dX8_isSo_8 : decode cX8_isSo 8 = .ok (.aload_n 0, 1) := by decide +kernel
theorem dX8_isSo_9 : decode cX8_isSo 9 = .ok (.getfield 155, 3) := by decide +kernel
theorem dX8_isSo_12 : decode cX8_isSo 12 = .ok (.if_icmp .ge 64, 3) := by decide +kernel
theorem dX8_isSo_15 : decode cX8_isSo 15 = .ok (.iload 4, 2) := by decide +kernel
theorem dX8_isSo_17 : decode cX8_isSo 17 = .ok (.ifCond .eq 50, 3) := by decide +kernel
theorem dX8_isSo_20 : decode cX8_isSo 20 = .ok (.aload_n 0, 1) := by decide +kernel
theorem dX8_isSo_21 : decode cX8_isSo 21 = .ok (.getfield 53, 3) := by decide +kernel
theorem dX8_isSo_24 : decode cX8_isSo 24 = .ok (.iload 5, 2) := by decide +kernel
theorem dX8_isSo_26 : decode cX8_isSo 26 = .ok (.iaload, 1) := by decide +kernel
theorem dX8_isSo_27 : decode cX8_isSo 27 = .ok (.iload_n 1, 1) := by decide +kernel
theorem dX8_isSo_28 : decode cX8_isSo 28 = .ok (.if_icmp .ne 35, 3) := by decide +kernel
theorem dX8_isSo_31 : decode cX8_isSo 31 = .ok (.aload_n 0, 1) := by decide +kernel
theorem dX8_isSo_32 : decode cX8_isSo 32 = .ok (.iconst 0, 1) := by decide +kernel
theorem dX8_isSo_33 : decode cX8_isSo 33 = .ok (.iload_n 1, 1) := by decide +kernel
theorem dX8_isSo_34 : decode cX8_isSo 34 = .ok (.aload_n 0, 1) := by decide +kernel
theorem dX8_isSo_35 : decode cX8_isSo 35 = .ok (.getfield 56, 3) := by decide +kernel
theorem dX8_isSo_38 : decode cX8_isSo 38 = .ok (.iload 5, 2) := by decide +kernel
theorem dX8_isSo_40 : decode cX8_isSo 40 = .ok (.iaload, 1) := by decide +kernel
theorem dX8_isSo_41 : decode cX8_isSo 41 = .ok (.aload_n 0, 1) := by decide +kernel
theorem dX8_isSo_42 : decode cX8_isSo 42 = .ok (.getfield 59, 3) := by decide +kernel
theorem dX8_isSo_45 : decode cX8_isSo 45 = .ok (.iload 5, 2) := by decide +kernel
theorem dX8_isSo_47 : decode cX8_isSo 47 = .ok (.iaload, 1) := by decide +kernel
theorem dX8_isSo_48 : decode cX8_isSo 48 = .ok (.iload_n 2, 1) := by decide +kernel
theorem dX8_isSo_49 : decode cX8_isSo 49 = .ok (.iload_n 3, 1) := by decide +kernel
theorem dX8_isSo_50 : decode cX8_isSo 50 = .ok (.invokevirtual 217, 3) := by decide +kernel
theorem dX8_isSo_53 : decode cX8_isSo 53 = .ok (.aload_n 0, 1) := by decide +kernel
theorem dX8_isSo_54 : decode cX8_isSo 54 = .ok (.getfield 62, 3) := by decide +kernel
theorem dX8_isSo_57 : decode cX8_isSo 57 = .ok (.iload 5, 2) := by decide +kernel
theorem dX8_isSo_59 : decode cX8_isSo 59 = .ok (.iaload, 1) := by decide +kernel
theorem dX8_isSo_60 : decode cX8_isSo 60 = .ok (.if_icmp .ne 7, 3) := by decide +kernel
theorem dX8_isSo_63 : decode cX8_isSo 63 = .ok (.iconst 1, 1) := by decide +kernel
theorem dX8_isSo_64 : decode cX8_isSo 64 = .ok (.goto 4, 3) := by decide +kernel
theorem dX8_isSo_67 : decode cX8_isSo 67 = .ok (.iconst 0, 1) := by decide +kernel
theorem dX8_isSo_68 : decode cX8_isSo 68 = .ok (.istore 4, 2) := by decide +kernel
theorem dX8_isSo_70 : decode cX8_isSo 70 = .ok (.iinc 5 1, 3) := by decide +kernel
theorem dX8_isSo_73 : decode cX8_isSo 73 = .ok (.goto (-67), 3) := by decide +kernel
theorem dX8_isSo_76 : decode cX8_isSo 76 = .ok (.iload 4, 2) := by decide +kernel
theorem dX8_isSo_78 : decode cX8_isSo 78 = .ok (.ireturn, 1) := by decide +kernel
theorem dX8_fits_0 : decode cX8_fits 0 = .ok (.aload_n 0, 1) := by decide +kernel
theorem dX8_fits_1 : decode cX8_fits 1 = .ok (.iload_n 1, 1) := by decide +kernel
theorem dX8_fits_2 : decode cX8_fits 2 = .ok (.invokevirtual 183, 3) := by decide +kernel
theorem dX8_fits_5 : decode cX8_fits 5 = .ok (.ifCond .eq 13, 3) := by decide +kernel
theorem dX8_fits_8 : decode cX8_fits 8 = .ok (.iload_n 2, 1) := by decide +kernel
theorem dX8_fits_9 : decode cX8_fits 9 = .ok (.i2l, 1) := by decide +kernel
theorem dX8_fits_10 : decode cX8_fits 10 = .ok (.lconst 0, 1) := by decide +kernel
theorem dX8_fits_11 : decode cX8_fits 11 = .ok (.lconst 1, 1) := by decide +kernel
theorem dX8_fits_12 : decode cX8_fits 12 = .ok (.invokestatic 101, 3) := by decide +kernel
theorem dX8_fits_15 : decode cX8_fits 15 = .ok (.ifCond .ne 5, 3) := by decide +kernel
theorem dX8_fits_18 : decode cX8_fits 18 = .ok (.iconst (-1), 1) := by decide +kernel
theorem dX8_fits_19 : decode cX8_fits 19 = .ok (.ireturn, 1) := by decide +kernel
theorem dX8_fits_20 : decode cX8_fits 20 = .ok (.iconst 0, 1) := by decide +kernel
theorem dX8_fits_21 : decode cX8_fits 21 = .ok (.istore_n 3, 1) := by decide +kernel
theorem dX8_fits_22 : decode cX8_fits 22 = .ok (.iconst 1, 1) := by decide +kernel
theorem dX8_fits_23 : decode cX8_fits 23 = .ok (.iload_n 2, 1) := by decide +kernel
theorem dX8_fits_24 : decode cX8_fits 24 = .ok (.isub, 1) := by decide +kernel
theorem dX8_fits_25 : decode cX8_fits 25 = .ok (.istore 4, 2) := by decide +kernel
theorem dX8_fits_27 : decode cX8_fits 27 = .ok (.iload 4, 2) := by decide +kernel
theorem dX8_fits_29 : decode cX8_fits 29 = .ok (.iload_n 2, 1) := by decide +kernel
theorem dX8_fits_30 : decode cX8_fits 30 = .ok (.ifCond .ne 8, 3) := by decide +kernel
theorem dX8_fits_33 : decode cX8_fits 33 = .ok (.bipush 9, 2) := by decide +kernel
theorem dX8_fits_35 : decode cX8_fits 35 = .ok (.goto 4, 3) := by decide +kernel
theorem dX8_fits_38 : decode cX8_fits 38 = .ok (.iconst 3, 1) := by decide +kernel
theorem dX8_fits_39 : decode cX8_fits 39 = .ok (.if_icmp .gt 60, 3) := by decide +kernel
theorem dX8_fits_42 : decode cX8_fits 42 = .ok (.iload_n 2, 1) := by decide +kernel
theorem dX8_fits_43 : decode cX8_fits 43 = .ok (.ifCond .ne 19, 3) := by decide +kernel
theorem dX8_fits_46 : decode cX8_fits 46 = .ok (.aload_n 0, 1) := by decide +kernel
theorem dX8_fits_47 : decode cX8_fits 47 = .ok (.iload_n 1, 1) := by decide +kernel
theorem dX8_fits_48 : decode cX8_fits 48 = .ok (.aload_n 0, 1) := by decide +kernel
theorem dX8_fits_49 : decode cX8_fits 49 = .ok (.getfield 19, 3) := by decide +kernel
theorem dX8_fits_52 : decode cX8_fits 52 = .ok (.iload_n 1, 1) := by decide +kernel
theorem dX8_fits_53 : decode cX8_fits 53 = .ok (.iaload, 1) := by decide +kernel
theorem dX8_fits_54 : decode cX8_fits 54 = .ok (.iload 4, 2) := by decide +kernel
theorem dX8_fits_56 : decode cX8_fits 56 = .ok (.invokevirtual 260, 3) := by decide +kernel
theorem dX8_fits_59 : decode cX8_fits 59 = .ok (.goto 16, 3) := by decide +kernel
theorem dX8_fits_62 : decode cX8_fits 62 = .ok (.aload_n 0, 1) := by decide +kernel
theorem dX8_fits_63 : decode cX8_fits 63 = .ok (.iload_n 1, 1) := by decide +kernel
theorem dX8_fits_64 : decode cX8_fits 64 = .ok (.iload 4, 2) := by decide +kernel
theorem dX8_fits_66 : decode cX8_fits 66 = .ok (.aload_n 0, 1) := by decide +kernel
theorem dX8_fits_67 : decode cX8_fits 67 = .ok (.getfield 25, 3) := by decide +kernel
theorem dX8_fits_70 : decode cX8_fits 70 = .ok (.iload_n 1, 1) := by decide +kernel
theorem dX8_fits_71 : decode cX8_fits 71 = .ok (.iaload, 1) := by decide +kernel
theorem dX8_fits_72 : decode cX8_fits 72 = .ok (.invokevirtual 260, 3) := by decide +kernel
theorem dX8_fits_75 : decode cX8_fits 75 = .ok (.istore 5, 2) := by decide +kernel
theorem dX8_fits_77 : decode cX8_fits 77 = .ok (.iload_n 3, 1) := by decide +kernel
theorem dX8_fits_78 : decode cX8_fits 78 = .ok (.iload 5, 2) := by decide +kernel
theorem dX8_fits_80 : decode cX8_fits 80 = .ok (.ifCond .eq 10, 3) := by decide +kernel
theorem dX8_fits_83 : decode cX8_fits 83 = .ok (.iconst 1, 1) := by decide +kernel
theorem dX8_fits_84 : decode cX8_fits 84 = .ok (.iload 4, 2) := by decide +kernel
theorem dX8_fits_86 : decode cX8_fits 86 = .ok (.ishl, 1) := by decide +kernel
theorem dX8_fits_87 : decode cX8_fits 87 = .ok (.goto 4, 3) := by decide +kernel
theorem dX8_fits_90 : decode cX8_fits 90 = .ok (.iconst 0, 1) := by decide +kernel
theorem dX8_fits_91 : decode cX8_fits 91 = .ok (.ior, 1) := by decide +kernel
theorem dX8_fits_92 : decode cX8_fits 92 = .ok (.istore_n 3, 1) := by decide +kernel
theorem dX8_fits_93 : decode cX8_fits 93 = .ok (.iinc 4 1, 3) := by decide +kernel
theorem dX8_fits_96 : decode cX8_fits 96 = .ok (.goto (-69), 3) := by decide +kernel
theorem dX8_fits_99 : decode cX8_fits 99 = .ok (.iload_n 3, 1) := by decide +kernel
theorem dX8_fits_100 : decode cX8_fits 100 = .ok (.ireturn, 1) := by decide +kernel
theorem dX8_towns_0 : decode cX8_towns 0 = .ok (.iload_n 1, 1) := by decide +kernel
theorem dX8_towns_1 : decode cX8_towns 1 = .ok (.i2l, 1) := by decide +kernel
theorem dX8_towns_2 : decode cX8_towns 2 = .ok (.lconst 0, 1) := by decide +kernel
theorem dX8_towns_3 : decode cX8_towns 3 = .ok (.ldc2_w 264, 3) := by decide +kernel
theorem dX8_towns_6 : decode cX8_towns 6 = .ok (.invokestatic 101, 3) := by decide +kernel
theorem dX8_towns_9 : decode cX8_towns 9 = .ok (.ifCond .ne 5, 3) := by decide +kernel
theorem dX8_towns_12 : decode cX8_towns 12 = .ok (.iconst (-1), 1) := by decide +kernel
theorem dX8_towns_13 : decode cX8_towns 13 = .ok (.ireturn, 1) := by decide +kernel
theorem dX8_towns_14 : decode cX8_towns 14 = .ok (.iconst 0, 1) := by decide +kernel
theorem dX8_towns_15 : decode cX8_towns 15 = .ok (.istore_n 2, 1) := by decide +kernel
theorem dX8_towns_16 : decode cX8_towns 16 = .ok (.iconst 0, 1) := by decide +kernel
theorem dX8_towns_17 : decode cX8_towns 17 = .ok (.istore_n 3, 1) := by decide +kernel
theorem dX8_towns_18 : decode cX8_towns 18 = .ok (.iload_n 3, 1) := by decide +kernel
theorem dX8_towns_19 : decode cX8_towns 19 = .ok (.aload_n 0, 1) := by decide +kernel
theorem dX8_towns_20 : decode cX8_towns 20 = .ok (.getfield 95, 3) := by decide +kernel
theorem dX8_towns_23 : decode cX8_towns 23 = .ok (.if_icmp .ge 32, 3) := by decide +kernel
theorem dX8_towns_26 : decode cX8_towns 26 = .ok (.iload_n 2, 1) := by decide +kernel
theorem dX8_towns_27 : decode cX8_towns 27 = .ok (.aload_n 0, 1) := by decide +kernel
theorem dX8_towns_28 : decode cX8_towns 28 = .ok (.iload_n 3, 1) := by decide +kernel
theorem dX8_towns_29 : decode cX8_towns 29 = .ok (.invokevirtual 167, 3) := by decide +kernel
theorem dX8_towns_32 : decode cX8_towns 32 = .ok (.iload_n 1, 1) := by decide +kernel
theorem dX8_towns_33 : decode cX8_towns 33 = .ok (.invokestatic 161, 3) := by decide +kernel
theorem dX8_towns_36 : decode cX8_towns 36 = .ok (.iconst 2, 1) := by decide +kernel
theorem dX8_towns_37 : decode cX8_towns 37 = .ok (.if_icmp .ge 9, 3) := by decide +kernel
theorem dX8_towns_40 : decode cX8_towns 40 = .ok (.iconst 1, 1) := by decide +kernel
theorem dX8_towns_41 : decode cX8_towns 41 = .ok (.iload_n 3, 1) := by decide +kernel
theorem dX8_towns_42 : decode cX8_towns 42 = .ok (.ishl, 1) := by decide +kernel
theorem dX8_towns_43 : decode cX8_towns 43 = .ok (.goto 4, 3) := by decide +kernel
theorem dX8_towns_46 : decode cX8_towns 46 = .ok (.iconst 0, 1) := by decide +kernel
theorem dX8_towns_47 : decode cX8_towns 47 = .ok (.ior, 1) := by decide +kernel
theorem dX8_towns_48 : decode cX8_towns 48 = .ok (.istore_n 2, 1) := by decide +kernel
theorem dX8_towns_49 : decode cX8_towns 49 = .ok (.iinc 3 1, 3) := by decide +kernel
theorem dX8_towns_52 : decode cX8_towns 52 = .ok (.goto (-34), 3) := by decide +kernel
theorem dX8_towns_55 : decode cX8_towns 55 = .ok (.iload_n 2, 1) := by decide +kernel
theorem dX8_towns_56 : decode cX8_towns 56 = .ok (.ireturn, 1) := by decide +kernel
theorem dX8_miscount_0 : decode cX8_miscount 0 = .ok (.iload_n 1, 1) := by decide +kernel
theorem dX8_miscount_1 : decode cX8_miscount 1 = .ok (.i2l, 1) := by decide +kernel
theorem dX8_miscount_2 : decode cX8_miscount 2 = .ok (.lconst 0, 1) := by decide +kernel
theorem dX8_miscount_3 : decode cX8_miscount 3 = .ok (.ldc2_w 242, 3) := by decide +kernel
theorem dX8_miscount_6 : decode cX8_miscount 6 = .ok (.invokestatic 101, 3) := by decide +kernel
theorem dX8_miscount_9 : decode cX8_miscount 9 = .ok (.ifCond .eq 25, 3) := by decide +kernel
theorem dX8_miscount_12 : decode cX8_miscount 12 = .ok (.iload_n 2, 1) := by decide +kernel
theorem dX8_miscount_13 : decode cX8_miscount 13 = .ok (.i2l, 1) := by decide +kernel
theorem dX8_miscount_14 : decode cX8_miscount 14 = .ok (.lconst 0, 1) := by decide +kernel
theorem dX8_miscount_15 : decode cX8_miscount 15 = .ok (.ldc2_w 266, 3) := by decide +kernel
theorem dX8_miscount_18 : decode cX8_miscount 18 = .ok (.invokestatic 101, 3) := by decide +kernel
theorem dX8_miscount_21 : decode cX8_miscount 21 = .ok (.ifCond .eq 13, 3) := by decide +kernel
theorem dX8_miscount_24 : decode cX8_miscount 24 = .ok (.iload_n 3, 1) := by decide +kernel
theorem dX8_miscount_25 : decode cX8_miscount 25 = .ok (.i2l, 1) := by decide +kernel
theorem dX8_miscount_26 : decode cX8_miscount 26 = .ok (.lconst 0, 1) := by decide +kernel
theorem dX8_miscount_27 : decode cX8_miscount 27 = .ok (.lconst 1, 1) := by decide +kernel
theorem dX8_miscount_28 : decode cX8_miscount 28 = .ok (.invokestatic 101, 3) := by decide +kernel
theorem dX8_miscount_31 : decode cX8_miscount 31 = .ok (.ifCond .ne 5, 3) := by decide +kernel
theorem dX8_miscount_34 : decode cX8_miscount 34 = .ok (.iconst (-1), 1) := by decide +kernel
theorem dX8_miscount_35 : decode cX8_miscount 35 = .ok (.ireturn, 1) := by decide +kernel
theorem dX8_miscount_36 : decode cX8_miscount 36 = .ok (.aload_n 0, 1) := by decide +kernel
theorem dX8_miscount_37 : decode cX8_miscount 37 = .ok (.getfield 46, 3) := by decide +kernel
theorem dX8_miscount_40 : decode cX8_miscount 40 = .ok (.bipush 36, 2) := by decide +kernel
theorem dX8_miscount_42 : decode cX8_miscount 42 = .ok (.iaload, 1) := by decide +kernel
theorem dX8_miscount_43 : decode cX8_miscount 43 = .ok (.istore 4, 2) := by decide +kernel
theorem dX8_miscount_45 : decode cX8_miscount 45 = .ok (.lconst 0, 1) := by decide +kernel
theorem dX8_miscount_46 : decode cX8_miscount 46 = .ok (.lstore 5, 2) := by decide +kernel
theorem dX8_miscount_48 : decode cX8_miscount 48 = .ok (.lconst 0, 1) := by decide +kernel
theorem dX8_miscount_49 : decode cX8_miscount 49 = .ok (.lstore 7, 2) := by decide +kernel
theorem dX8_miscount_51 : decode cX8_miscount 51 = .ok (.iconst 0, 1) := by decide +kernel
theorem dX8_miscount_52 : decode cX8_miscount 52 = .ok (.istore 9, 2) := by decide +kernel
theorem dX8_miscount_54 : decode cX8_miscount 54 = .ok (.iload 9, 2) := by decide +kernel
theorem dX8_miscount_56 : decode cX8_miscount 56 = .ok (.iconst 1, 1) := by decide +kernel
theorem dX8_miscount_57 : decode cX8_miscount 57 = .ok (.iload 4, 2) := by decide +kernel
theorem dX8_miscount_59 : decode cX8_miscount 59 = .ok (.ishl, 1) := by decide +kernel
theorem dX8_miscount_60 : decode cX8_miscount 60 = .ok (.if_icmp .ge 145, 3) := by decide +kernel
theorem dX8_miscount_63 : decode cX8_miscount 63 = .ok (.lconst 1, 1) := by decide +kernel
theorem dX8_miscount_64 : decode cX8_miscount 64 = .ok (.lstore 10, 2) := by decide +kernel
theorem dX8_miscount_66 : decode cX8_miscount 66 = .ok (.aload_n 0, 1) := by decide +kernel
theorem dX8_miscount_67 : decode cX8_miscount 67 = .ok (.iconst 0, 1) := by decide +kernel
theorem dX8_miscount_68 : decode cX8_miscount 68 = .ok (.sipush 418, 3) := by decide +kernel
theorem dX8_miscount_71 : decode cX8_miscount 71 = .ok (.invokevirtual 214, 3) := by decide +kernel
theorem dX8_miscount_74 : decode cX8_miscount 74 = .ok (.iconst 0, 1) := by decide +kernel
theorem dX8_miscount_75 : decode cX8_miscount 75 = .ok (.istore 12, 2) := by decide +kernel
theorem dX8_miscount_77 : decode cX8_miscount 77 = .ok (.iload 12, 2) := by decide +kernel
theorem dX8_miscount_79 : decode cX8_miscount 79 = .ok (.iload 4, 2) := by decide +kernel
theorem dX8_miscount_81 : decode cX8_miscount 81 = .ok (.if_icmp .ge 82, 3) := by decide +kernel
theorem dX8_miscount_84 : decode cX8_miscount 84 = .ok (.lload 10, 2) := by decide +kernel
theorem dX8_miscount_86 : decode cX8_miscount 86 = .ok (.iload 9, 2) := by decide +kernel
theorem dX8_miscount_88 : decode cX8_miscount 88 = .ok (.iload 12, 2) := by decide +kernel
theorem dX8_miscount_90 : decode cX8_miscount 90 = .ok (.invokestatic 230, 3) := by decide +kernel
theorem dX8_miscount_93 : decode cX8_miscount 93 = .ok (.ifCond .eq 8, 3) := by decide +kernel
theorem dX8_miscount_96 : decode cX8_miscount 96 = .ok (.iload_n 2, 1) := by decide +kernel
theorem dX8_miscount_97 : decode cX8_miscount 97 = .ok (.i2l, 1) := by decide +kernel
theorem dX8_miscount_98 : decode cX8_miscount 98 = .ok (.goto 8, 3) := by decide +kernel
theorem dX8_miscount_101 : decode cX8_miscount 101 = .ok (.bipush 10, 2) := by decide +kernel
theorem dX8_miscount_103 : decode cX8_miscount 103 = .ok (.iload_n 2, 1) := by decide +kernel
theorem dX8_miscount_104 : decode cX8_miscount 104 = .ok (.isub, 1) := by decide +kernel
theorem dX8_miscount_105 : decode cX8_miscount 105 = .ok (.i2l, 1) := by decide +kernel
theorem dX8_miscount_106 : decode cX8_miscount 106 = .ok (.lmul, 1) := by decide +kernel
theorem dX8_miscount_107 : decode cX8_miscount 107 = .ok (.lstore 10, 2) := by decide +kernel
theorem dX8_miscount_109 : decode cX8_miscount 109 = .ok (.aload_n 0, 1) := by decide +kernel
theorem dX8_miscount_110 : decode cX8_miscount 110 = .ok (.getfield 46, 3) := by decide +kernel
theorem dX8_miscount_113 : decode cX8_miscount 113 = .ok (.sipush 418, 3) := by decide +kernel
theorem dX8_miscount_116 : decode cX8_miscount 116 = .ok (.iconst 4, 1) := by decide +kernel
theorem dX8_miscount_117 : decode cX8_miscount 117 = .ok (.iload 12, 2) := by decide +kernel
theorem dX8_miscount_119 : decode cX8_miscount 119 = .ok (.imul, 1) := by decide +kernel
theorem dX8_miscount_120 : decode cX8_miscount 120 = .ok (.iadd, 1) := by decide +kernel
theorem dX8_miscount_121 : decode cX8_miscount 121 = .ok (.iconst 3, 1) := by decide +kernel
theorem dX8_miscount_122 : decode cX8_miscount 122 = .ok (.iadd, 1) := by decide +kernel
theorem dX8_miscount_123 : decode cX8_miscount 123 = .ok (.iload 9, 2) := by decide +kernel
theorem dX8_miscount_125 : decode cX8_miscount 125 = .ok (.iload 12, 2) := by decide +kernel
theorem dX8_miscount_127 : decode cX8_miscount 127 = .ok (.invokestatic 230, 3) := by decide +kernel
theorem dX8_miscount_130 : decode cX8_miscount 130 = .ok (.ifCond .eq 19, 3) := by decide +kernel
theorem dX8_miscount_133 : decode cX8_miscount 133 = .ok (.aload_n 0, 1) := by decide +kernel
theorem dX8_miscount_134 : decode cX8_miscount 134 = .ok (.iconst 0, 1) := by decide +kernel
theorem dX8_miscount_135 : decode cX8_miscount 135 = .ok (.iload 12, 2) := by decide +kernel
theorem dX8_miscount_137 : decode cX8_miscount 137 = .ok (.invokevirtual 194, 3) := by decide +kernel
theorem dX8_miscount_140 : decode cX8_miscount 140 = .ok (.bipush 9, 2) := by decide +kernel
theorem dX8_miscount_142 : decode cX8_miscount 142 = .ok (.imul, 1) := by decide +kernel
theorem dX8_miscount_143 : decode cX8_miscount 143 = .ok (.bipush 10, 2) := by decide +kernel
theorem dX8_miscount_145 : decode cX8_miscount 145 = .ok (.idiv, 1) := by decide +kernel
theorem dX8_miscount_146 : decode cX8_miscount 146 = .ok (.goto 10, 3) := by decide +kernel
theorem dX8_miscount_149 : decode cX8_miscount 149 = .ok (.aload_n 0, 1) := by decide +kernel
theorem dX8_miscount_150 : decode cX8_miscount 150 = .ok (.iconst 0, 1) := by decide +kernel
theorem dX8_miscount_151 : decode cX8_miscount 151 = .ok (.iload 12, 2) := by decide +kernel
theorem dX8_miscount_153 : decode cX8_miscount 153 = .ok (.invokevirtual 194, 3) := by decide +kernel
theorem dX8_miscount_156 : decode cX8_miscount 156 = .ok (.iastore, 1) := by decide +kernel
theorem dX8_miscount_157 : decode cX8_miscount 157 = .ok (.iinc 12 1, 3) := by decide +kernel
theorem dX8_miscount_160 : decode cX8_miscount 160 = .ok (.goto (-83), 3) := by decide +kernel
theorem dX8_miscount_163 : decode cX8_miscount 163 = .ok (.lload 7, 2) := by decide +kernel
theorem dX8_miscount_165 : decode cX8_miscount 165 = .ok (.lload 10, 2) := by decide +kernel
theorem dX8_miscount_167 : decode cX8_miscount 167 = .ok (.ladd, 1) := by decide +kernel
theorem dX8_miscount_168 : decode cX8_miscount 168 = .ok (.lstore 7, 2) := by decide +kernel
theorem dX8_miscount_170 : decode cX8_miscount 170 = .ok (.lload 5, 2) := by decide +kernel
theorem dX8_miscount_172 : decode cX8_miscount 172 = .ok (.aload_n 0, 1) := by decide +kernel
theorem dX8_miscount_173 : decode cX8_miscount 173 = .ok (.aload_n 0, 1) := by decide +kernel
theorem dX8_miscount_174 : decode cX8_miscount 174 = .ok (.sipush 418, 3) := by decide +kernel
theorem dX8_miscount_177 : decode cX8_miscount 177 = .ok (.sipush 511, 3) := by decide +kernel
theorem dX8_miscount_180 : decode cX8_miscount 180 = .ok (.invokevirtual 233, 3) := by decide +kernel
theorem dX8_miscount_183 : decode cX8_miscount 183 = .ok (.iload_n 1, 1) := by decide +kernel
theorem dX8_miscount_184 : decode cX8_miscount 184 = .ok (.invokevirtual 247, 3) := by decide +kernel
theorem dX8_miscount_187 : decode cX8_miscount 187 = .ok (.ifCond .eq 8, 3) := by decide +kernel
theorem dX8_miscount_190 : decode cX8_miscount 190 = .ok (.lload 10, 2) := by decide +kernel
theorem dX8_miscount_192 : decode cX8_miscount 192 = .ok (.goto 4, 3) := by decide +kernel
theorem dX8_miscount_195 : decode cX8_miscount 195 = .ok (.lconst 0, 1) := by decide +kernel
theorem dX8_miscount_196 : decode cX8_miscount 196 = .ok (.ladd, 1) := by decide +kernel
theorem dX8_miscount_197 : decode cX8_miscount 197 = .ok (.lstore 5, 2) := by decide +kernel
theorem dX8_miscount_199 : decode cX8_miscount 199 = .ok (.iinc 9 1, 3) := by decide +kernel
theorem dX8_miscount_202 : decode cX8_miscount 202 = .ok (.goto (-148), 3) := by decide +kernel
theorem dX8_miscount_205 : decode cX8_miscount 205 = .ok (.lload 5, 2) := by decide +kernel
theorem dX8_miscount_207 : decode cX8_miscount 207 = .ok (.lstore 9, 2) := by decide +kernel
theorem dX8_miscount_209 : decode cX8_miscount 209 = .ok (.lload 7, 2) := by decide +kernel
theorem dX8_miscount_211 : decode cX8_miscount 211 = .ok (.lstore 11, 2) := by decide +kernel
theorem dX8_miscount_213 : decode cX8_miscount 213 = .ok (.lload 11, 2) := by decide +kernel
theorem dX8_miscount_215 : decode cX8_miscount 215 = .ok (.lconst 0, 1) := by decide +kernel
theorem dX8_miscount_216 : decode cX8_miscount 216 = .ok (.lcmp, 1) := by decide +kernel
theorem dX8_miscount_217 : decode cX8_miscount 217 = .ok (.ifCond .eq 21, 3) := by decide +kernel
theorem dX8_miscount_220 : decode cX8_miscount 220 = .ok (.lload 9, 2) := by decide +kernel
theorem dX8_miscount_222 : decode cX8_miscount 222 = .ok (.lload 11, 2) := by decide +kernel
theorem dX8_miscount_224 : decode cX8_miscount 224 = .ok (.lrem, 1) := by decide +kernel
theorem dX8_miscount_225 : decode cX8_miscount 225 = .ok (.lstore 13, 2) := by decide +kernel
theorem dX8_miscount_227 : decode cX8_miscount 227 = .ok (.lload 11, 2) := by decide +kernel
theorem dX8_miscount_229 : decode cX8_miscount 229 = .ok (.lstore 9, 2) := by decide +kernel
theorem dX8_miscount_231 : decode cX8_miscount 231 = .ok (.lload 13, 2) := by decide +kernel
theorem dX8_miscount_233 : decode cX8_miscount 233 = .ok (.lstore 11, 2) := by decide +kernel
theorem dX8_miscount_235 : decode cX8_miscount 235 = .ok (.goto (-22), 3) := by decide +kernel
theorem dX8_miscount_238 : decode cX8_miscount 238 = .ok (.iload_n 3, 1) := by decide +kernel
theorem dX8_miscount_239 : decode cX8_miscount 239 = .ok (.ifCond .ne 11, 3) := by decide +kernel
theorem dX8_miscount_242 : decode cX8_miscount 242 = .ok (.lload 5, 2) := by decide +kernel
theorem dX8_miscount_244 : decode cX8_miscount 244 = .ok (.lload 9, 2) := by decide +kernel
theorem dX8_miscount_246 : decode cX8_miscount 246 = .ok (.ldiv, 1) := by decide +kernel
theorem dX8_miscount_247 : decode cX8_miscount 247 = .ok (.goto 8, 3) := by decide +kernel
theorem dX8_miscount_250 : decode cX8_miscount 250 = .ok (.lload 7, 2) := by decide +kernel
theorem dX8_miscount_252 : decode cX8_miscount 252 = .ok (.lload 9, 2) := by decide +kernel
theorem dX8_miscount_254 : decode cX8_miscount 254 = .ok (.ldiv, 1) := by decide +kernel
theorem dX8_miscount_255 : decode cX8_miscount 255 = .ok (.l2i, 1) := by decide +kernel
theorem dX8_miscount_256 : decode cX8_miscount 256 = .ok (.ireturn, 1) := by decide +kernel
theorem dX8_year_0 : decode cX8_year 0 = .ok (.iload_n 1, 1) := by decide +kernel
theorem dX8_year_1 : decode cX8_year 1 = .ok (.i2l, 1) := by decide +kernel
theorem dX8_year_2 : decode cX8_year 2 = .ok (.lconst 0, 1) := by decide +kernel
theorem dX8_year_3 : decode cX8_year 3 = .ok (.ldc2_w 258, 3) := by decide +kernel
theorem dX8_year_6 : decode cX8_year 6 = .ok (.invokestatic 101, 3) := by decide +kernel
theorem dX8_year_9 : decode cX8_year 9 = .ok (.ifCond .eq 25, 3) := by decide +kernel
theorem dX8_year_12 : decode cX8_year 12 = .ok (.iload_n 2, 1) := by decide +kernel
theorem dX8_year_13 : decode cX8_year 13 = .ok (.i2l, 1) := by decide +kernel
theorem dX8_year_14 : decode cX8_year 14 = .ok (.lconst 1, 1) := by decide +kernel
theorem dX8_year_15 : decode cX8_year 15 = .ok (.ldc2_w 268, 3) := by decide +kernel
theorem dX8_year_18 : decode cX8_year 18 = .ok (.invokestatic 101, 3) := by decide +kernel
theorem dX8_year_21 : decode cX8_year 21 = .ok (.ifCond .eq 13, 3) := by decide +kernel
theorem dX8_year_24 : decode cX8_year 24 = .ok (.iload_n 3, 1) := by decide +kernel
theorem dX8_year_25 : decode cX8_year 25 = .ok (.i2l, 1) := by decide +kernel
theorem dX8_year_26 : decode cX8_year 26 = .ok (.lconst 0, 1) := by decide +kernel
theorem dX8_year_27 : decode cX8_year 27 = .ok (.lconst 1, 1) := by decide +kernel
theorem dX8_year_28 : decode cX8_year 28 = .ok (.invokestatic 101, 3) := by decide +kernel
theorem dX8_year_31 : decode cX8_year 31 = .ok (.ifCond .ne 5, 3) := by decide +kernel
theorem dX8_year_34 : decode cX8_year 34 = .ok (.iconst (-1), 1) := by decide +kernel
theorem dX8_year_35 : decode cX8_year 35 = .ok (.ireturn, 1) := by decide +kernel
theorem dX8_year_36 : decode cX8_year 36 = .ok (.aload_n 0, 1) := by decide +kernel
theorem dX8_year_37 : decode cX8_year 37 = .ok (.iconst 0, 1) := by decide +kernel
theorem dX8_year_38 : decode cX8_year 38 = .ok (.sipush 418, 3) := by decide +kernel
theorem dX8_year_41 : decode cX8_year 41 = .ok (.invokevirtual 214, 3) := by decide +kernel
theorem dX8_year_44 : decode cX8_year 44 = .ok (.iconst 0, 1) := by decide +kernel
theorem dX8_year_45 : decode cX8_year 45 = .ok (.istore 4, 2) := by decide +kernel
theorem dX8_year_47 : decode cX8_year 47 = .ok (.iconst 0, 1) := by decide +kernel
theorem dX8_year_48 : decode cX8_year 48 = .ok (.istore 5, 2) := by decide +kernel
theorem dX8_year_50 : decode cX8_year 50 = .ok (.iload 5, 2) := by decide +kernel
theorem dX8_year_52 : decode cX8_year 52 = .ok (.iload_n 2, 1) := by decide +kernel
theorem dX8_year_53 : decode cX8_year 53 = .ok (.if_icmp .ge 113, 3) := by decide +kernel
theorem dX8_year_56 : decode cX8_year 56 = .ok (.ldc2_w 270, 3) := by decide +kernel
theorem dX8_year_59 : decode cX8_year 59 = .ok (.iload_n 1, 1) := by decide +kernel
theorem dX8_year_60 : decode cX8_year 60 = .ok (.i2l, 1) := by decide +kernel
theorem dX8_year_61 : decode cX8_year 61 = .ok (.lmul, 1) := by decide +kernel
theorem dX8_year_62 : decode cX8_year 62 = .ok (.ldc2_w 272, 3) := by decide +kernel
theorem dX8_year_65 : decode cX8_year 65 = .ok (.iload 5, 2) := by decide +kernel
theorem dX8_year_67 : decode cX8_year 67 = .ok (.i2l, 1) := by decide +kernel
theorem dX8_year_68 : decode cX8_year 68 = .ok (.lmul, 1) := by decide +kernel
theorem dX8_year_69 : decode cX8_year 69 = .ok (.ladd, 1) := by decide +kernel
theorem dX8_year_70 : decode cX8_year 70 = .ok (.lconst 1, 1) := by decide +kernel
theorem dX8_year_71 : decode cX8_year 71 = .ok (.ladd, 1) := by decide +kernel
theorem dX8_year_72 : decode cX8_year 72 = .ok (.lstore 6, 2) := by decide +kernel
theorem dX8_year_74 : decode cX8_year 74 = .ok (.lload 6, 2) := by decide +kernel
theorem dX8_year_76 : decode cX8_year 76 = .ok (.lload 6, 2) := by decide +kernel
theorem dX8_year_78 : decode cX8_year 78 = .ok (.lmul, 1) := by decide +kernel
theorem dX8_year_79 : decode cX8_year 79 = .ok (.ldc2_w 274, 3) := by decide +kernel
theorem dX8_year_82 : decode cX8_year 82 = .ok (.lrem, 1) := by decide +kernel
theorem dX8_year_83 : decode cX8_year 83 = .ok (.l2i, 1) := by decide +kernel
theorem dX8_year_84 : decode cX8_year 84 = .ok (.istore 8, 2) := by decide +kernel
theorem dX8_year_86 : decode cX8_year 86 = .ok (.iload 8, 2) := by decide +kernel
theorem dX8_year_88 : decode cX8_year 88 = .ok (.iconst 4, 1) := by decide +kernel
theorem dX8_year_89 : decode cX8_year 89 = .ok (.idiv, 1) := by decide +kernel
theorem dX8_year_90 : decode cX8_year 90 = .ok (.aload_n 0, 1) := by decide +kernel
theorem dX8_year_91 : decode cX8_year 91 = .ok (.getfield 95, 3) := by decide +kernel
theorem dX8_year_94 : decode cX8_year 94 = .ok (.irem, 1) := by decide +kernel
theorem dX8_year_95 : decode cX8_year 95 = .ok (.istore 9, 2) := by decide +kernel
theorem dX8_year_97 : decode cX8_year 97 = .ok (.iload 8, 2) := by decide +kernel
theorem dX8_year_99 : decode cX8_year 99 = .ok (.bipush 32, 2) := by decide +kernel
theorem dX8_year_101 : decode cX8_year 101 = .ok (.idiv, 1) := by decide +kernel
theorem dX8_year_102 : decode cX8_year 102 = .ok (.aload_n 0, 1) := by decide +kernel
theorem dX8_year_103 : decode cX8_year 103 = .ok (.getfield 95, 3) := by decide +kernel
theorem dX8_year_106 : decode cX8_year 106 = .ok (.irem, 1) := by decide +kernel
theorem dX8_year_107 : decode cX8_year 107 = .ok (.istore 10, 2) := by decide +kernel
theorem dX8_year_109 : decode cX8_year 109 = .ok (.iload 9, 2) := by decide +kernel
theorem dX8_year_111 : decode cX8_year 111 = .ok (.iload 10, 2) := by decide +kernel
theorem dX8_year_113 : decode cX8_year 113 = .ok (.if_icmp .eq 47, 3) := by decide +kernel
theorem dX8_year_116 : decode cX8_year 116 = .ok (.aload_n 0, 1) := by decide +kernel
theorem dX8_year_117 : decode cX8_year 117 = .ok (.getfield 46, 3) := by decide +kernel
theorem dX8_year_120 : decode cX8_year 120 = .ok (.sipush 454, 3) := by decide +kernel
theorem dX8_year_123 : decode cX8_year 123 = .ok (.iaload, 1) := by decide +kernel
theorem dX8_year_124 : decode cX8_year 124 = .ok (.bipush 9, 2) := by decide +kernel
theorem dX8_year_126 : decode cX8_year 126 = .ok (.if_icmp .ne 11, 3) := by decide +kernel
theorem dX8_year_129 : decode cX8_year 129 = .ok (.aload_n 0, 1) := by decide +kernel
theorem dX8_year_130 : decode cX8_year 130 = .ok (.sipush 418, 3) := by decide +kernel
theorem dX8_year_133 : decode cX8_year 133 = .ok (.iconst 0, 1) := by decide +kernel
theorem dX8_year_134 : decode cX8_year 134 = .ok (.invokevirtual 227, 3) := by decide +kernel
theorem dX8_year_137 : decode cX8_year 137 = .ok (.iload 4, 2) := by decide +kernel
theorem dX8_year_139 : decode cX8_year 139 = .ok (.aload_n 0, 1) := by decide +kernel
theorem dX8_year_140 : decode cX8_year 140 = .ok (.sipush 418, 3) := by decide +kernel
theorem dX8_year_143 : decode cX8_year 143 = .ok (.iload 8, 2) := by decide +kernel
theorem dX8_year_145 : decode cX8_year 145 = .ok (.aload_n 0, 1) := by decide +kernel
theorem dX8_year_146 : decode cX8_year 146 = .ok (.getfield 98, 3) := by decide +kernel
theorem dX8_year_149 : decode cX8_year 149 = .ok (.irem, 1) := by decide +kernel
theorem dX8_year_150 : decode cX8_year 150 = .ok (.iload 9, 2) := by decide +kernel
theorem dX8_year_152 : decode cX8_year 152 = .ok (.iload 10, 2) := by decide +kernel
theorem dX8_year_154 : decode cX8_year 154 = .ok (.invokevirtual 224, 3) := by decide +kernel
theorem dX8_year_157 : decode cX8_year 157 = .ok (.iadd, 1) := by decide +kernel
theorem dX8_year_158 : decode cX8_year 158 = .ok (.istore 4, 2) := by decide +kernel
theorem dX8_year_160 : decode cX8_year 160 = .ok (.iinc 5 1, 3) := by decide +kernel
theorem dX8_year_163 : decode cX8_year 163 = .ok (.goto (-113), 3) := by decide +kernel
theorem dX8_year_166 : decode cX8_year 166 = .ok (.iload 4, 2) := by decide +kernel
theorem dX8_year_168 : decode cX8_year 168 = .ok (.ifCond .ge 8, 3) := by decide +kernel
theorem dX8_year_171 : decode cX8_year 171 = .ok (.bipush (-2), 2) := by decide +kernel
theorem dX8_year_173 : decode cX8_year 173 = .ok (.goto 36, 3) := by decide +kernel
theorem dX8_year_176 : decode cX8_year 176 = .ok (.iload_n 3, 1) := by decide +kernel
theorem dX8_year_177 : decode cX8_year 177 = .ok (.ifCond .ne 16, 3) := by decide +kernel
theorem dX8_year_180 : decode cX8_year 180 = .ok (.aload_n 0, 1) := by decide +kernel
theorem dX8_year_181 : decode cX8_year 181 = .ok (.sipush 418, 3) := by decide +kernel
theorem dX8_year_184 : decode cX8_year 184 = .ok (.sipush 511, 3) := by decide +kernel
theorem dX8_year_187 : decode cX8_year 187 = .ok (.invokevirtual 233, 3) := by decide +kernel
theorem dX8_year_190 : decode cX8_year 190 = .ok (.goto 19, 3) := by decide +kernel
theorem dX8_year_193 : decode cX8_year 193 = .ok (.aload_n 0, 1) := by decide +kernel
theorem dX8_year_194 : decode cX8_year 194 = .ok (.getfield 46, 3) := by decide +kernel
theorem dX8_year_197 : decode cX8_year 197 = .ok (.sipush 455, 3) := by decide +kernel
theorem dX8_year_200 : decode cX8_year 200 = .ok (.iaload, 1) := by decide +kernel
theorem dX8_year_201 : decode cX8_year 201 = .ok (.aload_n 0, 1) := by decide +kernel
theorem dX8_year_202 : decode cX8_year 202 = .ok (.getfield 46, 3) := by decide +kernel
theorem dX8_year_205 : decode cX8_year 205 = .ok (.bipush 37, 2) := by decide +kernel
theorem dX8_year_207 : decode cX8_year 207 = .ok (.iaload, 1) := by decide +kernel
theorem dX8_year_208 : decode cX8_year 208 = .ok (.isub, 1) := by decide +kernel
theorem dX8_year_209 : decode cX8_year 209 = .ok (.ireturn, 1) := by decide +kernel
theorem dX8_keep_0 : decode cX8_keep 0 = .ok (.aload_n 0, 1) := by decide +kernel
theorem dX8_keep_1 : decode cX8_keep 1 = .ok (.getfield 152, 3) := by decide +kernel
theorem dX8_keep_4 : decode cX8_keep 4 = .ok (.iconst 2, 1) := by decide +kernel
theorem dX8_keep_5 : decode cX8_keep 5 = .ok (.if_icmp .ne 6, 3) := by decide +kernel
theorem dX8_keep_8 : decode cX8_keep 8 = .ok (.bipush (-3), 2) := by decide +kernel
theorem dX8_keep_10 : decode cX8_keep 10 = .ok (.ireturn, 1) := by decide +kernel
theorem dX8_keep_11 : decode cX8_keep 11 = .ok (.aload_n 0, 1) := by decide +kernel
theorem dX8_keep_12 : decode cX8_keep 12 = .ok (.iconst 0, 1) := by decide +kernel
theorem dX8_keep_13 : decode cX8_keep 13 = .ok (.bipush 9, 2) := by decide +kernel
theorem dX8_keep_15 : decode cX8_keep 15 = .ok (.aload_n 0, 1) := by decide +kernel
theorem dX8_keep_16 : decode cX8_keep 16 = .ok (.getfield 152, 3) := by decide +kernel
theorem dX8_keep_19 : decode cX8_keep 19 = .ok (.iadd, 1) := by decide +kernel
theorem dX8_keep_20 : decode cX8_keep 20 = .ok (.bipush 38, 2) := by decide +kernel
theorem dX8_keep_22 : decode cX8_keep 22 = .ok (.imul, 1) := by decide +kernel
theorem dX8_keep_23 : decode cX8_keep 23 = .ok (.invokevirtual 214, 3) := by decide +kernel
theorem dX8_keep_26 : decode cX8_keep 26 = .ok (.aload_n 0, 1) := by decide +kernel
theorem dX8_keep_27 : decode cX8_keep 27 = .ok (.dup, 1) := by decide +kernel
theorem dX8_keep_28 : decode cX8_keep 28 = .ok (.getfield 152, 3) := by decide +kernel
theorem dX8_keep_31 : decode cX8_keep 31 = .ok (.iconst 1, 1) := by decide +kernel
theorem dX8_keep_32 : decode cX8_keep 32 = .ok (.iadd, 1) := by decide +kernel
theorem dX8_keep_33 : decode cX8_keep 33 = .ok (.putfield 152, 3) := by decide +kernel
theorem dX8_keep_36 : decode cX8_keep 36 = .ok (.aload_n 0, 1) := by decide +kernel
theorem dX8_keep_37 : decode cX8_keep 37 = .ok (.getfield 152, 3) := by decide +kernel
theorem dX8_keep_40 : decode cX8_keep 40 = .ok (.ireturn, 1) := by decide +kernel
theorem dX8_back_0 : decode cX8_back 0 = .ok (.aload_n 0, 1) := by decide +kernel
theorem dX8_back_1 : decode cX8_back 1 = .ok (.getfield 152, 3) := by decide +kernel
theorem dX8_back_4 : decode cX8_back 4 = .ok (.ifCond .ne 6, 3) := by decide +kernel
theorem dX8_back_7 : decode cX8_back 7 = .ok (.bipush (-2), 2) := by decide +kernel
theorem dX8_back_9 : decode cX8_back 9 = .ok (.ireturn, 1) := by decide +kernel
theorem dX8_back_10 : decode cX8_back 10 = .ok (.aload_n 0, 1) := by decide +kernel
theorem dX8_back_11 : decode cX8_back 11 = .ok (.dup, 1) := by decide +kernel
theorem dX8_back_12 : decode cX8_back 12 = .ok (.getfield 152, 3) := by decide +kernel
theorem dX8_back_15 : decode cX8_back 15 = .ok (.iconst 1, 1) := by decide +kernel
theorem dX8_back_16 : decode cX8_back 16 = .ok (.isub, 1) := by decide +kernel
theorem dX8_back_17 : decode cX8_back 17 = .ok (.putfield 152, 3) := by decide +kernel
theorem dX8_back_20 : decode cX8_back 20 = .ok (.aload_n 0, 1) := by decide +kernel
theorem dX8_back_21 : decode cX8_back 21 = .ok (.bipush 9, 2) := by decide +kernel
theorem dX8_back_23 : decode cX8_back 23 = .ok (.aload_n 0, 1) := by decide +kernel
theorem dX8_back_24 : decode cX8_back 24 = .ok (.getfield 152, 3) := by decide +kernel
theorem dX8_back_27 : decode cX8_back 27 = .ok (.iadd, 1) := by decide +kernel
theorem dX8_back_28 : decode cX8_back 28 = .ok (.bipush 38, 2) := by decide +kernel
theorem dX8_back_30 : decode cX8_back 30 = .ok (.imul, 1) := by decide +kernel
theorem dX8_back_31 : decode cX8_back 31 = .ok (.iconst 0, 1) := by decide +kernel
theorem dX8_back_32 : decode cX8_back 32 = .ok (.invokevirtual 214, 3) := by decide +kernel
theorem dX8_back_35 : decode cX8_back 35 = .ok (.aload_n 0, 1) := by decide +kernel
theorem dX8_back_36 : decode cX8_back 36 = .ok (.iconst 0, 1) := by decide +kernel
theorem dX8_back_37 : decode cX8_back 37 = .ok (.putfield 149, 3) := by decide +kernel
theorem dX8_back_40 : decode cX8_back 40 = .ok (.aload_n 0, 1) := by decide +kernel
theorem dX8_back_41 : decode cX8_back 41 = .ok (.getfield 152, 3) := by decide +kernel
theorem dX8_back_44 : decode cX8_back 44 = .ok (.ireturn, 1) := by decide +kernel
theorem dX8_count_0 : decode cX8_count 0 = .ok (.iload_n 1, 1) := by decide +kernel
theorem dX8_count_1 : decode cX8_count 1 = .ok (.ifCond .ne 10, 3) := by decide +kernel
theorem dX8_count_4 : decode cX8_count 4 = .ok (.aload_n 0, 1) := by decide +kernel
theorem dX8_count_5 : decode cX8_count 5 = .ok (.getfield 95, 3) := by decide +kernel
theorem dX8_count_8 : decode cX8_count 8 = .ok (.goto 109, 3) := by decide +kernel
theorem dX8_count_11 : decode cX8_count 11 = .ok (.iload_n 1, 1) := by decide +kernel
theorem dX8_count_12 : decode cX8_count 12 = .ok (.iconst 1, 1) := by decide +kernel
theorem dX8_count_13 : decode cX8_count 13 = .ok (.if_icmp .ne 10, 3) := by decide +kernel
theorem dX8_count_16 : decode cX8_count 16 = .ok (.aload_n 0, 1) := by decide +kernel
theorem dX8_count_17 : decode cX8_count 17 = .ok (.getfield 98, 3) := by decide +kernel
theorem dX8_count_20 : decode cX8_count 20 = .ok (.goto 97, 3) := by decide +kernel
theorem dX8_count_23 : decode cX8_count 23 = .ok (.iload_n 1, 1) := by decide +kernel
theorem dX8_count_24 : decode cX8_count 24 = .ok (.iconst 2, 1) := by decide +kernel
theorem dX8_count_25 : decode cX8_count 25 = .ok (.if_icmp .ne 10, 3) := by decide +kernel
theorem dX8_count_28 : decode cX8_count 28 = .ok (.aload_n 0, 1) := by decide +kernel
theorem dX8_count_29 : decode cX8_count 29 = .ok (.getfield 92, 3) := by decide +kernel
theorem dX8_count_32 : decode cX8_count 32 = .ok (.goto 85, 3) := by decide +kernel
theorem dX8_count_35 : decode cX8_count 35 = .ok (.iload_n 1, 1) := by decide +kernel
theorem dX8_count_36 : decode cX8_count 36 = .ok (.iconst 3, 1) := by decide +kernel
theorem dX8_count_37 : decode cX8_count 37 = .ok (.if_icmp .ne 13, 3) := by decide +kernel
theorem dX8_count_40 : decode cX8_count 40 = .ok (.aload_n 0, 1) := by decide +kernel
theorem dX8_count_41 : decode cX8_count 41 = .ok (.getfield 46, 3) := by decide +kernel
theorem dX8_count_44 : decode cX8_count 44 = .ok (.bipush 36, 2) := by decide +kernel
theorem dX8_count_46 : decode cX8_count 46 = .ok (.iaload, 1) := by decide +kernel
theorem dX8_count_47 : decode cX8_count 47 = .ok (.goto 70, 3) := by decide +kernel
theorem dX8_count_50 : decode cX8_count 50 = .ok (.iload_n 1, 1) := by decide +kernel
theorem dX8_count_51 : decode cX8_count 51 = .ok (.iconst 4, 1) := by decide +kernel
theorem dX8_count_52 : decode cX8_count 52 = .ok (.if_icmp .ne 13, 3) := by decide +kernel
theorem dX8_count_55 : decode cX8_count 55 = .ok (.aload_n 0, 1) := by decide +kernel
theorem dX8_count_56 : decode cX8_count 56 = .ok (.getfield 46, 3) := by decide +kernel
theorem dX8_count_59 : decode cX8_count 59 = .ok (.bipush 37, 2) := by decide +kernel
theorem dX8_count_61 : decode cX8_count 61 = .ok (.iaload, 1) := by decide +kernel
theorem dX8_count_62 : decode cX8_count 62 = .ok (.goto 55, 3) := by decide +kernel
theorem dX8_count_65 : decode cX8_count 65 = .ok (.iload_n 1, 1) := by decide +kernel
theorem dX8_count_66 : decode cX8_count 66 = .ok (.iconst 5, 1) := by decide +kernel
theorem dX8_count_67 : decode cX8_count 67 = .ok (.if_icmp .ne 10, 3) := by decide +kernel
theorem dX8_count_70 : decode cX8_count 70 = .ok (.aload_n 0, 1) := by decide +kernel
theorem dX8_count_71 : decode cX8_count 71 = .ok (.getfield 155, 3) := by decide +kernel
theorem dX8_count_74 : decode cX8_count 74 = .ok (.goto 43, 3) := by decide +kernel
theorem dX8_count_77 : decode cX8_count 77 = .ok (.iload_n 1, 1) := by decide +kernel
theorem dX8_count_78 : decode cX8_count 78 = .ok (.bipush 6, 2) := by decide +kernel
theorem dX8_count_80 : decode cX8_count 80 = .ok (.if_icmp .ne 10, 3) := by decide +kernel
theorem dX8_count_83 : decode cX8_count 83 = .ok (.aload_n 0, 1) := by decide +kernel
theorem dX8_count_84 : decode cX8_count 84 = .ok (.getfield 149, 3) := by decide +kernel
theorem dX8_count_87 : decode cX8_count 87 = .ok (.goto 30, 3) := by decide +kernel
theorem dX8_count_90 : decode cX8_count 90 = .ok (.iload_n 1, 1) := by decide +kernel
theorem dX8_count_91 : decode cX8_count 91 = .ok (.bipush 7, 2) := by decide +kernel
theorem dX8_count_93 : decode cX8_count 93 = .ok (.if_icmp .ne 10, 3) := by decide +kernel
theorem dX8_count_96 : decode cX8_count 96 = .ok (.aload_n 0, 1) := by decide +kernel
theorem dX8_count_97 : decode cX8_count 97 = .ok (.getfield 152, 3) := by decide +kernel
theorem dX8_count_100 : decode cX8_count 100 = .ok (.goto 17, 3) := by decide +kernel
theorem dX8_count_103 : decode cX8_count 103 = .ok (.iload_n 1, 1) := by decide +kernel
theorem dX8_count_104 : decode cX8_count 104 = .ok (.bipush 8, 2) := by decide +kernel
theorem dX8_count_106 : decode cX8_count 106 = .ok (.if_icmp .ne 10, 3) := by decide +kernel
theorem dX8_count_109 : decode cX8_count 109 = .ok (.aload_n 0, 1) := by decide +kernel
theorem dX8_count_110 : decode cX8_count 110 = .ok (.getfield 113, 3) := by decide +kernel
theorem dX8_count_113 : decode cX8_count 113 = .ok (.goto 4, 3) := by decide +kernel
theorem dX8_count_116 : decode cX8_count 116 = .ok (.iconst (-1), 1) := by decide +kernel
theorem dX8_count_117 : decode cX8_count 117 = .ok (.ireturn, 1) := by decide +kernel
