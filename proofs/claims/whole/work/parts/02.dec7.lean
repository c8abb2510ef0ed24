theorem dX7_init_0 : decode cX7_init 0 = .ok (.aload_n 0, 1) := by decide +kernel
theorem dX7_init_1 : decode cX7_init 1 = .ok (.invokespecial 3, 3) := by decide +kernel
theorem dX7_init_4 : decode cX7_init 4 = .ok (.aload_n 0, 1) := by decide +kernel
theorem dX7_init_5 : decode cX7_init 5 = .ok (.new 9, 3) := by decide +kernel
theorem dX7_init_8 : decode cX7_init 8 = .ok (.dup, 1) := by decide +kernel
theorem dX7_init_9 : decode cX7_init 9 = .ok (.invokespecial 11, 3) := by decide +kernel
theorem dX7_init_12 : decode cX7_init 12 = .ok (.putfield 12, 3) := by decide +kernel
theorem dX7_init_15 : decode cX7_init 15 = .ok (.aload_n 0, 1) := by decide +kernel
theorem dX7_init_16 : decode cX7_init 16 = .ok (.new 16, 3) := by decide +kernel
theorem dX7_init_19 : decode cX7_init 19 = .ok (.dup, 1) := by decide +kernel
theorem dX7_init_20 : decode cX7_init 20 = .ok (.invokespecial 18, 3) := by decide +kernel
theorem dX7_init_23 : decode cX7_init 23 = .ok (.putfield 19, 3) := by decide +kernel
theorem dX7_init_26 : decode cX7_init 26 = .ok (.aload_n 0, 1) := by decide +kernel
theorem dX7_init_27 : decode cX7_init 27 = .ok (.new 23, 3) := by decide +kernel
theorem dX7_init_30 : decode cX7_init 30 = .ok (.dup, 1) := by decide +kernel
theorem dX7_init_31 : decode cX7_init 31 = .ok (.invokespecial 25, 3) := by decide +kernel
theorem dX7_init_34 : decode cX7_init 34 = .ok (.putfield 26, 3) := by decide +kernel
theorem dX7_init_37 : decode cX7_init 37 = .ok (.aload_n 0, 1) := by decide +kernel
theorem dX7_init_38 : decode cX7_init 38 = .ok (.new 23, 3) := by decide +kernel
theorem dX7_init_41 : decode cX7_init 41 = .ok (.dup, 1) := by decide +kernel
theorem dX7_init_42 : decode cX7_init 42 = .ok (.invokespecial 25, 3) := by decide +kernel
theorem dX7_init_45 : decode cX7_init 45 = .ok (.putfield 30, 3) := by decide +kernel
theorem dX7_init_48 : decode cX7_init 48 = .ok (.aload_n 0, 1) := by decide +kernel
theorem dX7_init_49 : decode cX7_init 49 = .ok (.new 23, 3) := by decide +kernel
theorem dX7_init_52 : decode cX7_init 52 = .ok (.dup, 1) := by decide +kernel
theorem dX7_init_53 : decode cX7_init 53 = .ok (.invokespecial 25, 3) := by decide +kernel
theorem dX7_init_56 : decode cX7_init 56 = .ok (.putfield 33, 3) := by decide +kernel
theorem dX7_init_59 : decode cX7_init 59 = .ok (.aload_n 0, 1) := by decide +kernel
theorem dX7_init_60 : decode cX7_init 60 = .ok (.new 23, 3) := by decide +kernel
theorem dX7_init_63 : decode cX7_init 63 = .ok (.dup, 1) := by decide +kernel
theorem dX7_init_64 : decode cX7_init 64 = .ok (.invokespecial 25, 3) := by decide +kernel
theorem dX7_init_67 : decode cX7_init 67 = .ok (.putfield 36, 3) := by decide +kernel
theorem dX7_init_70 : decode cX7_init 70 = .ok (.aload_n 0, 1) := by decide +kernel
theorem dX7_init_71 : decode cX7_init 71 = .ok (.new 39, 3) := by decide +kernel
theorem dX7_init_74 : decode cX7_init 74 = .ok (.dup, 1) := by decide +kernel
theorem dX7_init_75 : decode cX7_init 75 = .ok (.invokespecial 41, 3) := by decide +kernel
theorem dX7_init_78 : decode cX7_init 78 = .ok (.putfield 42, 3) := by decide +kernel
theorem dX7_init_81 : decode cX7_init 81 = .ok (.aload_n 0, 1) := by decide +kernel
theorem dX7_init_82 : decode cX7_init 82 = .ok (.new 46, 3) := by decide +kernel
theorem dX7_init_85 : decode cX7_init 85 = .ok (.dup, 1) := by decide +kernel
theorem dX7_init_86 : decode cX7_init 86 = .ok (.invokespecial 48, 3) := by decide +kernel
theorem dX7_init_89 : decode cX7_init 89 = .ok (.putfield 49, 3) := by decide +kernel
theorem dX7_init_92 : decode cX7_init 92 = .ok (.aload_n 0, 1) := by decide +kernel
theorem dX7_init_93 : decode cX7_init 93 = .ok (.new 53, 3) := by decide +kernel
theorem dX7_init_96 : decode cX7_init 96 = .ok (.dup, 1) := by decide +kernel
theorem dX7_init_97 : decode cX7_init 97 = .ok (.invokespecial 55, 3) := by decide +kernel
theorem dX7_init_100 : decode cX7_init 100 = .ok (.putfield 56, 3) := by decide +kernel
theorem dX7_init_103 : decode cX7_init 103 = .ok (.aload_n 0, 1) := by decide +kernel
theorem dX7_init_104 : decode cX7_init 104 = .ok (.new 60, 3) := by decide +kernel
theorem dX7_init_107 : decode cX7_init 107 = .ok (.dup, 1) := by decide +kernel
theorem dX7_init_108 : decode cX7_init 108 = .ok (.invokespecial 62, 3) := by decide +kernel
theorem dX7_init_111 : decode cX7_init 111 = .ok (.putfield 63, 3) := by decide +kernel
theorem dX7_init_114 : decode cX7_init 114 = .ok (.aload_n 0, 1) := by decide +kernel
theorem dX7_init_115 : decode cX7_init 115 = .ok (.new 60, 3) := by decide +kernel
theorem dX7_init_118 : decode cX7_init 118 = .ok (.dup, 1) := by decide +kernel
theorem dX7_init_119 : decode cX7_init 119 = .ok (.invokespecial 62, 3) := by decide +kernel
theorem dX7_init_122 : decode cX7_init 122 = .ok (.putfield 67, 3) := by decide +kernel
theorem dX7_init_125 : decode cX7_init 125 = .ok (.aload_n 0, 1) := by decide +kernel
theorem dX7_init_126 : decode cX7_init 126 = .ok (.iconst 0, 1) := by decide +kernel
theorem dX7_init_127 : decode cX7_init 127 = .ok (.putfield 70, 3) := by decide +kernel
theorem dX7_init_130 : decode cX7_init 130 = .ok (.iconst 0, 1) := by decide +kernel
theorem dX7_init_131 : decode cX7_init 131 = .ok (.istore_n 1, 1) := by decide +kernel
theorem dX7_init_132 : decode cX7_init 132 = .ok (.iload_n 1, 1) := by decide +kernel
theorem dX7_init_133 : decode cX7_init 133 = .ok (.ldc 74, 2) := by decide +kernel
theorem dX7_init_135 : decode cX7_init 135 = .ok (.invokevirtual 76, 3) := by decide +kernel
theorem dX7_init_138 : decode cX7_init 138 = .ok (.if_icmp .ge 22, 3) := by decide +kernel
theorem dX7_init_141 : decode cX7_init 141 = .ok (.aload_n 0, 1) := by decide +kernel
theorem dX7_init_142 : decode cX7_init 142 = .ok (.getfield 12, 3) := by decide +kernel
theorem dX7_init_145 : decode cX7_init 145 = .ok (.ldc 74, 2) := by decide +kernel
theorem dX7_init_147 : decode cX7_init 147 = .ok (.iload_n 1, 1) := by decide +kernel
theorem dX7_init_148 : decode cX7_init 148 = .ok (.invokevirtual 82, 3) := by decide +kernel
theorem dX7_init_151 : decode cX7_init 151 = .ok (.invokevirtual 86, 3) := by decide +kernel
theorem dX7_init_154 : decode cX7_init 154 = .ok (.iinc 1 1, 3) := by decide +kernel
theorem dX7_init_157 : decode cX7_init 157 = .ok (.goto (-25), 3) := by decide +kernel
theorem dX7_init_160 : decode cX7_init 160 = .ok (.aload_n 0, 1) := by decide +kernel
theorem dX7_init_161 : decode cX7_init 161 = .ok (.getfield 19, 3) := by decide +kernel
theorem dX7_init_164 : decode cX7_init 164 = .ok (.aload_n 0, 1) := by decide +kernel
theorem dX7_init_165 : decode cX7_init 165 = .ok (.getfield 12, 3) := by decide +kernel
theorem dX7_init_168 : decode cX7_init 168 = .ok (.aload_n 0, 1) := by decide +kernel
theorem dX7_init_169 : decode cX7_init 169 = .ok (.getfield 63, 3) := by decide +kernel
theorem dX7_init_172 : decode cX7_init 172 = .ok (.invokevirtual 90, 3) := by decide +kernel
theorem dX7_init_175 : decode cX7_init 175 = .ok (.pop, 1) := by decide +kernel
theorem dX7_init_176 : decode cX7_init 176 = .ok (.aload_n 0, 1) := by decide +kernel
theorem dX7_init_177 : decode cX7_init 177 = .ok (.getfield 12, 3) := by decide +kernel
theorem dX7_init_180 : decode cX7_init 180 = .ok (.invokevirtual 94, 3) := by decide +kernel
theorem dX7_init_183 : decode cX7_init 183 = .ok (.return_, 1) := by decide +kernel
theorem dX7_write_0 : decode cX7_write 0 = .ok (.iload_n 1, 1) := by decide +kernel
theorem dX7_write_1 : decode cX7_write 1 = .ok (.bipush 32, 2) := by decide +kernel
theorem dX7_write_3 : decode cX7_write 3 = .ok (.bipush 126, 2) := by decide +kernel
theorem dX7_write_5 : decode cX7_write 5 = .ok (.invokestatic 97, 3) := by decide +kernel
theorem dX7_write_8 : decode cX7_write 8 = .ok (.ifCond .ne 5, 3) := by decide +kernel
theorem dX7_write_11 : decode cX7_write 11 = .ok (.iconst (-1), 1) := by decide +kernel
theorem dX7_write_12 : decode cX7_write 12 = .ok (.ireturn, 1) := by decide +kernel
theorem dX7_write_13 : decode cX7_write 13 = .ok (.aload_n 0, 1) := by decide +kernel
theorem dX7_write_14 : decode cX7_write 14 = .ok (.getfield 12, 3) := by decide +kernel
theorem dX7_write_17 : decode cX7_write 17 = .ok (.getfield 101, 3) := by decide +kernel
theorem dX7_write_20 : decode cX7_write 20 = .ok (.sipush 200, 3) := by decide +kernel
theorem dX7_write_23 : decode cX7_write 23 = .ok (.if_icmp .lt 6, 3) := by decide +kernel
theorem dX7_write_26 : decode cX7_write 26 = .ok (.bipush (-3), 2) := by decide +kernel
theorem dX7_write_28 : decode cX7_write 28 = .ok (.ireturn, 1) := by decide +kernel
theorem dX7_write_29 : decode cX7_write 29 = .ok (.aload_n 0, 1) := by decide +kernel
theorem dX7_write_30 : decode cX7_write 30 = .ok (.getfield 12, 3) := by decide +kernel
theorem dX7_write_33 : decode cX7_write 33 = .ok (.iload_n 1, 1) := by decide +kernel
theorem dX7_write_34 : decode cX7_write 34 = .ok (.invokevirtual 86, 3) := by decide +kernel
theorem dX7_write_37 : decode cX7_write 37 = .ok (.aload_n 0, 1) := by decide +kernel
theorem dX7_write_38 : decode cX7_write 38 = .ok (.getfield 12, 3) := by decide +kernel
theorem dX7_write_41 : decode cX7_write 41 = .ok (.getfield 101, 3) := by decide +kernel
theorem dX7_write_44 : decode cX7_write 44 = .ok (.ireturn, 1) := by decide +kernel
theorem dX7_wipe_0 : decode cX7_wipe 0 = .ok (.aload_n 0, 1) := by decide +kernel
theorem dX7_wipe_1 : decode cX7_wipe 1 = .ok (.getfield 12, 3) := by decide +kernel
theorem dX7_wipe_4 : decode cX7_wipe 4 = .ok (.getfield 101, 3) := by decide +kernel
theorem dX7_wipe_7 : decode cX7_wipe 7 = .ok (.istore_n 1, 1) := by decide +kernel
theorem dX7_wipe_8 : decode cX7_wipe 8 = .ok (.aload_n 0, 1) := by decide +kernel
theorem dX7_wipe_9 : decode cX7_wipe 9 = .ok (.getfield 12, 3) := by decide +kernel
theorem dX7_wipe_12 : decode cX7_wipe 12 = .ok (.invokevirtual 94, 3) := by decide +kernel
theorem dX7_wipe_15 : decode cX7_wipe 15 = .ok (.iload_n 1, 1) := by decide +kernel
theorem dX7_wipe_16 : decode cX7_wipe 16 = .ok (.ireturn, 1) := by decide +kernel
theorem dX7_fault_0 : decode cX7_fault 0 = .ok (.aload_n 0, 1) := by decide +kernel
theorem dX7_fault_1 : decode cX7_fault 1 = .ok (.getfield 19, 3) := by decide +kernel
theorem dX7_fault_4 : decode cX7_fault 4 = .ok (.aload_n 0, 1) := by decide +kernel
theorem dX7_fault_5 : decode cX7_fault 5 = .ok (.getfield 12, 3) := by decide +kernel
theorem dX7_fault_8 : decode cX7_fault 8 = .ok (.aload_n 0, 1) := by decide +kernel
theorem dX7_fault_9 : decode cX7_fault 9 = .ok (.getfield 67, 3) := by decide +kernel
theorem dX7_fault_12 : decode cX7_fault 12 = .ok (.invokevirtual 90, 3) := by decide +kernel
theorem dX7_fault_15 : decode cX7_fault 15 = .ok (.ireturn, 1) := by decide +kernel
theorem dX7_lay_0 : decode cX7_lay 0 = .ok (.aload_n 0, 1) := by decide +kernel
theorem dX7_lay_1 : decode cX7_lay 1 = .ok (.getfield 19, 3) := by decide +kernel
theorem dX7_lay_4 : decode cX7_lay 4 = .ok (.aload_n 0, 1) := by decide +kernel
theorem dX7_lay_5 : decode cX7_lay 5 = .ok (.getfield 12, 3) := by decide +kernel
theorem dX7_lay_8 : decode cX7_lay 8 = .ok (.aload_n 0, 1) := by decide +kernel
theorem dX7_lay_9 : decode cX7_lay 9 = .ok (.getfield 67, 3) := by decide +kernel
theorem dX7_lay_12 : decode cX7_lay 12 = .ok (.invokevirtual 90, 3) := by decide +kernel
theorem dX7_lay_15 : decode cX7_lay 15 = .ok (.bipush (-4), 2) := by decide +kernel
theorem dX7_lay_17 : decode cX7_lay 17 = .ok (.if_icmp .eq 6, 3) := by decide +kernel
theorem dX7_lay_20 : decode cX7_lay 20 = .ok (.bipush (-2), 2) := by decide +kernel
theorem dX7_lay_22 : decode cX7_lay 22 = .ok (.ireturn, 1) := by decide +kernel
theorem dX7_lay_23 : decode cX7_lay 23 = .ok (.aload_n 0, 1) := by decide +kernel
theorem dX7_lay_24 : decode cX7_lay 24 = .ok (.getfield 67, 3) := by decide +kernel
theorem dX7_lay_27 : decode cX7_lay 27 = .ok (.getfield 103, 3) := by decide +kernel
theorem dX7_lay_30 : decode cX7_lay 30 = .ok (.iconst 2, 1) := by decide +kernel
theorem dX7_lay_31 : decode cX7_lay 31 = .ok (.if_icmp .lt 14, 3) := by decide +kernel
theorem dX7_lay_34 : decode cX7_lay 34 = .ok (.aload_n 0, 1) := by decide +kernel
theorem dX7_lay_35 : decode cX7_lay 35 = .ok (.getfield 67, 3) := by decide +kernel
theorem dX7_lay_38 : decode cX7_lay 38 = .ok (.getfield 106, 3) := by decide +kernel
theorem dX7_lay_41 : decode cX7_lay 41 = .ok (.iconst 1, 1) := by decide +kernel
theorem dX7_lay_42 : decode cX7_lay 42 = .ok (.if_icmp .ge 6, 3) := by decide +kernel
theorem dX7_lay_45 : decode cX7_lay 45 = .ok (.bipush (-2), 2) := by decide +kernel
theorem dX7_lay_47 : decode cX7_lay 47 = .ok (.ireturn, 1) := by decide +kernel
theorem dX7_lay_48 : decode cX7_lay 48 = .ok (.aload_n 0, 1) := by decide +kernel
theorem dX7_lay_49 : decode cX7_lay 49 = .ok (.getfield 67, 3) := by decide +kernel
theorem dX7_lay_52 : decode cX7_lay 52 = .ok (.astore_n 1, 1) := by decide +kernel
theorem dX7_lay_53 : decode cX7_lay 53 = .ok (.aload_n 0, 1) := by decide +kernel
theorem dX7_lay_54 : decode cX7_lay 54 = .ok (.aload_n 0, 1) := by decide +kernel
theorem dX7_lay_55 : decode cX7_lay 55 = .ok (.getfield 63, 3) := by decide +kernel
theorem dX7_lay_58 : decode cX7_lay 58 = .ok (.putfield 67, 3) := by decide +kernel
theorem dX7_lay_61 : decode cX7_lay 61 = .ok (.aload_n 0, 1) := by decide +kernel
theorem dX7_lay_62 : decode cX7_lay 62 = .ok (.aload_n 1, 1) := by decide +kernel
theorem dX7_lay_63 : decode cX7_lay 63 = .ok (.putfield 63, 3) := by decide +kernel
theorem dX7_lay_66 : decode cX7_lay 66 = .ok (.aload_n 0, 1) := by decide +kernel
theorem dX7_lay_67 : decode cX7_lay 67 = .ok (.getfield 26, 3) := by decide +kernel
theorem dX7_lay_70 : decode cX7_lay 70 = .ok (.invokevirtual 109, 3) := by decide +kernel
theorem dX7_lay_73 : decode cX7_lay 73 = .ok (.aload_n 0, 1) := by decide +kernel
theorem dX7_lay_74 : decode cX7_lay 74 = .ok (.getfield 42, 3) := by decide +kernel
theorem dX7_lay_77 : decode cX7_lay 77 = .ok (.invokevirtual 110, 3) := by decide +kernel
theorem dX7_lay_80 : decode cX7_lay 80 = .ok (.aload_n 0, 1) := by decide +kernel
theorem dX7_lay_81 : decode cX7_lay 81 = .ok (.getfield 49, 3) := by decide +kernel
theorem dX7_lay_84 : decode cX7_lay 84 = .ok (.invokevirtual 111, 3) := by decide +kernel
theorem dX7_lay_87 : decode cX7_lay 87 = .ok (.aload_n 0, 1) := by decide +kernel
theorem dX7_lay_88 : decode cX7_lay 88 = .ok (.iconst 0, 1) := by decide +kernel
theorem dX7_lay_89 : decode cX7_lay 89 = .ok (.putfield 70, 3) := by decide +kernel
theorem dX7_lay_92 : decode cX7_lay 92 = .ok (.aload_n 0, 1) := by decide +kernel
theorem dX7_lay_93 : decode cX7_lay 93 = .ok (.getfield 63, 3) := by decide +kernel
theorem dX7_lay_96 : decode cX7_lay 96 = .ok (.getfield 103, 3) := by decide +kernel
theorem dX7_lay_99 : decode cX7_lay 99 = .ok (.ireturn, 1) := by decide +kernel
theorem dX7_town_0 : decode cX7_town 0 = .ok (.aload_n 0, 1) := by decide +kernel
theorem dX7_town_1 : decode cX7_town 1 = .ok (.getfield 63, 3) := by decide +kernel
theorem dX7_town_4 : decode cX7_town 4 = .ok (.iload_n 1, 1) := by decide +kernel
theorem dX7_town_5 : decode cX7_town 5 = .ok (.invokevirtual 112, 3) := by decide +kernel
theorem dX7_town_8 : decode cX7_town 8 = .ok (.ifCond .ne 5, 3) := by decide +kernel
theorem dX7_town_11 : decode cX7_town 11 = .ok (.iconst (-1), 1) := by decide +kernel
theorem dX7_town_12 : decode cX7_town 12 = .ok (.ireturn, 1) := by decide +kernel
theorem dX7_town_13 : decode cX7_town 13 = .ok (.iload_n 2, 1) := by decide +kernel
theorem dX7_town_14 : decode cX7_town 14 = .ok (.lookupswitch 47 #[(0, 26), (1, 38)], 26) := by decide +kernel
theorem dX7_town_40 : decode cX7_town 40 = .ok (.aload_n 0, 1) := by decide +kernel
theorem dX7_town_41 : decode cX7_town 41 = .ok (.getfield 63, 3) := by decide +kernel
theorem dX7_town_44 : decode cX7_town 44 = .ok (.getfield 116, 3) := by decide +kernel
theorem dX7_town_47 : decode cX7_town 47 = .ok (.iload_n 1, 1) := by decide +kernel
theorem dX7_town_48 : decode cX7_town 48 = .ok (.invokestatic 120, 3) := by decide +kernel
theorem dX7_town_51 : decode cX7_town 51 = .ok (.ireturn, 1) := by decide +kernel
theorem dX7_town_52 : decode cX7_town 52 = .ok (.aload_n 0, 1) := by decide +kernel
theorem dX7_town_53 : decode cX7_town 53 = .ok (.getfield 63, 3) := by decide +kernel
theorem dX7_town_56 : decode cX7_town 56 = .ok (.iload_n 1, 1) := by decide +kernel
theorem dX7_town_57 : decode cX7_town 57 = .ok (.invokevirtual 124, 3) := by decide +kernel
theorem dX7_town_60 : decode cX7_town 60 = .ok (.ireturn, 1) := by decide +kernel
theorem dX7_town_61 : decode cX7_town 61 = .ok (.iconst (-1), 1) := by decide +kernel
theorem dX7_town_62 : decode cX7_town 62 = .ok (.ireturn, 1) := by decide +kernel
theorem dX7_between_0 : decode cX7_between 0 = .ok (.aload_n 0, 1) := by decide +kernel
theorem dX7_between_1 : decode cX7_between 1 = .ok (.getfield 63, 3) := by decide +kernel
theorem dX7_between_4 : decode cX7_between 4 = .ok (.iload_n 1, 1) := by decide +kernel
theorem dX7_between_5 : decode cX7_between 5 = .ok (.iload_n 2, 1) := by decide +kernel
theorem dX7_between_6 : decode cX7_between 6 = .ok (.invokevirtual 128, 3) := by decide +kernel
theorem dX7_between_9 : decode cX7_between 9 = .ok (.ifCond .ne 5, 3) := by decide +kernel
theorem dX7_between_12 : decode cX7_between 12 = .ok (.iconst (-1), 1) := by decide +kernel
theorem dX7_between_13 : decode cX7_between 13 = .ok (.ireturn, 1) := by decide +kernel
theorem dX7_between_14 : decode cX7_between 14 = .ok (.iload_n 3, 1) := by decide +kernel
theorem dX7_between_15 : decode cX7_between 15 = .ok (.tableswitch 55 0 2 #[25, 35, 45], 25) := by decide +kernel
theorem dX7_between_40 : decode cX7_between 40 = .ok (.aload_n 0, 1) := by decide +kernel
theorem dX7_between_41 : decode cX7_between 41 = .ok (.getfield 63, 3) := by decide +kernel
theorem dX7_between_44 : decode cX7_between 44 = .ok (.iload_n 1, 1) := by decide +kernel
theorem dX7_between_45 : decode cX7_between 45 = .ok (.iload_n 2, 1) := by decide +kernel
theorem dX7_between_46 : decode cX7_between 46 = .ok (.invokevirtual 132, 3) := by decide +kernel
theorem dX7_between_49 : decode cX7_between 49 = .ok (.ireturn, 1) := by decide +kernel
theorem dX7_between_50 : decode cX7_between 50 = .ok (.aload_n 0, 1) := by decide +kernel
theorem dX7_between_51 : decode cX7_between 51 = .ok (.getfield 63, 3) := by decide +kernel
theorem dX7_between_54 : decode cX7_between 54 = .ok (.iload_n 1, 1) := by decide +kernel
theorem dX7_between_55 : decode cX7_between 55 = .ok (.iload_n 2, 1) := by decide +kernel
theorem dX7_between_56 : decode cX7_between 56 = .ok (.invokevirtual 136, 3) := by decide +kernel
theorem dX7_between_59 : decode cX7_between 59 = .ok (.ireturn, 1) := by decide +kernel
theorem dX7_between_60 : decode cX7_between 60 = .ok (.aload_n 0, 1) := by decide +kernel
theorem dX7_between_61 : decode cX7_between 61 = .ok (.getfield 63, 3) := by decide +kernel
theorem dX7_between_64 : decode cX7_between 64 = .ok (.iload_n 1, 1) := by decide +kernel
theorem dX7_between_65 : decode cX7_between 65 = .ok (.iload_n 2, 1) := by decide +kernel
theorem dX7_between_66 : decode cX7_between 66 = .ok (.invokevirtual 139, 3) := by decide +kernel
theorem dX7_between_69 : decode cX7_between 69 = .ok (.ireturn, 1) := by decide +kernel
theorem dX7_between_70 : decode cX7_between 70 = .ok (.iconst (-1), 1) := by decide +kernel
theorem dX7_between_71 : decode cX7_between 71 = .ok (.ireturn, 1) := by decide +kernel
theorem dX7_walker_0 : decode cX7_walker 0 = .ok (.aload_n 0, 1) := by decide +kernel
theorem dX7_walker_1 : decode cX7_walker 1 = .ok (.getfield 63, 3) := by decide +kernel
theorem dX7_walker_4 : decode cX7_walker 4 = .ok (.iload_n 1, 1) := by decide +kernel
theorem dX7_walker_5 : decode cX7_walker 5 = .ok (.invokevirtual 142, 3) := by decide +kernel
theorem dX7_walker_8 : decode cX7_walker 8 = .ok (.ifCond .ne 5, 3) := by decide +kernel
theorem dX7_walker_11 : decode cX7_walker 11 = .ok (.iconst (-1), 1) := by decide +kernel
theorem dX7_walker_12 : decode cX7_walker 12 = .ok (.ireturn, 1) := by decide +kernel
theorem dX7_walker_13 : decode cX7_walker 13 = .ok (.iload_n 2, 1) := by decide +kernel
theorem dX7_walker_14 : decode cX7_walker 14 = .ok (.tableswitch 62 0 2 #[26, 38, 50], 26) := by decide +kernel
theorem dX7_walker_40 : decode cX7_walker 40 = .ok (.aload_n 0, 1) := by decide +kernel
theorem dX7_walker_41 : decode cX7_walker 41 = .ok (.getfield 63, 3) := by decide +kernel
theorem dX7_walker_44 : decode cX7_walker 44 = .ok (.getfield 145, 3) := by decide +kernel
theorem dX7_walker_47 : decode cX7_walker 47 = .ok (.iload_n 1, 1) := by decide +kernel
theorem dX7_walker_48 : decode cX7_walker 48 = .ok (.invokestatic 120, 3) := by decide +kernel
theorem dX7_walker_51 : decode cX7_walker 51 = .ok (.ireturn, 1) := by decide +kernel
theorem dX7_walker_52 : decode cX7_walker 52 = .ok (.aload_n 0, 1) := by decide +kernel
theorem dX7_walker_53 : decode cX7_walker 53 = .ok (.getfield 63, 3) := by decide +kernel
theorem dX7_walker_56 : decode cX7_walker 56 = .ok (.getfield 148, 3) := by decide +kernel
theorem dX7_walker_59 : decode cX7_walker 59 = .ok (.iload_n 1, 1) := by decide +kernel
theorem dX7_walker_60 : decode cX7_walker 60 = .ok (.invokestatic 120, 3) := by decide +kernel
theorem dX7_walker_63 : decode cX7_walker 63 = .ok (.ireturn, 1) := by decide +kernel
theorem dX7_walker_64 : decode cX7_walker 64 = .ok (.aload_n 0, 1) := by decide +kernel
theorem dX7_walker_65 : decode cX7_walker 65 = .ok (.getfield 63, 3) := by decide +kernel
theorem dX7_walker_68 : decode cX7_walker 68 = .ok (.getfield 151, 3) := by decide +kernel
theorem dX7_walker_71 : decode cX7_walker 71 = .ok (.iload_n 1, 1) := by decide +kernel
theorem dX7_walker_72 : decode cX7_walker 72 = .ok (.invokestatic 120, 3) := by decide +kernel
theorem dX7_walker_75 : decode cX7_walker 75 = .ok (.ireturn, 1) := by decide +kernel
theorem dX7_walker_76 : decode cX7_walker 76 = .ok (.iconst (-1), 1) := by decide +kernel
theorem dX7_walker_77 : decode cX7_walker 77 = .ok (.ireturn, 1) := by decide +kernel
theorem dX7_report_0 : decode cX7_report 0 = .ok (.aload_n 0, 1) := by decide +kernel
theorem dX7_report_1 : decode cX7_report 1 = .ok (.getfield 26, 3) := by decide +kernel
theorem dX7_report_4 : decode cX7_report 4 = .ok (.iload_n 1, 1) := by decide +kernel
theorem dX7_report_5 : decode cX7_report 5 = .ok (.invokevirtual 154, 3) := by decide +kernel
theorem dX7_report_8 : decode cX7_report 8 = .ok (.ifCond .ne 5, 3) := by decide +kernel
theorem dX7_report_11 : decode cX7_report 11 = .ok (.iconst (-1), 1) := by decide +kernel
theorem dX7_report_12 : decode cX7_report 12 = .ok (.ireturn, 1) := by decide +kernel
theorem dX7_report_13 : decode cX7_report 13 = .ok (.iload_n 2, 1) := by decide +kernel
theorem dX7_report_14 : decode cX7_report 14 = .ok (.tableswitch 108 0 6 #[42, 54, 66, 78, 90, 96, 102], 42) := by decide +kernel
theorem dX7_report_56 : decode cX7_report 56 = .ok (.aload_n 0, 1) := by decide +kernel
theorem dX7_report_57 : decode cX7_report 57 = .ok (.getfield 26, 3) := by decide +kernel
theorem dX7_report_60 : decode cX7_report 60 = .ok (.getfield 157, 3) := by decide +kernel
theorem dX7_report_63 : decode cX7_report 63 = .ok (.iload_n 1, 1) := by decide +kernel
theorem dX7_report_64 : decode cX7_report 64 = .ok (.invokestatic 120, 3) := by decide +kernel
theorem dX7_report_67 : decode cX7_report 67 = .ok (.ireturn, 1) := by decide +kernel
theorem dX7_report_68 : decode cX7_report 68 = .ok (.aload_n 0, 1) := by decide +kernel
theorem dX7_report_69 : decode cX7_report 69 = .ok (.getfield 26, 3) := by decide +kernel
theorem dX7_report_72 : decode cX7_report 72 = .ok (.getfield 160, 3) := by decide +kernel
theorem dX7_report_75 : decode cX7_report 75 = .ok (.iload_n 1, 1) := by decide +kernel
theorem dX7_report_76 : decode cX7_report 76 = .ok (.invokestatic 120, 3) := by decide +kernel
theorem dX7_report_79 : decode cX7_report 79 = .ok (.ireturn, 1) := by decide +kernel
theorem dX7_report_80 : decode cX7_report 80 = .ok (.aload_n 0, 1) := by decide +kernel
theorem dX7_report_81 : decode cX7_report 81 = .ok (.getfield 26, 3) := by decide +kernel
theorem dX7_report_84 : decode cX7_report 84 = .ok (.getfield 163, 3) := by decide +kernel
theorem dX7_report_87 : decode cX7_report 87 = .ok (.iload_n 1, 1) := by decide +kernel
theorem dX7_report_88 : decode cX7_report 88 = .ok (.invokestatic 120, 3) := by decide +kernel
theorem dX7_report_91 : decode cX7_report 91 = .ok (.ireturn, 1) := by decide +kernel
theorem dX7_report_92 : decode cX7_report 92 = .ok (.aload_n 0, 1) := by decide +kernel
theorem dX7_report_93 : decode cX7_report 93 = .ok (.getfield 26, 3) := by decide +kernel
theorem dX7_report_96 : decode cX7_report 96 = .ok (.getfield 166, 3) := by decide +kernel
theorem dX7_report_99 : decode cX7_report 99 = .ok (.iload_n 1, 1) := by decide +kernel
theorem dX7_report_100 : decode cX7_report 100 = .ok (.invokestatic 120, 3) := by decide +kernel
theorem dX7_report_103 : decode cX7_report 103 = .ok (.ireturn, 1) := by decide +kernel
theorem dX7_report_104 : decode cX7_report 104 = .ok (.aload_n 0, 1) := by decide +kernel
theorem dX7_report_105 : decode cX7_report 105 = .ok (.iload_n 1, 1) := by decide +kernel
theorem dX7_report_106 : decode cX7_report 106 = .ok (.invokevirtual 169, 3) := by decide +kernel
theorem dX7_report_109 : decode cX7_report 109 = .ok (.ireturn, 1) := by decide +kernel
theorem dX7_report_110 : decode cX7_report 110 = .ok (.aload_n 0, 1) := by decide +kernel
theorem dX7_report_111 : decode cX7_report 111 = .ok (.iload_n 1, 1) := by decide +kernel
theorem dX7_report_112 : decode cX7_report 112 = .ok (.invokevirtual 172, 3) := by decide +kernel
theorem dX7_report_115 : decode cX7_report 115 = .ok (.ireturn, 1) := by decide +kernel
theorem dX7_report_116 : decode cX7_report 116 = .ok (.aload_n 0, 1) := by decide +kernel
theorem dX7_report_117 : decode cX7_report 117 = .ok (.iload_n 1, 1) := by decide +kernel
theorem dX7_report_118 : decode cX7_report 118 = .ok (.invokevirtual 175, 3) := by decide +kernel
theorem dX7_report_121 : decode cX7_report 121 = .ok (.ireturn, 1) := by decide +kernel
theorem dX7_report_122 : decode cX7_report 122 = .ok (.iconst (-1), 1) := by decide +kernel
theorem dX7_report_123 : decode cX7_report 123 = .ok (.ireturn, 1) := by decide +kernel
theorem dX7_walk_0 : decode cX7_walk 0 = .ok (.aload_n 0, 1) := by decide +kernel
theorem dX7_walk_1 : decode cX7_walk 1 = .ok (.getfield 63, 3) := by decide +kernel
theorem dX7_walk_4 : decode cX7_walk 4 = .ok (.iload_n 1, 1) := by decide +kernel
theorem dX7_walk_5 : decode cX7_walk 5 = .ok (.invokevirtual 142, 3) := by decide +kernel
theorem dX7_walk_8 : decode cX7_walk 8 = .ok (.ifCond .eq 15, 3) := by decide +kernel
theorem dX7_walk_11 : decode cX7_walk 11 = .ok (.aload_n 0, 1) := by decide +kernel
theorem dX7_walk_12 : decode cX7_walk 12 = .ok (.getfield 63, 3) := by decide +kernel
theorem dX7_walk_15 : decode cX7_walk 15 = .ok (.iload_n 2, 1) := by decide +kernel
theorem dX7_walk_16 : decode cX7_walk 16 = .ok (.iload_n 3, 1) := by decide +kernel
theorem dX7_walk_17 : decode cX7_walk 17 = .ok (.invokevirtual 128, 3) := by decide +kernel
theorem dX7_walk_20 : decode cX7_walk 20 = .ok (.ifCond .ne 5, 3) := by decide +kernel
theorem dX7_walk_23 : decode cX7_walk 23 = .ok (.iconst (-1), 1) := by decide +kernel
theorem dX7_walk_24 : decode cX7_walk 24 = .ok (.ireturn, 1) := by decide +kernel
theorem dX7_walk_25 : decode cX7_walk 25 = .ok (.aload_n 0, 1) := by decide +kernel
theorem dX7_walk_26 : decode cX7_walk 26 = .ok (.getfield 26, 3) := by decide +kernel
theorem dX7_walk_29 : decode cX7_walk 29 = .ok (.getfield 178, 3) := by decide +kernel
theorem dX7_walk_32 : decode cX7_walk 32 = .ok (.bipush 9, 2) := by decide +kernel
theorem dX7_walk_34 : decode cX7_walk 34 = .ok (.if_icmp .lt 6, 3) := by decide +kernel
theorem dX7_walk_37 : decode cX7_walk 37 = .ok (.bipush (-3), 2) := by decide +kernel
theorem dX7_walk_39 : decode cX7_walk 39 = .ok (.ireturn, 1) := by decide +kernel
theorem dX7_walk_40 : decode cX7_walk 40 = .ok (.aload_n 0, 1) := by decide +kernel
theorem dX7_walk_41 : decode cX7_walk 41 = .ok (.aload_n 0, 1) := by decide +kernel
theorem dX7_walk_42 : decode cX7_walk 42 = .ok (.getfield 26, 3) := by decide +kernel
theorem dX7_walk_45 : decode cX7_walk 45 = .ok (.iload_n 1, 1) := by decide +kernel
theorem dX7_walk_46 : decode cX7_walk 46 = .ok (.iload_n 2, 1) := by decide +kernel
theorem dX7_walk_47 : decode cX7_walk 47 = .ok (.iload_n 3, 1) := by decide +kernel
theorem dX7_walk_48 : decode cX7_walk 48 = .ok (.invokevirtual 181, 3) := by decide +kernel
theorem dX7_walk_51 : decode cX7_walk 51 = .ok (.aload_n 0, 1) := by decide +kernel
theorem dX7_walk_52 : decode cX7_walk 52 = .ok (.getfield 42, 3) := by decide +kernel
theorem dX7_walk_55 : decode cX7_walk 55 = .ok (.aload_n 0, 1) := by decide +kernel
theorem dX7_walk_56 : decode cX7_walk 56 = .ok (.getfield 63, 3) := by decide +kernel
theorem dX7_walk_59 : decode cX7_walk 59 = .ok (.iload_n 1, 1) := by decide +kernel
theorem dX7_walk_60 : decode cX7_walk 60 = .ok (.iload_n 2, 1) := by decide +kernel
theorem dX7_walk_61 : decode cX7_walk 61 = .ok (.iload_n 3, 1) := by decide +kernel
theorem dX7_walk_62 : decode cX7_walk 62 = .ok (.invokevirtual 185, 3) := by decide +kernel
theorem dX7_walk_65 : decode cX7_walk 65 = .ok (.invokevirtual 189, 3) := by decide +kernel
theorem dX7_walk_68 : decode cX7_walk 68 = .ok (.aload_n 0, 1) := by decide +kernel
theorem dX7_walk_69 : decode cX7_walk 69 = .ok (.getfield 26, 3) := by decide +kernel
theorem dX7_walk_72 : decode cX7_walk 72 = .ok (.getfield 166, 3) := by decide +kernel
theorem dX7_walk_75 : decode cX7_walk 75 = .ok (.aload_n 0, 1) := by decide +kernel
theorem dX7_walk_76 : decode cX7_walk 76 = .ok (.getfield 26, 3) := by decide +kernel
theorem dX7_walk_79 : decode cX7_walk 79 = .ok (.getfield 178, 3) := by decide +kernel
theorem dX7_walk_82 : decode cX7_walk 82 = .ok (.iconst 1, 1) := by decide +kernel
theorem dX7_walk_83 : decode cX7_walk 83 = .ok (.isub, 1) := by decide +kernel
theorem dX7_walk_84 : decode cX7_walk 84 = .ok (.invokestatic 120, 3) := by decide +kernel
theorem dX7_walk_87 : decode cX7_walk 87 = .ok (.ireturn, 1) := by decide +kernel
theorem dX7_strike_0 : decode cX7_strike 0 = .ok (.aload_n 0, 1) := by decide +kernel
theorem dX7_strike_1 : decode cX7_strike 1 = .ok (.getfield 26, 3) := by decide +kernel
theorem dX7_strike_4 : decode cX7_strike 4 = .ok (.iload_n 1, 1) := by decide +kernel
theorem dX7_strike_5 : decode cX7_strike 5 = .ok (.invokevirtual 154, 3) := by decide +kernel
theorem dX7_strike_8 : decode cX7_strike 8 = .ok (.ifCond .ne 5, 3) := by decide +kernel
theorem dX7_strike_11 : decode cX7_strike 11 = .ok (.iconst (-1), 1) := by decide +kernel
theorem dX7_strike_12 : decode cX7_strike 12 = .ok (.ireturn, 1) := by decide +kernel
theorem dX7_strike_13 : decode cX7_strike 13 = .ok (.aload_n 0, 1) := by decide +kernel
theorem dX7_strike_14 : decode cX7_strike 14 = .ok (.getfield 42, 3) := by decide +kernel
theorem dX7_strike_17 : decode cX7_strike 17 = .ok (.aload_n 0, 1) := by decide +kernel
theorem dX7_strike_18 : decode cX7_strike 18 = .ok (.getfield 26, 3) := by decide +kernel
theorem dX7_strike_21 : decode cX7_strike 21 = .ok (.iload_n 1, 1) := by decide +kernel
theorem dX7_strike_22 : decode cX7_strike 22 = .ok (.invokevirtual 192, 3) := by decide +kernel
theorem dX7_strike_25 : decode cX7_strike 25 = .ok (.aload_n 0, 1) := by decide +kernel
theorem dX7_strike_26 : decode cX7_strike 26 = .ok (.getfield 26, 3) := by decide +kernel
theorem dX7_strike_29 : decode cX7_strike 29 = .ok (.iload_n 1, 1) := by decide +kernel
theorem dX7_strike_30 : decode cX7_strike 30 = .ok (.invokevirtual 196, 3) := by decide +kernel
theorem dX7_strike_33 : decode cX7_strike 33 = .ok (.aload_n 0, 1) := by decide +kernel
theorem dX7_strike_34 : decode cX7_strike 34 = .ok (.getfield 26, 3) := by decide +kernel
theorem dX7_strike_37 : decode cX7_strike 37 = .ok (.getfield 178, 3) := by decide +kernel
theorem dX7_strike_40 : decode cX7_strike 40 = .ok (.ireturn, 1) := by decide +kernel
theorem dX7_undo_0 : decode cX7_undo 0 = .ok (.aload_n 0, 1) := by decide +kernel
theorem dX7_undo_1 : decode cX7_undo 1 = .ok (.getfield 42, 3) := by decide +kernel
theorem dX7_undo_4 : decode cX7_undo 4 = .ok (.getfield 199, 3) := by decide +kernel
theorem dX7_undo_7 : decode cX7_undo 7 = .ok (.ifCond .ne 6, 3) := by decide +kernel
theorem dX7_undo_10 : decode cX7_undo 10 = .ok (.bipush (-2), 2) := by decide +kernel
theorem dX7_undo_12 : decode cX7_undo 12 = .ok (.ireturn, 1) := by decide +kernel
theorem dX7_undo_13 : decode cX7_undo 13 = .ok (.aload_n 0, 1) := by decide +kernel
theorem dX7_undo_14 : decode cX7_undo 14 = .ok (.getfield 42, 3) := by decide +kernel
theorem dX7_undo_17 : decode cX7_undo 17 = .ok (.aload_n 0, 1) := by decide +kernel
theorem dX7_undo_18 : decode cX7_undo 18 = .ok (.getfield 26, 3) := by decide +kernel
theorem dX7_undo_21 : decode cX7_undo 21 = .ok (.invokevirtual 200, 3) := by decide +kernel
theorem dX7_undo_24 : decode cX7_undo 24 = .ok (.aload_n 0, 1) := by decide +kernel
theorem dX7_undo_25 : decode cX7_undo 25 = .ok (.getfield 42, 3) := by decide +kernel
theorem dX7_undo_28 : decode cX7_undo 28 = .ok (.getfield 199, 3) := by decide +kernel
theorem dX7_undo_31 : decode cX7_undo 31 = .ok (.ireturn, 1) := by decide +kernel
theorem dX7_mean_0 : decode cX7_mean 0 = .ok (.aload_n 0, 1) := by decide +kernel
theorem dX7_mean_1 : decode cX7_mean 1 = .ok (.aload_n 0, 1) := by decide +kernel
theorem dX7_mean_2 : decode cX7_mean 2 = .ok (.getfield 26, 3) := by decide +kernel
theorem dX7_mean_5 : decode cX7_mean 5 = .ok (.invokevirtual 204, 3) := by decide +kernel
theorem dX7_mean_8 : decode cX7_mean 8 = .ok (.ireturn, 1) := by decide +kernel
theorem dX7_all_0 : decode cX7_all 0 = .ok (.iload_n 1, 1) := by decide +kernel
theorem dX7_all_1 : decode cX7_all 1 = .ok (.iconst 0, 1) := by decide +kernel
theorem dX7_all_2 : decode cX7_all 2 = .ok (.iconst 2, 1) := by decide +kernel
theorem dX7_all_3 : decode cX7_all 3 = .ok (.invokestatic 97, 3) := by decide +kernel
theorem dX7_all_6 : decode cX7_all 6 = .ok (.ifCond .ne 5, 3) := by decide +kernel
theorem dX7_all_9 : decode cX7_all 9 = .ok (.iconst (-1), 1) := by decide +kernel
theorem dX7_all_10 : decode cX7_all 10 = .ok (.ireturn, 1) := by decide +kernel
theorem dX7_all_11 : decode cX7_all 11 = .ok (.bipush (-4), 2) := by decide +kernel
theorem dX7_all_13 : decode cX7_all 13 = .ok (.istore_n 2, 1) := by decide +kernel
theorem dX7_all_14 : decode cX7_all 14 = .ok (.bipush (-4), 2) := by decide +kernel
theorem dX7_all_16 : decode cX7_all 16 = .ok (.istore_n 3, 1) := by decide +kernel
theorem dX7_all_17 : decode cX7_all 17 = .ok (.iconst 0, 1) := by decide +kernel
theorem dX7_all_18 : decode cX7_all 18 = .ok (.istore 4, 2) := by decide +kernel
theorem dX7_all_20 : decode cX7_all 20 = .ok (.iload 4, 2) := by decide +kernel
theorem dX7_all_22 : decode cX7_all 22 = .ok (.aload_n 0, 1) := by decide +kernel
theorem dX7_all_23 : decode cX7_all 23 = .ok (.getfield 26, 3) := by decide +kernel
theorem dX7_all_26 : decode cX7_all 26 = .ok (.getfield 178, 3) := by decide +kernel
theorem dX7_all_29 : decode cX7_all 29 = .ok (.if_icmp .ge 53, 3) := by decide +kernel
theorem dX7_all_32 : decode cX7_all 32 = .ok (.aload_n 0, 1) := by decide +kernel
theorem dX7_all_33 : decode cX7_all 33 = .ok (.iload 4, 2) := by decide +kernel
theorem dX7_all_35 : decode cX7_all 35 = .ok (.invokevirtual 175, 3) := by decide +kernel
theorem dX7_all_38 : decode cX7_all 38 = .ok (.istore 5, 2) := by decide +kernel
theorem dX7_all_40 : decode cX7_all 40 = .ok (.iload 5, 2) := by decide +kernel
theorem dX7_all_42 : decode cX7_all 42 = .ok (.bipush (-4), 2) := by decide +kernel
theorem dX7_all_44 : decode cX7_all 44 = .ok (.if_icmp .eq 32, 3) := by decide +kernel
theorem dX7_all_47 : decode cX7_all 47 = .ok (.iload_n 2, 1) := by decide +kernel
theorem dX7_all_48 : decode cX7_all 48 = .ok (.aload_n 0, 1) := by decide +kernel
theorem dX7_all_49 : decode cX7_all 49 = .ok (.iload 4, 2) := by decide +kernel
theorem dX7_all_51 : decode cX7_all 51 = .ok (.invokevirtual 172, 3) := by decide +kernel
theorem dX7_all_54 : decode cX7_all 54 = .ok (.invokestatic 208, 3) := by decide +kernel
theorem dX7_all_57 : decode cX7_all 57 = .ok (.istore_n 2, 1) := by decide +kernel
theorem dX7_all_58 : decode cX7_all 58 = .ok (.iload_n 3, 1) := by decide +kernel
theorem dX7_all_59 : decode cX7_all 59 = .ok (.bipush (-4), 2) := by decide +kernel
theorem dX7_all_61 : decode cX7_all 61 = .ok (.if_icmp .ne 8, 3) := by decide +kernel
theorem dX7_all_64 : decode cX7_all 64 = .ok (.iload 5, 2) := by decide +kernel
theorem dX7_all_66 : decode cX7_all 66 = .ok (.goto 9, 3) := by decide +kernel
theorem dX7_all_69 : decode cX7_all 69 = .ok (.iload_n 3, 1) := by decide +kernel
theorem dX7_all_70 : decode cX7_all 70 = .ok (.iload 5, 2) := by decide +kernel
theorem dX7_all_72 : decode cX7_all 72 = .ok (.invokestatic 213, 3) := by decide +kernel
theorem dX7_all_75 : decode cX7_all 75 = .ok (.istore_n 3, 1) := by decide +kernel
theorem dX7_all_76 : decode cX7_all 76 = .ok (.iinc 4 1, 3) := by decide +kernel
theorem dX7_all_79 : decode cX7_all 79 = .ok (.goto (-59), 3) := by decide +kernel
theorem dX7_all_82 : decode cX7_all 82 = .ok (.iload_n 3, 1) := by decide +kernel
theorem dX7_all_83 : decode cX7_all 83 = .ok (.bipush (-4), 2) := by decide +kernel
theorem dX7_all_85 : decode cX7_all 85 = .ok (.if_icmp .ne 6, 3) := by decide +kernel
theorem dX7_all_88 : decode cX7_all 88 = .ok (.bipush (-4), 2) := by decide +kernel
theorem dX7_all_90 : decode cX7_all 90 = .ok (.ireturn, 1) := by decide +kernel
theorem dX7_all_91 : decode cX7_all 91 = .ok (.iload_n 1, 1) := by decide +kernel
theorem dX7_all_92 : decode cX7_all 92 = .ok (.iconst 2, 1) := by decide +kernel
theorem dX7_all_93 : decode cX7_all 93 = .ok (.if_icmp .ne 14, 3) := by decide +kernel
theorem dX7_all_96 : decode cX7_all 96 = .ok (.iload_n 2, 1) := by decide +kernel
theorem dX7_all_97 : decode cX7_all 97 = .ok (.iload_n 3, 1) := by decide +kernel
theorem dX7_all_98 : decode cX7_all 98 = .ok (.if_icmp .le 7, 3) := by decide +kernel
theorem dX7_all_101 : decode cX7_all 101 = .ok (.iconst 1, 1) := by decide +kernel
theorem dX7_all_102 : decode cX7_all 102 = .ok (.goto 4, 3) := by decide +kernel
theorem dX7_all_105 : decode cX7_all 105 = .ok (.iconst 0, 1) := by decide +kernel
theorem dX7_all_106 : decode cX7_all 106 = .ok (.ireturn, 1) := by decide +kernel
theorem dX7_all_107 : decode cX7_all 107 = .ok (.iload_n 1, 1) := by decide +kernel
theorem dX7_all_108 : decode cX7_all 108 = .ok (.ifCond .ne 7, 3) := by decide +kernel
theorem dX7_all_111 : decode cX7_all 111 = .ok (.iload_n 2, 1) := by decide +kernel
theorem dX7_all_112 : decode cX7_all 112 = .ok (.goto 4, 3) := by decide +kernel
theorem dX7_all_115 : decode cX7_all 115 = .ok (.iload_n 3, 1) := by decide +kernel
theorem dX7_all_116 : decode cX7_all 116 = .ok (.ireturn, 1) := by decide +kernel
theorem dX7_next_0 : decode cX7_next 0 = .ok (.aload_n 0, 1) := by decide +kernel
theorem dX7_next_1 : decode cX7_next 1 = .ok (.getfield 63, 3) := by decide +kernel
theorem dX7_next_4 : decode cX7_next 4 = .ok (.iload_n 1, 1) := by decide +kernel
theorem dX7_next_5 : decode cX7_next 5 = .ok (.invokevirtual 142, 3) := by decide +kernel
theorem dX7_next_8 : decode cX7_next 8 = .ok (.ifCond .eq 12, 3) := by decide +kernel
theorem dX7_next_11 : decode cX7_next 11 = .ok (.iload_n 2, 1) := by decide +kernel
theorem dX7_next_12 : decode cX7_next 12 = .ok (.iconst 0, 1) := by decide +kernel
theorem dX7_next_13 : decode cX7_next 13 = .ok (.iconst 1, 1) := by decide +kernel
theorem dX7_next_14 : decode cX7_next 14 = .ok (.invokestatic 97, 3) := by decide +kernel
theorem dX7_next_17 : decode cX7_next 17 = .ok (.ifCond .ne 5, 3) := by decide +kernel
theorem dX7_next_20 : decode cX7_next 20 = .ok (.iconst (-1), 1) := by decide +kernel
theorem dX7_next_21 : decode cX7_next 21 = .ok (.ireturn, 1) := by decide +kernel
theorem dX7_next_22 : decode cX7_next 22 = .ok (.bipush (-4), 2) := by decide +kernel
theorem dX7_next_24 : decode cX7_next 24 = .ok (.istore_n 3, 1) := by decide +kernel
theorem dX7_next_25 : decode cX7_next 25 = .ok (.bipush (-4), 2) := by decide +kernel
theorem dX7_next_27 : decode cX7_next 27 = .ok (.istore 4, 2) := by decide +kernel
theorem dX7_next_29 : decode cX7_next 29 = .ok (.iconst 0, 1) := by decide +kernel
theorem dX7_next_30 : decode cX7_next 30 = .ok (.istore 5, 2) := by decide +kernel
theorem dX7_next_32 : decode cX7_next 32 = .ok (.iload 5, 2) := by decide +kernel
theorem dX7_next_34 : decode cX7_next 34 = .ok (.aload_n 0, 1) := by decide +kernel
theorem dX7_next_35 : decode cX7_next 35 = .ok (.getfield 63, 3) := by decide +kernel
theorem dX7_next_38 : decode cX7_next 38 = .ok (.getfield 103, 3) := by decide +kernel
theorem dX7_next_41 : decode cX7_next 41 = .ok (.if_icmp .ge 77, 3) := by decide +kernel
theorem dX7_next_44 : decode cX7_next 44 = .ok (.iload 5, 2) := by decide +kernel
theorem dX7_next_46 : decode cX7_next 46 = .ok (.iconst 1, 1) := by decide +kernel
theorem dX7_next_47 : decode cX7_next 47 = .ok (.iadd, 1) := by decide +kernel
theorem dX7_next_48 : decode cX7_next 48 = .ok (.istore 6, 2) := by decide +kernel
theorem dX7_next_50 : decode cX7_next 50 = .ok (.iload 6, 2) := by decide +kernel
theorem dX7_next_52 : decode cX7_next 52 = .ok (.aload_n 0, 1) := by decide +kernel
theorem dX7_next_53 : decode cX7_next 53 = .ok (.getfield 63, 3) := by decide +kernel
theorem dX7_next_56 : decode cX7_next 56 = .ok (.getfield 103, 3) := by decide +kernel
theorem dX7_next_59 : decode cX7_next 59 = .ok (.if_icmp .ge 53, 3) := by decide +kernel
theorem dX7_next_62 : decode cX7_next 62 = .ok (.aload_n 0, 1) := by decide +kernel
theorem dX7_next_63 : decode cX7_next 63 = .ok (.iload_n 1, 1) := by decide +kernel
theorem dX7_next_64 : decode cX7_next 64 = .ok (.iload 5, 2) := by decide +kernel
theorem dX7_next_66 : decode cX7_next 66 = .ok (.iload 6, 2) := by decide +kernel
theorem dX7_next_68 : decode cX7_next 68 = .ok (.invokevirtual 216, 3) := by decide +kernel
theorem dX7_next_71 : decode cX7_next 71 = .ok (.istore 7, 2) := by decide +kernel
theorem dX7_next_73 : decode cX7_next 73 = .ok (.iload 7, 2) := by decide +kernel
theorem dX7_next_75 : decode cX7_next 75 = .ok (.bipush (-4), 2) := by decide +kernel
theorem dX7_next_77 : decode cX7_next 77 = .ok (.if_icmp .eq 29, 3) := by decide +kernel
theorem dX7_next_80 : decode cX7_next 80 = .ok (.iload_n 3, 1) := by decide +kernel
theorem dX7_next_81 : decode cX7_next 81 = .ok (.bipush (-4), 2) := by decide +kernel
theorem dX7_next_83 : decode cX7_next 83 = .ok (.if_icmp .eq 10, 3) := by decide +kernel
theorem dX7_next_86 : decode cX7_next 86 = .ok (.iload 7, 2) := by decide +kernel
theorem dX7_next_88 : decode cX7_next 88 = .ok (.iload 4, 2) := by decide +kernel
theorem dX7_next_90 : decode cX7_next 90 = .ok (.if_icmp .ge 16, 3) := by decide +kernel
theorem dX7_next_93 : decode cX7_next 93 = .ok (.bipush 10, 2) := by decide +kernel
theorem dX7_next_95 : decode cX7_next 95 = .ok (.iload 5, 2) := by decide +kernel
theorem dX7_next_97 : decode cX7_next 97 = .ok (.imul, 1) := by decide +kernel
theorem dX7_next_98 : decode cX7_next 98 = .ok (.iload 6, 2) := by decide +kernel
theorem dX7_next_100 : decode cX7_next 100 = .ok (.iadd, 1) := by decide +kernel
theorem dX7_next_101 : decode cX7_next 101 = .ok (.istore_n 3, 1) := by decide +kernel
theorem dX7_next_102 : decode cX7_next 102 = .ok (.iload 7, 2) := by decide +kernel
theorem dX7_next_104 : decode cX7_next 104 = .ok (.istore 4, 2) := by decide +kernel
theorem dX7_next_106 : decode cX7_next 106 = .ok (.iinc 6 1, 3) := by decide +kernel
theorem dX7_next_109 : decode cX7_next 109 = .ok (.goto (-59), 3) := by decide +kernel
theorem dX7_next_112 : decode cX7_next 112 = .ok (.iinc 5 1, 3) := by decide +kernel
theorem dX7_next_115 : decode cX7_next 115 = .ok (.goto (-83), 3) := by decide +kernel
theorem dX7_next_118 : decode cX7_next 118 = .ok (.iload_n 2, 1) := by decide +kernel
theorem dX7_next_119 : decode cX7_next 119 = .ok (.ifCond .ne 7, 3) := by decide +kernel
theorem dX7_next_122 : decode cX7_next 122 = .ok (.iload_n 3, 1) := by decide +kernel
theorem dX7_next_123 : decode cX7_next 123 = .ok (.goto 5, 3) := by decide +kernel
theorem dX7_next_126 : decode cX7_next 126 = .ok (.iload 4, 2) := by decide +kernel
theorem dX7_next_128 : decode cX7_next 128 = .ok (.ireturn, 1) := by decide +kernel
theorem dX7_fewest_0 : decode cX7_fewest 0 = .ok (.iload_n 1, 1) := by decide +kernel
theorem dX7_fewest_1 : decode cX7_fewest 1 = .ok (.iconst 0, 1) := by decide +kernel
theorem dX7_fewest_2 : decode cX7_fewest 2 = .ok (.bipush 99, 2) := by decide +kernel
theorem dX7_fewest_4 : decode cX7_fewest 4 = .ok (.invokestatic 97, 3) := by decide +kernel
theorem dX7_fewest_7 : decode cX7_fewest 7 = .ok (.ifCond .eq 12, 3) := by decide +kernel
theorem dX7_fewest_10 : decode cX7_fewest 10 = .ok (.iload_n 2, 1) := by decide +kernel
theorem dX7_fewest_11 : decode cX7_fewest 11 = .ok (.iconst 0, 1) := by decide +kernel
theorem dX7_fewest_12 : decode cX7_fewest 12 = .ok (.iconst 1, 1) := by decide +kernel
theorem dX7_fewest_13 : decode cX7_fewest 13 = .ok (.invokestatic 97, 3) := by decide +kernel
theorem dX7_fewest_16 : decode cX7_fewest 16 = .ok (.ifCond .ne 5, 3) := by decide +kernel
theorem dX7_fewest_19 : decode cX7_fewest 19 = .ok (.iconst (-1), 1) := by decide +kernel
theorem dX7_fewest_20 : decode cX7_fewest 20 = .ok (.ireturn, 1) := by decide +kernel
theorem dX7_fewest_21 : decode cX7_fewest 21 = .ok (.aload_n 0, 1) := by decide +kernel
theorem dX7_fewest_22 : decode cX7_fewest 22 = .ok (.getfield 56, 3) := by decide +kernel
theorem dX7_fewest_25 : decode cX7_fewest 25 = .ok (.aload_n 0, 1) := by decide +kernel
theorem dX7_fewest_26 : decode cX7_fewest 26 = .ok (.getfield 63, 3) := by decide +kernel
theorem dX7_fewest_29 : decode cX7_fewest 29 = .ok (.aload_n 0, 1) := by decide +kernel
theorem dX7_fewest_30 : decode cX7_fewest 30 = .ok (.getfield 26, 3) := by decide +kernel
theorem dX7_fewest_33 : decode cX7_fewest 33 = .ok (.invokevirtual 219, 3) := by decide +kernel
theorem dX7_fewest_36 : decode cX7_fewest 36 = .ok (.iconst 1, 1) := by decide +kernel
theorem dX7_fewest_37 : decode cX7_fewest 37 = .ok (.istore_n 3, 1) := by decide +kernel
theorem dX7_fewest_38 : decode cX7_fewest 38 = .ok (.iload_n 3, 1) := by decide +kernel
theorem dX7_fewest_39 : decode cX7_fewest 39 = .ok (.iconst 4, 1) := by decide +kernel
theorem dX7_fewest_40 : decode cX7_fewest 40 = .ok (.if_icmp .gt 73, 3) := by decide +kernel
theorem dX7_fewest_43 : decode cX7_fewest 43 = .ok (.iconst 1, 1) := by decide +kernel
theorem dX7_fewest_44 : decode cX7_fewest 44 = .ok (.istore 4, 2) := by decide +kernel
theorem dX7_fewest_46 : decode cX7_fewest 46 = .ok (.iload 4, 2) := by decide +kernel
theorem dX7_fewest_48 : decode cX7_fewest 48 = .ok (.iconst 1, 1) := by decide +kernel
theorem dX7_fewest_49 : decode cX7_fewest 49 = .ok (.aload_n 0, 1) := by decide +kernel
theorem dX7_fewest_50 : decode cX7_fewest 50 = .ok (.getfield 26, 3) := by decide +kernel
theorem dX7_fewest_53 : decode cX7_fewest 53 = .ok (.getfield 178, 3) := by decide +kernel
theorem dX7_fewest_56 : decode cX7_fewest 56 = .ok (.ishl, 1) := by decide +kernel
theorem dX7_fewest_57 : decode cX7_fewest 57 = .ok (.if_icmp .ge 50, 3) := by decide +kernel
theorem dX7_fewest_60 : decode cX7_fewest 60 = .ok (.iload 4, 2) := by decide +kernel
theorem dX7_fewest_62 : decode cX7_fewest 62 = .ok (.invokestatic 223, 3) := by decide +kernel
theorem dX7_fewest_65 : decode cX7_fewest 65 = .ok (.iload_n 3, 1) := by decide +kernel
theorem dX7_fewest_66 : decode cX7_fewest 66 = .ok (.if_icmp .ne 35, 3) := by decide +kernel
theorem dX7_fewest_69 : decode cX7_fewest 69 = .ok (.aload_n 0, 1) := by decide +kernel
theorem dX7_fewest_70 : decode cX7_fewest 70 = .ok (.getfield 63, 3) := by decide +kernel
theorem dX7_fewest_73 : decode cX7_fewest 73 = .ok (.aload_n 0, 1) := by decide +kernel
theorem dX7_fewest_74 : decode cX7_fewest 74 = .ok (.getfield 56, 3) := by decide +kernel
theorem dX7_fewest_77 : decode cX7_fewest 77 = .ok (.iload 4, 2) := by decide +kernel
theorem dX7_fewest_79 : decode cX7_fewest 79 = .ok (.iconst 0, 1) := by decide +kernel
theorem dX7_fewest_80 : decode cX7_fewest 80 = .ok (.invokevirtual 228, 3) := by decide +kernel
theorem dX7_fewest_83 : decode cX7_fewest 83 = .ok (.iload_n 1, 1) := by decide +kernel
theorem dX7_fewest_84 : decode cX7_fewest 84 = .ok (.invokevirtual 231, 3) := by decide +kernel
theorem dX7_fewest_87 : decode cX7_fewest 87 = .ok (.ifCond .eq 14, 3) := by decide +kernel
theorem dX7_fewest_90 : decode cX7_fewest 90 = .ok (.iload_n 2, 1) := by decide +kernel
theorem dX7_fewest_91 : decode cX7_fewest 91 = .ok (.ifCond .ne 7, 3) := by decide +kernel
theorem dX7_fewest_94 : decode cX7_fewest 94 = .ok (.iload_n 3, 1) := by decide +kernel
theorem dX7_fewest_95 : decode cX7_fewest 95 = .ok (.goto 5, 3) := by decide +kernel
theorem dX7_fewest_98 : decode cX7_fewest 98 = .ok (.iload 4, 2) := by decide +kernel
theorem dX7_fewest_100 : decode cX7_fewest 100 = .ok (.ireturn, 1) := by decide +kernel
theorem dX7_fewest_101 : decode cX7_fewest 101 = .ok (.iinc 4 1, 3) := by decide +kernel
theorem dX7_fewest_104 : decode cX7_fewest 104 = .ok (.goto (-58), 3) := by decide +kernel
theorem dX7_fewest_107 : decode cX7_fewest 107 = .ok (.iinc 3 1, 3) := by decide +kernel
theorem dX7_fewest_110 : decode cX7_fewest 110 = .ok (.goto (-72), 3) := by decide +kernel
theorem dX7_fewest_113 : decode cX7_fewest 113 = .ok (.bipush (-4), 2) := by decide +kernel
theorem dX7_fewest_115 : decode cX7_fewest 115 = .ok (.ireturn, 1) := by decide +kernel
theorem dX7_cancel_0 : decode cX7_cancel 0 = .ok (.aload_n 0, 1) := by decide +kernel
theorem dX7_cancel_1 : decode cX7_cancel 1 = .ok (.getfield 26, 3) := by decide +kernel
theorem dX7_cancel_4 : decode cX7_cancel 4 = .ok (.iload_n 1, 1) := by decide +kernel
theorem dX7_cancel_5 : decode cX7_cancel 5 = .ok (.invokevirtual 154, 3) := by decide +kernel
theorem dX7_cancel_8 : decode cX7_cancel 8 = .ok (.ifCond .eq 12, 3) := by decide +kernel
theorem dX7_cancel_11 : decode cX7_cancel 11 = .ok (.iload_n 2, 1) := by decide +kernel
theorem dX7_cancel_12 : decode cX7_cancel 12 = .ok (.iconst 0, 1) := by decide +kernel
theorem dX7_cancel_13 : decode cX7_cancel 13 = .ok (.iconst 1, 1) := by decide +kernel
theorem dX7_cancel_14 : decode cX7_cancel 14 = .ok (.invokestatic 97, 3) := by decide +kernel
theorem dX7_cancel_17 : decode cX7_cancel 17 = .ok (.ifCond .ne 5, 3) := by decide +kernel
theorem dX7_cancel_20 : decode cX7_cancel 20 = .ok (.iconst (-1), 1) := by decide +kernel
theorem dX7_cancel_21 : decode cX7_cancel 21 = .ok (.ireturn, 1) := by decide +kernel
theorem dX7_cancel_22 : decode cX7_cancel 22 = .ok (.aload_n 0, 1) := by decide +kernel
theorem dX7_cancel_23 : decode cX7_cancel 23 = .ok (.iload_n 1, 1) := by decide +kernel
theorem dX7_cancel_24 : decode cX7_cancel 24 = .ok (.invokevirtual 169, 3) := by decide +kernel
theorem dX7_cancel_27 : decode cX7_cancel 27 = .ok (.istore_n 3, 1) := by decide +kernel
theorem dX7_cancel_28 : decode cX7_cancel 28 = .ok (.iload_n 3, 1) := by decide +kernel
theorem dX7_cancel_29 : decode cX7_cancel 29 = .ok (.bipush (-4), 2) := by decide +kernel
theorem dX7_cancel_31 : decode cX7_cancel 31 = .ok (.if_icmp .ne 6, 3) := by decide +kernel
theorem dX7_cancel_34 : decode cX7_cancel 34 = .ok (.bipush (-4), 2) := by decide +kernel
theorem dX7_cancel_36 : decode cX7_cancel 36 = .ok (.ireturn, 1) := by decide +kernel
theorem dX7_cancel_37 : decode cX7_cancel 37 = .ok (.aload_n 0, 1) := by decide +kernel
theorem dX7_cancel_38 : decode cX7_cancel 38 = .ok (.getfield 63, 3) := by decide +kernel
theorem dX7_cancel_41 : decode cX7_cancel 41 = .ok (.iload_n 3, 1) := by decide +kernel
theorem dX7_cancel_42 : decode cX7_cancel 42 = .ok (.invokevirtual 234, 3) := by decide +kernel
theorem dX7_cancel_45 : decode cX7_cancel 45 = .ok (.istore 4, 2) := by decide +kernel
theorem dX7_cancel_47 : decode cX7_cancel 47 = .ok (.iload 4, 2) := by decide +kernel
theorem dX7_cancel_49 : decode cX7_cancel 49 = .ok (.istore 5, 2) := by decide +kernel
theorem dX7_cancel_51 : decode cX7_cancel 51 = .ok (.iconst 0, 1) := by decide +kernel
theorem dX7_cancel_52 : decode cX7_cancel 52 = .ok (.istore 6, 2) := by decide +kernel
theorem dX7_cancel_54 : decode cX7_cancel 54 = .ok (.iconst 1, 1) := by decide +kernel
theorem dX7_cancel_55 : decode cX7_cancel 55 = .ok (.istore 7, 2) := by decide +kernel
theorem dX7_cancel_57 : decode cX7_cancel 57 = .ok (.iload 7, 2) := by decide +kernel
theorem dX7_cancel_59 : decode cX7_cancel 59 = .ok (.bipush 8, 2) := by decide +kernel
theorem dX7_cancel_61 : decode cX7_cancel 61 = .ok (.if_icmp .ge 64, 3) := by decide +kernel
theorem dX7_cancel_64 : decode cX7_cancel 64 = .ok (.aload_n 0, 1) := by decide +kernel
theorem dX7_cancel_65 : decode cX7_cancel 65 = .ok (.iload_n 1, 1) := by decide +kernel
theorem dX7_cancel_66 : decode cX7_cancel 66 = .ok (.iload 7, 2) := by decide +kernel
theorem dX7_cancel_68 : decode cX7_cancel 68 = .ok (.invokevirtual 237, 3) := by decide +kernel
theorem dX7_cancel_71 : decode cX7_cancel 71 = .ok (.istore 8, 2) := by decide +kernel
theorem dX7_cancel_73 : decode cX7_cancel 73 = .ok (.iload 8, 2) := by decide +kernel
theorem dX7_cancel_75 : decode cX7_cancel 75 = .ok (.bipush (-4), 2) := by decide +kernel
theorem dX7_cancel_77 : decode cX7_cancel 77 = .ok (.if_icmp .eq 42, 3) := by decide +kernel
theorem dX7_cancel_80 : decode cX7_cancel 80 = .ok (.aload_n 0, 1) := by decide +kernel
theorem dX7_cancel_81 : decode cX7_cancel 81 = .ok (.getfield 63, 3) := by decide +kernel
theorem dX7_cancel_84 : decode cX7_cancel 84 = .ok (.iload 8, 2) := by decide +kernel
theorem dX7_cancel_86 : decode cX7_cancel 86 = .ok (.invokevirtual 234, 3) := by decide +kernel
theorem dX7_cancel_89 : decode cX7_cancel 89 = .ok (.iload 4, 2) := by decide +kernel
theorem dX7_cancel_91 : decode cX7_cancel 91 = .ok (.if_icmp .ge 28, 3) := by decide +kernel
theorem dX7_cancel_94 : decode cX7_cancel 94 = .ok (.iload 6, 2) := by decide +kernel
theorem dX7_cancel_96 : decode cX7_cancel 96 = .ok (.iconst 1, 1) := by decide +kernel
theorem dX7_cancel_97 : decode cX7_cancel 97 = .ok (.iload 7, 2) := by decide +kernel
theorem dX7_cancel_99 : decode cX7_cancel 99 = .ok (.ishl, 1) := by decide +kernel
theorem dX7_cancel_100 : decode cX7_cancel 100 = .ok (.ior, 1) := by decide +kernel
theorem dX7_cancel_101 : decode cX7_cancel 101 = .ok (.istore 6, 2) := by decide +kernel
theorem dX7_cancel_103 : decode cX7_cancel 103 = .ok (.iload 5, 2) := by decide +kernel
theorem dX7_cancel_105 : decode cX7_cancel 105 = .ok (.aload_n 0, 1) := by decide +kernel
theorem dX7_cancel_106 : decode cX7_cancel 106 = .ok (.getfield 63, 3) := by decide +kernel
theorem dX7_cancel_109 : decode cX7_cancel 109 = .ok (.iload 8, 2) := by decide +kernel
theorem dX7_cancel_111 : decode cX7_cancel 111 = .ok (.invokevirtual 234, 3) := by decide +kernel
theorem dX7_cancel_114 : decode cX7_cancel 114 = .ok (.invokestatic 213, 3) := by decide +kernel
theorem dX7_cancel_117 : decode cX7_cancel 117 = .ok (.istore 5, 2) := by decide +kernel
theorem dX7_cancel_119 : decode cX7_cancel 119 = .ok (.iinc 7 1, 3) := by decide +kernel
theorem dX7_cancel_122 : decode cX7_cancel 122 = .ok (.goto (-65), 3) := by decide +kernel
theorem dX7_cancel_125 : decode cX7_cancel 125 = .ok (.iload_n 2, 1) := by decide +kernel
theorem dX7_cancel_126 : decode cX7_cancel 126 = .ok (.ifCond .ne 8, 3) := by decide +kernel
theorem dX7_cancel_129 : decode cX7_cancel 129 = .ok (.iload 6, 2) := by decide +kernel
theorem dX7_cancel_131 : decode cX7_cancel 131 = .ok (.goto 5, 3) := by decide +kernel
theorem dX7_cancel_134 : decode cX7_cancel 134 = .ok (.iload 5, 2) := by decide +kernel
theorem dX7_cancel_136 : decode cX7_cancel 136 = .ok (.ireturn, 1) := by decide +kernel
theorem dX7_sail_0 : decode cX7_sail 0 = .ok (.iload_n 1, 1) := by decide +kernel
theorem dX7_sail_1 : decode cX7_sail 1 = .ok (.iconst 1, 1) := by decide +kernel
theorem dX7_sail_2 : decode cX7_sail 2 = .ok (.sipush 360, 3) := by decide +kernel
theorem dX7_sail_5 : decode cX7_sail 5 = .ok (.invokestatic 97, 3) := by decide +kernel
theorem dX7_sail_8 : decode cX7_sail 8 = .ok (.ifCond .eq 13, 3) := by decide +kernel
theorem dX7_sail_11 : decode cX7_sail 11 = .ok (.iload_n 2, 1) := by decide +kernel
theorem dX7_sail_12 : decode cX7_sail 12 = .ok (.iconst 1, 1) := by decide +kernel
theorem dX7_sail_13 : decode cX7_sail 13 = .ok (.bipush 99, 2) := by decide +kernel
theorem dX7_sail_15 : decode cX7_sail 15 = .ok (.invokestatic 97, 3) := by decide +kernel
theorem dX7_sail_18 : decode cX7_sail 18 = .ok (.ifCond .ne 5, 3) := by decide +kernel
theorem dX7_sail_21 : decode cX7_sail 21 = .ok (.iconst (-1), 1) := by decide +kernel
theorem dX7_sail_22 : decode cX7_sail 22 = .ok (.ireturn, 1) := by decide +kernel
theorem dX7_sail_23 : decode cX7_sail 23 = .ok (.aload_n 0, 1) := by decide +kernel
theorem dX7_sail_24 : decode cX7_sail 24 = .ok (.aload_n 0, 1) := by decide +kernel
theorem dX7_sail_25 : decode cX7_sail 25 = .ok (.getfield 26, 3) := by decide +kernel
theorem dX7_sail_28 : decode cX7_sail 28 = .ok (.invokevirtual 204, 3) := by decide +kernel
theorem dX7_sail_31 : decode cX7_sail 31 = .ok (.istore_n 3, 1) := by decide +kernel
theorem dX7_sail_32 : decode cX7_sail 32 = .ok (.iload_n 3, 1) := by decide +kernel
theorem dX7_sail_33 : decode cX7_sail 33 = .ok (.bipush (-4), 2) := by decide +kernel
theorem dX7_sail_35 : decode cX7_sail 35 = .ok (.if_icmp .ne 6, 3) := by decide +kernel
theorem dX7_sail_38 : decode cX7_sail 38 = .ok (.bipush (-4), 2) := by decide +kernel
theorem dX7_sail_40 : decode cX7_sail 40 = .ok (.ireturn, 1) := by decide +kernel
theorem dX7_sail_41 : decode cX7_sail 41 = .ok (.bipush 100, 2) := by decide +kernel
theorem dX7_sail_43 : decode cX7_sail 43 = .ok (.iload_n 2, 1) := by decide +kernel
theorem dX7_sail_44 : decode cX7_sail 44 = .ok (.imul, 1) := by decide +kernel
theorem dX7_sail_45 : decode cX7_sail 45 = .ok (.istore 4, 2) := by decide +kernel
theorem dX7_sail_47 : decode cX7_sail 47 = .ok (.iload_n 3, 1) := by decide +kernel
theorem dX7_sail_48 : decode cX7_sail 48 = .ok (.i2l, 1) := by decide +kernel
theorem dX7_sail_49 : decode cX7_sail 49 = .ok (.iload_n 1, 1) := by decide +kernel
theorem dX7_sail_50 : decode cX7_sail 50 = .ok (.i2l, 1) := by decide +kernel
theorem dX7_sail_51 : decode cX7_sail 51 = .ok (.lmul, 1) := by decide +kernel
theorem dX7_sail_52 : decode cX7_sail 52 = .ok (.sipush 360, 3) := by decide +kernel
theorem dX7_sail_55 : decode cX7_sail 55 = .ok (.invokestatic 240, 3) := by decide +kernel
theorem dX7_sail_58 : decode cX7_sail 58 = .ok (.iload 4, 2) := by decide +kernel
theorem dX7_sail_60 : decode cX7_sail 60 = .ok (.if_icmp .le 5, 3) := by decide +kernel
theorem dX7_sail_63 : decode cX7_sail 63 = .ok (.iconst 0, 1) := by decide +kernel
theorem dX7_sail_64 : decode cX7_sail 64 = .ok (.ireturn, 1) := by decide +kernel
theorem dX7_sail_65 : decode cX7_sail 65 = .ok (.aload_n 0, 1) := by decide +kernel
theorem dX7_sail_66 : decode cX7_sail 66 = .ok (.getfield 63, 3) := by decide +kernel
theorem dX7_sail_69 : decode cX7_sail 69 = .ok (.getfield 244, 3) := by decide +kernel
theorem dX7_sail_72 : decode cX7_sail 72 = .ok (.i2l, 1) := by decide +kernel
theorem dX7_sail_73 : decode cX7_sail 73 = .ok (.iload_n 1, 1) := by decide +kernel
theorem dX7_sail_74 : decode cX7_sail 74 = .ok (.i2l, 1) := by decide +kernel
theorem dX7_sail_75 : decode cX7_sail 75 = .ok (.lmul, 1) := by decide +kernel
theorem dX7_sail_76 : decode cX7_sail 76 = .ok (.sipush 360, 3) := by decide +kernel
theorem dX7_sail_79 : decode cX7_sail 79 = .ok (.invokestatic 240, 3) := by decide +kernel
theorem dX7_sail_82 : decode cX7_sail 82 = .ok (.iload 4, 2) := by decide +kernel
theorem dX7_sail_84 : decode cX7_sail 84 = .ok (.if_icmp .le 7, 3) := by decide +kernel
theorem dX7_sail_87 : decode cX7_sail 87 = .ok (.iconst 1, 1) := by decide +kernel
theorem dX7_sail_88 : decode cX7_sail 88 = .ok (.goto 4, 3) := by decide +kernel
theorem dX7_sail_91 : decode cX7_sail 91 = .ok (.iconst 2, 1) := by decide +kernel
theorem dX7_sail_92 : decode cX7_sail 92 = .ok (.ireturn, 1) := by decide +kernel
theorem dX7_see_0 : decode cX7_see 0 = .ok (.aload_n 0, 1) := by decide +kernel
theorem dX7_see_1 : decode cX7_see 1 = .ok (.getfield 63, 3) := by decide +kernel
theorem dX7_see_4 : decode cX7_see 4 = .ok (.iload_n 1, 1) := by decide +kernel
theorem dX7_see_5 : decode cX7_see 5 = .ok (.invokevirtual 142, 3) := by decide +kernel
theorem dX7_see_8 : decode cX7_see 8 = .ok (.ifCond .eq 27, 3) := by decide +kernel
theorem dX7_see_11 : decode cX7_see 11 = .ok (.aload_n 0, 1) := by decide +kernel
theorem dX7_see_12 : decode cX7_see 12 = .ok (.getfield 63, 3) := by decide +kernel
theorem dX7_see_15 : decode cX7_see 15 = .ok (.iload_n 2, 1) := by decide +kernel
theorem dX7_see_16 : decode cX7_see 16 = .ok (.iload_n 3, 1) := by decide +kernel
theorem dX7_see_17 : decode cX7_see 17 = .ok (.invokevirtual 128, 3) := by decide +kernel
theorem dX7_see_20 : decode cX7_see 20 = .ok (.ifCond .eq 15, 3) := by decide +kernel
theorem dX7_see_23 : decode cX7_see 23 = .ok (.iload 4, 2) := by decide +kernel
theorem dX7_see_25 : decode cX7_see 25 = .ok (.iconst 0, 1) := by decide +kernel
theorem dX7_see_26 : decode cX7_see 26 = .ok (.sipush 9999, 3) := by decide +kernel
theorem dX7_see_29 : decode cX7_see 29 = .ok (.invokestatic 97, 3) := by decide +kernel
theorem dX7_see_32 : decode cX7_see 32 = .ok (.ifCond .ne 5, 3) := by decide +kernel
theorem dX7_see_35 : decode cX7_see 35 = .ok (.iconst (-1), 1) := by decide +kernel
theorem dX7_see_36 : decode cX7_see 36 = .ok (.ireturn, 1) := by decide +kernel
theorem dX7_see_37 : decode cX7_see 37 = .ok (.aload_n 0, 1) := by decide +kernel
theorem dX7_see_38 : decode cX7_see 38 = .ok (.getfield 49, 3) := by decide +kernel
theorem dX7_see_41 : decode cX7_see 41 = .ok (.getfield 247, 3) := by decide +kernel
theorem dX7_see_44 : decode cX7_see 44 = .ok (.bipush 6, 2) := by decide +kernel
theorem dX7_see_46 : decode cX7_see 46 = .ok (.if_icmp .lt 6, 3) := by decide +kernel
theorem dX7_see_49 : decode cX7_see 49 = .ok (.bipush (-3), 2) := by decide +kernel
theorem dX7_see_51 : decode cX7_see 51 = .ok (.ireturn, 1) := by decide +kernel
theorem dX7_see_52 : decode cX7_see 52 = .ok (.aload_n 0, 1) := by decide +kernel
theorem dX7_see_53 : decode cX7_see 53 = .ok (.getfield 49, 3) := by decide +kernel
theorem dX7_see_56 : decode cX7_see 56 = .ok (.iload_n 1, 1) := by decide +kernel
theorem dX7_see_57 : decode cX7_see 57 = .ok (.iload_n 2, 1) := by decide +kernel
theorem dX7_see_58 : decode cX7_see 58 = .ok (.iload_n 3, 1) := by decide +kernel
theorem dX7_see_59 : decode cX7_see 59 = .ok (.iload 4, 2) := by decide +kernel
theorem dX7_see_61 : decode cX7_see 61 = .ok (.invokevirtual 248, 3) := by decide +kernel
theorem dX7_see_64 : decode cX7_see 64 = .ok (.aload_n 0, 1) := by decide +kernel
theorem dX7_see_65 : decode cX7_see 65 = .ok (.getfield 49, 3) := by decide +kernel
theorem dX7_see_68 : decode cX7_see 68 = .ok (.getfield 247, 3) := by decide +kernel
theorem dX7_see_71 : decode cX7_see 71 = .ok (.ireturn, 1) := by decide +kernel
theorem dX7_forget_0 : decode cX7_forget 0 = .ok (.aload_n 0, 1) := by decide +kernel
theorem dX7_forget_1 : decode cX7_forget 1 = .ok (.getfield 49, 3) := by decide +kernel
theorem dX7_forget_4 : decode cX7_forget 4 = .ok (.getfield 247, 3) := by decide +kernel
theorem dX7_forget_7 : decode cX7_forget 7 = .ok (.istore_n 1, 1) := by decide +kernel
theorem dX7_forget_8 : decode cX7_forget 8 = .ok (.aload_n 0, 1) := by decide +kernel
theorem dX7_forget_9 : decode cX7_forget 9 = .ok (.getfield 49, 3) := by decide +kernel
theorem dX7_forget_12 : decode cX7_forget 12 = .ok (.invokevirtual 111, 3) := by decide +kernel
theorem dX7_forget_15 : decode cX7_forget 15 = .ok (.iload_n 1, 1) := by decide +kernel
theorem dX7_forget_16 : decode cX7_forget 16 = .ok (.ireturn, 1) := by decide +kernel
theorem dX7_fits_0 : decode cX7_fits 0 = .ok (.aload_n 0, 1) := by decide +kernel
theorem dX7_fits_1 : decode cX7_fits 1 = .ok (.getfield 63, 3) := by decide +kernel
theorem dX7_fits_4 : decode cX7_fits 4 = .ok (.iload_n 1, 1) := by decide +kernel
theorem dX7_fits_5 : decode cX7_fits 5 = .ok (.invokevirtual 142, 3) := by decide +kernel
theorem dX7_fits_8 : decode cX7_fits 8 = .ok (.ifCond .eq 12, 3) := by decide +kernel
theorem dX7_fits_11 : decode cX7_fits 11 = .ok (.iload_n 2, 1) := by decide +kernel
theorem dX7_fits_12 : decode cX7_fits 12 = .ok (.iconst 0, 1) := by decide +kernel
theorem dX7_fits_13 : decode cX7_fits 13 = .ok (.iconst 1, 1) := by decide +kernel
theorem dX7_fits_14 : decode cX7_fits 14 = .ok (.invokestatic 97, 3) := by decide +kernel
theorem dX7_fits_17 : decode cX7_fits 17 = .ok (.ifCond .ne 5, 3) := by decide +kernel
theorem dX7_fits_20 : decode cX7_fits 20 = .ok (.iconst (-1), 1) := by decide +kernel
theorem dX7_fits_21 : decode cX7_fits 21 = .ok (.ireturn, 1) := by decide +kernel
theorem dX7_fits_22 : decode cX7_fits 22 = .ok (.iload_n 2, 1) := by decide +kernel
theorem dX7_fits_23 : decode cX7_fits 23 = .ok (.ifCond .ne 11, 3) := by decide +kernel
theorem dX7_fits_26 : decode cX7_fits 26 = .ok (.aload_n 0, 1) := by decide +kernel
theorem dX7_fits_27 : decode cX7_fits 27 = .ok (.iload_n 1, 1) := by decide +kernel
theorem dX7_fits_28 : decode cX7_fits 28 = .ok (.invokevirtual 252, 3) := by decide +kernel
theorem dX7_fits_31 : decode cX7_fits 31 = .ok (.goto 8, 3) := by decide +kernel
theorem dX7_fits_34 : decode cX7_fits 34 = .ok (.aload_n 0, 1) := by decide +kernel
theorem dX7_fits_35 : decode cX7_fits 35 = .ok (.iload_n 1, 1) := by decide +kernel
theorem dX7_fits_36 : decode cX7_fits 36 = .ok (.invokevirtual 255, 3) := by decide +kernel
theorem dX7_fits_39 : decode cX7_fits 39 = .ok (.ireturn, 1) := by decide +kernel
theorem dX7_towns_0 : decode cX7_towns 0 = .ok (.iload_n 1, 1) := by decide +kernel
theorem dX7_towns_1 : decode cX7_towns 1 = .ok (.iconst 0, 1) := by decide +kernel
theorem dX7_towns_2 : decode cX7_towns 2 = .ok (.bipush 90, 2) := by decide +kernel
theorem dX7_towns_4 : decode cX7_towns 4 = .ok (.invokestatic 97, 3) := by decide +kernel
theorem dX7_towns_7 : decode cX7_towns 7 = .ok (.ifCond .ne 5, 3) := by decide +kernel
theorem dX7_towns_10 : decode cX7_towns 10 = .ok (.iconst (-1), 1) := by decide +kernel
theorem dX7_towns_11 : decode cX7_towns 11 = .ok (.ireturn, 1) := by decide +kernel
theorem dX7_towns_12 : decode cX7_towns 12 = .ok (.iconst 0, 1) := by decide +kernel
theorem dX7_towns_13 : decode cX7_towns 13 = .ok (.istore_n 2, 1) := by decide +kernel
theorem dX7_towns_14 : decode cX7_towns 14 = .ok (.iconst 0, 1) := by decide +kernel
theorem dX7_towns_15 : decode cX7_towns 15 = .ok (.istore_n 3, 1) := by decide +kernel
theorem dX7_towns_16 : decode cX7_towns 16 = .ok (.iload_n 3, 1) := by decide +kernel
theorem dX7_towns_17 : decode cX7_towns 17 = .ok (.aload_n 0, 1) := by decide +kernel
theorem dX7_towns_18 : decode cX7_towns 18 = .ok (.getfield 63, 3) := by decide +kernel
theorem dX7_towns_21 : decode cX7_towns 21 = .ok (.getfield 103, 3) := by decide +kernel
theorem dX7_towns_24 : decode cX7_towns 24 = .ok (.if_icmp .ge 32, 3) := by decide +kernel
theorem dX7_towns_27 : decode cX7_towns 27 = .ok (.aload_n 0, 1) := by decide +kernel
theorem dX7_towns_28 : decode cX7_towns 28 = .ok (.getfield 63, 3) := by decide +kernel
theorem dX7_towns_31 : decode cX7_towns 31 = .ok (.iload_n 3, 1) := by decide +kernel
theorem dX7_towns_32 : decode cX7_towns 32 = .ok (.invokevirtual 124, 3) := by decide +kernel
theorem dX7_towns_35 : decode cX7_towns 35 = .ok (.iload_n 1, 1) := by decide +kernel
theorem dX7_towns_36 : decode cX7_towns 36 = .ok (.isub, 1) := by decide +kernel
theorem dX7_towns_37 : decode cX7_towns 37 = .ok (.invokestatic 258, 3) := by decide +kernel
theorem dX7_towns_40 : decode cX7_towns 40 = .ok (.iconst 1, 1) := by decide +kernel
theorem dX7_towns_41 : decode cX7_towns 41 = .ok (.if_icmp .gt 9, 3) := by decide +kernel
theorem dX7_towns_44 : decode cX7_towns 44 = .ok (.iload_n 2, 1) := by decide +kernel
theorem dX7_towns_45 : decode cX7_towns 45 = .ok (.iconst 1, 1) := by decide +kernel
theorem dX7_towns_46 : decode cX7_towns 46 = .ok (.iload_n 3, 1) := by decide +kernel
theorem dX7_towns_47 : decode cX7_towns 47 = .ok (.ishl, 1) := by decide +kernel
theorem dX7_towns_48 : decode cX7_towns 48 = .ok (.ior, 1) := by decide +kernel
theorem dX7_towns_49 : decode cX7_towns 49 = .ok (.istore_n 2, 1) := by decide +kernel
theorem dX7_towns_50 : decode cX7_towns 50 = .ok (.iinc 3 1, 3) := by decide +kernel
theorem dX7_towns_53 : decode cX7_towns 53 = .ok (.goto (-37), 3) := by decide +kernel
theorem dX7_towns_56 : decode cX7_towns 56 = .ok (.iload_n 2, 1) := by decide +kernel
theorem dX7_towns_57 : decode cX7_towns 57 = .ok (.ireturn, 1) := by decide +kernel
theorem dX7_miscount_0 : decode cX7_miscount 0 = .ok (.iload_n 1, 1) := by decide +kernel
theorem dX7_miscount_1 : decode cX7_miscount 1 = .ok (.iconst 0, 1) := by decide +kernel
theorem dX7_miscount_2 : decode cX7_miscount 2 = .ok (.bipush 99, 2) := by decide +kernel
theorem dX7_miscount_4 : decode cX7_miscount 4 = .ok (.invokestatic 97, 3) := by decide +kernel
theorem dX7_miscount_7 : decode cX7_miscount 7 = .ok (.ifCond .eq 22, 3) := by decide +kernel
theorem dX7_miscount_10 : decode cX7_miscount 10 = .ok (.iload_n 2, 1) := by decide +kernel
theorem dX7_miscount_11 : decode cX7_miscount 11 = .ok (.iconst 0, 1) := by decide +kernel
theorem dX7_miscount_12 : decode cX7_miscount 12 = .ok (.bipush 10, 2) := by decide +kernel
theorem dX7_miscount_14 : decode cX7_miscount 14 = .ok (.invokestatic 97, 3) := by decide +kernel
theorem dX7_miscount_17 : decode cX7_miscount 17 = .ok (.ifCond .eq 12, 3) := by decide +kernel
theorem dX7_miscount_20 : decode cX7_miscount 20 = .ok (.iload_n 3, 1) := by decide +kernel
theorem dX7_miscount_21 : decode cX7_miscount 21 = .ok (.iconst 0, 1) := by decide +kernel
theorem dX7_miscount_22 : decode cX7_miscount 22 = .ok (.iconst 1, 1) := by decide +kernel
theorem dX7_miscount_23 : decode cX7_miscount 23 = .ok (.invokestatic 97, 3) := by decide +kernel
theorem dX7_miscount_26 : decode cX7_miscount 26 = .ok (.ifCond .ne 5, 3) := by decide +kernel
theorem dX7_miscount_29 : decode cX7_miscount 29 = .ok (.iconst (-1), 1) := by decide +kernel
theorem dX7_miscount_30 : decode cX7_miscount 30 = .ok (.ireturn, 1) := by decide +kernel
theorem dX7_miscount_31 : decode cX7_miscount 31 = .ok (.bipush 10, 2) := by decide +kernel
theorem dX7_miscount_33 : decode cX7_miscount 33 = .ok (.aload_n 0, 1) := by decide +kernel
theorem dX7_miscount_34 : decode cX7_miscount 34 = .ok (.getfield 26, 3) := by decide +kernel
theorem dX7_miscount_37 : decode cX7_miscount 37 = .ok (.getfield 178, 3) := by decide +kernel
theorem dX7_miscount_40 : decode cX7_miscount 40 = .ok (.invokestatic 261, 3) := by decide +kernel
theorem dX7_miscount_43 : decode cX7_miscount 43 = .ok (.istore 4, 2) := by decide +kernel
theorem dX7_miscount_45 : decode cX7_miscount 45 = .ok (.aload_n 0, 1) := by decide +kernel
theorem dX7_miscount_46 : decode cX7_miscount 46 = .ok (.iload_n 1, 1) := by decide +kernel
theorem dX7_miscount_47 : decode cX7_miscount 47 = .ok (.iload_n 2, 1) := by decide +kernel
theorem dX7_miscount_48 : decode cX7_miscount 48 = .ok (.invokevirtual 264, 3) := by decide +kernel
theorem dX7_miscount_51 : decode cX7_miscount 51 = .ok (.istore 5, 2) := by decide +kernel
theorem dX7_miscount_53 : decode cX7_miscount 53 = .ok (.iload 5, 2) := by decide +kernel
theorem dX7_miscount_55 : decode cX7_miscount 55 = .ok (.iload 4, 2) := by decide +kernel
theorem dX7_miscount_57 : decode cX7_miscount 57 = .ok (.invokestatic 267, 3) := by decide +kernel
theorem dX7_miscount_60 : decode cX7_miscount 60 = .ok (.istore 6, 2) := by decide +kernel
theorem dX7_miscount_62 : decode cX7_miscount 62 = .ok (.iload_n 3, 1) := by decide +kernel
theorem dX7_miscount_63 : decode cX7_miscount 63 = .ok (.ifCond .ne 9, 3) := by decide +kernel
theorem dX7_miscount_66 : decode cX7_miscount 66 = .ok (.iload 5, 2) := by decide +kernel
theorem dX7_miscount_68 : decode cX7_miscount 68 = .ok (.i2l, 1) := by decide +kernel
theorem dX7_miscount_69 : decode cX7_miscount 69 = .ok (.goto 6, 3) := by decide +kernel
theorem dX7_miscount_72 : decode cX7_miscount 72 = .ok (.iload 4, 2) := by decide +kernel
theorem dX7_miscount_74 : decode cX7_miscount 74 = .ok (.i2l, 1) := by decide +kernel
theorem dX7_miscount_75 : decode cX7_miscount 75 = .ok (.iload 6, 2) := by decide +kernel
theorem dX7_miscount_77 : decode cX7_miscount 77 = .ok (.invokestatic 240, 3) := by decide +kernel
theorem dX7_miscount_80 : decode cX7_miscount 80 = .ok (.ireturn, 1) := by decide +kernel
theorem dX7_year_0 : decode cX7_year 0 = .ok (.iload_n 1, 1) := by decide +kernel
theorem dX7_year_1 : decode cX7_year 1 = .ok (.iconst 0, 1) := by decide +kernel
theorem dX7_year_2 : decode cX7_year 2 = .ok (.sipush 9999, 3) := by decide +kernel
theorem dX7_year_5 : decode cX7_year 5 = .ok (.invokestatic 97, 3) := by decide +kernel
theorem dX7_year_8 : decode cX7_year 8 = .ok (.ifCond .eq 22, 3) := by decide +kernel
theorem dX7_year_11 : decode cX7_year 11 = .ok (.iload_n 2, 1) := by decide +kernel
theorem dX7_year_12 : decode cX7_year 12 = .ok (.iconst 1, 1) := by decide +kernel
theorem dX7_year_13 : decode cX7_year 13 = .ok (.bipush 40, 2) := by decide +kernel
theorem dX7_year_15 : decode cX7_year 15 = .ok (.invokestatic 97, 3) := by decide +kernel
theorem dX7_year_18 : decode cX7_year 18 = .ok (.ifCond .eq 12, 3) := by decide +kernel
theorem dX7_year_21 : decode cX7_year 21 = .ok (.iload_n 3, 1) := by decide +kernel
theorem dX7_year_22 : decode cX7_year 22 = .ok (.iconst 0, 1) := by decide +kernel
theorem dX7_year_23 : decode cX7_year 23 = .ok (.iconst 1, 1) := by decide +kernel
theorem dX7_year_24 : decode cX7_year 24 = .ok (.invokestatic 97, 3) := by decide +kernel
theorem dX7_year_27 : decode cX7_year 27 = .ok (.ifCond .ne 5, 3) := by decide +kernel
theorem dX7_year_30 : decode cX7_year 30 = .ok (.iconst (-1), 1) := by decide +kernel
theorem dX7_year_31 : decode cX7_year 31 = .ok (.ireturn, 1) := by decide +kernel
theorem dX7_year_32 : decode cX7_year 32 = .ok (.aload_n 0, 1) := by decide +kernel
theorem dX7_year_33 : decode cX7_year 33 = .ok (.getfield 30, 3) := by decide +kernel
theorem dX7_year_36 : decode cX7_year 36 = .ok (.aload_n 0, 1) := by decide +kernel
theorem dX7_year_37 : decode cX7_year 37 = .ok (.getfield 26, 3) := by decide +kernel
theorem dX7_year_40 : decode cX7_year 40 = .ok (.invokevirtual 270, 3) := by decide +kernel
theorem dX7_year_43 : decode cX7_year 43 = .ok (.iconst 0, 1) := by decide +kernel
theorem dX7_year_44 : decode cX7_year 44 = .ok (.istore 4, 2) := by decide +kernel
theorem dX7_year_46 : decode cX7_year 46 = .ok (.iload 4, 2) := by decide +kernel
theorem dX7_year_48 : decode cX7_year 48 = .ok (.iload_n 2, 1) := by decide +kernel
theorem dX7_year_49 : decode cX7_year 49 = .ok (.if_icmp .ge 23, 3) := by decide +kernel
theorem dX7_year_52 : decode cX7_year 52 = .ok (.aload_n 0, 1) := by decide +kernel
theorem dX7_year_53 : decode cX7_year 53 = .ok (.aload_n 0, 1) := by decide +kernel
theorem dX7_year_54 : decode cX7_year 54 = .ok (.getfield 30, 3) := by decide +kernel
theorem dX7_year_57 : decode cX7_year 57 = .ok (.iload_n 1, 1) := by decide +kernel
theorem dX7_year_58 : decode cX7_year 58 = .ok (.iload 4, 2) := by decide +kernel
theorem dX7_year_60 : decode cX7_year 60 = .ok (.invokestatic 273, 3) := by decide +kernel
theorem dX7_year_63 : decode cX7_year 63 = .ok (.invokevirtual 276, 3) := by decide +kernel
theorem dX7_year_66 : decode cX7_year 66 = .ok (.iinc 4 1, 3) := by decide +kernel
theorem dX7_year_69 : decode cX7_year 69 = .ok (.goto (-23), 3) := by decide +kernel
theorem dX7_year_72 : decode cX7_year 72 = .ok (.iload_n 3, 1) := by decide +kernel
theorem dX7_year_73 : decode cX7_year 73 = .ok (.ifCond .ne 14, 3) := by decide +kernel
theorem dX7_year_76 : decode cX7_year 76 = .ok (.aload_n 0, 1) := by decide +kernel
theorem dX7_year_77 : decode cX7_year 77 = .ok (.aload_n 0, 1) := by decide +kernel
theorem dX7_year_78 : decode cX7_year 78 = .ok (.getfield 30, 3) := by decide +kernel
theorem dX7_year_81 : decode cX7_year 81 = .ok (.invokevirtual 204, 3) := by decide +kernel
theorem dX7_year_84 : decode cX7_year 84 = .ok (.goto 18, 3) := by decide +kernel
theorem dX7_year_87 : decode cX7_year 87 = .ok (.aload_n 0, 1) := by decide +kernel
theorem dX7_year_88 : decode cX7_year 88 = .ok (.getfield 30, 3) := by decide +kernel
theorem dX7_year_91 : decode cX7_year 91 = .ok (.getfield 279, 3) := by decide +kernel
theorem dX7_year_94 : decode cX7_year 94 = .ok (.aload_n 0, 1) := by decide +kernel
theorem dX7_year_95 : decode cX7_year 95 = .ok (.getfield 26, 3) := by decide +kernel
theorem dX7_year_98 : decode cX7_year 98 = .ok (.getfield 279, 3) := by decide +kernel
theorem dX7_year_101 : decode cX7_year 101 = .ok (.isub, 1) := by decide +kernel
theorem dX7_year_102 : decode cX7_year 102 = .ok (.ireturn, 1) := by decide +kernel
theorem dX7_keep_0 : decode cX7_keep 0 = .ok (.aload_n 0, 1) := by decide +kernel
theorem dX7_keep_1 : decode cX7_keep 1 = .ok (.getfield 70, 3) := by decide +kernel
theorem dX7_keep_4 : decode cX7_keep 4 = .ok (.iconst 2, 1) := by decide +kernel
theorem dX7_keep_5 : decode cX7_keep 5 = .ok (.if_icmp .lt 6, 3) := by decide +kernel
theorem dX7_keep_8 : decode cX7_keep 8 = .ok (.bipush (-3), 2) := by decide +kernel
theorem dX7_keep_10 : decode cX7_keep 10 = .ok (.ireturn, 1) := by decide +kernel
theorem dX7_keep_11 : decode cX7_keep 11 = .ok (.aload_n 0, 1) := by decide +kernel
theorem dX7_keep_12 : decode cX7_keep 12 = .ok (.aload_n 0, 1) := by decide +kernel
theorem dX7_keep_13 : decode cX7_keep 13 = .ok (.getfield 70, 3) := by decide +kernel
theorem dX7_keep_16 : decode cX7_keep 16 = .ok (.invokevirtual 282, 3) := by decide +kernel
theorem dX7_keep_19 : decode cX7_keep 19 = .ok (.aload_n 0, 1) := by decide +kernel
theorem dX7_keep_20 : decode cX7_keep 20 = .ok (.getfield 26, 3) := by decide +kernel
theorem dX7_keep_23 : decode cX7_keep 23 = .ok (.invokevirtual 270, 3) := by decide +kernel
theorem dX7_keep_26 : decode cX7_keep 26 = .ok (.aload_n 0, 1) := by decide +kernel
theorem dX7_keep_27 : decode cX7_keep 27 = .ok (.dup, 1) := by decide +kernel
theorem dX7_keep_28 : decode cX7_keep 28 = .ok (.getfield 70, 3) := by decide +kernel
theorem dX7_keep_31 : decode cX7_keep 31 = .ok (.iconst 1, 1) := by decide +kernel
theorem dX7_keep_32 : decode cX7_keep 32 = .ok (.iadd, 1) := by decide +kernel
theorem dX7_keep_33 : decode cX7_keep 33 = .ok (.putfield 70, 3) := by decide +kernel
theorem dX7_keep_36 : decode cX7_keep 36 = .ok (.aload_n 0, 1) := by decide +kernel
theorem dX7_keep_37 : decode cX7_keep 37 = .ok (.getfield 70, 3) := by decide +kernel
theorem dX7_keep_40 : decode cX7_keep 40 = .ok (.ireturn, 1) := by decide +kernel
theorem dX7_back_0 : decode cX7_back 0 = .ok (.aload_n 0, 1) := by decide +kernel
theorem dX7_back_1 : decode cX7_back 1 = .ok (.getfield 70, 3) := by decide +kernel
theorem dX7_back_4 : decode cX7_back 4 = .ok (.ifCond .ne 6, 3) := by decide +kernel
theorem dX7_back_7 : decode cX7_back 7 = .ok (.bipush (-2), 2) := by decide +kernel
theorem dX7_back_9 : decode cX7_back 9 = .ok (.ireturn, 1) := by decide +kernel
theorem dX7_back_10 : decode cX7_back 10 = .ok (.aload_n 0, 1) := by decide +kernel
theorem dX7_back_11 : decode cX7_back 11 = .ok (.dup, 1) := by decide +kernel
theorem dX7_back_12 : decode cX7_back 12 = .ok (.getfield 70, 3) := by decide +kernel
theorem dX7_back_15 : decode cX7_back 15 = .ok (.iconst 1, 1) := by decide +kernel
theorem dX7_back_16 : decode cX7_back 16 = .ok (.isub, 1) := by decide +kernel
theorem dX7_back_17 : decode cX7_back 17 = .ok (.putfield 70, 3) := by decide +kernel
theorem dX7_back_20 : decode cX7_back 20 = .ok (.aload_n 0, 1) := by decide +kernel
theorem dX7_back_21 : decode cX7_back 21 = .ok (.getfield 26, 3) := by decide +kernel
theorem dX7_back_24 : decode cX7_back 24 = .ok (.aload_n 0, 1) := by decide +kernel
theorem dX7_back_25 : decode cX7_back 25 = .ok (.aload_n 0, 1) := by decide +kernel
theorem dX7_back_26 : decode cX7_back 26 = .ok (.getfield 70, 3) := by decide +kernel
theorem dX7_back_29 : decode cX7_back 29 = .ok (.invokevirtual 282, 3) := by decide +kernel
theorem dX7_back_32 : decode cX7_back 32 = .ok (.invokevirtual 270, 3) := by decide +kernel
theorem dX7_back_35 : decode cX7_back 35 = .ok (.aload_n 0, 1) := by decide +kernel
theorem dX7_back_36 : decode cX7_back 36 = .ok (.getfield 42, 3) := by decide +kernel
theorem dX7_back_39 : decode cX7_back 39 = .ok (.invokevirtual 110, 3) := by decide +kernel
theorem dX7_back_42 : decode cX7_back 42 = .ok (.aload_n 0, 1) := by decide +kernel
theorem dX7_back_43 : decode cX7_back 43 = .ok (.getfield 70, 3) := by decide +kernel
theorem dX7_back_46 : decode cX7_back 46 = .ok (.ireturn, 1) := by decide +kernel
theorem dX7_count_0 : decode cX7_count 0 = .ok (.iload_n 1, 1) := by decide +kernel
theorem dX7_count_1 : decode cX7_count 1 = .ok (.tableswitch 120 0 8 #[51, 59, 67, 75, 83, 91, 99, 107, 112], 51) := by decide +kernel
theorem dX7_count_52 : decode cX7_count 52 = .ok (.aload_n 0, 1) := by decide +kernel
theorem dX7_count_53 : decode cX7_count 53 = .ok (.getfield 63, 3) := by decide +kernel
theorem dX7_count_56 : decode cX7_count 56 = .ok (.getfield 103, 3) := by decide +kernel
theorem dX7_count_59 : decode cX7_count 59 = .ok (.ireturn, 1) := by decide +kernel
theorem dX7_count_60 : decode cX7_count 60 = .ok (.aload_n 0, 1) := by decide +kernel
theorem dX7_count_61 : decode cX7_count 61 = .ok (.getfield 63, 3) := by decide +kernel
theorem dX7_count_64 : decode cX7_count 64 = .ok (.getfield 106, 3) := by decide +kernel
theorem dX7_count_67 : decode cX7_count 67 = .ok (.ireturn, 1) := by decide +kernel
theorem dX7_count_68 : decode cX7_count 68 = .ok (.aload_n 0, 1) := by decide +kernel
theorem dX7_count_69 : decode cX7_count 69 = .ok (.getfield 63, 3) := by decide +kernel
theorem dX7_count_72 : decode cX7_count 72 = .ok (.getfield 244, 3) := by decide +kernel
theorem dX7_count_75 : decode cX7_count 75 = .ok (.ireturn, 1) := by decide +kernel
theorem dX7_count_76 : decode cX7_count 76 = .ok (.aload_n 0, 1) := by decide +kernel
theorem dX7_count_77 : decode cX7_count 77 = .ok (.getfield 26, 3) := by decide +kernel
theorem dX7_count_80 : decode cX7_count 80 = .ok (.getfield 178, 3) := by decide +kernel
theorem dX7_count_83 : decode cX7_count 83 = .ok (.ireturn, 1) := by decide +kernel
theorem dX7_count_84 : decode cX7_count 84 = .ok (.aload_n 0, 1) := by decide +kernel
theorem dX7_count_85 : decode cX7_count 85 = .ok (.getfield 26, 3) := by decide +kernel
theorem dX7_count_88 : decode cX7_count 88 = .ok (.getfield 279, 3) := by decide +kernel
theorem dX7_count_91 : decode cX7_count 91 = .ok (.ireturn, 1) := by decide +kernel
theorem dX7_count_92 : decode cX7_count 92 = .ok (.aload_n 0, 1) := by decide +kernel
theorem dX7_count_93 : decode cX7_count 93 = .ok (.getfield 49, 3) := by decide +kernel
theorem dX7_count_96 : decode cX7_count 96 = .ok (.getfield 247, 3) := by decide +kernel
theorem dX7_count_99 : decode cX7_count 99 = .ok (.ireturn, 1) := by decide +kernel
theorem dX7_count_100 : decode cX7_count 100 = .ok (.aload_n 0, 1) := by decide +kernel
theorem dX7_count_101 : decode cX7_count 101 = .ok (.getfield 42, 3) := by decide +kernel
theorem dX7_count_104 : decode cX7_count 104 = .ok (.getfield 199, 3) := by decide +kernel
theorem dX7_count_107 : decode cX7_count 107 = .ok (.ireturn, 1) := by decide +kernel
theorem dX7_count_108 : decode cX7_count 108 = .ok (.aload_n 0, 1) := by decide +kernel
theorem dX7_count_109 : decode cX7_count 109 = .ok (.getfield 70, 3) := by decide +kernel
theorem dX7_count_112 : decode cX7_count 112 = .ok (.ireturn, 1) := by decide +kernel
theorem dX7_count_113 : decode cX7_count 113 = .ok (.aload_n 0, 1) := by decide +kernel
theorem dX7_count_114 : decode cX7_count 114 = .ok (.getfield 12, 3) := by decide +kernel
theorem dX7_count_117 : decode cX7_count 117 = .ok (.getfield 101, 3) := by decide +kernel
theorem dX7_count_120 : decode cX7_count 120 = .ok (.ireturn, 1) := by decide +kernel
theorem dX7_count_121 : decode cX7_count 121 = .ok (.iconst (-1), 1) := by decide +kernel
theorem dX7_count_122 : decode cX7_count 122 = .ok (.ireturn, 1) := by decide +kernel
theorem dX7_girthBy_0 : decode cX7_girthBy 0 = .ok (.aload_n 0, 1) := by decide +kernel
theorem dX7_girthBy_1 : decode cX7_girthBy 1 = .ok (.getfield 63, 3) := by decide +kernel
theorem dX7_girthBy_4 : decode cX7_girthBy 4 = .ok (.aload_n 0, 1) := by decide +kernel
theorem dX7_girthBy_5 : decode cX7_girthBy 5 = .ok (.getfield 26, 3) := by decide +kernel
theorem dX7_girthBy_8 : decode cX7_girthBy 8 = .ok (.getfield 157, 3) := by decide +kernel
theorem dX7_girthBy_11 : decode cX7_girthBy 11 = .ok (.iload_n 1, 1) := by decide +kernel
theorem dX7_girthBy_12 : decode cX7_girthBy 12 = .ok (.invokestatic 120, 3) := by decide +kernel
theorem dX7_girthBy_15 : decode cX7_girthBy 15 = .ok (.aload_n 0, 1) := by decide +kernel
theorem dX7_girthBy_16 : decode cX7_girthBy 16 = .ok (.getfield 26, 3) := by decide +kernel
theorem dX7_girthBy_19 : decode cX7_girthBy 19 = .ok (.getfield 166, 3) := by decide +kernel
theorem dX7_girthBy_22 : decode cX7_girthBy 22 = .ok (.iload_n 1, 1) := by decide +kernel
theorem dX7_girthBy_23 : decode cX7_girthBy 23 = .ok (.invokestatic 120, 3) := by decide +kernel
theorem dX7_girthBy_26 : decode cX7_girthBy 26 = .ok (.aload_n 0, 1) := by decide +kernel
theorem dX7_girthBy_27 : decode cX7_girthBy 27 = .ok (.iload_n 1, 1) := by decide +kernel
theorem dX7_girthBy_28 : decode cX7_girthBy 28 = .ok (.invokevirtual 286, 3) := by decide +kernel
theorem dX7_girthBy_31 : decode cX7_girthBy 31 = .ok (.invokevirtual 289, 3) := by decide +kernel
theorem dX7_girthBy_34 : decode cX7_girthBy 34 = .ok (.ireturn, 1) := by decide +kernel
theorem dX7_leastBy_0 : decode cX7_leastBy 0 = .ok (.aload_n 0, 1) := by decide +kernel
theorem dX7_leastBy_1 : decode cX7_leastBy 1 = .ok (.getfield 63, 3) := by decide +kernel
theorem dX7_leastBy_4 : decode cX7_leastBy 4 = .ok (.aload_n 0, 1) := by decide +kernel
theorem dX7_leastBy_5 : decode cX7_leastBy 5 = .ok (.getfield 26, 3) := by decide +kernel
theorem dX7_leastBy_8 : decode cX7_leastBy 8 = .ok (.getfield 157, 3) := by decide +kernel
theorem dX7_leastBy_11 : decode cX7_leastBy 11 = .ok (.iload_n 1, 1) := by decide +kernel
theorem dX7_leastBy_12 : decode cX7_leastBy 12 = .ok (.invokestatic 120, 3) := by decide +kernel
theorem dX7_leastBy_15 : decode cX7_leastBy 15 = .ok (.aload_n 0, 1) := by decide +kernel
theorem dX7_leastBy_16 : decode cX7_leastBy 16 = .ok (.getfield 26, 3) := by decide +kernel
theorem dX7_leastBy_19 : decode cX7_leastBy 19 = .ok (.getfield 166, 3) := by decide +kernel
theorem dX7_leastBy_22 : decode cX7_leastBy 22 = .ok (.iload_n 1, 1) := by decide +kernel
theorem dX7_leastBy_23 : decode cX7_leastBy 23 = .ok (.invokestatic 120, 3) := by decide +kernel
theorem dX7_leastBy_26 : decode cX7_leastBy 26 = .ok (.aload_n 0, 1) := by decide +kernel
theorem dX7_leastBy_27 : decode cX7_leastBy 27 = .ok (.iload_n 1, 1) := by decide +kernel
theorem dX7_leastBy_28 : decode cX7_leastBy 28 = .ok (.invokevirtual 286, 3) := by decide +kernel
theorem dX7_leastBy_31 : decode cX7_leastBy 31 = .ok (.iconst 2, 1) := by decide +kernel
theorem dX7_leastBy_32 : decode cX7_leastBy 32 = .ok (.iadd, 1) := by decide +kernel
theorem dX7_leastBy_33 : decode cX7_leastBy 33 = .ok (.invokevirtual 289, 3) := by decide +kernel
theorem dX7_leastBy_36 : decode cX7_leastBy 36 = .ok (.ireturn, 1) := by decide +kernel
theorem dX7_mostBy_0 : decode cX7_mostBy 0 = .ok (.aload_n 0, 1) := by decide +kernel
theorem dX7_mostBy_1 : decode cX7_mostBy 1 = .ok (.getfield 63, 3) := by decide +kernel
theorem dX7_mostBy_4 : decode cX7_mostBy 4 = .ok (.aload_n 0, 1) := by decide +kernel
theorem dX7_mostBy_5 : decode cX7_mostBy 5 = .ok (.getfield 26, 3) := by decide +kernel
theorem dX7_mostBy_8 : decode cX7_mostBy 8 = .ok (.getfield 157, 3) := by decide +kernel
theorem dX7_mostBy_11 : decode cX7_mostBy 11 = .ok (.iload_n 1, 1) := by decide +kernel
theorem dX7_mostBy_12 : decode cX7_mostBy 12 = .ok (.invokestatic 120, 3) := by decide +kernel
theorem dX7_mostBy_15 : decode cX7_mostBy 15 = .ok (.aload_n 0, 1) := by decide +kernel
theorem dX7_mostBy_16 : decode cX7_mostBy 16 = .ok (.getfield 26, 3) := by decide +kernel
theorem dX7_mostBy_19 : decode cX7_mostBy 19 = .ok (.getfield 166, 3) := by decide +kernel
theorem dX7_mostBy_22 : decode cX7_mostBy 22 = .ok (.iload_n 1, 1) := by decide +kernel
theorem dX7_mostBy_23 : decode cX7_mostBy 23 = .ok (.invokestatic 120, 3) := by decide +kernel
theorem dX7_mostBy_26 : decode cX7_mostBy 26 = .ok (.aload_n 0, 1) := by decide +kernel
theorem dX7_mostBy_27 : decode cX7_mostBy 27 = .ok (.iload_n 1, 1) := by decide +kernel
theorem dX7_mostBy_28 : decode cX7_mostBy 28 = .ok (.invokevirtual 286, 3) := by decide +kernel
theorem dX7_mostBy_31 : decode cX7_mostBy 31 = .ok (.iconst 2, 1) := by decide +kernel
theorem dX7_mostBy_32 : decode cX7_mostBy 32 = .ok (.isub, 1) := by decide +kernel
theorem dX7_mostBy_33 : decode cX7_mostBy 33 = .ok (.invokevirtual 289, 3) := by decide +kernel
theorem dX7_mostBy_36 : decode cX7_mostBy 36 = .ok (.ireturn, 1) := by decide +kernel
theorem dX7_shadowsApartBy_0 : decode cX7_shadowsApartBy 0 = .ok (.aload_n 0, 1) := by decide +kernel
theorem dX7_shadowsApartBy_1 : decode cX7_shadowsApartBy 1 = .ok (.getfield 63, 3) := by decide +kernel
theorem dX7_shadowsApartBy_4 : decode cX7_shadowsApartBy 4 = .ok (.aload_n 0, 1) := by decide +kernel
theorem dX7_shadowsApartBy_5 : decode cX7_shadowsApartBy 5 = .ok (.getfield 26, 3) := by decide +kernel
theorem dX7_shadowsApartBy_8 : decode cX7_shadowsApartBy 8 = .ok (.getfield 160, 3) := by decide +kernel
theorem dX7_shadowsApartBy_11 : decode cX7_shadowsApartBy 11 = .ok (.iload_n 1, 1) := by decide +kernel
theorem dX7_shadowsApartBy_12 : decode cX7_shadowsApartBy 12 = .ok (.invokestatic 120, 3) := by decide +kernel
theorem dX7_shadowsApartBy_15 : decode cX7_shadowsApartBy 15 = .ok (.aload_n 0, 1) := by decide +kernel
theorem dX7_shadowsApartBy_16 : decode cX7_shadowsApartBy 16 = .ok (.getfield 26, 3) := by decide +kernel
theorem dX7_shadowsApartBy_19 : decode cX7_shadowsApartBy 19 = .ok (.getfield 163, 3) := by decide +kernel
theorem dX7_shadowsApartBy_22 : decode cX7_shadowsApartBy 22 = .ok (.iload_n 1, 1) := by decide +kernel
theorem dX7_shadowsApartBy_23 : decode cX7_shadowsApartBy 23 = .ok (.invokestatic 120, 3) := by decide +kernel
theorem dX7_shadowsApartBy_26 : decode cX7_shadowsApartBy 26 = .ok (.invokevirtual 139, 3) := by decide +kernel
theorem dX7_shadowsApartBy_29 : decode cX7_shadowsApartBy 29 = .ok (.ireturn, 1) := by decide +kernel
theorem dX7_meanBy_0 : decode cX7_meanBy 0 = .ok (.aload_n 0, 1) := by decide +kernel
theorem dX7_meanBy_1 : decode cX7_meanBy 1 = .ok (.getfield 56, 3) := by decide +kernel
theorem dX7_meanBy_4 : decode cX7_meanBy 4 = .ok (.aload_n 0, 1) := by decide +kernel
theorem dX7_meanBy_5 : decode cX7_meanBy 5 = .ok (.getfield 63, 3) := by decide +kernel
theorem dX7_meanBy_8 : decode cX7_meanBy 8 = .ok (.aload_n 1, 1) := by decide +kernel
theorem dX7_meanBy_9 : decode cX7_meanBy 9 = .ok (.invokevirtual 219, 3) := by decide +kernel
theorem dX7_meanBy_12 : decode cX7_meanBy 12 = .ok (.aload_n 0, 1) := by decide +kernel
theorem dX7_meanBy_13 : decode cX7_meanBy 13 = .ok (.getfield 56, 3) := by decide +kernel
theorem dX7_meanBy_16 : decode cX7_meanBy 16 = .ok (.sipush 511, 3) := by decide +kernel
theorem dX7_meanBy_19 : decode cX7_meanBy 19 = .ok (.iconst 0, 1) := by decide +kernel
theorem dX7_meanBy_20 : decode cX7_meanBy 20 = .ok (.invokevirtual 228, 3) := by decide +kernel
theorem dX7_meanBy_23 : decode cX7_meanBy 23 = .ok (.ireturn, 1) := by decide +kernel
theorem dX7_widthOfNext_0 : decode cX7_widthOfNext 0 = .ok (.aload_n 0, 1) := by decide +kernel
theorem dX7_widthOfNext_1 : decode cX7_widthOfNext 1 = .ok (.aload_n 0, 1) := by decide +kernel
theorem dX7_widthOfNext_2 : decode cX7_widthOfNext 2 = .ok (.getfield 26, 3) := by decide +kernel
theorem dX7_widthOfNext_5 : decode cX7_widthOfNext 5 = .ok (.iload_n 1, 1) := by decide +kernel
theorem dX7_widthOfNext_6 : decode cX7_widthOfNext 6 = .ok (.iload_n 2, 1) := by decide +kernel
theorem dX7_widthOfNext_7 : decode cX7_widthOfNext 7 = .ok (.iload_n 3, 1) := by decide +kernel
theorem dX7_widthOfNext_8 : decode cX7_widthOfNext 8 = .ok (.aload_n 0, 1) := by decide +kernel
theorem dX7_widthOfNext_9 : decode cX7_widthOfNext 9 = .ok (.getfield 63, 3) := by decide +kernel
theorem dX7_widthOfNext_12 : decode cX7_widthOfNext 12 = .ok (.getfield 145, 3) := by decide +kernel
theorem dX7_widthOfNext_15 : decode cX7_widthOfNext 15 = .ok (.iload_n 1, 1) := by decide +kernel
theorem dX7_widthOfNext_16 : decode cX7_widthOfNext 16 = .ok (.invokestatic 120, 3) := by decide +kernel
theorem dX7_widthOfNext_19 : decode cX7_widthOfNext 19 = .ok (.aload_n 0, 1) := by decide +kernel
theorem dX7_widthOfNext_20 : decode cX7_widthOfNext 20 = .ok (.getfield 63, 3) := by decide +kernel
theorem dX7_widthOfNext_23 : decode cX7_widthOfNext 23 = .ok (.getfield 151, 3) := by decide +kernel
theorem dX7_widthOfNext_26 : decode cX7_widthOfNext 26 = .ok (.iload_n 1, 1) := by decide +kernel
theorem dX7_widthOfNext_27 : decode cX7_widthOfNext 27 = .ok (.invokestatic 120, 3) := by decide +kernel
theorem dX7_widthOfNext_30 : decode cX7_widthOfNext 30 = .ok (.invokevirtual 292, 3) := by decide +kernel
theorem dX7_widthOfNext_33 : decode cX7_widthOfNext 33 = .ok (.istore 4, 2) := by decide +kernel
theorem dX7_widthOfNext_35 : decode cX7_widthOfNext 35 = .ok (.aload_n 0, 1) := by decide +kernel
theorem dX7_widthOfNext_36 : decode cX7_widthOfNext 36 = .ok (.getfield 63, 3) := by decide +kernel
theorem dX7_widthOfNext_39 : decode cX7_widthOfNext 39 = .ok (.iload_n 2, 1) := by decide +kernel
theorem dX7_widthOfNext_40 : decode cX7_widthOfNext 40 = .ok (.iload_n 3, 1) := by decide +kernel
theorem dX7_widthOfNext_41 : decode cX7_widthOfNext 41 = .ok (.invokevirtual 139, 3) := by decide +kernel
theorem dX7_widthOfNext_44 : decode cX7_widthOfNext 44 = .ok (.istore 5, 2) := by decide +kernel
theorem dX7_widthOfNext_46 : decode cX7_widthOfNext 46 = .ok (.aload_n 0, 1) := by decide +kernel
theorem dX7_widthOfNext_47 : decode cX7_widthOfNext 47 = .ok (.getfield 63, 3) := by decide +kernel
theorem dX7_widthOfNext_50 : decode cX7_widthOfNext 50 = .ok (.iload_n 1, 1) := by decide +kernel
theorem dX7_widthOfNext_51 : decode cX7_widthOfNext 51 = .ok (.iload 4, 2) := by decide +kernel
theorem dX7_widthOfNext_53 : decode cX7_widthOfNext 53 = .ok (.iload 5, 2) := by decide +kernel
theorem dX7_widthOfNext_55 : decode cX7_widthOfNext 55 = .ok (.iconst 2, 1) := by decide +kernel
theorem dX7_widthOfNext_56 : decode cX7_widthOfNext 56 = .ok (.isub, 1) := by decide +kernel
theorem dX7_widthOfNext_57 : decode cX7_widthOfNext 57 = .ok (.invokevirtual 289, 3) := by decide +kernel
theorem dX7_widthOfNext_60 : decode cX7_widthOfNext 60 = .ok (.istore 6, 2) := by decide +kernel
theorem dX7_widthOfNext_62 : decode cX7_widthOfNext 62 = .ok (.iload 6, 2) := by decide +kernel
theorem dX7_widthOfNext_64 : decode cX7_widthOfNext 64 = .ok (.bipush (-4), 2) := by decide +kernel
theorem dX7_widthOfNext_66 : decode cX7_widthOfNext 66 = .ok (.if_icmp .ne 8, 3) := by decide +kernel
theorem dX7_widthOfNext_69 : decode cX7_widthOfNext 69 = .ok (.bipush (-4), 2) := by decide +kernel
theorem dX7_widthOfNext_71 : decode cX7_widthOfNext 71 = .ok (.goto 20, 3) := by decide +kernel
theorem dX7_widthOfNext_74 : decode cX7_widthOfNext 74 = .ok (.iload 6, 2) := by decide +kernel
theorem dX7_widthOfNext_76 : decode cX7_widthOfNext 76 = .ok (.aload_n 0, 1) := by decide +kernel
theorem dX7_widthOfNext_77 : decode cX7_widthOfNext 77 = .ok (.getfield 63, 3) := by decide +kernel
theorem dX7_widthOfNext_80 : decode cX7_widthOfNext 80 = .ok (.iload_n 1, 1) := by decide +kernel
theorem dX7_widthOfNext_81 : decode cX7_widthOfNext 81 = .ok (.iload 4, 2) := by decide +kernel
theorem dX7_widthOfNext_83 : decode cX7_widthOfNext 83 = .ok (.iload 5, 2) := by decide +kernel
theorem dX7_widthOfNext_85 : decode cX7_widthOfNext 85 = .ok (.iconst 2, 1) := by decide +kernel
theorem dX7_widthOfNext_86 : decode cX7_widthOfNext 86 = .ok (.iadd, 1) := by decide +kernel
theorem dX7_widthOfNext_87 : decode cX7_widthOfNext 87 = .ok (.invokevirtual 289, 3) := by decide +kernel
theorem dX7_widthOfNext_90 : decode cX7_widthOfNext 90 = .ok (.isub, 1) := by decide +kernel
theorem dX7_widthOfNext_91 : decode cX7_widthOfNext 91 = .ok (.ireturn, 1) := by decide +kernel
theorem dX7_girthWithout_0 : decode cX7_girthWithout 0 = .ok (.aload_n 0, 1) := by decide +kernel
theorem dX7_girthWithout_1 : decode cX7_girthWithout 1 = .ok (.getfield 26, 3) := by decide +kernel
theorem dX7_girthWithout_4 : decode cX7_girthWithout 4 = .ok (.getfield 157, 3) := by decide +kernel
theorem dX7_girthWithout_7 : decode cX7_girthWithout 7 = .ok (.iload_n 1, 1) := by decide +kernel
theorem dX7_girthWithout_8 : decode cX7_girthWithout 8 = .ok (.invokestatic 120, 3) := by decide +kernel
theorem dX7_girthWithout_11 : decode cX7_girthWithout 11 = .ok (.istore_n 3, 1) := by decide +kernel
theorem dX7_girthWithout_12 : decode cX7_girthWithout 12 = .ok (.aload_n 0, 1) := by decide +kernel
theorem dX7_girthWithout_13 : decode cX7_girthWithout 13 = .ok (.getfield 26, 3) := by decide +kernel
theorem dX7_girthWithout_16 : decode cX7_girthWithout 16 = .ok (.getfield 160, 3) := by decide +kernel
theorem dX7_girthWithout_19 : decode cX7_girthWithout 19 = .ok (.iload_n 1, 1) := by decide +kernel
theorem dX7_girthWithout_20 : decode cX7_girthWithout 20 = .ok (.invokestatic 120, 3) := by decide +kernel
theorem dX7_girthWithout_23 : decode cX7_girthWithout 23 = .ok (.istore 4, 2) := by decide +kernel
theorem dX7_girthWithout_25 : decode cX7_girthWithout 25 = .ok (.aload_n 0, 1) := by decide +kernel
theorem dX7_girthWithout_26 : decode cX7_girthWithout 26 = .ok (.getfield 26, 3) := by decide +kernel
theorem dX7_girthWithout_29 : decode cX7_girthWithout 29 = .ok (.getfield 163, 3) := by decide +kernel
theorem dX7_girthWithout_32 : decode cX7_girthWithout 32 = .ok (.iload_n 1, 1) := by decide +kernel
theorem dX7_girthWithout_33 : decode cX7_girthWithout 33 = .ok (.invokestatic 120, 3) := by decide +kernel
theorem dX7_girthWithout_36 : decode cX7_girthWithout 36 = .ok (.istore 5, 2) := by decide +kernel
theorem dX7_girthWithout_38 : decode cX7_girthWithout 38 = .ok (.iload_n 2, 1) := by decide +kernel
theorem dX7_girthWithout_39 : decode cX7_girthWithout 39 = .ok (.iconst 2, 1) := by decide +kernel
theorem dX7_girthWithout_40 : decode cX7_girthWithout 40 = .ok (.iand, 1) := by decide +kernel
theorem dX7_girthWithout_41 : decode cX7_girthWithout 41 = .ok (.ifCond .eq 7, 3) := by decide +kernel
theorem dX7_girthWithout_44 : decode cX7_girthWithout 44 = .ok (.iconst 1, 1) := by decide +kernel
theorem dX7_girthWithout_45 : decode cX7_girthWithout 45 = .ok (.goto 4, 3) := by decide +kernel
theorem dX7_girthWithout_48 : decode cX7_girthWithout 48 = .ok (.iconst 0, 1) := by decide +kernel
theorem dX7_girthWithout_49 : decode cX7_girthWithout 49 = .ok (.istore 6, 2) := by decide +kernel
theorem dX7_girthWithout_51 : decode cX7_girthWithout 51 = .ok (.iload 6, 2) := by decide +kernel
theorem dX7_girthWithout_53 : decode cX7_girthWithout 53 = .ok (.ifCond .eq 17, 3) := by decide +kernel
theorem dX7_girthWithout_56 : decode cX7_girthWithout 56 = .ok (.aload_n 0, 1) := by decide +kernel
theorem dX7_girthWithout_57 : decode cX7_girthWithout 57 = .ok (.getfield 63, 3) := by decide +kernel
theorem dX7_girthWithout_60 : decode cX7_girthWithout 60 = .ok (.iload 4, 2) := by decide +kernel
theorem dX7_girthWithout_62 : decode cX7_girthWithout 62 = .ok (.iload 5, 2) := by decide +kernel
theorem dX7_girthWithout_64 : decode cX7_girthWithout 64 = .ok (.invokevirtual 296, 3) := by decide +kernel
theorem dX7_girthWithout_67 : decode cX7_girthWithout 67 = .ok (.goto 14, 3) := by decide +kernel
theorem dX7_girthWithout_70 : decode cX7_girthWithout 70 = .ok (.aload_n 0, 1) := by decide +kernel
theorem dX7_girthWithout_71 : decode cX7_girthWithout 71 = .ok (.getfield 63, 3) := by decide +kernel
theorem dX7_girthWithout_74 : decode cX7_girthWithout 74 = .ok (.iload 4, 2) := by decide +kernel
theorem dX7_girthWithout_76 : decode cX7_girthWithout 76 = .ok (.iload 5, 2) := by decide +kernel
theorem dX7_girthWithout_78 : decode cX7_girthWithout 78 = .ok (.invokevirtual 139, 3) := by decide +kernel
theorem dX7_girthWithout_81 : decode cX7_girthWithout 81 = .ok (.istore 7, 2) := by decide +kernel
theorem dX7_girthWithout_83 : decode cX7_girthWithout 83 = .ok (.aload_n 0, 1) := by decide +kernel
theorem dX7_girthWithout_84 : decode cX7_girthWithout 84 = .ok (.getfield 63, 3) := by decide +kernel
theorem dX7_girthWithout_87 : decode cX7_girthWithout 87 = .ok (.iload_n 3, 1) := by decide +kernel
theorem dX7_girthWithout_88 : decode cX7_girthWithout 88 = .ok (.aload_n 0, 1) := by decide +kernel
theorem dX7_girthWithout_89 : decode cX7_girthWithout 89 = .ok (.iload_n 1, 1) := by decide +kernel
theorem dX7_girthWithout_90 : decode cX7_girthWithout 90 = .ok (.iload_n 2, 1) := by decide +kernel
theorem dX7_girthWithout_91 : decode cX7_girthWithout 91 = .ok (.invokevirtual 299, 3) := by decide +kernel
theorem dX7_girthWithout_94 : decode cX7_girthWithout 94 = .ok (.iload 7, 2) := by decide +kernel
theorem dX7_girthWithout_96 : decode cX7_girthWithout 96 = .ok (.invokevirtual 289, 3) := by decide +kernel
theorem dX7_girthWithout_99 : decode cX7_girthWithout 99 = .ok (.ireturn, 1) := by decide +kernel
theorem dX7_stadiaWithout_0 : decode cX7_stadiaWithout 0 = .ok (.aload_n 0, 1) := by decide +kernel
theorem dX7_stadiaWithout_1 : decode cX7_stadiaWithout 1 = .ok (.getfield 26, 3) := by decide +kernel
theorem dX7_stadiaWithout_4 : decode cX7_stadiaWithout 4 = .ok (.getfield 157, 3) := by decide +kernel
theorem dX7_stadiaWithout_7 : decode cX7_stadiaWithout 7 = .ok (.iload_n 1, 1) := by decide +kernel
theorem dX7_stadiaWithout_8 : decode cX7_stadiaWithout 8 = .ok (.invokestatic 120, 3) := by decide +kernel
theorem dX7_stadiaWithout_11 : decode cX7_stadiaWithout 11 = .ok (.istore_n 3, 1) := by decide +kernel
theorem dX7_stadiaWithout_12 : decode cX7_stadiaWithout 12 = .ok (.aload_n 0, 1) := by decide +kernel
theorem dX7_stadiaWithout_13 : decode cX7_stadiaWithout 13 = .ok (.getfield 26, 3) := by decide +kernel
theorem dX7_stadiaWithout_16 : decode cX7_stadiaWithout 16 = .ok (.getfield 160, 3) := by decide +kernel
theorem dX7_stadiaWithout_19 : decode cX7_stadiaWithout 19 = .ok (.iload_n 1, 1) := by decide +kernel
theorem dX7_stadiaWithout_20 : decode cX7_stadiaWithout 20 = .ok (.invokestatic 120, 3) := by decide +kernel
theorem dX7_stadiaWithout_23 : decode cX7_stadiaWithout 23 = .ok (.istore 4, 2) := by decide +kernel
theorem dX7_stadiaWithout_25 : decode cX7_stadiaWithout 25 = .ok (.aload_n 0, 1) := by decide +kernel
theorem dX7_stadiaWithout_26 : decode cX7_stadiaWithout 26 = .ok (.getfield 26, 3) := by decide +kernel
theorem dX7_stadiaWithout_29 : decode cX7_stadiaWithout 29 = .ok (.getfield 163, 3) := by decide +kernel
theorem dX7_stadiaWithout_32 : decode cX7_stadiaWithout 32 = .ok (.iload_n 1, 1) := by decide +kernel
theorem dX7_stadiaWithout_33 : decode cX7_stadiaWithout 33 = .ok (.invokestatic 120, 3) := by decide +kernel
theorem dX7_stadiaWithout_36 : decode cX7_stadiaWithout 36 = .ok (.istore 5, 2) := by decide +kernel
theorem dX7_stadiaWithout_38 : decode cX7_stadiaWithout 38 = .ok (.iload_n 2, 1) := by decide +kernel
theorem dX7_stadiaWithout_39 : decode cX7_stadiaWithout 39 = .ok (.iconst 4, 1) := by decide +kernel
theorem dX7_stadiaWithout_40 : decode cX7_stadiaWithout 40 = .ok (.iand, 1) := by decide +kernel
theorem dX7_stadiaWithout_41 : decode cX7_stadiaWithout 41 = .ok (.ifCond .eq 7, 3) := by decide +kernel
theorem dX7_stadiaWithout_44 : decode cX7_stadiaWithout 44 = .ok (.iconst 1, 1) := by decide +kernel
theorem dX7_stadiaWithout_45 : decode cX7_stadiaWithout 45 = .ok (.goto 4, 3) := by decide +kernel
theorem dX7_stadiaWithout_48 : decode cX7_stadiaWithout 48 = .ok (.iconst 0, 1) := by decide +kernel
theorem dX7_stadiaWithout_49 : decode cX7_stadiaWithout 49 = .ok (.istore 6, 2) := by decide +kernel
theorem dX7_stadiaWithout_51 : decode cX7_stadiaWithout 51 = .ok (.iload 6, 2) := by decide +kernel
theorem dX7_stadiaWithout_53 : decode cX7_stadiaWithout 53 = .ok (.ifCond .eq 7, 3) := by decide +kernel
theorem dX7_stadiaWithout_56 : decode cX7_stadiaWithout 56 = .ok (.iconst 0, 1) := by decide +kernel
theorem dX7_stadiaWithout_57 : decode cX7_stadiaWithout 57 = .ok (.goto 14, 3) := by decide +kernel
theorem dX7_stadiaWithout_60 : decode cX7_stadiaWithout 60 = .ok (.aload_n 0, 1) := by decide +kernel
theorem dX7_stadiaWithout_61 : decode cX7_stadiaWithout 61 = .ok (.getfield 63, 3) := by decide +kernel
theorem dX7_stadiaWithout_64 : decode cX7_stadiaWithout 64 = .ok (.getfield 145, 3) := by decide +kernel
theorem dX7_stadiaWithout_67 : decode cX7_stadiaWithout 67 = .ok (.iload_n 3, 1) := by decide +kernel
theorem dX7_stadiaWithout_68 : decode cX7_stadiaWithout 68 = .ok (.invokestatic 120, 3) := by decide +kernel
theorem dX7_stadiaWithout_71 : decode cX7_stadiaWithout 71 = .ok (.istore 7, 2) := by decide +kernel
theorem dX7_stadiaWithout_73 : decode cX7_stadiaWithout 73 = .ok (.iload 7, 2) := by decide +kernel
theorem dX7_stadiaWithout_75 : decode cX7_stadiaWithout 75 = .ok (.iconst 3, 1) := by decide +kernel
theorem dX7_stadiaWithout_76 : decode cX7_stadiaWithout 76 = .ok (.if_icmp .ne 15, 3) := by decide +kernel
theorem dX7_stadiaWithout_79 : decode cX7_stadiaWithout 79 = .ok (.aload_n 0, 1) := by decide +kernel
theorem dX7_stadiaWithout_80 : decode cX7_stadiaWithout 80 = .ok (.getfield 26, 3) := by decide +kernel
theorem dX7_stadiaWithout_83 : decode cX7_stadiaWithout 83 = .ok (.getfield 166, 3) := by decide +kernel
theorem dX7_stadiaWithout_86 : decode cX7_stadiaWithout 86 = .ok (.iload_n 1, 1) := by decide +kernel
theorem dX7_stadiaWithout_87 : decode cX7_stadiaWithout 87 = .ok (.invokestatic 120, 3) := by decide +kernel
theorem dX7_stadiaWithout_90 : decode cX7_stadiaWithout 90 = .ok (.ireturn, 1) := by decide +kernel
theorem dX7_stadiaWithout_91 : decode cX7_stadiaWithout 91 = .ok (.iload_n 2, 1) := by decide +kernel
theorem dX7_stadiaWithout_92 : decode cX7_stadiaWithout 92 = .ok (.iconst 1, 1) := by decide +kernel
theorem dX7_stadiaWithout_93 : decode cX7_stadiaWithout 93 = .ok (.iand, 1) := by decide +kernel
theorem dX7_stadiaWithout_94 : decode cX7_stadiaWithout 94 = .ok (.ifCond .eq 7, 3) := by decide +kernel
theorem dX7_stadiaWithout_97 : decode cX7_stadiaWithout 97 = .ok (.iconst 1, 1) := by decide +kernel
theorem dX7_stadiaWithout_98 : decode cX7_stadiaWithout 98 = .ok (.goto 4, 3) := by decide +kernel
theorem dX7_stadiaWithout_101 : decode cX7_stadiaWithout 101 = .ok (.iconst 0, 1) := by decide +kernel
theorem dX7_stadiaWithout_102 : decode cX7_stadiaWithout 102 = .ok (.istore 8, 2) := by decide +kernel
theorem dX7_stadiaWithout_104 : decode cX7_stadiaWithout 104 = .ok (.iload 8, 2) := by decide +kernel
theorem dX7_stadiaWithout_106 : decode cX7_stadiaWithout 106 = .ok (.ifCond .eq 17, 3) := by decide +kernel
theorem dX7_stadiaWithout_109 : decode cX7_stadiaWithout 109 = .ok (.aload_n 0, 1) := by decide +kernel
theorem dX7_stadiaWithout_110 : decode cX7_stadiaWithout 110 = .ok (.getfield 63, 3) := by decide +kernel
theorem dX7_stadiaWithout_113 : decode cX7_stadiaWithout 113 = .ok (.iload 4, 2) := by decide +kernel
theorem dX7_stadiaWithout_115 : decode cX7_stadiaWithout 115 = .ok (.iload 5, 2) := by decide +kernel
theorem dX7_stadiaWithout_117 : decode cX7_stadiaWithout 117 = .ok (.invokevirtual 132, 3) := by decide +kernel
theorem dX7_stadiaWithout_120 : decode cX7_stadiaWithout 120 = .ok (.goto 14, 3) := by decide +kernel
theorem dX7_stadiaWithout_123 : decode cX7_stadiaWithout 123 = .ok (.aload_n 0, 1) := by decide +kernel
theorem dX7_stadiaWithout_124 : decode cX7_stadiaWithout 124 = .ok (.getfield 63, 3) := by decide +kernel
theorem dX7_stadiaWithout_127 : decode cX7_stadiaWithout 127 = .ok (.iload 4, 2) := by decide +kernel
theorem dX7_stadiaWithout_129 : decode cX7_stadiaWithout 129 = .ok (.iload 5, 2) := by decide +kernel
theorem dX7_stadiaWithout_131 : decode cX7_stadiaWithout 131 = .ok (.invokevirtual 136, 3) := by decide +kernel
theorem dX7_stadiaWithout_134 : decode cX7_stadiaWithout 134 = .ok (.istore 9, 2) := by decide +kernel
theorem dX7_stadiaWithout_136 : decode cX7_stadiaWithout 136 = .ok (.iload 7, 2) := by decide +kernel
theorem dX7_stadiaWithout_138 : decode cX7_stadiaWithout 138 = .ok (.aload_n 0, 1) := by decide +kernel
theorem dX7_stadiaWithout_139 : decode cX7_stadiaWithout 139 = .ok (.getfield 63, 3) := by decide +kernel
theorem dX7_stadiaWithout_142 : decode cX7_stadiaWithout 142 = .ok (.getfield 151, 3) := by decide +kernel
theorem dX7_stadiaWithout_145 : decode cX7_stadiaWithout 145 = .ok (.iload_n 3, 1) := by decide +kernel
theorem dX7_stadiaWithout_146 : decode cX7_stadiaWithout 146 = .ok (.invokestatic 120, 3) := by decide +kernel
theorem dX7_stadiaWithout_149 : decode cX7_stadiaWithout 149 = .ok (.iload 9, 2) := by decide +kernel
theorem dX7_stadiaWithout_151 : decode cX7_stadiaWithout 151 = .ok (.invokestatic 302, 3) := by decide +kernel
theorem dX7_stadiaWithout_154 : decode cX7_stadiaWithout 154 = .ok (.ireturn, 1) := by decide +kernel
theorem dX7_wouldTell_0 : decode cX7_wouldTell 0 = .ok (.iload 5, 2) := by decide +kernel
theorem dX7_wouldTell_2 : decode cX7_wouldTell 2 = .ok (.iconst 3, 1) := by decide +kernel
theorem dX7_wouldTell_3 : decode cX7_wouldTell 3 = .ok (.if_icmp .ne 23, 3) := by decide +kernel
theorem dX7_wouldTell_6 : decode cX7_wouldTell 6 = .ok (.aload_n 1, 1) := by decide +kernel
theorem dX7_wouldTell_7 : decode cX7_wouldTell 7 = .ok (.iload_n 2, 1) := by decide +kernel
theorem dX7_wouldTell_8 : decode cX7_wouldTell 8 = .ok (.iload_n 3, 1) := by decide +kernel
theorem dX7_wouldTell_9 : decode cX7_wouldTell 9 = .ok (.iload 4, 2) := by decide +kernel
theorem dX7_wouldTell_11 : decode cX7_wouldTell 11 = .ok (.invokevirtual 305, 3) := by decide +kernel
theorem dX7_wouldTell_14 : decode cX7_wouldTell 14 = .ok (.istore 7, 2) := by decide +kernel
theorem dX7_wouldTell_16 : decode cX7_wouldTell 16 = .ok (.iload 7, 2) := by decide +kernel
theorem dX7_wouldTell_18 : decode cX7_wouldTell 18 = .ok (.bipush (-4), 2) := by decide +kernel
theorem dX7_wouldTell_20 : decode cX7_wouldTell 20 = .ok (.if_icmp .eq 6, 3) := by decide +kernel
theorem dX7_wouldTell_23 : decode cX7_wouldTell 23 = .ok (.iload 7, 2) := by decide +kernel
theorem dX7_wouldTell_25 : decode cX7_wouldTell 25 = .ok (.ireturn, 1) := by decide +kernel
theorem dX7_wouldTell_26 : decode cX7_wouldTell 26 = .ok (.iload 5, 2) := by decide +kernel
theorem dX7_wouldTell_28 : decode cX7_wouldTell 28 = .ok (.iload 6, 2) := by decide +kernel
theorem dX7_wouldTell_30 : decode cX7_wouldTell 30 = .ok (.aload_n 0, 1) := by decide +kernel
theorem dX7_wouldTell_31 : decode cX7_wouldTell 31 = .ok (.getfield 63, 3) := by decide +kernel
theorem dX7_wouldTell_34 : decode cX7_wouldTell 34 = .ok (.iload_n 3, 1) := by decide +kernel
theorem dX7_wouldTell_35 : decode cX7_wouldTell 35 = .ok (.iload 4, 2) := by decide +kernel
theorem dX7_wouldTell_37 : decode cX7_wouldTell 37 = .ok (.invokevirtual 136, 3) := by decide +kernel
theorem dX7_wouldTell_40 : decode cX7_wouldTell 40 = .ok (.invokestatic 302, 3) := by decide +kernel
theorem dX7_wouldTell_43 : decode cX7_wouldTell 43 = .ok (.ireturn, 1) := by decide +kernel
theorem dX7_toldOfMiles_0 : decode cX7_toldOfMiles 0 = .ok (.ldc2_w 308, 3) := by decide +kernel
theorem dX7_toldOfMiles_3 : decode cX7_toldOfMiles 3 = .ok (.iload_n 2, 1) := by decide +kernel
theorem dX7_toldOfMiles_4 : decode cX7_toldOfMiles 4 = .ok (.i2l, 1) := by decide +kernel
theorem dX7_toldOfMiles_5 : decode cX7_toldOfMiles 5 = .ok (.lmul, 1) := by decide +kernel
theorem dX7_toldOfMiles_6 : decode cX7_toldOfMiles 6 = .ok (.iload_n 1, 1) := by decide +kernel
theorem dX7_toldOfMiles_7 : decode cX7_toldOfMiles 7 = .ok (.invokestatic 240, 3) := by decide +kernel
theorem dX7_toldOfMiles_10 : decode cX7_toldOfMiles 10 = .ok (.istore_n 3, 1) := by decide +kernel
theorem dX7_toldOfMiles_11 : decode cX7_toldOfMiles 11 = .ok (.iload_n 0, 1) := by decide +kernel
theorem dX7_toldOfMiles_12 : decode cX7_toldOfMiles 12 = .ok (.lookupswitch 46 #[(1, 28), (2, 41)], 28) := by decide +kernel
theorem dX7_toldOfMiles_40 : decode cX7_toldOfMiles 40 = .ok (.iload_n 3, 1) := by decide +kernel
theorem dX7_toldOfMiles_41 : decode cX7_toldOfMiles 41 = .ok (.iconst 5, 1) := by decide +kernel
theorem dX7_toldOfMiles_42 : decode cX7_toldOfMiles 42 = .ok (.iadd, 1) := by decide +kernel
theorem dX7_toldOfMiles_43 : decode cX7_toldOfMiles 43 = .ok (.i2l, 1) := by decide +kernel
theorem dX7_toldOfMiles_44 : decode cX7_toldOfMiles 44 = .ok (.bipush 10, 2) := by decide +kernel
theorem dX7_toldOfMiles_46 : decode cX7_toldOfMiles 46 = .ok (.invokestatic 240, 3) := by decide +kernel
theorem dX7_toldOfMiles_49 : decode cX7_toldOfMiles 49 = .ok (.bipush 10, 2) := by decide +kernel
theorem dX7_toldOfMiles_51 : decode cX7_toldOfMiles 51 = .ok (.imul, 1) := by decide +kernel
theorem dX7_toldOfMiles_52 : decode cX7_toldOfMiles 52 = .ok (.ireturn, 1) := by decide +kernel
theorem dX7_toldOfMiles_53 : decode cX7_toldOfMiles 53 = .ok (.iload_n 3, 1) := by decide +kernel
theorem dX7_toldOfMiles_54 : decode cX7_toldOfMiles 54 = .ok (.invokestatic 310, 3) := by decide +kernel
theorem dX7_toldOfMiles_57 : decode cX7_toldOfMiles 57 = .ok (.ireturn, 1) := by decide +kernel
theorem dX7_toldOfMiles_58 : decode cX7_toldOfMiles 58 = .ok (.iload_n 3, 1) := by decide +kernel
theorem dX7_toldOfMiles_59 : decode cX7_toldOfMiles 59 = .ok (.ireturn, 1) := by decide +kernel
theorem dX7_goWalking_0 : decode cX7_goWalking 0 = .ok (.aload_n 1, 1) := by decide +kernel
theorem dX7_goWalking_1 : decode cX7_goWalking 1 = .ok (.iload_n 2, 1) := by decide +kernel
theorem dX7_goWalking_2 : decode cX7_goWalking 2 = .ok (.iload_n 3, 1) := by decide +kernel
theorem dX7_goWalking_3 : decode cX7_goWalking 3 = .ok (.iload 4, 2) := by decide +kernel
theorem dX7_goWalking_5 : decode cX7_goWalking 5 = .ok (.aload_n 0, 1) := by decide +kernel
theorem dX7_goWalking_6 : decode cX7_goWalking 6 = .ok (.aload_n 1, 1) := by decide +kernel
theorem dX7_goWalking_7 : decode cX7_goWalking 7 = .ok (.iload_n 2, 1) := by decide +kernel
theorem dX7_goWalking_8 : decode cX7_goWalking 8 = .ok (.iload_n 3, 1) := by decide +kernel
theorem dX7_goWalking_9 : decode cX7_goWalking 9 = .ok (.iload 4, 2) := by decide +kernel
theorem dX7_goWalking_11 : decode cX7_goWalking 11 = .ok (.aload_n 0, 1) := by decide +kernel
theorem dX7_goWalking_12 : decode cX7_goWalking 12 = .ok (.getfield 63, 3) := by decide +kernel
theorem dX7_goWalking_15 : decode cX7_goWalking 15 = .ok (.getfield 145, 3) := by decide +kernel
theorem dX7_goWalking_18 : decode cX7_goWalking 18 = .ok (.iload_n 2, 1) := by decide +kernel
theorem dX7_goWalking_19 : decode cX7_goWalking 19 = .ok (.invokestatic 120, 3) := by decide +kernel
theorem dX7_goWalking_22 : decode cX7_goWalking 22 = .ok (.aload_n 0, 1) := by decide +kernel
theorem dX7_goWalking_23 : decode cX7_goWalking 23 = .ok (.getfield 63, 3) := by decide +kernel
theorem dX7_goWalking_26 : decode cX7_goWalking 26 = .ok (.getfield 151, 3) := by decide +kernel
theorem dX7_goWalking_29 : decode cX7_goWalking 29 = .ok (.iload_n 2, 1) := by decide +kernel
theorem dX7_goWalking_30 : decode cX7_goWalking 30 = .ok (.invokestatic 120, 3) := by decide +kernel
theorem dX7_goWalking_33 : decode cX7_goWalking 33 = .ok (.invokevirtual 292, 3) := by decide +kernel
theorem dX7_goWalking_36 : decode cX7_goWalking 36 = .ok (.invokevirtual 313, 3) := by decide +kernel
theorem dX7_goWalking_39 : decode cX7_goWalking 39 = .ok (.aload_n 1, 1) := by decide +kernel
theorem dX7_goWalking_40 : decode cX7_goWalking 40 = .ok (.dup, 1) := by decide +kernel
theorem dX7_goWalking_41 : decode cX7_goWalking 41 = .ok (.getfield 279, 3) := by decide +kernel
theorem dX7_goWalking_44 : decode cX7_goWalking 44 = .ok (.aload_n 0, 1) := by decide +kernel
theorem dX7_goWalking_45 : decode cX7_goWalking 45 = .ok (.getfield 63, 3) := by decide +kernel
theorem dX7_goWalking_48 : decode cX7_goWalking 48 = .ok (.iload_n 2, 1) := by decide +kernel
theorem dX7_goWalking_49 : decode cX7_goWalking 49 = .ok (.iload_n 3, 1) := by decide +kernel
theorem dX7_goWalking_50 : decode cX7_goWalking 50 = .ok (.iload 4, 2) := by decide +kernel
theorem dX7_goWalking_52 : decode cX7_goWalking 52 = .ok (.invokevirtual 185, 3) := by decide +kernel
theorem dX7_goWalking_55 : decode cX7_goWalking 55 = .ok (.iadd, 1) := by decide +kernel
theorem dX7_goWalking_56 : decode cX7_goWalking 56 = .ok (.putfield 279, 3) := by decide +kernel
theorem dX7_goWalking_59 : decode cX7_goWalking 59 = .ok (.return_, 1) := by decide +kernel
theorem dX7_fittingUnits_0 : decode cX7_fittingUnits 0 = .ok (.iconst 0, 1) := by decide +kernel
theorem dX7_fittingUnits_1 : decode cX7_fittingUnits 1 = .ok (.istore_n 2, 1) := by decide +kernel
theorem dX7_fittingUnits_2 : decode cX7_fittingUnits 2 = .ok (.iconst 1, 1) := by decide +kernel
theorem dX7_fittingUnits_3 : decode cX7_fittingUnits 3 = .ok (.istore_n 3, 1) := by decide +kernel
theorem dX7_fittingUnits_4 : decode cX7_fittingUnits 4 = .ok (.iload_n 3, 1) := by decide +kernel
theorem dX7_fittingUnits_5 : decode cX7_fittingUnits 5 = .ok (.bipush 9, 2) := by decide +kernel
theorem dX7_fittingUnits_7 : decode cX7_fittingUnits 7 = .ok (.if_icmp .gt 35, 3) := by decide +kernel
theorem dX7_fittingUnits_10 : decode cX7_fittingUnits 10 = .ok (.aload_n 0, 1) := by decide +kernel
theorem dX7_fittingUnits_11 : decode cX7_fittingUnits 11 = .ok (.iload_n 1, 1) := by decide +kernel
theorem dX7_fittingUnits_12 : decode cX7_fittingUnits 12 = .ok (.aload_n 0, 1) := by decide +kernel
theorem dX7_fittingUnits_13 : decode cX7_fittingUnits 13 = .ok (.getfield 63, 3) := by decide +kernel
theorem dX7_fittingUnits_16 : decode cX7_fittingUnits 16 = .ok (.getfield 145, 3) := by decide +kernel
theorem dX7_fittingUnits_19 : decode cX7_fittingUnits 19 = .ok (.iload_n 1, 1) := by decide +kernel
theorem dX7_fittingUnits_20 : decode cX7_fittingUnits 20 = .ok (.invokestatic 120, 3) := by decide +kernel
theorem dX7_fittingUnits_23 : decode cX7_fittingUnits 23 = .ok (.iload_n 3, 1) := by decide +kernel
theorem dX7_fittingUnits_24 : decode cX7_fittingUnits 24 = .ok (.invokevirtual 314, 3) := by decide +kernel
theorem dX7_fittingUnits_27 : decode cX7_fittingUnits 27 = .ok (.ifCond .eq 9, 3) := by decide +kernel
theorem dX7_fittingUnits_30 : decode cX7_fittingUnits 30 = .ok (.iload_n 2, 1) := by decide +kernel
theorem dX7_fittingUnits_31 : decode cX7_fittingUnits 31 = .ok (.iconst 1, 1) := by decide +kernel
theorem dX7_fittingUnits_32 : decode cX7_fittingUnits 32 = .ok (.iload_n 3, 1) := by decide +kernel
theorem dX7_fittingUnits_33 : decode cX7_fittingUnits 33 = .ok (.ishl, 1) := by decide +kernel
theorem dX7_fittingUnits_34 : decode cX7_fittingUnits 34 = .ok (.ior, 1) := by decide +kernel
theorem dX7_fittingUnits_35 : decode cX7_fittingUnits 35 = .ok (.istore_n 2, 1) := by decide +kernel
theorem dX7_fittingUnits_36 : decode cX7_fittingUnits 36 = .ok (.iinc 3 1, 3) := by decide +kernel
theorem dX7_fittingUnits_39 : decode cX7_fittingUnits 39 = .ok (.goto (-35), 3) := by decide +kernel
theorem dX7_fittingUnits_42 : decode cX7_fittingUnits 42 = .ok (.iload_n 2, 1) := by decide +kernel
theorem dX7_fittingUnits_43 : decode cX7_fittingUnits 43 = .ok (.ireturn, 1) := by decide +kernel
theorem dX7_fittingKinds_0 : decode cX7_fittingKinds 0 = .ok (.iconst 0, 1) := by decide +kernel
theorem dX7_fittingKinds_1 : decode cX7_fittingKinds 1 = .ok (.istore_n 2, 1) := by decide +kernel
theorem dX7_fittingKinds_2 : decode cX7_fittingKinds 2 = .ok (.iconst 0, 1) := by decide +kernel
theorem dX7_fittingKinds_3 : decode cX7_fittingKinds 3 = .ok (.istore_n 3, 1) := by decide +kernel
theorem dX7_fittingKinds_4 : decode cX7_fittingKinds 4 = .ok (.iload_n 3, 1) := by decide +kernel
theorem dX7_fittingKinds_5 : decode cX7_fittingKinds 5 = .ok (.iconst 4, 1) := by decide +kernel
theorem dX7_fittingKinds_6 : decode cX7_fittingKinds 6 = .ok (.if_icmp .ge 35, 3) := by decide +kernel
theorem dX7_fittingKinds_9 : decode cX7_fittingKinds 9 = .ok (.aload_n 0, 1) := by decide +kernel
theorem dX7_fittingKinds_10 : decode cX7_fittingKinds 10 = .ok (.iload_n 1, 1) := by decide +kernel
theorem dX7_fittingKinds_11 : decode cX7_fittingKinds 11 = .ok (.iload_n 3, 1) := by decide +kernel
theorem dX7_fittingKinds_12 : decode cX7_fittingKinds 12 = .ok (.aload_n 0, 1) := by decide +kernel
theorem dX7_fittingKinds_13 : decode cX7_fittingKinds 13 = .ok (.getfield 63, 3) := by decide +kernel
theorem dX7_fittingKinds_16 : decode cX7_fittingKinds 16 = .ok (.getfield 151, 3) := by decide +kernel
theorem dX7_fittingKinds_19 : decode cX7_fittingKinds 19 = .ok (.iload_n 1, 1) := by decide +kernel
theorem dX7_fittingKinds_20 : decode cX7_fittingKinds 20 = .ok (.invokestatic 120, 3) := by decide +kernel
theorem dX7_fittingKinds_23 : decode cX7_fittingKinds 23 = .ok (.invokevirtual 314, 3) := by decide +kernel
theorem dX7_fittingKinds_26 : decode cX7_fittingKinds 26 = .ok (.ifCond .eq 9, 3) := by decide +kernel
theorem dX7_fittingKinds_29 : decode cX7_fittingKinds 29 = .ok (.iload_n 2, 1) := by decide +kernel
theorem dX7_fittingKinds_30 : decode cX7_fittingKinds 30 = .ok (.iconst 1, 1) := by decide +kernel
theorem dX7_fittingKinds_31 : decode cX7_fittingKinds 31 = .ok (.iload_n 3, 1) := by decide +kernel
theorem dX7_fittingKinds_32 : decode cX7_fittingKinds 32 = .ok (.ishl, 1) := by decide +kernel
theorem dX7_fittingKinds_33 : decode cX7_fittingKinds 33 = .ok (.ior, 1) := by decide +kernel
theorem dX7_fittingKinds_34 : decode cX7_fittingKinds 34 = .ok (.istore_n 2, 1) := by decide +kernel
theorem dX7_fittingKinds_35 : decode cX7_fittingKinds 35 = .ok (.iinc 3 1, 3) := by decide +kernel
theorem dX7_fittingKinds_38 : decode cX7_fittingKinds 38 = .ok (.goto (-34), 3) := by decide +kernel
theorem dX7_fittingKinds_41 : decode cX7_fittingKinds 41 = .ok (.iload_n 2, 1) := by decide +kernel
theorem dX7_fittingKinds_42 : decode cX7_fittingKinds 42 = .ok (.ireturn, 1) := by decide +kernel
theorem dX7_allSeenFits_0 : decode cX7_allSeenFits 0 = .ok (.iconst 0, 1) := by decide +kernel
theorem dX7_allSeenFits_1 : decode cX7_allSeenFits 1 = .ok (.istore 4, 2) := by decide +kernel
theorem dX7_allSeenFits_3 : decode cX7_allSeenFits 3 = .ok (.iload 4, 2) := by decide +kernel
theorem dX7_allSeenFits_5 : decode cX7_allSeenFits 5 = .ok (.aload_n 0, 1) := by decide +kernel
theorem dX7_allSeenFits_6 : decode cX7_allSeenFits 6 = .ok (.getfield 49, 3) := by decide +kernel
theorem dX7_allSeenFits_9 : decode cX7_allSeenFits 9 = .ok (.getfield 247, 3) := by decide +kernel
theorem dX7_allSeenFits_12 : decode cX7_allSeenFits 12 = .ok (.if_icmp .ge 81, 3) := by decide +kernel
theorem dX7_allSeenFits_15 : decode cX7_allSeenFits 15 = .ok (.aload_n 0, 1) := by decide +kernel
theorem dX7_allSeenFits_16 : decode cX7_allSeenFits 16 = .ok (.getfield 49, 3) := by decide +kernel
theorem dX7_allSeenFits_19 : decode cX7_allSeenFits 19 = .ok (.getfield 317, 3) := by decide +kernel
theorem dX7_allSeenFits_22 : decode cX7_allSeenFits 22 = .ok (.iload 4, 2) := by decide +kernel
theorem dX7_allSeenFits_24 : decode cX7_allSeenFits 24 = .ok (.invokestatic 120, 3) := by decide +kernel
theorem dX7_allSeenFits_27 : decode cX7_allSeenFits 27 = .ok (.iload_n 1, 1) := by decide +kernel
theorem dX7_allSeenFits_28 : decode cX7_allSeenFits 28 = .ok (.if_icmp .ne 59, 3) := by decide +kernel
theorem dX7_allSeenFits_31 : decode cX7_allSeenFits 31 = .ok (.aload_n 0, 1) := by decide +kernel
theorem dX7_allSeenFits_32 : decode cX7_allSeenFits 32 = .ok (.aload_n 0, 1) := by decide +kernel
theorem dX7_allSeenFits_33 : decode cX7_allSeenFits 33 = .ok (.getfield 26, 3) := by decide +kernel
theorem dX7_allSeenFits_36 : decode cX7_allSeenFits 36 = .ok (.iload_n 1, 1) := by decide +kernel
theorem dX7_allSeenFits_37 : decode cX7_allSeenFits 37 = .ok (.aload_n 0, 1) := by decide +kernel
theorem dX7_allSeenFits_38 : decode cX7_allSeenFits 38 = .ok (.getfield 49, 3) := by decide +kernel
theorem dX7_allSeenFits_41 : decode cX7_allSeenFits 41 = .ok (.getfield 318, 3) := by decide +kernel
theorem dX7_allSeenFits_44 : decode cX7_allSeenFits 44 = .ok (.iload 4, 2) := by decide +kernel
theorem dX7_allSeenFits_46 : decode cX7_allSeenFits 46 = .ok (.invokestatic 120, 3) := by decide +kernel
theorem dX7_allSeenFits_49 : decode cX7_allSeenFits 49 = .ok (.aload_n 0, 1) := by decide +kernel
theorem dX7_allSeenFits_50 : decode cX7_allSeenFits 50 = .ok (.getfield 49, 3) := by decide +kernel
theorem dX7_allSeenFits_53 : decode cX7_allSeenFits 53 = .ok (.getfield 319, 3) := by decide +kernel
theorem dX7_allSeenFits_56 : decode cX7_allSeenFits 56 = .ok (.iload 4, 2) := by decide +kernel
theorem dX7_allSeenFits_58 : decode cX7_allSeenFits 58 = .ok (.invokestatic 120, 3) := by decide +kernel
theorem dX7_allSeenFits_61 : decode cX7_allSeenFits 61 = .ok (.iload_n 2, 1) := by decide +kernel
theorem dX7_allSeenFits_62 : decode cX7_allSeenFits 62 = .ok (.iload_n 3, 1) := by decide +kernel
theorem dX7_allSeenFits_63 : decode cX7_allSeenFits 63 = .ok (.invokevirtual 292, 3) := by decide +kernel
theorem dX7_allSeenFits_66 : decode cX7_allSeenFits 66 = .ok (.istore 5, 2) := by decide +kernel
theorem dX7_allSeenFits_68 : decode cX7_allSeenFits 68 = .ok (.iload 5, 2) := by decide +kernel
theorem dX7_allSeenFits_70 : decode cX7_allSeenFits 70 = .ok (.aload_n 0, 1) := by decide +kernel
theorem dX7_allSeenFits_71 : decode cX7_allSeenFits 71 = .ok (.getfield 49, 3) := by decide +kernel
theorem dX7_allSeenFits_74 : decode cX7_allSeenFits 74 = .ok (.getfield 320, 3) := by decide +kernel
theorem dX7_allSeenFits_77 : decode cX7_allSeenFits 77 = .ok (.iload 4, 2) := by decide +kernel
theorem dX7_allSeenFits_79 : decode cX7_allSeenFits 79 = .ok (.invokestatic 120, 3) := by decide +kernel
theorem dX7_allSeenFits_82 : decode cX7_allSeenFits 82 = .ok (.if_icmp .eq 5, 3) := by decide +kernel
theorem dX7_allSeenFits_85 : decode cX7_allSeenFits 85 = .ok (.iconst 0, 1) := by decide +kernel
theorem dX7_allSeenFits_86 : decode cX7_allSeenFits 86 = .ok (.ireturn, 1) := by decide +kernel
theorem dX7_allSeenFits_87 : decode cX7_allSeenFits 87 = .ok (.iinc 4 1, 3) := by decide +kernel
theorem dX7_allSeenFits_90 : decode cX7_allSeenFits 90 = .ok (.goto (-87), 3) := by decide +kernel
theorem dX7_allSeenFits_93 : decode cX7_allSeenFits 93 = .ok (.iconst 1, 1) := by decide +kernel
theorem dX7_allSeenFits_94 : decode cX7_allSeenFits 94 = .ok (.ireturn, 1) := by decide +kernel
theorem dX7_waysNear_0 : decode cX7_waysNear 0 = .ok (.aload_n 0, 1) := by decide +kernel
theorem dX7_waysNear_1 : decode cX7_waysNear 1 = .ok (.getfield 56, 3) := by decide +kernel
theorem dX7_waysNear_4 : decode cX7_waysNear 4 = .ok (.aload_n 0, 1) := by decide +kernel
theorem dX7_waysNear_5 : decode cX7_waysNear 5 = .ok (.getfield 63, 3) := by decide +kernel
theorem dX7_waysNear_8 : decode cX7_waysNear 8 = .ok (.aload_n 0, 1) := by decide +kernel
theorem dX7_waysNear_9 : decode cX7_waysNear 9 = .ok (.getfield 26, 3) := by decide +kernel
theorem dX7_waysNear_12 : decode cX7_waysNear 12 = .ok (.invokevirtual 219, 3) := by decide +kernel
theorem dX7_waysNear_15 : decode cX7_waysNear 15 = .ok (.iconst 0, 1) := by decide +kernel
theorem dX7_waysNear_16 : decode cX7_waysNear 16 = .ok (.istore_n 3, 1) := by decide +kernel
theorem dX7_waysNear_17 : decode cX7_waysNear 17 = .ok (.iconst 0, 1) := by decide +kernel
theorem dX7_waysNear_18 : decode cX7_waysNear 18 = .ok (.istore 4, 2) := by decide +kernel
theorem dX7_waysNear_20 : decode cX7_waysNear 20 = .ok (.iload 4, 2) := by decide +kernel
theorem dX7_waysNear_22 : decode cX7_waysNear 22 = .ok (.iconst 1, 1) := by decide +kernel
theorem dX7_waysNear_23 : decode cX7_waysNear 23 = .ok (.aload_n 0, 1) := by decide +kernel
theorem dX7_waysNear_24 : decode cX7_waysNear 24 = .ok (.getfield 26, 3) := by decide +kernel
theorem dX7_waysNear_27 : decode cX7_waysNear 27 = .ok (.getfield 178, 3) := by decide +kernel
theorem dX7_waysNear_30 : decode cX7_waysNear 30 = .ok (.ishl, 1) := by decide +kernel
theorem dX7_waysNear_31 : decode cX7_waysNear 31 = .ok (.if_icmp .ge 66, 3) := by decide +kernel
theorem dX7_waysNear_34 : decode cX7_waysNear 34 = .ok (.aload_n 0, 1) := by decide +kernel
theorem dX7_waysNear_35 : decode cX7_waysNear 35 = .ok (.getfield 63, 3) := by decide +kernel
theorem dX7_waysNear_38 : decode cX7_waysNear 38 = .ok (.aload_n 0, 1) := by decide +kernel
theorem dX7_waysNear_39 : decode cX7_waysNear 39 = .ok (.getfield 56, 3) := by decide +kernel
theorem dX7_waysNear_42 : decode cX7_waysNear 42 = .ok (.sipush 511, 3) := by decide +kernel
theorem dX7_waysNear_45 : decode cX7_waysNear 45 = .ok (.iload 4, 2) := by decide +kernel
theorem dX7_waysNear_47 : decode cX7_waysNear 47 = .ok (.invokevirtual 228, 3) := by decide +kernel
theorem dX7_waysNear_50 : decode cX7_waysNear 50 = .ok (.iload_n 1, 1) := by decide +kernel
theorem dX7_waysNear_51 : decode cX7_waysNear 51 = .ok (.invokevirtual 231, 3) := by decide +kernel
theorem dX7_waysNear_54 : decode cX7_waysNear 54 = .ok (.ifCond .eq 37, 3) := by decide +kernel
theorem dX7_waysNear_57 : decode cX7_waysNear 57 = .ok (.iload 4, 2) := by decide +kernel
theorem dX7_waysNear_59 : decode cX7_waysNear 59 = .ok (.invokestatic 223, 3) := by decide +kernel
theorem dX7_waysNear_62 : decode cX7_waysNear 62 = .ok (.istore 5, 2) := by decide +kernel
theorem dX7_waysNear_64 : decode cX7_waysNear 64 = .ok (.iload_n 3, 1) := by decide +kernel
theorem dX7_waysNear_65 : decode cX7_waysNear 65 = .ok (.iload_n 2, 1) := by decide +kernel
theorem dX7_waysNear_66 : decode cX7_waysNear 66 = .ok (.iload 5, 2) := by decide +kernel
theorem dX7_waysNear_68 : decode cX7_waysNear 68 = .ok (.invokestatic 261, 3) := by decide +kernel
theorem dX7_waysNear_71 : decode cX7_waysNear 71 = .ok (.bipush 10, 2) := by decide +kernel
theorem dX7_waysNear_73 : decode cX7_waysNear 73 = .ok (.iload_n 2, 1) := by decide +kernel
theorem dX7_waysNear_74 : decode cX7_waysNear 74 = .ok (.isub, 1) := by decide +kernel
theorem dX7_waysNear_75 : decode cX7_waysNear 75 = .ok (.aload_n 0, 1) := by decide +kernel
theorem dX7_waysNear_76 : decode cX7_waysNear 76 = .ok (.getfield 26, 3) := by decide +kernel
theorem dX7_waysNear_79 : decode cX7_waysNear 79 = .ok (.getfield 178, 3) := by decide +kernel
theorem dX7_waysNear_82 : decode cX7_waysNear 82 = .ok (.iload 5, 2) := by decide +kernel
theorem dX7_waysNear_84 : decode cX7_waysNear 84 = .ok (.isub, 1) := by decide +kernel
theorem dX7_waysNear_85 : decode cX7_waysNear 85 = .ok (.invokestatic 261, 3) := by decide +kernel
theorem dX7_waysNear_88 : decode cX7_waysNear 88 = .ok (.imul, 1) := by decide +kernel
theorem dX7_waysNear_89 : decode cX7_waysNear 89 = .ok (.iadd, 1) := by decide +kernel
theorem dX7_waysNear_90 : decode cX7_waysNear 90 = .ok (.istore_n 3, 1) := by decide +kernel
theorem dX7_waysNear_91 : decode cX7_waysNear 91 = .ok (.iinc 4 1, 3) := by decide +kernel
theorem dX7_waysNear_94 : decode cX7_waysNear 94 = .ok (.goto (-74), 3) := by decide +kernel
theorem dX7_waysNear_97 : decode cX7_waysNear 97 = .ok (.iload_n 3, 1) := by decide +kernel
theorem dX7_waysNear_98 : decode cX7_waysNear 98 = .ok (.ireturn, 1) := by decide +kernel
theorem dX7_walkByDraw_0 : decode cX7_walkByDraw 0 = .ok (.iload_n 2, 1) := by decide +kernel
theorem dX7_walkByDraw_1 : decode cX7_walkByDraw 1 = .ok (.aload_n 0, 1) := by decide +kernel
theorem dX7_walkByDraw_2 : decode cX7_walkByDraw 2 = .ok (.getfield 63, 3) := by decide +kernel
theorem dX7_walkByDraw_5 : decode cX7_walkByDraw 5 = .ok (.getfield 106, 3) := by decide +kernel
theorem dX7_walkByDraw_8 : decode cX7_walkByDraw 8 = .ok (.invokestatic 321, 3) := by decide +kernel
theorem dX7_walkByDraw_11 : decode cX7_walkByDraw 11 = .ok (.istore_n 3, 1) := by decide +kernel
theorem dX7_walkByDraw_12 : decode cX7_walkByDraw 12 = .ok (.iload_n 2, 1) := by decide +kernel
theorem dX7_walkByDraw_13 : decode cX7_walkByDraw 13 = .ok (.iconst 4, 1) := by decide +kernel
theorem dX7_walkByDraw_14 : decode cX7_walkByDraw 14 = .ok (.idiv, 1) := by decide +kernel
theorem dX7_walkByDraw_15 : decode cX7_walkByDraw 15 = .ok (.aload_n 0, 1) := by decide +kernel
theorem dX7_walkByDraw_16 : decode cX7_walkByDraw 16 = .ok (.getfield 63, 3) := by decide +kernel
theorem dX7_walkByDraw_19 : decode cX7_walkByDraw 19 = .ok (.getfield 103, 3) := by decide +kernel
theorem dX7_walkByDraw_22 : decode cX7_walkByDraw 22 = .ok (.invokestatic 321, 3) := by decide +kernel
theorem dX7_walkByDraw_25 : decode cX7_walkByDraw 25 = .ok (.istore 4, 2) := by decide +kernel
theorem dX7_walkByDraw_27 : decode cX7_walkByDraw 27 = .ok (.iload_n 2, 1) := by decide +kernel
theorem dX7_walkByDraw_28 : decode cX7_walkByDraw 28 = .ok (.bipush 32, 2) := by decide +kernel
theorem dX7_walkByDraw_30 : decode cX7_walkByDraw 30 = .ok (.idiv, 1) := by decide +kernel
theorem dX7_walkByDraw_31 : decode cX7_walkByDraw 31 = .ok (.aload_n 0, 1) := by decide +kernel
theorem dX7_walkByDraw_32 : decode cX7_walkByDraw 32 = .ok (.getfield 63, 3) := by decide +kernel
theorem dX7_walkByDraw_35 : decode cX7_walkByDraw 35 = .ok (.getfield 103, 3) := by decide +kernel
theorem dX7_walkByDraw_38 : decode cX7_walkByDraw 38 = .ok (.invokestatic 321, 3) := by decide +kernel
theorem dX7_walkByDraw_41 : decode cX7_walkByDraw 41 = .ok (.istore 5, 2) := by decide +kernel
theorem dX7_walkByDraw_43 : decode cX7_walkByDraw 43 = .ok (.iload 4, 2) := by decide +kernel
theorem dX7_walkByDraw_45 : decode cX7_walkByDraw 45 = .ok (.iload 5, 2) := by decide +kernel
theorem dX7_walkByDraw_47 : decode cX7_walkByDraw 47 = .ok (.if_icmp .ne 4, 3) := by decide +kernel
theorem dX7_walkByDraw_50 : decode cX7_walkByDraw 50 = .ok (.return_, 1) := by decide +kernel
theorem dX7_walkByDraw_51 : decode cX7_walkByDraw 51 = .ok (.aload_n 1, 1) := by decide +kernel
theorem dX7_walkByDraw_52 : decode cX7_walkByDraw 52 = .ok (.getfield 178, 3) := by decide +kernel
theorem dX7_walkByDraw_55 : decode cX7_walkByDraw 55 = .ok (.bipush 9, 2) := by decide +kernel
theorem dX7_walkByDraw_57 : decode cX7_walkByDraw 57 = .ok (.if_icmp .lt 8, 3) := by decide +kernel
theorem dX7_walkByDraw_60 : decode cX7_walkByDraw 60 = .ok (.aload_n 1, 1) := by decide +kernel
theorem dX7_walkByDraw_61 : decode cX7_walkByDraw 61 = .ok (.iconst 0, 1) := by decide +kernel
theorem dX7_walkByDraw_62 : decode cX7_walkByDraw 62 = .ok (.invokevirtual 196, 3) := by decide +kernel
theorem dX7_walkByDraw_65 : decode cX7_walkByDraw 65 = .ok (.aload_n 0, 1) := by decide +kernel
theorem dX7_walkByDraw_66 : decode cX7_walkByDraw 66 = .ok (.aload_n 1, 1) := by decide +kernel
theorem dX7_walkByDraw_67 : decode cX7_walkByDraw 67 = .ok (.iload_n 3, 1) := by decide +kernel
theorem dX7_walkByDraw_68 : decode cX7_walkByDraw 68 = .ok (.iload 4, 2) := by decide +kernel
theorem dX7_walkByDraw_70 : decode cX7_walkByDraw 70 = .ok (.iload 5, 2) := by decide +kernel
theorem dX7_walkByDraw_72 : decode cX7_walkByDraw 72 = .ok (.invokevirtual 181, 3) := by decide +kernel
theorem dX7_walkByDraw_75 : decode cX7_walkByDraw 75 = .ok (.return_, 1) := by decide +kernel
theorem dX7_drawOf_0 : decode cX7_drawOf 0 = .ok (.ldc2_w 324, 3) := by decide +kernel
theorem dX7_drawOf_3 : decode cX7_drawOf 3 = .ok (.iload_n 0, 1) := by decide +kernel
theorem dX7_drawOf_4 : decode cX7_drawOf 4 = .ok (.i2l, 1) := by decide +kernel
theorem dX7_drawOf_5 : decode cX7_drawOf 5 = .ok (.lmul, 1) := by decide +kernel
theorem dX7_drawOf_6 : decode cX7_drawOf 6 = .ok (.ldc2_w 326, 3) := by decide +kernel
theorem dX7_drawOf_9 : decode cX7_drawOf 9 = .ok (.iload_n 1, 1) := by decide +kernel
theorem dX7_drawOf_10 : decode cX7_drawOf 10 = .ok (.i2l, 1) := by decide +kernel
theorem dX7_drawOf_11 : decode cX7_drawOf 11 = .ok (.lmul, 1) := by decide +kernel
theorem dX7_drawOf_12 : decode cX7_drawOf 12 = .ok (.ladd, 1) := by decide +kernel
theorem dX7_drawOf_13 : decode cX7_drawOf 13 = .ok (.lconst 1, 1) := by decide +kernel
theorem dX7_drawOf_14 : decode cX7_drawOf 14 = .ok (.ladd, 1) := by decide +kernel
theorem dX7_drawOf_15 : decode cX7_drawOf 15 = .ok (.lstore_n 2, 1) := by decide +kernel
theorem dX7_drawOf_16 : decode cX7_drawOf 16 = .ok (.lload_n 2, 1) := by decide +kernel
theorem dX7_drawOf_17 : decode cX7_drawOf 17 = .ok (.lload_n 2, 1) := by decide +kernel
theorem dX7_drawOf_18 : decode cX7_drawOf 18 = .ok (.lmul, 1) := by decide +kernel
theorem dX7_drawOf_19 : decode cX7_drawOf 19 = .ok (.ldc2_w 328, 3) := by decide +kernel
theorem dX7_drawOf_22 : decode cX7_drawOf 22 = .ok (.lrem, 1) := by decide +kernel
theorem dX7_drawOf_23 : decode cX7_drawOf 23 = .ok (.l2i, 1) := by decide +kernel
theorem dX7_drawOf_24 : decode cX7_drawOf 24 = .ok (.ireturn, 1) := by decide +kernel
theorem dX7_keptAt_0 : decode cX7_keptAt 0 = .ok (.iload_n 1, 1) := by decide +kernel
theorem dX7_keptAt_1 : decode cX7_keptAt 1 = .ok (.ifCond .ne 10, 3) := by decide +kernel
theorem dX7_keptAt_4 : decode cX7_keptAt 4 = .ok (.aload_n 0, 1) := by decide +kernel
theorem dX7_keptAt_5 : decode cX7_keptAt 5 = .ok (.getfield 33, 3) := by decide +kernel
theorem dX7_keptAt_8 : decode cX7_keptAt 8 = .ok (.goto 7, 3) := by decide +kernel
theorem dX7_keptAt_11 : decode cX7_keptAt 11 = .ok (.aload_n 0, 1) := by decide +kernel
theorem dX7_keptAt_12 : decode cX7_keptAt 12 = .ok (.getfield 36, 3) := by decide +kernel
theorem dX7_keptAt_15 : decode cX7_keptAt 15 = .ok (.areturn, 1) := by decide +kernel
theorem dX7_within_0 : decode cX7_within 0 = .ok (.iload_n 0, 1) := by decide +kernel
theorem dX7_within_1 : decode cX7_within 1 = .ok (.iload_n 1, 1) := by decide +kernel
theorem dX7_within_2 : decode cX7_within 2 = .ok (.if_icmp .lt 12, 3) := by decide +kernel
theorem dX7_within_5 : decode cX7_within 5 = .ok (.iload_n 0, 1) := by decide +kernel
theorem dX7_within_6 : decode cX7_within 6 = .ok (.iload_n 2, 1) := by decide +kernel
theorem dX7_within_7 : decode cX7_within 7 = .ok (.if_icmp .gt 7, 3) := by decide +kernel
theorem dX7_within_10 : decode cX7_within 10 = .ok (.iconst 1, 1) := by decide +kernel
theorem dX7_within_11 : decode cX7_within 11 = .ok (.goto 4, 3) := by decide +kernel
theorem dX7_within_14 : decode cX7_within 14 = .ok (.iconst 0, 1) := by decide +kernel
theorem dX7_within_15 : decode cX7_within 15 = .ok (.ireturn, 1) := by decide +kernel
theorem dX7_cut_0 : decode cX7_cut 0 = .ok (.iload_n 2, 1) := by decide +kernel
theorem dX7_cut_1 : decode cX7_cut 1 = .ok (.ifCond .le 11, 3) := by decide +kernel
theorem dX7_cut_4 : decode cX7_cut 4 = .ok (.lload_n 0, 1) := by decide +kernel
theorem dX7_cut_5 : decode cX7_cut 5 = .ok (.iload_n 2, 1) := by decide +kernel
theorem dX7_cut_6 : decode cX7_cut 6 = .ok (.i2l, 1) := by decide +kernel
theorem dX7_cut_7 : decode cX7_cut 7 = .ok (.ldiv, 1) := by decide +kernel
theorem dX7_cut_8 : decode cX7_cut 8 = .ok (.l2i, 1) := by decide +kernel
theorem dX7_cut_9 : decode cX7_cut 9 = .ok (.goto 4, 3) := by decide +kernel
theorem dX7_cut_12 : decode cX7_cut 12 = .ok (.iconst 0, 1) := by decide +kernel
theorem dX7_cut_13 : decode cX7_cut 13 = .ok (.ireturn, 1) := by decide +kernel
theorem dX7_rest_0 : decode cX7_rest 0 = .ok (.iload_n 1, 1) := by decide +kernel
theorem dX7_rest_1 : decode cX7_rest 1 = .ok (.ifCond .le 9, 3) := by decide +kernel
theorem dX7_rest_4 : decode cX7_rest 4 = .ok (.iload_n 0, 1) := by decide +kernel
theorem dX7_rest_5 : decode cX7_rest 5 = .ok (.iload_n 1, 1) := by decide +kernel
theorem dX7_rest_6 : decode cX7_rest 6 = .ok (.irem, 1) := by decide +kernel
theorem dX7_rest_7 : decode cX7_rest 7 = .ok (.goto 4, 3) := by decide +kernel
theorem dX7_rest_10 : decode cX7_rest 10 = .ok (.iconst 0, 1) := by decide +kernel
theorem dX7_rest_11 : decode cX7_rest 11 = .ok (.ireturn, 1) := by decide +kernel
theorem dX7_nineTenths_0 : decode cX7_nineTenths 0 = .ok (.ldc2_w 330, 3) := by decide +kernel
theorem dX7_nineTenths_3 : decode cX7_nineTenths 3 = .ok (.iload_n 0, 1) := by decide +kernel
theorem dX7_nineTenths_4 : decode cX7_nineTenths 4 = .ok (.i2l, 1) := by decide +kernel
theorem dX7_nineTenths_5 : decode cX7_nineTenths 5 = .ok (.lmul, 1) := by decide +kernel
theorem dX7_nineTenths_6 : decode cX7_nineTenths 6 = .ok (.bipush 10, 2) := by decide +kernel
theorem dX7_nineTenths_8 : decode cX7_nineTenths 8 = .ok (.invokestatic 240, 3) := by decide +kernel
theorem dX7_nineTenths_11 : decode cX7_nineTenths 11 = .ok (.ireturn, 1) := by decide +kernel
theorem dX7_power_0 : decode cX7_power 0 = .ok (.iconst 1, 1) := by decide +kernel
theorem dX7_power_1 : decode cX7_power 1 = .ok (.istore_n 2, 1) := by decide +kernel
theorem dX7_power_2 : decode cX7_power 2 = .ok (.iconst 0, 1) := by decide +kernel
theorem dX7_power_3 : decode cX7_power 3 = .ok (.istore_n 3, 1) := by decide +kernel
theorem dX7_power_4 : decode cX7_power 4 = .ok (.iload_n 3, 1) := by decide +kernel
theorem dX7_power_5 : decode cX7_power 5 = .ok (.iload_n 1, 1) := by decide +kernel
theorem dX7_power_6 : decode cX7_power 6 = .ok (.if_icmp .ge 13, 3) := by decide +kernel
theorem dX7_power_9 : decode cX7_power 9 = .ok (.iload_n 2, 1) := by decide +kernel
theorem dX7_power_10 : decode cX7_power 10 = .ok (.iload_n 0, 1) := by decide +kernel
theorem dX7_power_11 : decode cX7_power 11 = .ok (.imul, 1) := by decide +kernel
theorem dX7_power_12 : decode cX7_power 12 = .ok (.istore_n 2, 1) := by decide +kernel
theorem dX7_power_13 : decode cX7_power 13 = .ok (.iinc 3 1, 3) := by decide +kernel
theorem dX7_power_16 : decode cX7_power 16 = .ok (.goto (-12), 3) := by decide +kernel
theorem dX7_power_19 : decode cX7_power 19 = .ok (.iload_n 2, 1) := by decide +kernel
theorem dX7_power_20 : decode cX7_power 20 = .ok (.ireturn, 1) := by decide +kernel
theorem dX7_commonDivisor_0 : decode cX7_commonDivisor 0 = .ok (.iload_n 1, 1) := by decide +kernel
theorem dX7_commonDivisor_1 : decode cX7_commonDivisor 1 = .ok (.istore_n 2, 1) := by decide +kernel
theorem dX7_commonDivisor_2 : decode cX7_commonDivisor 2 = .ok (.iload_n 0, 1) := by decide +kernel
theorem dX7_commonDivisor_3 : decode cX7_commonDivisor 3 = .ok (.istore_n 3, 1) := by decide +kernel
theorem dX7_commonDivisor_4 : decode cX7_commonDivisor 4 = .ok (.iconst 0, 1) := by decide +kernel
theorem dX7_commonDivisor_5 : decode cX7_commonDivisor 5 = .ok (.istore 4, 2) := by decide +kernel
theorem dX7_commonDivisor_7 : decode cX7_commonDivisor 7 = .ok (.iload 4, 2) := by decide +kernel
theorem dX7_commonDivisor_9 : decode cX7_commonDivisor 9 = .ok (.bipush 64, 2) := by decide +kernel
theorem dX7_commonDivisor_11 : decode cX7_commonDivisor 11 = .ok (.if_icmp .ge 23, 3) := by decide +kernel
theorem dX7_commonDivisor_14 : decode cX7_commonDivisor 14 = .ok (.iload_n 3, 1) := by decide +kernel
theorem dX7_commonDivisor_15 : decode cX7_commonDivisor 15 = .ok (.ifCond .le 19, 3) := by decide +kernel
theorem dX7_commonDivisor_18 : decode cX7_commonDivisor 18 = .ok (.iload_n 2, 1) := by decide +kernel
theorem dX7_commonDivisor_19 : decode cX7_commonDivisor 19 = .ok (.iload_n 3, 1) := by decide +kernel
theorem dX7_commonDivisor_20 : decode cX7_commonDivisor 20 = .ok (.irem, 1) := by decide +kernel
theorem dX7_commonDivisor_21 : decode cX7_commonDivisor 21 = .ok (.istore 5, 2) := by decide +kernel
theorem dX7_commonDivisor_23 : decode cX7_commonDivisor 23 = .ok (.iload_n 3, 1) := by decide +kernel
theorem dX7_commonDivisor_24 : decode cX7_commonDivisor 24 = .ok (.istore_n 2, 1) := by decide +kernel
theorem dX7_commonDivisor_25 : decode cX7_commonDivisor 25 = .ok (.iload 5, 2) := by decide +kernel
theorem dX7_commonDivisor_27 : decode cX7_commonDivisor 27 = .ok (.istore_n 3, 1) := by decide +kernel
theorem dX7_commonDivisor_28 : decode cX7_commonDivisor 28 = .ok (.iinc 4 1, 3) := by decide +kernel
theorem dX7_commonDivisor_31 : decode cX7_commonDivisor 31 = .ok (.goto (-24), 3) := by decide +kernel
theorem dX7_commonDivisor_34 : decode cX7_commonDivisor 34 = .ok (.iload_n 2, 1) := by decide +kernel
theorem dX7_commonDivisor_35 : decode cX7_commonDivisor 35 = .ok (.ireturn, 1) := by decide +kernel
theorem dX7_at_0 : decode cX7_at 0 = .ok (.iload_n 1, 1) := by decide +kernel
theorem dX7_at_1 : decode cX7_at 1 = .ok (.ifCond .lt 15, 3) := by decide +kernel
theorem dX7_at_4 : decode cX7_at 4 = .ok (.iload_n 1, 1) := by decide +kernel
theorem dX7_at_5 : decode cX7_at 5 = .ok (.aload_n 0, 1) := by decide +kernel
theorem dX7_at_6 : decode cX7_at 6 = .ok (.arraylength, 1) := by decide +kernel
theorem dX7_at_7 : decode cX7_at 7 = .ok (.if_icmp .ge 9, 3) := by decide +kernel
theorem dX7_at_10 : decode cX7_at 10 = .ok (.aload_n 0, 1) := by decide +kernel
theorem dX7_at_11 : decode cX7_at 11 = .ok (.iload_n 1, 1) := by decide +kernel
theorem dX7_at_12 : decode cX7_at 12 = .ok (.iaload, 1) := by decide +kernel
theorem dX7_at_13 : decode cX7_at 13 = .ok (.goto 4, 3) := by decide +kernel
theorem dX7_at_16 : decode cX7_at 16 = .ok (.iconst 0, 1) := by decide +kernel
theorem dX7_at_17 : decode cX7_at 17 = .ok (.ireturn, 1) := by decide +kernel
theorem dX7_put_0 : decode cX7_put 0 = .ok (.iload_n 1, 1) := by decide +kernel
theorem dX7_put_1 : decode cX7_put 1 = .ok (.ifCond .lt 13, 3) := by decide +kernel
theorem dX7_put_4 : decode cX7_put 4 = .ok (.iload_n 1, 1) := by decide +kernel
theorem dX7_put_5 : decode cX7_put 5 = .ok (.aload_n 0, 1) := by decide +kernel
theorem dX7_put_6 : decode cX7_put 6 = .ok (.arraylength, 1) := by decide +kernel
theorem dX7_put_7 : decode cX7_put 7 = .ok (.if_icmp .ge 7, 3) := by decide +kernel
theorem dX7_put_10 : decode cX7_put 10 = .ok (.aload_n 0, 1) := by decide +kernel
theorem dX7_put_11 : decode cX7_put 11 = .ok (.iload_n 1, 1) := by decide +kernel
theorem dX7_put_12 : decode cX7_put 12 = .ok (.iload_n 2, 1) := by decide +kernel
theorem dX7_put_13 : decode cX7_put 13 = .ok (.iastore, 1) := by decide +kernel
theorem dX7_put_14 : decode cX7_put 14 = .ok (.return_, 1) := by decide +kernel
theorem dX7_closeGap_0 : decode cX7_closeGap 0 = .ok (.iload_n 1, 1) := by decide +kernel
theorem dX7_closeGap_1 : decode cX7_closeGap 1 = .ok (.istore_n 3, 1) := by decide +kernel
theorem dX7_closeGap_2 : decode cX7_closeGap 2 = .ok (.iload_n 3, 1) := by decide +kernel
theorem dX7_closeGap_3 : decode cX7_closeGap 3 = .ok (.iload_n 2, 1) := by decide +kernel
theorem dX7_closeGap_4 : decode cX7_closeGap 4 = .ok (.iconst 1, 1) := by decide +kernel
theorem dX7_closeGap_5 : decode cX7_closeGap 5 = .ok (.isub, 1) := by decide +kernel
theorem dX7_closeGap_6 : decode cX7_closeGap 6 = .ok (.if_icmp .ge 21, 3) := by decide +kernel
theorem dX7_closeGap_9 : decode cX7_closeGap 9 = .ok (.aload_n 0, 1) := by decide +kernel
theorem dX7_closeGap_10 : decode cX7_closeGap 10 = .ok (.iload_n 3, 1) := by decide +kernel
theorem dX7_closeGap_11 : decode cX7_closeGap 11 = .ok (.aload_n 0, 1) := by decide +kernel
theorem dX7_closeGap_12 : decode cX7_closeGap 12 = .ok (.iload_n 3, 1) := by decide +kernel
theorem dX7_closeGap_13 : decode cX7_closeGap 13 = .ok (.iconst 1, 1) := by decide +kernel
theorem dX7_closeGap_14 : decode cX7_closeGap 14 = .ok (.iadd, 1) := by decide +kernel
theorem dX7_closeGap_15 : decode cX7_closeGap 15 = .ok (.invokestatic 120, 3) := by decide +kernel
theorem dX7_closeGap_18 : decode cX7_closeGap 18 = .ok (.invokestatic 332, 3) := by decide +kernel
theorem dX7_closeGap_21 : decode cX7_closeGap 21 = .ok (.iinc 3 1, 3) := by decide +kernel
theorem dX7_closeGap_24 : decode cX7_closeGap 24 = .ok (.goto (-22), 3) := by decide +kernel
theorem dX7_closeGap_27 : decode cX7_closeGap 27 = .ok (.return_, 1) := by decide +kernel
theorem dX7_openGap_0 : decode cX7_openGap 0 = .ok (.iload_n 2, 1) := by decide +kernel
theorem dX7_openGap_1 : decode cX7_openGap 1 = .ok (.istore_n 3, 1) := by decide +kernel
theorem dX7_openGap_2 : decode cX7_openGap 2 = .ok (.iload_n 3, 1) := by decide +kernel
theorem dX7_openGap_3 : decode cX7_openGap 3 = .ok (.iload_n 1, 1) := by decide +kernel
theorem dX7_openGap_4 : decode cX7_openGap 4 = .ok (.if_icmp .le 21, 3) := by decide +kernel
theorem dX7_openGap_7 : decode cX7_openGap 7 = .ok (.aload_n 0, 1) := by decide +kernel
theorem dX7_openGap_8 : decode cX7_openGap 8 = .ok (.iload_n 3, 1) := by decide +kernel
theorem dX7_openGap_9 : decode cX7_openGap 9 = .ok (.aload_n 0, 1) := by decide +kernel
theorem dX7_openGap_10 : decode cX7_openGap 10 = .ok (.iload_n 3, 1) := by decide +kernel
theorem dX7_openGap_11 : decode cX7_openGap 11 = .ok (.iconst 1, 1) := by decide +kernel
theorem dX7_openGap_12 : decode cX7_openGap 12 = .ok (.isub, 1) := by decide +kernel
theorem dX7_openGap_13 : decode cX7_openGap 13 = .ok (.invokestatic 120, 3) := by decide +kernel
theorem dX7_openGap_16 : decode cX7_openGap 16 = .ok (.invokestatic 332, 3) := by decide +kernel
theorem dX7_openGap_19 : decode cX7_openGap 19 = .ok (.iinc 3 (-1), 3) := by decide +kernel
theorem dX7_openGap_22 : decode cX7_openGap 22 = .ok (.goto (-20), 3) := by decide +kernel
theorem dX7_openGap_25 : decode cX7_openGap 25 = .ok (.return_, 1) := by decide +kernel
theorem dX7_copyRow_0 : decode cX7_copyRow 0 = .ok (.iconst 0, 1) := by decide +kernel
theorem dX7_copyRow_1 : decode cX7_copyRow 1 = .ok (.istore_n 2, 1) := by decide +kernel
theorem dX7_copyRow_2 : decode cX7_copyRow 2 = .ok (.iload_n 2, 1) := by decide +kernel
theorem dX7_copyRow_3 : decode cX7_copyRow 3 = .ok (.aload_n 0, 1) := by decide +kernel
theorem dX7_copyRow_4 : decode cX7_copyRow 4 = .ok (.arraylength, 1) := by decide +kernel
theorem dX7_copyRow_5 : decode cX7_copyRow 5 = .ok (.if_icmp .ge 19, 3) := by decide +kernel
theorem dX7_copyRow_8 : decode cX7_copyRow 8 = .ok (.aload_n 1, 1) := by decide +kernel
theorem dX7_copyRow_9 : decode cX7_copyRow 9 = .ok (.iload_n 2, 1) := by decide +kernel
theorem dX7_copyRow_10 : decode cX7_copyRow 10 = .ok (.aload_n 0, 1) := by decide +kernel
theorem dX7_copyRow_11 : decode cX7_copyRow 11 = .ok (.iload_n 2, 1) := by decide +kernel
theorem dX7_copyRow_12 : decode cX7_copyRow 12 = .ok (.invokestatic 120, 3) := by decide +kernel
theorem dX7_copyRow_15 : decode cX7_copyRow 15 = .ok (.invokestatic 332, 3) := by decide +kernel
theorem dX7_copyRow_18 : decode cX7_copyRow 18 = .ok (.iinc 2 1, 3) := by decide +kernel
theorem dX7_copyRow_21 : decode cX7_copyRow 21 = .ok (.goto (-19), 3) := by decide +kernel
theorem dX7_copyRow_24 : decode cX7_copyRow 24 = .ok (.return_, 1) := by decide +kernel
